set_option maxHeartbeats 4000000 in
set_option maxRecDepth 100000 in
theorem k_X8_in (l : Launch) (E : wE) (sz : Nat) (x0 x1 x2 : Int) (u : Int) (hf : f_X8_in x0 x1 x2  = some u) : cI l yX8_in wsX8_in { frames := 0, cells := 0, slots := 0, locals := 0 } E sz [.int (zi x0), .int (zi x1), .int (zi x2)] ([]) ([]) u := by
  refine met_go (cc := cX8_in) (maxL := 3) (ret := (some .boolean)) (Q0 := mQi E ([]) u) (by decide +kernel) rfl (Nat.le_of_ble_eq_true rfl) ?_
  intro A p e s m below meth c hx hb hr hml hts hown hlocks hP hK hD hA hS ls hl
  have hl : lv_has ls 3 [(0, .int (zi x0)), (1, .int (zi x1)), (2, .int (zi x2))] := hl
  generalize hH : s.heap = H at hP
  have hS : va_S A s.heap H [] := by rw [← hH]; exact hS
  have hown : s.vm.findClass RX8 = some m.cls := hown
  have h := hf
  rw [f_X8_in] at h
  refine lv_iload_n hx hb dX8_in_0 rfl (lv_at hl 0 rfl) ?_
  refine lv_iload_n hx hb dX8_in_1 rfl (lv_at hl 1 rfl) ?_
  obtain ⟨g1, h⟩ := gd_t h
  obtain ⟨g2, h⟩ := gd_t h
  refine iv_ilt (tgt := 14) hx hb g1 g2 dX8_in_2 (by decide) (fun c3 => ?_) (fun c3 => ?_)
  · have h := it_t c3 h
    refine iv_iconst hx hb dX8_in_14 ?_
    cases h
    exact iv_zret (r := 0) hx hb hr hlocks (by decide +kernel) hK hP hD hS dX8_in_15
  · have h := it_f c3 h
    refine lv_iload_n hx hb dX8_in_5 rfl (lv_at hl 0 rfl) ?_
    refine lv_iload_n hx hb dX8_in_6 rfl (lv_at hl 2 rfl) ?_
    obtain ⟨g4, h⟩ := gd_t h
    refine iv_igt (tgt := 14) hx hb g1 g4 dX8_in_7 (by decide) (fun c5 => ?_) (fun c5 => ?_)
    · have h := it_t c5 h
      refine iv_iconst hx hb dX8_in_14 ?_
      cases h
      exact iv_zret (r := 0) hx hb hr hlocks (by decide +kernel) hK hP hD hS dX8_in_15
    · have h := it_f c5 h
      refine iv_iconst hx hb dX8_in_10 ?_
      refine lv_goto (tgt := 15) hx hb dX8_in_11 (by decide) ?_
      cases h
      exact iv_zret (r := 1) hx hb hr hlocks (by decide +kernel) hK hP hD hS dX8_in_15
set_option maxRecDepth 20000 in
theorem wd_X8_isButton_f7 : Cond.fieldLink RX8 7 "ShirtButtonsModel" "row" "[I" ∈ wsX8_isButton := by decide +kernel
set_option maxRecDepth 20000 in
theorem in_X8_isButton_X8 : ∀ w ∈ u_ws RX8 TX8 13, w ∈ wsX8_isButton := by decide +kernel
set_option maxHeartbeats 4000000 in
set_option maxRecDepth 100000 in
theorem k_X8_isButton (l : Launch) (E : wE) (a : Nat → Nat) (sz : Nat) (x1 : Int) (z : bM) (u : (Int × bM)) (hf : f_X8_isButton x1 z = some u) : cI l yX8_isButton wsX8_isButton { frames := 1, cells := 0, slots := 0, locals := 22 } E sz [.ref (a 0), .int (zi x1)] (wM a E z) (wM a E u.2) u.1 := by
  refine met_go (cc := cX8_isButton) (maxL := 2) (ret := (some .boolean)) (Q0 := mQi E (wM a E u.2) u.1) (by decide +kernel) rfl (Nat.le_of_ble_eq_true rfl) ?_
  intro A p e s m below meth c hx hb hr hml hts hown hlocks hP hK hD hA hS ls hl
  have hl : lv_has ls 2 [(0, .ref (a 0)), (1, .int (zi x1))] := hl
  generalize hH : s.heap = H at hP
  have hS : va_S A s.heap H [] := by rw [← hH]; exact hS
  have hown : s.vm.findClass RX8 = some m.cls := hown
  have h := hf
  rw [f_X8_isButton] at h
  refine lv_iload_n hx hb dX8_isButton_0 rfl (lv_at hl 1 rfl) ?_
  refine iv_iconst hx hb dX8_isButton_1 ?_
  refine lv_aload_n hx hb dX8_isButton_2 rfl (lv_at hl 0 rfl) ?_
  refine va_get (D := E.1) (ci := 8) (v := .ref (a 1)) (C := RX8) (T := TX8) (N := 13) hx hb hts in_X8_isButton_X8 hown hK.1 hP 0 rfl rfl 0 (by decide) (hts _ wd_X8_isButton_f7) (fun _ h9 => h9) rfl dX8_isButton_3 ?_
  refine iv_bipush hx hb dX8_isButton_6 (by decide +kernel) ?_
  refine iv_iald (f := z.1) (j := 13) hx hb hK.1 hP 1 0 rfl rfl (by decide) (by decide +kernel) rfl dX8_isButton_8 ?_
  refine iv_iconst hx hb dX8_isButton_9 ?_
  refine iv_isub hx hb dX8_isButton_10 ?_
  obtain ⟨u1, q2, h⟩ := bd_t h
  refine iv_callS (As := [.int (zi x1), .int (zi 0), .int (zi ((z.1 13) - 1))]) (rest := []) ⟨hx, hb, hml, hown, hts⟩ (k_X8_in l E H.size x1 0 ((z.1 13) - 1) u1 q2) (va_cwS 3 hts gX8_isButton_X8_in rfl rfl rfl (by decide +kernel) ⟨Nat.le_of_ble_eq_true rfl, Nat.le_of_ble_eq_true rfl⟩) hK hP hS hA rfl hl.1 (Nat.le_of_ble_eq_true rfl) ⟨Nat.zero_le _, Nat.zero_le _⟩ dX8_isButton_11 (fun H locs hP hS => ?_)
  obtain ⟨g3, h⟩ := gd_t h
  cases h
  exact iv_zret hx hb hr hlocks g3 hK hP hD hS dX8_isButton_14
set_option maxHeartbeats 4000000 in
set_option maxRecDepth 100000 in
theorem k_X8_isBin (l : Launch) (E : wE) (sz : Nat) (x0 : Int) (u : Int) (hf : f_X8_isBin x0  = some u) : cI l yX8_isBin wsX8_isBin { frames := 1, cells := 0, slots := 0, locals := 22 } E sz [.int (zi x0)] ([]) ([]) u := by
  refine met_go (cc := cX8_isBin) (maxL := 1) (ret := (some .boolean)) (Q0 := mQi E ([]) u) (by decide +kernel) rfl (Nat.le_of_ble_eq_true rfl) ?_
  intro A p e s m below meth c hx hb hr hml hts hown hlocks hP hK hD hA hS ls hl
  have hl : lv_has ls 1 [(0, .int (zi x0))] := hl
  generalize hH : s.heap = H at hP
  have hS : va_S A s.heap H [] := by rw [← hH]; exact hS
  have hown : s.vm.findClass RX8 = some m.cls := hown
  have h := hf
  rw [f_X8_isBin] at h
  refine lv_iload_n hx hb dX8_isBin_0 rfl (lv_at hl 0 rfl) ?_
  refine iv_iconst hx hb dX8_isBin_1 ?_
  refine iv_bipush hx hb dX8_isBin_2 (by decide +kernel) ?_
  obtain ⟨u1, q2, h⟩ := bd_t h
  refine iv_callS (As := [.int (zi x0), .int (zi 0), .int (zi 11)]) (rest := []) ⟨hx, hb, hml, hown, hts⟩ (k_X8_in l E H.size x0 0 11 u1 q2) (va_cwS 3 hts gX8_isBin_X8_in rfl rfl rfl (by decide +kernel) ⟨Nat.le_of_ble_eq_true rfl, Nat.le_of_ble_eq_true rfl⟩) hK hP hS hA rfl hl.1 (Nat.le_of_ble_eq_true rfl) ⟨Nat.zero_le _, Nat.zero_le _⟩ dX8_isBin_4 (fun H locs hP hS => ?_)
  obtain ⟨g3, h⟩ := gd_t h
  cases h
  exact iv_zret hx hb hr hlocks g3 hK hP hD hS dX8_isBin_7
set_option maxRecDepth 20000 in
theorem wd_X8_of_f7 : Cond.fieldLink RX8 7 "ShirtButtonsModel" "row" "[I" ∈ wsX8_of := by decide +kernel
set_option maxRecDepth 20000 in
theorem in_X8_of_X8 : ∀ w ∈ u_ws RX8 TX8 13, w ∈ wsX8_of := by decide +kernel
set_option maxHeartbeats 4000000 in
set_option maxRecDepth 100000 in
theorem k_X8_of (l : Launch) (E : wE) (a : Nat → Nat) (sz : Nat) (x1 x2 : Int) (z : bM) (u : (Int × bM)) (hf : f_X8_of x1 x2 z = some u) : cI l yX8_of wsX8_of { frames := 0, cells := 0, slots := 0, locals := 0 } E sz [.ref (a 0), .int (zi x1), .int (zi x2)] (wM a E z) (wM a E u.2) u.1 := by
  refine met_go (cc := cX8_of) (maxL := 3) (ret := (some .int)) (Q0 := mQi E (wM a E u.2) u.1) (by decide +kernel) rfl (Nat.le_of_ble_eq_true rfl) ?_
  intro A p e s m below meth c hx hb hr hml hts hown hlocks hP hK hD hA hS ls hl
  have hl : lv_has ls 3 [(0, .ref (a 0)), (1, .int (zi x1)), (2, .int (zi x2))] := hl
  generalize hH : s.heap = H at hP
  have hS : va_S A s.heap H [] := by rw [← hH]; exact hS
  have hown : s.vm.findClass RX8 = some m.cls := hown
  have h := hf
  rw [f_X8_of] at h
  refine lv_aload_n hx hb dX8_of_0 rfl (lv_at hl 0 rfl) ?_
  refine va_get (D := E.1) (ci := 8) (v := .ref (a 1)) (C := RX8) (T := TX8) (N := 13) hx hb hts in_X8_of_X8 hown hK.1 hP 0 rfl rfl 0 (by decide) (hts _ wd_X8_of_f7) (fun _ h9 => h9) rfl dX8_of_1 ?_
  refine iv_bipush hx hb dX8_of_4 (by decide +kernel) ?_
  refine iv_bipush hx hb dX8_of_6 (by decide +kernel) ?_
  refine lv_iload_n hx hb dX8_of_8 rfl (lv_at hl 1 rfl) ?_
  refine iv_imul hx hb dX8_of_9 ?_
  refine iv_iadd hx hb dX8_of_10 ?_
  refine lv_iload_n hx hb dX8_of_11 rfl (lv_at hl 2 rfl) ?_
  refine iv_iadd hx hb dX8_of_12 ?_
  obtain ⟨g1, h⟩ := gd_t h
  refine iv_iald (f := z.1) (j := ((55 + (9 * x1)) + x2).toNat) hx hb hK.1 hP 1 0 rfl rfl (by decide) g1 rfl dX8_of_13 ?_
  cases h
  exact iv_iret hx hb hr hlocks hK hP hD hS dX8_of_14
set_option maxRecDepth 20000 in
theorem wd_X8_put_f7 : Cond.fieldLink RX8 7 "ShirtButtonsModel" "row" "[I" ∈ wsX8_put := by decide +kernel
set_option maxRecDepth 20000 in
theorem in_X8_put_X8 : ∀ w ∈ u_ws RX8 TX8 13, w ∈ wsX8_put := by decide +kernel
set_option maxHeartbeats 4000000 in
set_option maxRecDepth 100000 in
theorem k_X8_put (l : Launch) (E : wE) (a : Nat → Nat) (sz : Nat) (x1 x2 x3 : Int) (z : bM) (u : bM) (hf : f_X8_put x1 x2 x3 z = some u) : cV l yX8_put wsX8_put { frames := 0, cells := 0, slots := 0, locals := 0 } E sz [.ref (a 0), .int (zi x1), .int (zi x2), .int (zi x3)] (wM a E z) (wM a E u) := by
  refine met_go (cc := cX8_put) (maxL := 4) (ret := none) (Q0 := mQv E (wM a E u)) (by decide +kernel) rfl (Nat.le_of_ble_eq_true rfl) ?_
  intro A p e s m below meth c hx hb hr hml hts hown hlocks hP hK hD hA hS ls hl
  have hl : lv_has ls 4 [(0, .ref (a 0)), (1, .int (zi x1)), (2, .int (zi x2)), (3, .int (zi x3))] := hl
  generalize hH : s.heap = H at hP
  have hS : va_S A s.heap H [] := by rw [← hH]; exact hS
  have hown : s.vm.findClass RX8 = some m.cls := hown
  have h := hf
  rw [f_X8_put] at h
  refine lv_aload_n hx hb dX8_put_0 rfl (lv_at hl 0 rfl) ?_
  refine va_get (D := E.1) (ci := 8) (v := .ref (a 1)) (C := RX8) (T := TX8) (N := 13) hx hb hts in_X8_put_X8 hown hK.1 hP 0 rfl rfl 0 (by decide) (hts _ wd_X8_put_f7) (fun _ h9 => h9) rfl dX8_put_1 ?_
  refine iv_bipush hx hb dX8_put_4 (by decide +kernel) ?_
  refine iv_bipush hx hb dX8_put_6 (by decide +kernel) ?_
  refine lv_iload_n hx hb dX8_put_8 rfl (lv_at hl 1 rfl) ?_
  refine iv_imul hx hb dX8_put_9 ?_
  refine iv_iadd hx hb dX8_put_10 ?_
  refine lv_iload_n hx hb dX8_put_11 rfl (lv_at hl 2 rfl) ?_
  refine iv_iadd hx hb dX8_put_12 ?_
  refine lv_iload_n hx hb dX8_put_13 rfl (lv_at hl 3 rfl) ?_
  obtain ⟨g1, h⟩ := gd_t h
  obtain ⟨s2, e3, h⟩ := nm_t h
  refine iv_iast (f := z.1) (j := ((55 + (9 * x1)) + x2).toNat) (ws1 := wM a E s2) hx hb hK.1 hP hD hS 1 0 rfl rfl (by decide) g1 rfl (by rw [e3]; rfl) dX8_put_14 (fun H locs hP hD hS => ?_)
  cases h
  exact iv_vret hx hb hr hlocks hK hP hD hS dX8_put_15
set_option maxRecDepth 20000 in
theorem wd_X8_putAside_f19 : Cond.fieldLink RX8 19 "ShirtButtonsModel" "aside" "[I" ∈ wsX8_putAside := by decide +kernel
set_option maxRecDepth 20000 in
theorem in_X8_putAside_X8 : ∀ w ∈ u_ws RX8 TX8 13, w ∈ wsX8_putAside := by decide +kernel
set_option maxRecDepth 20000 in
theorem wd_X8_putAside_f7 : Cond.fieldLink RX8 7 "ShirtButtonsModel" "row" "[I" ∈ wsX8_putAside := by decide +kernel
set_option maxHeartbeats 4000000 in
set_option maxRecDepth 100000 in
theorem k_X8_putAside (l : Launch) (E : wE) (a : Nat → Nat) (sz : Nat) (N : Nat) (z : bM) (u : bM) (hf : f_X8_putAside N z = some u) : cV l yX8_putAside wsX8_putAside { frames := 0, cells := 0, slots := 0, locals := 0 } E sz [.ref (a 0)] (wM a E z) (wM a E u) := by
  refine met_go (cc := cX8_putAside) (maxL := 2) (ret := none) (Q0 := mQv E (wM a E u)) (by decide +kernel) rfl (Nat.le_of_ble_eq_true rfl) ?_
  intro A p e s m below meth c hx hb hr hml hts hown hlocks hP hK hD hA hS ls hl
  have hl : lv_has ls 2 [(0, .ref (a 0))] := hl
  generalize hH : s.heap = H at hP
  have hS : va_S A s.heap H [] := by rw [← hH]; exact hS
  have hown : s.vm.findClass RX8 = some m.cls := hown
  have loop2 : ∀ (n : Nat) (v1 : Int) (s2 : bM) (H : Heap) (locs : List Loc) (ls : Array Slot), f_X8_putAside_L2 N n v1 s2 = some u → va_P E.1 vwCl (wM a E s2) H → va_D A (wM a E s2) → va_S A s.heap H locs → lv_has ls 2 [(0, .ref (a 0)), (1, .int (zi v1))] → W p l e ({ frames := 0, cells := 0, slots := 0, locals := 0 }) s m ([.ref (a 0)] : List Value).toArray below meth c H locs 0 0 (MQ below (mQv E (wM a E u) A) ([.ref (a 0)] : List Value).toArray s 0 0 A) (F0 m 2 ls []) := by
    intro n
    induction n with
    | zero =>
      intro v1 s2 H locs ls h
      exact absurd (show (none : Option bM) = some u from h) (by simp)
    | succ n ih =>
      intro v1 s2 H locs ls h hP hD hS hl
      rw [f_X8_putAside_L2] at h
      refine lv_iload_n hx hb dX8_putAside_2 rfl (lv_at hl 1 rfl) ?_
      refine iv_sipush hx hb dX8_putAside_3 (by decide +kernel) ?_
      obtain ⟨g3, h⟩ := gd_t h
      refine iv_ige (tgt := 27) hx hb g3 (by decide +kernel) dX8_putAside_6 (by decide) (fun c4 => ?_) (fun c4 => ?_)
      · have h := it_t c4 h
        cases h
        exact iv_vret hx hb hr hlocks hK hP hD hS dX8_putAside_27
      · have h := it_f c4 h
        refine lv_aload_n hx hb dX8_putAside_9 rfl (lv_at hl 0 rfl) ?_
        refine va_get (D := E.1) (ci := 8) (v := .ref (a 4)) (C := RX8) (T := TX8) (N := 13) hx hb hts in_X8_putAside_X8 hown hK.1 hP 0 rfl rfl 5 (by decide) (hts _ wd_X8_putAside_f19) (fun _ h9 => h9) rfl dX8_putAside_10 ?_
        refine lv_iload_n hx hb dX8_putAside_13 rfl (lv_at hl 1 rfl) ?_
        refine lv_aload_n hx hb dX8_putAside_14 rfl (lv_at hl 0 rfl) ?_
        refine va_get (D := E.1) (ci := 8) (v := .ref (a 1)) (C := RX8) (T := TX8) (N := 13) hx hb hts in_X8_putAside_X8 hown hK.1 hP 0 rfl rfl 0 (by decide) (hts _ wd_X8_putAside_f7) (fun _ h9 => h9) rfl dX8_putAside_15 ?_
        refine lv_iload_n hx hb dX8_putAside_18 rfl (lv_at hl 1 rfl) ?_
        obtain ⟨g5, h⟩ := gd_t h
        refine iv_iald (f := s2.1) (j := v1.toNat) hx hb hK.1 hP 1 0 rfl rfl (by decide) g5 rfl dX8_putAside_19 ?_
        obtain ⟨s6, e7, h⟩ := nm_t h
        refine iv_iast (f := s2.2.2.2.2.2.1) (j := v1.toNat) (ws1 := wM a E s6) hx hb hK.1 hP hD hS 4 0 rfl rfl (by decide) g5 rfl (by rw [e7]; rfl) dX8_putAside_20 (fun H locs hP hD hS => ?_)
        refine lv_iinc (v := zi (v1 + 1)) (lv' := [(1, .int (zi (v1 + 1))), (0, .ref (a 0))]) hx hb dX8_putAside_21 hl (k := 1) rfl (by rw [zi_add]; rfl) (by decide) rfl (fun ls hl => ?_)
        refine lv_goto (tgt := 2) hx hb dX8_putAside_24 (by decide) ?_
        exact ih (v1 + 1) s6 _ _ _ h hP hD hS (lv_sub hl [1, 0] rfl)
  have h := hf
  rw [f_X8_putAside] at h
  refine iv_iconst hx hb dX8_putAside_0 ?_
  refine lv_istore_n (lv' := [(1, .int (zi 0)), (0, .ref (a 0))]) hx hb dX8_putAside_1 rfl hl (by decide) rfl (fun ls hl => ?_)
  exact loop2 N 0 z _ _ _ h hP hD hS (lv_sub hl [1, 0] rfl)
set_option maxRecDepth 20000 in
theorem wd_X8_putBack_f7 : Cond.fieldLink RX8 7 "ShirtButtonsModel" "row" "[I" ∈ wsX8_putBack := by decide +kernel
set_option maxRecDepth 20000 in
theorem in_X8_putBack_X8 : ∀ w ∈ u_ws RX8 TX8 13, w ∈ wsX8_putBack := by decide +kernel
set_option maxRecDepth 20000 in
theorem wd_X8_putBack_f19 : Cond.fieldLink RX8 19 "ShirtButtonsModel" "aside" "[I" ∈ wsX8_putBack := by decide +kernel
set_option maxHeartbeats 4000000 in
set_option maxRecDepth 100000 in
theorem k_X8_putBack (l : Launch) (E : wE) (a : Nat → Nat) (sz : Nat) (N : Nat) (z : bM) (u : bM) (hf : f_X8_putBack N z = some u) : cV l yX8_putBack wsX8_putBack { frames := 0, cells := 0, slots := 0, locals := 0 } E sz [.ref (a 0)] (wM a E z) (wM a E u) := by
  refine met_go (cc := cX8_putBack) (maxL := 2) (ret := none) (Q0 := mQv E (wM a E u)) (by decide +kernel) rfl (Nat.le_of_ble_eq_true rfl) ?_
  intro A p e s m below meth c hx hb hr hml hts hown hlocks hP hK hD hA hS ls hl
  have hl : lv_has ls 2 [(0, .ref (a 0))] := hl
  generalize hH : s.heap = H at hP
  have hS : va_S A s.heap H [] := by rw [← hH]; exact hS
  have hown : s.vm.findClass RX8 = some m.cls := hown
  have loop2 : ∀ (n : Nat) (v1 : Int) (s2 : bM) (H : Heap) (locs : List Loc) (ls : Array Slot), f_X8_putBack_L2 N n v1 s2 = some u → va_P E.1 vwCl (wM a E s2) H → va_D A (wM a E s2) → va_S A s.heap H locs → lv_has ls 2 [(0, .ref (a 0)), (1, .int (zi v1))] → W p l e ({ frames := 0, cells := 0, slots := 0, locals := 0 }) s m ([.ref (a 0)] : List Value).toArray below meth c H locs 0 0 (MQ below (mQv E (wM a E u) A) ([.ref (a 0)] : List Value).toArray s 0 0 A) (F0 m 2 ls []) := by
    intro n
    induction n with
    | zero =>
      intro v1 s2 H locs ls h
      exact absurd (show (none : Option bM) = some u from h) (by simp)
    | succ n ih =>
      intro v1 s2 H locs ls h hP hD hS hl
      rw [f_X8_putBack_L2] at h
      refine lv_iload_n hx hb dX8_putBack_2 rfl (lv_at hl 1 rfl) ?_
      refine iv_sipush hx hb dX8_putBack_3 (by decide +kernel) ?_
      obtain ⟨g3, h⟩ := gd_t h
      refine iv_ige (tgt := 27) hx hb g3 (by decide +kernel) dX8_putBack_6 (by decide) (fun c4 => ?_) (fun c4 => ?_)
      · have h := it_t c4 h
        cases h
        exact iv_vret hx hb hr hlocks hK hP hD hS dX8_putBack_27
      · have h := it_f c4 h
        refine lv_aload_n hx hb dX8_putBack_9 rfl (lv_at hl 0 rfl) ?_
        refine va_get (D := E.1) (ci := 8) (v := .ref (a 1)) (C := RX8) (T := TX8) (N := 13) hx hb hts in_X8_putBack_X8 hown hK.1 hP 0 rfl rfl 0 (by decide) (hts _ wd_X8_putBack_f7) (fun _ h9 => h9) rfl dX8_putBack_10 ?_
        refine lv_iload_n hx hb dX8_putBack_13 rfl (lv_at hl 1 rfl) ?_
        refine lv_aload_n hx hb dX8_putBack_14 rfl (lv_at hl 0 rfl) ?_
        refine va_get (D := E.1) (ci := 8) (v := .ref (a 4)) (C := RX8) (T := TX8) (N := 13) hx hb hts in_X8_putBack_X8 hown hK.1 hP 0 rfl rfl 5 (by decide) (hts _ wd_X8_putBack_f19) (fun _ h9 => h9) rfl dX8_putBack_15 ?_
        refine lv_iload_n hx hb dX8_putBack_18 rfl (lv_at hl 1 rfl) ?_
        obtain ⟨g5, h⟩ := gd_t h
        refine iv_iald (f := s2.2.2.2.2.2.1) (j := v1.toNat) hx hb hK.1 hP 4 0 rfl rfl (by decide) g5 rfl dX8_putBack_19 ?_
        obtain ⟨s6, e7, h⟩ := nm_t h
        refine iv_iast (f := s2.1) (j := v1.toNat) (ws1 := wM a E s6) hx hb hK.1 hP hD hS 1 0 rfl rfl (by decide) g5 rfl (by rw [e7]; rfl) dX8_putBack_20 (fun H locs hP hD hS => ?_)
        refine lv_iinc (v := zi (v1 + 1)) (lv' := [(1, .int (zi (v1 + 1))), (0, .ref (a 0))]) hx hb dX8_putBack_21 hl (k := 1) rfl (by rw [zi_add]; rfl) (by decide) rfl (fun ls hl => ?_)
        refine lv_goto (tgt := 2) hx hb dX8_putBack_24 (by decide) ?_
        exact ih (v1 + 1) s6 _ _ _ h hP hD hS (lv_sub hl [1, 0] rfl)
  have h := hf
  rw [f_X8_putBack] at h
  refine iv_iconst hx hb dX8_putBack_0 ?_
  refine lv_istore_n (lv' := [(1, .int (zi 0)), (0, .ref (a 0))]) hx hb dX8_putBack_1 rfl hl (by decide) rfl (fun ls hl => ?_)
  exact loop2 N 0 z _ _ _ h hP hD hS (lv_sub hl [1, 0] rfl)
set_option maxRecDepth 20000 in
theorem wd_X8_record_f35 : Cond.fieldLink RX8 35 "ShirtButtonsModel" "states" "I" ∈ wsX8_record := by decide +kernel
set_option maxRecDepth 20000 in
theorem in_X8_record_X8 : ∀ w ∈ u_ws RX8 TX8 13, w ∈ wsX8_record := by decide +kernel
set_option maxRecDepth 20000 in
theorem wd_X8_record_f13 : Cond.fieldLink RX8 13 "ShirtButtonsModel" "history" "[I" ∈ wsX8_record := by decide +kernel
set_option maxRecDepth 20000 in
theorem wd_X8_record_f7 : Cond.fieldLink RX8 7 "ShirtButtonsModel" "row" "[I" ∈ wsX8_record := by decide +kernel
set_option maxHeartbeats 4000000 in
set_option maxRecDepth 100000 in
theorem k_X8_record (l : Launch) (E : wE) (a : Nat → Nat) (sz : Nat) (N : Nat) (z : bM) (u : bM) (hf : f_X8_record N z = some u) : cV l yX8_record wsX8_record { frames := 0, cells := 0, slots := 0, locals := 0 } E sz [.ref (a 0)] (wM a E z) (wM a E u) := by
  refine met_go (cc := cX8_record) (maxL := 2) (ret := none) (Q0 := mQv E (wM a E u)) (by decide +kernel) rfl (Nat.le_of_ble_eq_true rfl) ?_
  intro A p e s m below meth c hx hb hr hml hts hown hlocks hP hK hD hA hS ls hl
  have hl : lv_has ls 2 [(0, .ref (a 0))] := hl
  generalize hH : s.heap = H at hP
  have hS : va_S A s.heap H [] := by rw [← hH]; exact hS
  have hown : s.vm.findClass RX8 = some m.cls := hown
  have loop51 : ∀ (n : Nat) (v3 : Int) (s4 : bM) (H : Heap) (locs : List Loc) (ls : Array Slot), f_X8_record_L51 N n v3 s4 = some u → va_P E.1 vwCl (wM a E s4) H → va_D A (wM a E s4) → va_S A s.heap H locs → lv_has ls 2 [(0, .ref (a 0)), (1, .int (zi v3))] → W p l e ({ frames := 0, cells := 0, slots := 0, locals := 0 }) s m ([.ref (a 0)] : List Value).toArray below meth c H locs 0 0 (MQ below (mQv E (wM a E u) A) ([.ref (a 0)] : List Value).toArray s 0 0 A) (F0 m 51 ls []) := by
    intro n
    induction n with
    | zero =>
      intro v3 s4 H locs ls h
      exact absurd (show (none : Option bM) = some u from h) (by simp)
    | succ n ih =>
      intro v3 s4 H locs ls h hP hD hS hl
      rw [f_X8_record_L51] at h
      refine lv_iload_n hx hb dX8_record_51 rfl (lv_at hl 1 rfl) ?_
      refine iv_sipush hx hb dX8_record_52 (by decide +kernel) ?_
      obtain ⟨g5, h⟩ := gd_t h
      refine iv_ige (tgt := 85) hx hb g5 (by decide +kernel) dX8_record_55 (by decide) (fun c6 => ?_) (fun c6 => ?_)
      · have h := it_t c6 h
        refine lv_aload_n hx hb dX8_record_85 rfl (lv_at hl 0 rfl) ?_
        refine lv_dup hx hb dX8_record_86 rfl ?_
        refine va_get (D := E.1) (ci := 8) (v := .int (zi s4.2.2.1)) (C := RX8) (T := TX8) (N := 13) hx hb hts in_X8_record_X8 hown hK.1 hP 0 rfl rfl 2 (by decide) (hts _ wd_X8_record_f35) (fun _ h9 => h9) rfl dX8_record_87 ?_
        refine iv_iconst hx hb dX8_record_90 ?_
        refine iv_iadd hx hb dX8_record_91 ?_
        obtain ⟨s7, e8, h⟩ := nm_t h
        refine iv_put (D := E.1) (ci := 8) (v := .int (zi (s4.2.2.1 + 1))) (ty := .int) (ws1 := wM a E s7) (C := RX8) (T := TX8) (N := 13) hx hb hts in_X8_record_X8 tyX8 tyX8_ok nmX8 hown hK.1 hP hD hS 0 rfl rfl 2 (by decide) (hts _ wd_X8_record_f35) (fun _ h9 => h9) rfl (by decide +kernel) rfl rfl (Nat.le_of_ble_eq_true rfl) (by rw [e8]; rfl) dX8_record_92 (fun H locs hP hD hS => ?_)
        cases h
        exact iv_vret hx hb hr hlocks hK hP hD hS dX8_record_95
      · have h := it_f c6 h
        refine lv_aload_n hx hb dX8_record_58 rfl (lv_at hl 0 rfl) ?_
        refine va_get (D := E.1) (ci := 8) (v := .ref (a 2)) (C := RX8) (T := TX8) (N := 13) hx hb hts in_X8_record_X8 hown hK.1 hP 0 rfl rfl 1 (by decide) (hts _ wd_X8_record_f13) (fun _ h9 => h9) rfl dX8_record_59 ?_
        refine iv_sipush hx hb dX8_record_62 (by decide +kernel) ?_
        refine lv_aload_n hx hb dX8_record_65 rfl (lv_at hl 0 rfl) ?_
        refine va_get (D := E.1) (ci := 8) (v := .int (zi s4.2.2.1)) (C := RX8) (T := TX8) (N := 13) hx hb hts in_X8_record_X8 hown hK.1 hP 0 rfl rfl 2 (by decide) (hts _ wd_X8_record_f35) (fun _ h9 => h9) rfl dX8_record_66 ?_
        refine iv_imul hx hb dX8_record_69 ?_
        refine lv_iload_n hx hb dX8_record_70 rfl (lv_at hl 1 rfl) ?_
        refine iv_iadd hx hb dX8_record_71 ?_
        refine lv_aload_n hx hb dX8_record_72 rfl (lv_at hl 0 rfl) ?_
        refine va_get (D := E.1) (ci := 8) (v := .ref (a 1)) (C := RX8) (T := TX8) (N := 13) hx hb hts in_X8_record_X8 hown hK.1 hP 0 rfl rfl 0 (by decide) (hts _ wd_X8_record_f7) (fun _ h9 => h9) rfl dX8_record_73 ?_
        refine lv_iload_n hx hb dX8_record_76 rfl (lv_at hl 1 rfl) ?_
        obtain ⟨g9, h⟩ := gd_t h
        refine iv_iald (f := s4.1) (j := v3.toNat) hx hb hK.1 hP 1 0 rfl rfl (by decide) g9 rfl dX8_record_77 ?_
        obtain ⟨g10, h⟩ := gd_t h
        obtain ⟨s11, e12, h⟩ := nm_t h
        refine iv_iast (f := s4.2.1) (j := ((415 * s4.2.2.1) + v3).toNat) (ws1 := wM a E s11) hx hb hK.1 hP hD hS 2 0 rfl rfl (by decide) g10 rfl (by rw [e12]; rfl) dX8_record_78 (fun H locs hP hD hS => ?_)
        refine lv_iinc (v := zi (v3 + 1)) (lv' := [(1, .int (zi (v3 + 1))), (0, .ref (a 0))]) hx hb dX8_record_79 hl (k := 1) rfl (by rw [zi_add]; rfl) (by decide) rfl (fun ls hl => ?_)
        refine lv_goto (tgt := 51) hx hb dX8_record_82 (by decide) ?_
        exact ih (v3 + 1) s11 _ _ _ h hP hD hS (lv_sub hl [1, 0] rfl)
  have loop10 : ∀ (n : Nat) (v13 : Int) (s14 : bM) (H : Heap) (locs : List Loc) (ls : Array Slot), f_X8_record_L10 N n v13 s14 = some u → va_P E.1 vwCl (wM a E s14) H → va_D A (wM a E s14) → va_S A s.heap H locs → lv_has ls 2 [(0, .ref (a 0)), (1, .int (zi v13))] → W p l e ({ frames := 0, cells := 0, slots := 0, locals := 0 }) s m ([.ref (a 0)] : List Value).toArray below meth c H locs 0 0 (MQ below (mQv E (wM a E u) A) ([.ref (a 0)] : List Value).toArray s 0 0 A) (F0 m 10 ls []) := by
    intro n
    induction n with
    | zero =>
      intro v13 s14 H locs ls h
      exact absurd (show (none : Option bM) = some u from h) (by simp)
    | succ n ih =>
      intro v13 s14 H locs ls h hP hD hS hl
      rw [f_X8_record_L10] at h
      refine lv_iload_n hx hb dX8_record_10 rfl (lv_at hl 1 rfl) ?_
      refine iv_sipush hx hb dX8_record_11 (by decide +kernel) ?_
      obtain ⟨g15, h⟩ := gd_t h
      refine iv_ige (tgt := 39) hx hb g15 (by decide +kernel) dX8_record_14 (by decide) (fun c16 => ?_) (fun c16 => ?_)
      · have h := it_t c16 h
        refine lv_aload_n hx hb dX8_record_39 rfl (lv_at hl 0 rfl) ?_
        refine lv_dup hx hb dX8_record_40 rfl ?_
        refine va_get (D := E.1) (ci := 8) (v := .int (zi s14.2.2.1)) (C := RX8) (T := TX8) (N := 13) hx hb hts in_X8_record_X8 hown hK.1 hP 0 rfl rfl 2 (by decide) (hts _ wd_X8_record_f35) (fun _ h9 => h9) rfl dX8_record_41 ?_
        refine iv_iconst hx hb dX8_record_44 ?_
        refine iv_isub hx hb dX8_record_45 ?_
        obtain ⟨s17, e18, h⟩ := nm_t h
        refine iv_put (D := E.1) (ci := 8) (v := .int (zi (s14.2.2.1 - 1))) (ty := .int) (ws1 := wM a E s17) (C := RX8) (T := TX8) (N := 13) hx hb hts in_X8_record_X8 tyX8 tyX8_ok nmX8 hown hK.1 hP hD hS 0 rfl rfl 2 (by decide) (hts _ wd_X8_record_f35) (fun _ h9 => h9) rfl (by decide +kernel) rfl rfl (Nat.le_of_ble_eq_true rfl) (by rw [e18]; rfl) dX8_record_46 (fun H locs hP hD hS => ?_)
        refine iv_iconst hx hb dX8_record_49 ?_
        refine lv_istore_n (lv' := [(1, .int (zi 0)), (0, .ref (a 0))]) hx hb dX8_record_50 rfl hl (by decide) rfl (fun ls hl => ?_)
        exact loop51 N 0 s17 _ _ _ h hP hD hS (lv_sub hl [1, 0] rfl)
      · have h := it_f c16 h
        refine lv_aload_n hx hb dX8_record_17 rfl (lv_at hl 0 rfl) ?_
        refine va_get (D := E.1) (ci := 8) (v := .ref (a 2)) (C := RX8) (T := TX8) (N := 13) hx hb hts in_X8_record_X8 hown hK.1 hP 0 rfl rfl 1 (by decide) (hts _ wd_X8_record_f13) (fun _ h9 => h9) rfl dX8_record_18 ?_
        refine lv_iload_n hx hb dX8_record_21 rfl (lv_at hl 1 rfl) ?_
        refine lv_aload_n hx hb dX8_record_22 rfl (lv_at hl 0 rfl) ?_
        refine va_get (D := E.1) (ci := 8) (v := .ref (a 2)) (C := RX8) (T := TX8) (N := 13) hx hb hts in_X8_record_X8 hown hK.1 hP 0 rfl rfl 1 (by decide) (hts _ wd_X8_record_f13) (fun _ h9 => h9) rfl dX8_record_23 ?_
        refine lv_iload_n hx hb dX8_record_26 rfl (lv_at hl 1 rfl) ?_
        refine iv_sipush hx hb dX8_record_27 (by decide +kernel) ?_
        refine iv_iadd hx hb dX8_record_30 ?_
        obtain ⟨g19, h⟩ := gd_t h
        refine iv_iald (f := s14.2.1) (j := (v13 + 415).toNat) hx hb hK.1 hP 2 0 rfl rfl (by decide) g19 rfl dX8_record_31 ?_
        obtain ⟨g20, h⟩ := gd_t h
        obtain ⟨s21, e22, h⟩ := nm_t h
        refine iv_iast (f := s14.2.1) (j := v13.toNat) (ws1 := wM a E s21) hx hb hK.1 hP hD hS 2 0 rfl rfl (by decide) g20 rfl (by rw [e22]; rfl) dX8_record_32 (fun H locs hP hD hS => ?_)
        refine lv_iinc (v := zi (v13 + 1)) (lv' := [(1, .int (zi (v13 + 1))), (0, .ref (a 0))]) hx hb dX8_record_33 hl (k := 1) rfl (by rw [zi_add]; rfl) (by decide) rfl (fun ls hl => ?_)
        refine lv_goto (tgt := 10) hx hb dX8_record_36 (by decide) ?_
        exact ih (v13 + 1) s21 _ _ _ h hP hD hS (lv_sub hl [1, 0] rfl)
  have h := hf
  rw [f_X8_record] at h
  refine lv_aload_n hx hb dX8_record_0 rfl (lv_at hl 0 rfl) ?_
  refine va_get (D := E.1) (ci := 8) (v := .int (zi z.2.2.1)) (C := RX8) (T := TX8) (N := 13) hx hb hts in_X8_record_X8 hown hK.1 hP 0 rfl rfl 2 (by decide) (hts _ wd_X8_record_f35) (fun _ h9 => h9) rfl dX8_record_1 ?_
  refine iv_iconst hx hb dX8_record_4 ?_
  obtain ⟨g1, h⟩ := gd_t h
  refine iv_ine (tgt := 49) hx hb g1 (by decide +kernel) dX8_record_5 (by decide) (fun c2 => ?_) (fun c2 => ?_)
  · have h := it_f c2 h
    refine iv_iconst hx hb dX8_record_49 ?_
    refine lv_istore_n (lv' := [(1, .int (zi 0)), (0, .ref (a 0))]) hx hb dX8_record_50 rfl hl (by decide) rfl (fun ls hl => ?_)
    exact loop51 N 0 z _ _ _ h hP hD hS (lv_sub hl [1, 0] rfl)
  · have h := it_t c2 h
    refine iv_iconst hx hb dX8_record_8 ?_
    refine lv_istore_n (lv' := [(1, .int (zi 0)), (0, .ref (a 0))]) hx hb dX8_record_9 rfl hl (by decide) rfl (fun ls hl => ?_)
    exact loop10 N 0 z _ _ _ h hP hD hS (lv_sub hl [1, 0] rfl)
set_option maxRecDepth 20000 in
theorem wd_X8_undo_f35 : Cond.fieldLink RX8 35 "ShirtButtonsModel" "states" "I" ∈ wsX8_undo := by decide +kernel
set_option maxRecDepth 20000 in
theorem in_X8_undo_X8 : ∀ w ∈ u_ws RX8 TX8 13, w ∈ wsX8_undo := by decide +kernel
set_option maxRecDepth 20000 in
theorem wd_X8_undo_f7 : Cond.fieldLink RX8 7 "ShirtButtonsModel" "row" "[I" ∈ wsX8_undo := by decide +kernel
set_option maxRecDepth 20000 in
theorem wd_X8_undo_f13 : Cond.fieldLink RX8 13 "ShirtButtonsModel" "history" "[I" ∈ wsX8_undo := by decide +kernel
set_option maxHeartbeats 4000000 in
set_option maxRecDepth 100000 in
theorem k_X8_undo (l : Launch) (E : wE) (a : Nat → Nat) (sz : Nat) (N : Nat) (z : bM) (u : (Int × bM)) (hf : f_X8_undo N z = some u) : cI l yX8_undo wsX8_undo { frames := 0, cells := 0, slots := 0, locals := 0 } E sz [.ref (a 0)] (wM a E z) (wM a E u.2) u.1 := by
  refine met_go (cc := cX8_undo) (maxL := 2) (ret := (some .int)) (Q0 := mQi E (wM a E u.2) u.1) (by decide +kernel) rfl (Nat.le_of_ble_eq_true rfl) ?_
  intro A p e s m below meth c hx hb hr hml hts hown hlocks hP hK hD hA hS ls hl
  have hl : lv_has ls 2 [(0, .ref (a 0))] := hl
  generalize hH : s.heap = H at hP
  have hS : va_S A s.heap H [] := by rw [← hH]; exact hS
  have hown : s.vm.findClass RX8 = some m.cls := hown
  have loop22 : ∀ (n : Nat) (v5 : Int) (s6 : bM) (H : Heap) (locs : List Loc) (ls : Array Slot), f_X8_undo_L22 N n v5 s6 = some u → va_P E.1 vwCl (wM a E s6) H → va_D A (wM a E s6) → va_S A s.heap H locs → lv_has ls 2 [(0, .ref (a 0)), (1, .int (zi v5))] → W p l e ({ frames := 0, cells := 0, slots := 0, locals := 0 }) s m ([.ref (a 0)] : List Value).toArray below meth c H locs 0 0 (MQ below (mQi E (wM a E u.2) u.1 A) ([.ref (a 0)] : List Value).toArray s 0 0 A) (F0 m 22 ls []) := by
    intro n
    induction n with
    | zero =>
      intro v5 s6 H locs ls h
      exact absurd (show (none : Option (Int × bM)) = some u from h) (by simp)
    | succ n ih =>
      intro v5 s6 H locs ls h hP hD hS hl
      rw [f_X8_undo_L22] at h
      refine lv_iload_n hx hb dX8_undo_22 rfl (lv_at hl 1 rfl) ?_
      refine iv_sipush hx hb dX8_undo_23 (by decide +kernel) ?_
      obtain ⟨g7, h⟩ := gd_t h
      refine iv_ige (tgt := 56) hx hb g7 (by decide +kernel) dX8_undo_26 (by decide) (fun c8 => ?_) (fun c8 => ?_)
      · have h := it_t c8 h
        refine lv_aload_n hx hb dX8_undo_56 rfl (lv_at hl 0 rfl) ?_
        refine va_get (D := E.1) (ci := 8) (v := .int (zi s6.2.2.1)) (C := RX8) (T := TX8) (N := 13) hx hb hts in_X8_undo_X8 hown hK.1 hP 0 rfl rfl 2 (by decide) (hts _ wd_X8_undo_f35) (fun _ h9 => h9) rfl dX8_undo_57 ?_
        cases h
        exact iv_iret hx hb hr hlocks hK hP hD hS dX8_undo_60
      · have h := it_f c8 h
        refine lv_aload_n hx hb dX8_undo_29 rfl (lv_at hl 0 rfl) ?_
        refine va_get (D := E.1) (ci := 8) (v := .ref (a 1)) (C := RX8) (T := TX8) (N := 13) hx hb hts in_X8_undo_X8 hown hK.1 hP 0 rfl rfl 0 (by decide) (hts _ wd_X8_undo_f7) (fun _ h9 => h9) rfl dX8_undo_30 ?_
        refine lv_iload_n hx hb dX8_undo_33 rfl (lv_at hl 1 rfl) ?_
        refine lv_aload_n hx hb dX8_undo_34 rfl (lv_at hl 0 rfl) ?_
        refine va_get (D := E.1) (ci := 8) (v := .ref (a 2)) (C := RX8) (T := TX8) (N := 13) hx hb hts in_X8_undo_X8 hown hK.1 hP 0 rfl rfl 1 (by decide) (hts _ wd_X8_undo_f13) (fun _ h9 => h9) rfl dX8_undo_35 ?_
        refine iv_sipush hx hb dX8_undo_38 (by decide +kernel) ?_
        refine lv_aload_n hx hb dX8_undo_41 rfl (lv_at hl 0 rfl) ?_
        refine va_get (D := E.1) (ci := 8) (v := .int (zi s6.2.2.1)) (C := RX8) (T := TX8) (N := 13) hx hb hts in_X8_undo_X8 hown hK.1 hP 0 rfl rfl 2 (by decide) (hts _ wd_X8_undo_f35) (fun _ h9 => h9) rfl dX8_undo_42 ?_
        refine iv_imul hx hb dX8_undo_45 ?_
        refine lv_iload_n hx hb dX8_undo_46 rfl (lv_at hl 1 rfl) ?_
        refine iv_iadd hx hb dX8_undo_47 ?_
        obtain ⟨g9, h⟩ := gd_t h
        refine iv_iald (f := s6.2.1) (j := ((415 * s6.2.2.1) + v5).toNat) hx hb hK.1 hP 2 0 rfl rfl (by decide) g9 rfl dX8_undo_48 ?_
        obtain ⟨g10, h⟩ := gd_t h
        obtain ⟨s11, e12, h⟩ := nm_t h
        refine iv_iast (f := s6.1) (j := v5.toNat) (ws1 := wM a E s11) hx hb hK.1 hP hD hS 1 0 rfl rfl (by decide) g10 rfl (by rw [e12]; rfl) dX8_undo_49 (fun H locs hP hD hS => ?_)
        refine lv_iinc (v := zi (v5 + 1)) (lv' := [(1, .int (zi (v5 + 1))), (0, .ref (a 0))]) hx hb dX8_undo_50 hl (k := 1) rfl (by rw [zi_add]; rfl) (by decide) rfl (fun ls hl => ?_)
        refine lv_goto (tgt := 22) hx hb dX8_undo_53 (by decide) ?_
        exact ih (v5 + 1) s11 _ _ _ h hP hD hS (lv_sub hl [1, 0] rfl)
  have h := hf
  rw [f_X8_undo] at h
  refine lv_aload_n hx hb dX8_undo_0 rfl (lv_at hl 0 rfl) ?_
  refine va_get (D := E.1) (ci := 8) (v := .int (zi z.2.2.1)) (C := RX8) (T := TX8) (N := 13) hx hb hts in_X8_undo_X8 hown hK.1 hP 0 rfl rfl 2 (by decide) (hts _ wd_X8_undo_f35) (fun _ h9 => h9) rfl dX8_undo_1 ?_
  obtain ⟨g1, h⟩ := gd_t h
  refine iv_ne (tgt := 10) hx hb g1 dX8_undo_4 (by decide) (fun c2 => ?_) (fun c2 => ?_)
  · have h := it_f c2 h
    refine lv_aload_n hx hb dX8_undo_10 rfl (lv_at hl 0 rfl) ?_
    refine lv_dup hx hb dX8_undo_11 rfl ?_
    refine va_get (D := E.1) (ci := 8) (v := .int (zi z.2.2.1)) (C := RX8) (T := TX8) (N := 13) hx hb hts in_X8_undo_X8 hown hK.1 hP 0 rfl rfl 2 (by decide) (hts _ wd_X8_undo_f35) (fun _ h9 => h9) rfl dX8_undo_12 ?_
    refine iv_iconst hx hb dX8_undo_15 ?_
    refine iv_isub hx hb dX8_undo_16 ?_
    obtain ⟨s3, e4, h⟩ := nm_t h
    refine iv_put (D := E.1) (ci := 8) (v := .int (zi (z.2.2.1 - 1))) (ty := .int) (ws1 := wM a E s3) (C := RX8) (T := TX8) (N := 13) hx hb hts in_X8_undo_X8 tyX8 tyX8_ok nmX8 hown hK.1 hP hD hS 0 rfl rfl 2 (by decide) (hts _ wd_X8_undo_f35) (fun _ h9 => h9) rfl (by decide +kernel) rfl rfl (Nat.le_of_ble_eq_true rfl) (by rw [e4]; rfl) dX8_undo_17 (fun H locs hP hD hS => ?_)
    refine iv_iconst hx hb dX8_undo_20 ?_
    refine lv_istore_n (lv' := [(1, .int (zi 0)), (0, .ref (a 0))]) hx hb dX8_undo_21 rfl hl (by decide) rfl (fun ls hl => ?_)
    exact loop22 N 0 s3 _ _ _ h hP hD hS (lv_sub hl [1, 0] rfl)
  · have h := it_t c2 h
    refine iv_bipush hx hb dX8_undo_7 (by decide +kernel) ?_
    cases h
    exact iv_iret hx hb hr hlocks hK hP hD hS dX8_undo_9
set_option maxRecDepth 20000 in
theorem wd_X8_keep_f39 : Cond.fieldLink RX8 39 "ShirtButtonsModel" "isKept" "Z" ∈ wsX8_keep := by decide +kernel
set_option maxRecDepth 20000 in
theorem in_X8_keep_X8 : ∀ w ∈ u_ws RX8 TX8 13, w ∈ wsX8_keep := by decide +kernel
set_option maxRecDepth 20000 in
theorem wd_X8_keep_f7 : Cond.fieldLink RX8 7 "ShirtButtonsModel" "row" "[I" ∈ wsX8_keep := by decide +kernel
set_option maxRecDepth 20000 in
theorem wd_X8_keep_f16 : Cond.fieldLink RX8 16 "ShirtButtonsModel" "snapshot" "[I" ∈ wsX8_keep := by decide +kernel
set_option maxHeartbeats 4000000 in
set_option maxRecDepth 100000 in
theorem k_X8_keep (l : Launch) (E : wE) (a : Nat → Nat) (sz : Nat) (N : Nat) (z : bM) (u : (Int × bM)) (hf : f_X8_keep N z = some u) : cI l yX8_keep wsX8_keep { frames := 0, cells := 0, slots := 0, locals := 0 } E sz [.ref (a 0)] (wM a E z) (wM a E u.2) u.1 := by
  refine met_go (cc := cX8_keep) (maxL := 2) (ret := (some .int)) (Q0 := mQi E (wM a E u.2) u.1) (by decide +kernel) rfl (Nat.le_of_ble_eq_true rfl) ?_
  intro A p e s m below meth c hx hb hr hml hts hown hlocks hP hK hD hA hS ls hl
  have hl : lv_has ls 2 [(0, .ref (a 0))] := hl
  generalize hH : s.heap = H at hP
  have hS : va_S A s.heap H [] := by rw [← hH]; exact hS
  have hown : s.vm.findClass RX8 = some m.cls := hown
  have loop2 : ∀ (n : Nat) (v1 : Int) (s2 : bM) (H : Heap) (locs : List Loc) (ls : Array Slot), f_X8_keep_L2 N n v1 s2 = some u → va_P E.1 vwCl (wM a E s2) H → va_D A (wM a E s2) → va_S A s.heap H locs → lv_has ls 2 [(0, .ref (a 0)), (1, .int (zi v1))] → W p l e ({ frames := 0, cells := 0, slots := 0, locals := 0 }) s m ([.ref (a 0)] : List Value).toArray below meth c H locs 0 0 (MQ below (mQi E (wM a E u.2) u.1 A) ([.ref (a 0)] : List Value).toArray s 0 0 A) (F0 m 2 ls []) := by
    intro n
    induction n with
    | zero =>
      intro v1 s2 H locs ls h
      exact absurd (show (none : Option (Int × bM)) = some u from h) (by simp)
    | succ n ih =>
      intro v1 s2 H locs ls h hP hD hS hl
      rw [f_X8_keep_L2] at h
      refine lv_iload_n hx hb dX8_keep_2 rfl (lv_at hl 1 rfl) ?_
      refine iv_sipush hx hb dX8_keep_3 (by decide +kernel) ?_
      obtain ⟨g3, h⟩ := gd_t h
      refine iv_ige (tgt := 27) hx hb g3 (by decide +kernel) dX8_keep_6 (by decide) (fun c4 => ?_) (fun c4 => ?_)
      · have h := it_t c4 h
        refine lv_aload_n hx hb dX8_keep_27 rfl (lv_at hl 0 rfl) ?_
        refine iv_iconst hx hb dX8_keep_28 ?_
        obtain ⟨s5, e6, h⟩ := nm_t h
        refine iv_put (D := E.1) (ci := 8) (v := .int (zi 1)) (ty := .boolean) (ws1 := wM a E s5) (C := RX8) (T := TX8) (N := 13) hx hb hts in_X8_keep_X8 tyX8 tyX8_ok nmX8 hown hK.1 hP hD hS 0 rfl rfl 4 (by decide) (hts _ wd_X8_keep_f39) (fun _ h9 => h9) rfl (by decide +kernel) rfl rfl (Nat.le_of_ble_eq_true rfl) (by rw [e6]; rfl) dX8_keep_29 (fun H locs hP hD hS => ?_)
        refine lv_aload_n hx hb dX8_keep_32 rfl (lv_at hl 0 rfl) ?_
        refine va_get (D := E.1) (ci := 8) (v := .ref (a 1)) (C := RX8) (T := TX8) (N := 13) hx hb hts in_X8_keep_X8 hown hK.1 hP 0 rfl rfl 0 (by decide) (hts _ wd_X8_keep_f7) (fun _ h9 => h9) rfl dX8_keep_33 ?_
        refine iv_bipush hx hb dX8_keep_36 (by decide +kernel) ?_
        refine iv_iald (f := s5.1) (j := 13) hx hb hK.1 hP 1 0 rfl rfl (by decide) (by decide +kernel) rfl dX8_keep_38 ?_
        cases h
        exact iv_iret hx hb hr hlocks hK hP hD hS dX8_keep_39
      · have h := it_f c4 h
        refine lv_aload_n hx hb dX8_keep_9 rfl (lv_at hl 0 rfl) ?_
        refine va_get (D := E.1) (ci := 8) (v := .ref (a 3)) (C := RX8) (T := TX8) (N := 13) hx hb hts in_X8_keep_X8 hown hK.1 hP 0 rfl rfl 3 (by decide) (hts _ wd_X8_keep_f16) (fun _ h9 => h9) rfl dX8_keep_10 ?_
        refine lv_iload_n hx hb dX8_keep_13 rfl (lv_at hl 1 rfl) ?_
        refine lv_aload_n hx hb dX8_keep_14 rfl (lv_at hl 0 rfl) ?_
        refine va_get (D := E.1) (ci := 8) (v := .ref (a 1)) (C := RX8) (T := TX8) (N := 13) hx hb hts in_X8_keep_X8 hown hK.1 hP 0 rfl rfl 0 (by decide) (hts _ wd_X8_keep_f7) (fun _ h9 => h9) rfl dX8_keep_15 ?_
        refine lv_iload_n hx hb dX8_keep_18 rfl (lv_at hl 1 rfl) ?_
        obtain ⟨g7, h⟩ := gd_t h
        refine iv_iald (f := s2.1) (j := v1.toNat) hx hb hK.1 hP 1 0 rfl rfl (by decide) g7 rfl dX8_keep_19 ?_
        obtain ⟨s8, e9, h⟩ := nm_t h
        refine iv_iast (f := s2.2.2.2.1) (j := v1.toNat) (ws1 := wM a E s8) hx hb hK.1 hP hD hS 3 0 rfl rfl (by decide) g7 rfl (by rw [e9]; rfl) dX8_keep_20 (fun H locs hP hD hS => ?_)
        refine lv_iinc (v := zi (v1 + 1)) (lv' := [(1, .int (zi (v1 + 1))), (0, .ref (a 0))]) hx hb dX8_keep_21 hl (k := 1) rfl (by rw [zi_add]; rfl) (by decide) rfl (fun ls hl => ?_)
        refine lv_goto (tgt := 2) hx hb dX8_keep_24 (by decide) ?_
        exact ih (v1 + 1) s8 _ _ _ h hP hD hS (lv_sub hl [1, 0] rfl)
  have h := hf
  rw [f_X8_keep] at h
  refine iv_iconst hx hb dX8_keep_0 ?_
  refine lv_istore_n (lv' := [(1, .int (zi 0)), (0, .ref (a 0))]) hx hb dX8_keep_1 rfl hl (by decide) rfl (fun ls hl => ?_)
  exact loop2 N 0 z _ _ _ h hP hD hS (lv_sub hl [1, 0] rfl)
set_option maxRecDepth 20000 in
theorem wd_X8_restore_f39 : Cond.fieldLink RX8 39 "ShirtButtonsModel" "isKept" "Z" ∈ wsX8_restore := by decide +kernel
set_option maxRecDepth 20000 in
theorem in_X8_restore_X8 : ∀ w ∈ u_ws RX8 TX8 13, w ∈ wsX8_restore := by decide +kernel
set_option maxRecDepth 20000 in
theorem wd_X8_restore_f7 : Cond.fieldLink RX8 7 "ShirtButtonsModel" "row" "[I" ∈ wsX8_restore := by decide +kernel
set_option maxRecDepth 20000 in
theorem wd_X8_restore_f16 : Cond.fieldLink RX8 16 "ShirtButtonsModel" "snapshot" "[I" ∈ wsX8_restore := by decide +kernel
set_option maxHeartbeats 4000000 in
set_option maxRecDepth 100000 in
theorem k_X8_restore (l : Launch) (E : wE) (a : Nat → Nat) (sz : Nat) (N : Nat) (z : bM) (u : (Int × bM)) (hf : f_X8_restore N z = some u) : cI l yX8_restore wsX8_restore { frames := 1, cells := 0, slots := 0, locals := 21 } E sz [.ref (a 0)] (wM a E z) (wM a E u.2) u.1 := by
  refine met_go (cc := cX8_restore) (maxL := 2) (ret := (some .int)) (Q0 := mQi E (wM a E u.2) u.1) (by decide +kernel) rfl (Nat.le_of_ble_eq_true rfl) ?_
  intro A p e s m below meth c hx hb hr hml hts hown hlocks hP hK hD hA hS ls hl
  have hl : lv_has ls 2 [(0, .ref (a 0))] := hl
  generalize hH : s.heap = H at hP
  have hS : va_S A s.heap H [] := by rw [← hH]; exact hS
  have hown : s.vm.findClass RX8 = some m.cls := hown
  have loop16 : ∀ (n : Nat) (v5 : Int) (s6 : bM) (H : Heap) (locs : List Loc) (ls : Array Slot), f_X8_restore_L16 N n v5 s6 = some u → va_P E.1 vwCl (wM a E s6) H → va_D A (wM a E s6) → va_S A s.heap H locs → lv_has ls 2 [(0, .ref (a 0)), (1, .int (zi v5))] → W p l e ({ frames := 1, cells := 0, slots := 0, locals := 21 }) s m ([.ref (a 0)] : List Value).toArray below meth c H locs 0 0 (MQ below (mQi E (wM a E u.2) u.1 A) ([.ref (a 0)] : List Value).toArray s 0 0 A) (F0 m 16 ls []) := by
    intro n
    induction n with
    | zero =>
      intro v5 s6 H locs ls h
      exact absurd (show (none : Option (Int × bM)) = some u from h) (by simp)
    | succ n ih =>
      intro v5 s6 H locs ls h hP hD hS hl
      rw [f_X8_restore_L16] at h
      refine lv_iload_n hx hb dX8_restore_16 rfl (lv_at hl 1 rfl) ?_
      refine iv_sipush hx hb dX8_restore_17 (by decide +kernel) ?_
      obtain ⟨g7, h⟩ := gd_t h
      refine iv_ige (tgt := 41) hx hb g7 (by decide +kernel) dX8_restore_20 (by decide) (fun c8 => ?_) (fun c8 => ?_)
      · have h := it_t c8 h
        refine lv_aload_n hx hb dX8_restore_41 rfl (lv_at hl 0 rfl) ?_
        refine va_get (D := E.1) (ci := 8) (v := .ref (a 1)) (C := RX8) (T := TX8) (N := 13) hx hb hts in_X8_restore_X8 hown hK.1 hP 0 rfl rfl 0 (by decide) (hts _ wd_X8_restore_f7) (fun _ h9 => h9) rfl dX8_restore_42 ?_
        refine iv_bipush hx hb dX8_restore_45 (by decide +kernel) ?_
        refine iv_iald (f := s6.1) (j := 13) hx hb hK.1 hP 1 0 rfl rfl (by decide) (by decide +kernel) rfl dX8_restore_47 ?_
        cases h
        exact iv_iret hx hb hr hlocks hK hP hD hS dX8_restore_48
      · have h := it_f c8 h
        refine lv_aload_n hx hb dX8_restore_23 rfl (lv_at hl 0 rfl) ?_
        refine va_get (D := E.1) (ci := 8) (v := .ref (a 1)) (C := RX8) (T := TX8) (N := 13) hx hb hts in_X8_restore_X8 hown hK.1 hP 0 rfl rfl 0 (by decide) (hts _ wd_X8_restore_f7) (fun _ h9 => h9) rfl dX8_restore_24 ?_
        refine lv_iload_n hx hb dX8_restore_27 rfl (lv_at hl 1 rfl) ?_
        refine lv_aload_n hx hb dX8_restore_28 rfl (lv_at hl 0 rfl) ?_
        refine va_get (D := E.1) (ci := 8) (v := .ref (a 3)) (C := RX8) (T := TX8) (N := 13) hx hb hts in_X8_restore_X8 hown hK.1 hP 0 rfl rfl 3 (by decide) (hts _ wd_X8_restore_f16) (fun _ h9 => h9) rfl dX8_restore_29 ?_
        refine lv_iload_n hx hb dX8_restore_32 rfl (lv_at hl 1 rfl) ?_
        obtain ⟨g9, h⟩ := gd_t h
        refine iv_iald (f := s6.2.2.2.1) (j := v5.toNat) hx hb hK.1 hP 3 0 rfl rfl (by decide) g9 rfl dX8_restore_33 ?_
        obtain ⟨s10, e11, h⟩ := nm_t h
        refine iv_iast (f := s6.1) (j := v5.toNat) (ws1 := wM a E s10) hx hb hK.1 hP hD hS 1 0 rfl rfl (by decide) g9 rfl (by rw [e11]; rfl) dX8_restore_34 (fun H locs hP hD hS => ?_)
        refine lv_iinc (v := zi (v5 + 1)) (lv' := [(1, .int (zi (v5 + 1))), (0, .ref (a 0))]) hx hb dX8_restore_35 hl (k := 1) rfl (by rw [zi_add]; rfl) (by decide) rfl (fun ls hl => ?_)
        refine lv_goto (tgt := 16) hx hb dX8_restore_38 (by decide) ?_
        exact ih (v5 + 1) s10 _ _ _ h hP hD hS (lv_sub hl [1, 0] rfl)
  have h := hf
  rw [f_X8_restore] at h
  refine lv_aload_n hx hb dX8_restore_0 rfl (lv_at hl 0 rfl) ?_
  refine va_get (D := E.1) (ci := 8) (v := .int (zi z.2.2.2.2.1)) (C := RX8) (T := TX8) (N := 13) hx hb hts in_X8_restore_X8 hown hK.1 hP 0 rfl rfl 4 (by decide) (hts _ wd_X8_restore_f39) (fun _ h9 => h9) rfl dX8_restore_1 ?_
  obtain ⟨g1, h⟩ := gd_t h
  refine iv_ne (tgt := 10) hx hb g1 dX8_restore_4 (by decide) (fun c2 => ?_) (fun c2 => ?_)
  · have h := it_f c2 h
    refine lv_aload_n hx hb dX8_restore_10 rfl (lv_at hl 0 rfl) ?_
    obtain ⟨u3, q4, h⟩ := bd_t h
    refine iv_callVf (As := []) (rest := []) ⟨hx, hb, hml, hown, hts⟩ (k_X8_record l E a H.size N  z u3 q4) (cwV 0 hts gX8_restore_X8_record rfl rfl rfl (by decide +kernel) ⟨Nat.le_of_ble_eq_true rfl, Nat.le_of_ble_eq_true rfl⟩) hK hP hD hS hA 0 8 rfl rfl rfl hl.1 (Nat.le_of_ble_eq_true rfl) ⟨Nat.zero_le _, Nat.zero_le _⟩ dX8_restore_11 (fun H locs hP hD hS => ?_)
    refine iv_iconst hx hb dX8_restore_14 ?_
    refine lv_istore_n (lv' := [(1, .int (zi 0)), (0, .ref (a 0))]) hx hb dX8_restore_15 rfl hl (by decide) rfl (fun ls hl => ?_)
    exact loop16 N 0 u3 _ _ _ h hP hD hS (lv_sub hl [1, 0] rfl)
  · have h := it_t c2 h
    refine iv_bipush hx hb dX8_restore_7 (by decide +kernel) ?_
    cases h
    exact iv_iret hx hb hr hlocks hK hP hD hS dX8_restore_9
set_option maxRecDepth 20000 in
theorem wd_X8_at_f7 : Cond.fieldLink RX8 7 "ShirtButtonsModel" "row" "[I" ∈ wsX8_at := by decide +kernel
set_option maxRecDepth 20000 in
theorem in_X8_at_X8 : ∀ w ∈ u_ws RX8 TX8 13, w ∈ wsX8_at := by decide +kernel
set_option maxHeartbeats 4000000 in
set_option maxRecDepth 100000 in
theorem k_X8_at (l : Launch) (E : wE) (a : Nat → Nat) (sz : Nat) (N : Nat) (x1 : Int) (z : bM) (u : (Int × bM)) (hf : f_X8_at N x1 z = some u) : cI l yX8_at wsX8_at { frames := 1, cells := 0, slots := 0, locals := 22 } E sz [.ref (a 0), .int (zi x1)] (wM a E z) (wM a E u.2) u.1 := by
  refine met_go (cc := cX8_at) (maxL := 4) (ret := (some .int)) (Q0 := mQi E (wM a E u.2) u.1) (by decide +kernel) rfl (Nat.le_of_ble_eq_true rfl) ?_
  intro A p e s m below meth c hx hb hr hml hts hown hlocks hP hK hD hA hS ls hl
  have hl : lv_has ls 4 [(0, .ref (a 0)), (1, .int (zi x1))] := hl
  generalize hH : s.heap = H at hP
  have hS : va_S A s.heap H [] := by rw [← hH]; exact hS
  have hown : s.vm.findClass RX8 = some m.cls := hown
  have loop4 : ∀ (n : Nat) (v1 v2 v3 : Int) (s4 : bM) (H : Heap) (locs : List Loc) (ls : Array Slot), f_X8_at_L4 N n v1 v2 v3 s4 = some u → va_P E.1 vwCl (wM a E s4) H → va_D A (wM a E s4) → va_S A s.heap H locs → lv_has ls 4 [(0, .ref (a 0)), (1, .int (zi v1)), (2, .int (zi v2)), (3, .int (zi v3))] → W p l e ({ frames := 1, cells := 0, slots := 0, locals := 22 }) s m ([.ref (a 0), .int (zi x1)] : List Value).toArray below meth c H locs 0 0 (MQ below (mQi E (wM a E u.2) u.1 A) ([.ref (a 0), .int (zi x1)] : List Value).toArray s 0 0 A) (F0 m 4 ls []) := by
    intro n
    induction n with
    | zero =>
      intro v1 v2 v3 s4 H locs ls h
      exact absurd (show (none : Option (Int × bM)) = some u from h) (by simp)
    | succ n ih =>
      intro v1 v2 v3 s4 H locs ls h hP hD hS hl
      rw [f_X8_at_L4] at h
      refine lv_iload_n hx hb dX8_at_4 rfl (lv_at hl 3 rfl) ?_
      refine lv_aload_n hx hb dX8_at_5 rfl (lv_at hl 0 rfl) ?_
      refine va_get (D := E.1) (ci := 8) (v := .ref (a 1)) (C := RX8) (T := TX8) (N := 13) hx hb hts in_X8_at_X8 hown hK.1 hP 0 rfl rfl 0 (by decide) (hts _ wd_X8_at_f7) (fun _ h9 => h9) rfl dX8_at_6 ?_
      refine iv_bipush hx hb dX8_at_9 (by decide +kernel) ?_
      refine iv_iald (f := s4.1) (j := 13) hx hb hK.1 hP 1 0 rfl rfl (by decide) (by decide +kernel) rfl dX8_at_11 ?_
      obtain ⟨g5, h⟩ := gd_t h
      obtain ⟨g6, h⟩ := gd_t h
      refine iv_ige (tgt := 39) hx hb g5 g6 dX8_at_12 (by decide) (fun c7 => ?_) (fun c7 => ?_)
      · have h := it_t c7 h
        refine lv_iload_n hx hb dX8_at_39 rfl (lv_at hl 2 rfl) ?_
        cases h
        exact iv_iret hx hb hr hlocks hK hP hD hS dX8_at_40
      · have h := it_f c7 h
        refine lv_iload_n hx hb dX8_at_15 rfl (lv_at hl 2 rfl) ?_
        refine lv_aload_n hx hb dX8_at_16 rfl (lv_at hl 0 rfl) ?_
        refine lv_iload_n hx hb dX8_at_17 rfl (lv_at hl 3 rfl) ?_
        refine iv_iconst hx hb dX8_at_18 ?_
        obtain ⟨u8, q9, h⟩ := bd_t h
        refine iv_callIf (As := [.int (zi v3), .int (zi 5)]) (rest := [.int (zi v2)]) ⟨hx, hb, hml, hown, hts⟩ (k_X8_of l E a H.size v3 5 s4 u8 q9) (cwV 2 hts gX8_at_X8_of rfl rfl rfl (by decide +kernel) ⟨Nat.le_of_ble_eq_true rfl, Nat.le_of_ble_eq_true rfl⟩) hK hP hD hS hA 0 8 rfl rfl rfl hl.1 (Nat.le_of_ble_eq_true rfl) ⟨Nat.zero_le _, Nat.zero_le _⟩ dX8_at_19 (fun H locs hP hD hS => ?_)
        refine lv_iload_n hx hb dX8_at_22 rfl (lv_at hl 1 rfl) ?_
        obtain ⟨g10, h⟩ := gd_t h
        obtain ⟨g11, h⟩ := gd_t h
        refine iv_ine (tgt := 30) hx hb g10 g11 dX8_at_23 (by decide) (fun c12 => ?_) (fun c12 => ?_)
        · have h := it_f c12 h
          refine iv_iconst hx hb dX8_at_30 ?_
          refine iv_iadd hx hb dX8_at_31 ?_
          obtain ⟨v13, e14, h⟩ := nm_t h
          refine iv_nm e14 ?_
          refine lv_istore_n (lv' := [(2, .int (zi v13)), (0, .ref (a 0)), (1, .int (zi v1)), (3, .int (zi v3))]) hx hb dX8_at_32 rfl hl (by decide) rfl (fun ls hl => ?_)
          refine lv_iinc (v := zi (v3 + 1)) (lv' := [(3, .int (zi (v3 + 1))), (2, .int (zi v13)), (0, .ref (a 0)), (1, .int (zi v1))]) hx hb dX8_at_33 hl (k := 3) rfl (by rw [zi_add]; rfl) (by decide) rfl (fun ls hl => ?_)
          refine lv_goto (tgt := 4) hx hb dX8_at_36 (by decide) ?_
          exact ih v1 v13 (v3 + 1) u8.2 _ _ _ h hP hD hS (lv_sub hl [2, 3, 1, 0] rfl)
        · have h := it_t c12 h
          refine iv_iconst hx hb dX8_at_26 ?_
          refine lv_goto (tgt := 31) hx hb dX8_at_27 (by decide) ?_
          refine iv_iadd hx hb dX8_at_31 ?_
          obtain ⟨v15, e16, h⟩ := nm_t h
          refine iv_nm e16 ?_
          refine lv_istore_n (lv' := [(2, .int (zi v15)), (0, .ref (a 0)), (1, .int (zi v1)), (3, .int (zi v3))]) hx hb dX8_at_32 rfl hl (by decide) rfl (fun ls hl => ?_)
          refine lv_iinc (v := zi (v3 + 1)) (lv' := [(3, .int (zi (v3 + 1))), (2, .int (zi v15)), (0, .ref (a 0)), (1, .int (zi v1))]) hx hb dX8_at_33 hl (k := 3) rfl (by rw [zi_add]; rfl) (by decide) rfl (fun ls hl => ?_)
          refine lv_goto (tgt := 4) hx hb dX8_at_36 (by decide) ?_
          exact ih v1 v15 (v3 + 1) u8.2 _ _ _ h hP hD hS (lv_sub hl [2, 3, 1, 0] rfl)
  have h := hf
  rw [f_X8_at] at h
  refine iv_iconst hx hb dX8_at_0 ?_
  refine lv_istore_n (lv' := [(2, .int (zi 0)), (0, .ref (a 0)), (1, .int (zi x1))]) hx hb dX8_at_1 rfl hl (by decide) rfl (fun ls hl => ?_)
  refine iv_iconst hx hb dX8_at_2 ?_
  refine lv_istore_n (lv' := [(3, .int (zi 0)), (2, .int (zi 0)), (0, .ref (a 0)), (1, .int (zi x1))]) hx hb dX8_at_3 rfl hl (by decide) rfl (fun ls hl => ?_)
  exact loop4 N x1 0 0 z _ _ _ h hP hD hS (lv_sub hl [2, 3, 1, 0] rfl)
set_option maxHeartbeats 4000000 in
set_option maxRecDepth 100000 in
theorem k_X8_isIn (l : Launch) (E : wE) (a : Nat → Nat) (sz : Nat) (x1 x2 : Int) (z : bM) (u : (Int × bM)) (hf : f_X8_isIn x1 x2 z = some u) : cI l yX8_isIn wsX8_isIn { frames := 1, cells := 0, slots := 0, locals := 22 } E sz [.ref (a 0), .int (zi x1), .int (zi x2)] (wM a E z) (wM a E u.2) u.1 := by
  refine met_go (cc := cX8_isIn) (maxL := 3) (ret := (some .boolean)) (Q0 := mQi E (wM a E u.2) u.1) (by decide +kernel) rfl (Nat.le_of_ble_eq_true rfl) ?_
  intro A p e s m below meth c hx hb hr hml hts hown hlocks hP hK hD hA hS ls hl
  have hl : lv_has ls 3 [(0, .ref (a 0)), (1, .int (zi x1)), (2, .int (zi x2))] := hl
  generalize hH : s.heap = H at hP
  have hS : va_S A s.heap H [] := by rw [← hH]; exact hS
  have hown : s.vm.findClass RX8 = some m.cls := hown
  have h := hf
  rw [f_X8_isIn] at h
  refine lv_aload_n hx hb dX8_isIn_0 rfl (lv_at hl 0 rfl) ?_
  refine lv_iload_n hx hb dX8_isIn_1 rfl (lv_at hl 1 rfl) ?_
  refine iv_iconst hx hb dX8_isIn_2 ?_
  obtain ⟨u1, q2, h⟩ := bd_t h
  refine iv_callIf (As := [.int (zi x1), .int (zi 5)]) (rest := []) ⟨hx, hb, hml, hown, hts⟩ (k_X8_of l E a H.size x1 5 z u1 q2) (cwV 2 hts gX8_isIn_X8_of rfl rfl rfl (by decide +kernel) ⟨Nat.le_of_ble_eq_true rfl, Nat.le_of_ble_eq_true rfl⟩) hK hP hD hS hA 0 8 rfl rfl rfl hl.1 (Nat.le_of_ble_eq_true rfl) ⟨Nat.zero_le _, Nat.zero_le _⟩ dX8_isIn_3 (fun H locs hP hD hS => ?_)
  refine iv_iconst hx hb dX8_isIn_6 ?_
  obtain ⟨g3, h⟩ := gd_t h
  refine iv_ine (tgt := 25) hx hb g3 (by decide +kernel) dX8_isIn_7 (by decide) (fun c4 => ?_) (fun c4 => ?_)
  · have h := it_f c4 h
    refine iv_iconst hx hb dX8_isIn_25 ?_
    cases h
    exact iv_zret (r := 0) hx hb hr hlocks (by decide +kernel) hK hP hD hS dX8_isIn_26
  · have h := it_t c4 h
    refine lv_aload_n hx hb dX8_isIn_10 rfl (lv_at hl 0 rfl) ?_
    refine lv_iload_n hx hb dX8_isIn_11 rfl (lv_at hl 1 rfl) ?_
    refine iv_bipush hx hb dX8_isIn_12 (by decide +kernel) ?_
    obtain ⟨u5, q6, h⟩ := bd_t h
    refine iv_callIf (As := [.int (zi x1), .int (zi 6)]) (rest := []) ⟨hx, hb, hml, hown, hts⟩ (k_X8_of l E a H.size x1 6 u1.2 u5 q6) (cwV 2 hts gX8_isIn_X8_of rfl rfl rfl (by decide +kernel) ⟨Nat.le_of_ble_eq_true rfl, Nat.le_of_ble_eq_true rfl⟩) hK hP hD hS hA 0 8 rfl rfl rfl hl.1 (Nat.le_of_ble_eq_true rfl) ⟨Nat.zero_le _, Nat.zero_le _⟩ dX8_isIn_14 (fun H locs hP hD hS => ?_)
    refine lv_iload_n hx hb dX8_isIn_17 rfl (lv_at hl 2 rfl) ?_
    obtain ⟨g7, h⟩ := gd_t h
    obtain ⟨g8, h⟩ := gd_t h
    refine iv_ine (tgt := 25) hx hb g7 g8 dX8_isIn_18 (by decide) (fun c9 => ?_) (fun c9 => ?_)
    · have h := it_f c9 h
      refine iv_iconst hx hb dX8_isIn_25 ?_
      cases h
      exact iv_zret (r := 0) hx hb hr hlocks (by decide +kernel) hK hP hD hS dX8_isIn_26
    · have h := it_t c9 h
      refine iv_iconst hx hb dX8_isIn_21 ?_
      refine lv_goto (tgt := 26) hx hb dX8_isIn_22 (by decide) ?_
      cases h
      exact iv_zret (r := 1) hx hb hr hlocks (by decide +kernel) hK hP hD hS dX8_isIn_26
set_option maxRecDepth 20000 in
theorem wd_X8_manyIn_f7 : Cond.fieldLink RX8 7 "ShirtButtonsModel" "row" "[I" ∈ wsX8_manyIn := by decide +kernel
set_option maxRecDepth 20000 in
theorem in_X8_manyIn_X8 : ∀ w ∈ u_ws RX8 TX8 13, w ∈ wsX8_manyIn := by decide +kernel
set_option maxHeartbeats 4000000 in
set_option maxRecDepth 100000 in
theorem k_X8_manyIn (l : Launch) (E : wE) (a : Nat → Nat) (sz : Nat) (N : Nat) (x1 : Int) (z : bM) (u : (Int × bM)) (hf : f_X8_manyIn N x1 z = some u) : cI l yX8_manyIn wsX8_manyIn { frames := 2, cells := 0, slots := 0, locals := 44 } E sz [.ref (a 0), .int (zi x1)] (wM a E z) (wM a E u.2) u.1 := by
  refine met_go (cc := cX8_manyIn) (maxL := 4) (ret := (some .int)) (Q0 := mQi E (wM a E u.2) u.1) (by decide +kernel) rfl (Nat.le_of_ble_eq_true rfl) ?_
  intro A p e s m below meth c hx hb hr hml hts hown hlocks hP hK hD hA hS ls hl
  have hl : lv_has ls 4 [(0, .ref (a 0)), (1, .int (zi x1))] := hl
  generalize hH : s.heap = H at hP
  have hS : va_S A s.heap H [] := by rw [← hH]; exact hS
  have hown : s.vm.findClass RX8 = some m.cls := hown
  have loop4 : ∀ (n : Nat) (v1 v2 v3 : Int) (s4 : bM) (H : Heap) (locs : List Loc) (ls : Array Slot), f_X8_manyIn_L4 N n v1 v2 v3 s4 = some u → va_P E.1 vwCl (wM a E s4) H → va_D A (wM a E s4) → va_S A s.heap H locs → lv_has ls 4 [(0, .ref (a 0)), (1, .int (zi v1)), (2, .int (zi v2)), (3, .int (zi v3))] → W p l e ({ frames := 2, cells := 0, slots := 0, locals := 44 }) s m ([.ref (a 0), .int (zi x1)] : List Value).toArray below meth c H locs 0 0 (MQ below (mQi E (wM a E u.2) u.1 A) ([.ref (a 0), .int (zi x1)] : List Value).toArray s 0 0 A) (F0 m 4 ls []) := by
    intro n
    induction n with
    | zero =>
      intro v1 v2 v3 s4 H locs ls h
      exact absurd (show (none : Option (Int × bM)) = some u from h) (by simp)
    | succ n ih =>
      intro v1 v2 v3 s4 H locs ls h hP hD hS hl
      rw [f_X8_manyIn_L4] at h
      refine lv_iload_n hx hb dX8_manyIn_4 rfl (lv_at hl 3 rfl) ?_
      refine lv_aload_n hx hb dX8_manyIn_5 rfl (lv_at hl 0 rfl) ?_
      refine va_get (D := E.1) (ci := 8) (v := .ref (a 1)) (C := RX8) (T := TX8) (N := 13) hx hb hts in_X8_manyIn_X8 hown hK.1 hP 0 rfl rfl 0 (by decide) (hts _ wd_X8_manyIn_f7) (fun _ h9 => h9) rfl dX8_manyIn_6 ?_
      refine iv_bipush hx hb dX8_manyIn_9 (by decide +kernel) ?_
      refine iv_iald (f := s4.1) (j := 13) hx hb hK.1 hP 1 0 rfl rfl (by decide) (by decide +kernel) rfl dX8_manyIn_11 ?_
      obtain ⟨g5, h⟩ := gd_t h
      obtain ⟨g6, h⟩ := gd_t h
      refine iv_ige (tgt := 38) hx hb g5 g6 dX8_manyIn_12 (by decide) (fun c7 => ?_) (fun c7 => ?_)
      · have h := it_t c7 h
        refine lv_iload_n hx hb dX8_manyIn_38 rfl (lv_at hl 2 rfl) ?_
        cases h
        exact iv_iret hx hb hr hlocks hK hP hD hS dX8_manyIn_39
      · have h := it_f c7 h
        refine lv_iload_n hx hb dX8_manyIn_15 rfl (lv_at hl 2 rfl) ?_
        refine lv_aload_n hx hb dX8_manyIn_16 rfl (lv_at hl 0 rfl) ?_
        refine lv_iload_n hx hb dX8_manyIn_17 rfl (lv_at hl 3 rfl) ?_
        refine lv_iload_n hx hb dX8_manyIn_18 rfl (lv_at hl 1 rfl) ?_
        obtain ⟨u8, q9, h⟩ := bd_t h
        refine iv_callIf (As := [.int (zi v3), .int (zi v1)]) (rest := [.int (zi v2)]) ⟨hx, hb, hml, hown, hts⟩ (k_X8_isIn l E a H.size v3 v1 s4 u8 q9) (cwV 2 hts gX8_manyIn_X8_isIn rfl rfl rfl (by decide +kernel) ⟨Nat.le_of_ble_eq_true rfl, Nat.le_of_ble_eq_true rfl⟩) hK hP hD hS hA 0 8 rfl rfl rfl hl.1 (Nat.le_of_ble_eq_true rfl) ⟨Nat.zero_le _, Nat.zero_le _⟩ dX8_manyIn_19 (fun H locs hP hD hS => ?_)
        obtain ⟨g10, h⟩ := gd_t h
        refine iv_eq (tgt := 29) hx hb g10 dX8_manyIn_22 (by decide) (fun c11 => ?_) (fun c11 => ?_)
        · have h := it_t c11 h
          refine iv_iconst hx hb dX8_manyIn_29 ?_
          refine iv_iadd hx hb dX8_manyIn_30 ?_
          obtain ⟨v12, e13, h⟩ := nm_t h
          refine iv_nm e13 ?_
          refine lv_istore_n (lv' := [(2, .int (zi v12)), (0, .ref (a 0)), (1, .int (zi v1)), (3, .int (zi v3))]) hx hb dX8_manyIn_31 rfl hl (by decide) rfl (fun ls hl => ?_)
          refine lv_iinc (v := zi (v3 + 1)) (lv' := [(3, .int (zi (v3 + 1))), (2, .int (zi v12)), (0, .ref (a 0)), (1, .int (zi v1))]) hx hb dX8_manyIn_32 hl (k := 3) rfl (by rw [zi_add]; rfl) (by decide) rfl (fun ls hl => ?_)
          refine lv_goto (tgt := 4) hx hb dX8_manyIn_35 (by decide) ?_
          exact ih v1 v12 (v3 + 1) u8.2 _ _ _ h hP hD hS (lv_sub hl [2, 3, 1, 0] rfl)
        · have h := it_f c11 h
          refine iv_iconst hx hb dX8_manyIn_25 ?_
          refine lv_goto (tgt := 30) hx hb dX8_manyIn_26 (by decide) ?_
          refine iv_iadd hx hb dX8_manyIn_30 ?_
          obtain ⟨v14, e15, h⟩ := nm_t h
          refine iv_nm e15 ?_
          refine lv_istore_n (lv' := [(2, .int (zi v14)), (0, .ref (a 0)), (1, .int (zi v1)), (3, .int (zi v3))]) hx hb dX8_manyIn_31 rfl hl (by decide) rfl (fun ls hl => ?_)
          refine lv_iinc (v := zi (v3 + 1)) (lv' := [(3, .int (zi (v3 + 1))), (2, .int (zi v14)), (0, .ref (a 0)), (1, .int (zi v1))]) hx hb dX8_manyIn_32 hl (k := 3) rfl (by rw [zi_add]; rfl) (by decide) rfl (fun ls hl => ?_)
          refine lv_goto (tgt := 4) hx hb dX8_manyIn_35 (by decide) ?_
          exact ih v1 v14 (v3 + 1) u8.2 _ _ _ h hP hD hS (lv_sub hl [2, 3, 1, 0] rfl)
  have h := hf
  rw [f_X8_manyIn] at h
  refine iv_iconst hx hb dX8_manyIn_0 ?_
  refine lv_istore_n (lv' := [(2, .int (zi 0)), (0, .ref (a 0)), (1, .int (zi x1))]) hx hb dX8_manyIn_1 rfl hl (by decide) rfl (fun ls hl => ?_)
  refine iv_iconst hx hb dX8_manyIn_2 ?_
  refine lv_istore_n (lv' := [(3, .int (zi 0)), (2, .int (zi 0)), (0, .ref (a 0)), (1, .int (zi x1))]) hx hb dX8_manyIn_3 rfl hl (by decide) rfl (fun ls hl => ?_)
  exact loop4 N x1 0 0 z _ _ _ h hP hD hS (lv_sub hl [2, 3, 1, 0] rfl)
set_option maxHeartbeats 4000000 in
set_option maxRecDepth 100000 in
theorem k_X8_bring (l : Launch) (E : wE) (a : Nat → Nat) (sz : Nat) (x1 x2 : Int) (z : bM) (u : bM) (hf : f_X8_bring x1 x2 z = some u) : cV l yX8_bring wsX8_bring { frames := 1, cells := 0, slots := 0, locals := 23 } E sz [.ref (a 0), .int (zi x1), .int (zi x2)] (wM a E z) (wM a E u) := by
  refine met_go (cc := cX8_bring) (maxL := 3) (ret := none) (Q0 := mQv E (wM a E u)) (by decide +kernel) rfl (Nat.le_of_ble_eq_true rfl) ?_
  intro A p e s m below meth c hx hb hr hml hts hown hlocks hP hK hD hA hS ls hl
  have hl : lv_has ls 3 [(0, .ref (a 0)), (1, .int (zi x1)), (2, .int (zi x2))] := hl
  generalize hH : s.heap = H at hP
  have hS : va_S A s.heap H [] := by rw [← hH]; exact hS
  have hown : s.vm.findClass RX8 = some m.cls := hown
  have h := hf
  rw [f_X8_bring] at h
  refine lv_aload_n hx hb dX8_bring_0 rfl (lv_at hl 0 rfl) ?_
  refine lv_iload_n hx hb dX8_bring_1 rfl (lv_at hl 1 rfl) ?_
  refine iv_iconst hx hb dX8_bring_2 ?_
  refine lv_iload_n hx hb dX8_bring_3 rfl (lv_at hl 2 rfl) ?_
  obtain ⟨u1, q2, h⟩ := bd_t h
  refine iv_callVf (As := [.int (zi x1), .int (zi 5), .int (zi x2)]) (rest := []) ⟨hx, hb, hml, hown, hts⟩ (k_X8_put l E a H.size x1 5 x2 z u1 q2) (cwV 3 hts gX8_bring_X8_put rfl rfl rfl (by decide +kernel) ⟨Nat.le_of_ble_eq_true rfl, Nat.le_of_ble_eq_true rfl⟩) hK hP hD hS hA 0 8 rfl rfl rfl hl.1 (Nat.le_of_ble_eq_true rfl) ⟨Nat.zero_le _, Nat.zero_le _⟩ dX8_bring_4 (fun H locs hP hD hS => ?_)
  refine lv_aload_n hx hb dX8_bring_7 rfl (lv_at hl 0 rfl) ?_
  refine lv_iload_n hx hb dX8_bring_8 rfl (lv_at hl 1 rfl) ?_
  refine iv_bipush hx hb dX8_bring_9 (by decide +kernel) ?_
  refine iv_bipush hx hb dX8_bring_11 (by decide +kernel) ?_
  obtain ⟨u3, q4, h⟩ := bd_t h
  refine iv_callVf (As := [.int (zi x1), .int (zi 6), .int (zi (-5))]) (rest := []) ⟨hx, hb, hml, hown, hts⟩ (k_X8_put l E a H.size x1 6 (-5) u1 u3 q4) (cwV 3 hts gX8_bring_X8_put rfl rfl rfl (by decide +kernel) ⟨Nat.le_of_ble_eq_true rfl, Nat.le_of_ble_eq_true rfl⟩) hK hP hD hS hA 0 8 rfl rfl rfl hl.1 (Nat.le_of_ble_eq_true rfl) ⟨Nat.zero_le _, Nat.zero_le _⟩ dX8_bring_13 (fun H locs hP hD hS => ?_)
  cases h
  exact iv_vret hx hb hr hlocks hK hP hD hS dX8_bring_16
set_option maxRecDepth 20000 in
theorem wd_X8_toHopper_f7 : Cond.fieldLink RX8 7 "ShirtButtonsModel" "row" "[I" ∈ wsX8_toHopper := by decide +kernel
set_option maxRecDepth 20000 in
theorem in_X8_toHopper_X8 : ∀ w ∈ u_ws RX8 TX8 13, w ∈ wsX8_toHopper := by decide +kernel
set_option maxHeartbeats 4000000 in
set_option maxRecDepth 100000 in
theorem k_X8_toHopper (l : Launch) (E : wE) (a : Nat → Nat) (sz : Nat) (x1 : Int) (z : bM) (u : bM) (hf : f_X8_toHopper x1 z = some u) : cV l yX8_toHopper wsX8_toHopper { frames := 2, cells := 0, slots := 0, locals := 45 } E sz [.ref (a 0), .int (zi x1)] (wM a E z) (wM a E u) := by
  refine met_go (cc := cX8_toHopper) (maxL := 2) (ret := none) (Q0 := mQv E (wM a E u)) (by decide +kernel) rfl (Nat.le_of_ble_eq_true rfl) ?_
  intro A p e s m below meth c hx hb hr hml hts hown hlocks hP hK hD hA hS ls hl
  have hl : lv_has ls 2 [(0, .ref (a 0)), (1, .int (zi x1))] := hl
  generalize hH : s.heap = H at hP
  have hS : va_S A s.heap H [] := by rw [← hH]; exact hS
  have hown : s.vm.findClass RX8 = some m.cls := hown
  have h := hf
  rw [f_X8_toHopper] at h
  refine lv_aload_n hx hb dX8_toHopper_0 rfl (lv_at hl 0 rfl) ?_
  refine lv_iload_n hx hb dX8_toHopper_1 rfl (lv_at hl 1 rfl) ?_
  refine iv_iconst hx hb dX8_toHopper_2 ?_
  obtain ⟨u1, q2, h⟩ := bd_t h
  refine iv_callVf (As := [.int (zi x1), .int (zi 0)]) (rest := []) ⟨hx, hb, hml, hown, hts⟩ (k_X8_bring l E a H.size x1 0 z u1 q2) (cwV 2 hts gX8_toHopper_X8_bring rfl rfl rfl (by decide +kernel) ⟨Nat.le_of_ble_eq_true rfl, Nat.le_of_ble_eq_true rfl⟩) hK hP hD hS hA 0 8 rfl rfl rfl hl.1 (Nat.le_of_ble_eq_true rfl) ⟨Nat.zero_le _, Nat.zero_le _⟩ dX8_toHopper_3 (fun H locs hP hD hS => ?_)
  refine lv_aload_n hx hb dX8_toHopper_6 rfl (lv_at hl 0 rfl) ?_
  refine va_get (D := E.1) (ci := 8) (v := .ref (a 1)) (C := RX8) (T := TX8) (N := 13) hx hb hts in_X8_toHopper_X8 hown hK.1 hP 0 rfl rfl 0 (by decide) (hts _ wd_X8_toHopper_f7) (fun _ h9 => h9) rfl dX8_toHopper_7 ?_
  refine iv_bipush hx hb dX8_toHopper_10 (by decide +kernel) ?_
  refine lv_aload_n hx hb dX8_toHopper_12 rfl (lv_at hl 0 rfl) ?_
  refine va_get (D := E.1) (ci := 8) (v := .ref (a 1)) (C := RX8) (T := TX8) (N := 13) hx hb hts in_X8_toHopper_X8 hown hK.1 hP 0 rfl rfl 0 (by decide) (hts _ wd_X8_toHopper_f7) (fun _ h9 => h9) rfl dX8_toHopper_13 ?_
  refine iv_bipush hx hb dX8_toHopper_16 (by decide +kernel) ?_
  refine iv_iald (f := u1.1) (j := 14) hx hb hK.1 hP 1 0 rfl rfl (by decide) (by decide +kernel) rfl dX8_toHopper_18 ?_
  refine iv_iadd hx hb dX8_toHopper_19 ?_
  refine lv_iload_n hx hb dX8_toHopper_20 rfl (lv_at hl 1 rfl) ?_
  obtain ⟨g3, h⟩ := gd_t h
  obtain ⟨s4, e5, h⟩ := nm_t h
  refine iv_iast (f := u1.1) (j := (15 + (u1.1 14)).toNat) (ws1 := wM a E s4) hx hb hK.1 hP hD hS 1 0 rfl rfl (by decide) g3 rfl (by rw [e5]; rfl) dX8_toHopper_21 (fun H locs hP hD hS => ?_)
  refine lv_aload_n hx hb dX8_toHopper_22 rfl (lv_at hl 0 rfl) ?_
  refine va_get (D := E.1) (ci := 8) (v := .ref (a 1)) (C := RX8) (T := TX8) (N := 13) hx hb hts in_X8_toHopper_X8 hown hK.1 hP 0 rfl rfl 0 (by decide) (hts _ wd_X8_toHopper_f7) (fun _ h9 => h9) rfl dX8_toHopper_23 ?_
  refine iv_bipush hx hb dX8_toHopper_26 (by decide +kernel) ?_
  refine lv_dup2_11 hx hb dX8_toHopper_28 rfl rfl ?_
  refine iv_iald (f := s4.1) (j := 14) hx hb hK.1 hP 1 0 rfl rfl (by decide) (by decide +kernel) rfl dX8_toHopper_29 ?_
  refine iv_iconst hx hb dX8_toHopper_30 ?_
  refine iv_iadd hx hb dX8_toHopper_31 ?_
  obtain ⟨s6, e7, h⟩ := nm_t h
  refine iv_iast (f := s4.1) (j := 14) (ws1 := wM a E s6) hx hb hK.1 hP hD hS 1 0 rfl rfl (by decide) (by decide +kernel) rfl (by rw [e7]; rfl) dX8_toHopper_32 (fun H locs hP hD hS => ?_)
  cases h
  exact iv_vret hx hb hr hlocks hK hP hD hS dX8_toHopper_33
set_option maxRecDepth 20000 in
theorem wd_X8_letGoNow_f7 : Cond.fieldLink RX8 7 "ShirtButtonsModel" "row" "[I" ∈ wsX8_letGoNow := by decide +kernel
set_option maxRecDepth 20000 in
theorem in_X8_letGoNow_X8 : ∀ w ∈ u_ws RX8 TX8 13, w ∈ wsX8_letGoNow := by decide +kernel
set_option maxHeartbeats 4000000 in
set_option maxRecDepth 100000 in
theorem k_X8_letGoNow (l : Launch) (E : wE) (a : Nat → Nat) (sz : Nat) (N : Nat) (z : bM) (u : (Int × bM)) (hf : f_X8_letGoNow N z = some u) : cI l yX8_letGoNow wsX8_letGoNow { frames := 2, cells := 0, slots := 0, locals := 45 } E sz [.ref (a 0)] (wM a E z) (wM a E u.2) u.1 := by
  refine met_go (cc := cX8_letGoNow) (maxL := 3) (ret := (some .int)) (Q0 := mQi E (wM a E u.2) u.1) (by decide +kernel) rfl (Nat.le_of_ble_eq_true rfl) ?_
  intro A p e s m below meth c hx hb hr hml hts hown hlocks hP hK hD hA hS ls hl
  have hl : lv_has ls 3 [(0, .ref (a 0))] := hl
  generalize hH : s.heap = H at hP
  have hS : va_S A s.heap H [] := by rw [← hH]; exact hS
  have hown : s.vm.findClass RX8 = some m.cls := hown
  have loop4 : ∀ (n : Nat) (v1 v2 : Int) (s3 : bM) (H : Heap) (locs : List Loc) (ls : Array Slot), f_X8_letGoNow_L4 N n v1 v2 s3 = some u → va_P E.1 vwCl (wM a E s3) H → va_D A (wM a E s3) → va_S A s.heap H locs → lv_has ls 3 [(0, .ref (a 0)), (1, .int (zi v1)), (2, .int (zi v2))] → W p l e ({ frames := 2, cells := 0, slots := 0, locals := 45 }) s m ([.ref (a 0)] : List Value).toArray below meth c H locs 0 0 (MQ below (mQi E (wM a E u.2) u.1 A) ([.ref (a 0)] : List Value).toArray s 0 0 A) (F0 m 4 ls []) := by
    intro n
    induction n with
    | zero =>
      intro v1 v2 s3 H locs ls h
      exact absurd (show (none : Option (Int × bM)) = some u from h) (by simp)
    | succ n ih =>
      intro v1 v2 s3 H locs ls h hP hD hS hl
      rw [f_X8_letGoNow_L4] at h
      refine lv_iload_n hx hb dX8_letGoNow_4 rfl (lv_at hl 2 rfl) ?_
      refine lv_aload_n hx hb dX8_letGoNow_5 rfl (lv_at hl 0 rfl) ?_
      refine va_get (D := E.1) (ci := 8) (v := .ref (a 1)) (C := RX8) (T := TX8) (N := 13) hx hb hts in_X8_letGoNow_X8 hown hK.1 hP 0 rfl rfl 0 (by decide) (hts _ wd_X8_letGoNow_f7) (fun _ h9 => h9) rfl dX8_letGoNow_6 ?_
      refine iv_bipush hx hb dX8_letGoNow_9 (by decide +kernel) ?_
      refine iv_iald (f := s3.1) (j := 13) hx hb hK.1 hP 1 0 rfl rfl (by decide) (by decide +kernel) rfl dX8_letGoNow_11 ?_
      obtain ⟨g4, h⟩ := gd_t h
      obtain ⟨g5, h⟩ := gd_t h
      refine iv_ige (tgt := 40) hx hb g4 g5 dX8_letGoNow_12 (by decide) (fun c6 => ?_) (fun c6 => ?_)
      · have h := it_t c6 h
        refine lv_iload_n hx hb dX8_letGoNow_40 rfl (lv_at hl 1 rfl) ?_
        cases h
        exact iv_iret hx hb hr hlocks hK hP hD hS dX8_letGoNow_41
      · have h := it_f c6 h
        refine lv_aload_n hx hb dX8_letGoNow_15 rfl (lv_at hl 0 rfl) ?_
        refine lv_iload_n hx hb dX8_letGoNow_16 rfl (lv_at hl 2 rfl) ?_
        refine iv_iconst hx hb dX8_letGoNow_17 ?_
        obtain ⟨u7, q8, h⟩ := bd_t h
        refine iv_callIf (As := [.int (zi v2), .int (zi 5)]) (rest := []) ⟨hx, hb, hml, hown, hts⟩ (k_X8_of l E a H.size v2 5 s3 u7 q8) (cwV 2 hts gX8_letGoNow_X8_of rfl rfl rfl (by decide +kernel) ⟨Nat.le_of_ble_eq_true rfl, Nat.le_of_ble_eq_true rfl⟩) hK hP hD hS hA 0 8 rfl rfl rfl hl.1 (Nat.le_of_ble_eq_true rfl) ⟨Nat.zero_le _, Nat.zero_le _⟩ dX8_letGoNow_18 (fun H locs hP hD hS => ?_)
        refine iv_iconst hx hb dX8_letGoNow_21 ?_
        obtain ⟨g9, h⟩ := gd_t h
        refine iv_ine (tgt := 34) hx hb g9 (by decide +kernel) dX8_letGoNow_22 (by decide) (fun c10 => ?_) (fun c10 => ?_)
        · have h := it_f c10 h
          refine lv_iinc (v := zi (v2 + 1)) (lv' := [(2, .int (zi (v2 + 1))), (0, .ref (a 0)), (1, .int (zi v1))]) hx hb dX8_letGoNow_34 hl (k := 2) rfl (by rw [zi_add]; rfl) (by decide) rfl (fun ls hl => ?_)
          refine lv_goto (tgt := 4) hx hb dX8_letGoNow_37 (by decide) ?_
          exact ih v1 (v2 + 1) u7.2 _ _ _ h hP hD hS (lv_sub hl [1, 2, 0] rfl)
        · have h := it_t c10 h
          refine lv_aload_n hx hb dX8_letGoNow_25 rfl (lv_at hl 0 rfl) ?_
          refine lv_iload_n hx hb dX8_letGoNow_26 rfl (lv_at hl 2 rfl) ?_
          refine iv_iconst hx hb dX8_letGoNow_27 ?_
          obtain ⟨u11, q12, h⟩ := bd_t h
          refine iv_callVf (As := [.int (zi v2), .int (zi 3)]) (rest := []) ⟨hx, hb, hml, hown, hts⟩ (k_X8_bring l E a H.size v2 3 u7.2 u11 q12) (cwV 2 hts gX8_letGoNow_X8_bring rfl rfl rfl (by decide +kernel) ⟨Nat.le_of_ble_eq_true rfl, Nat.le_of_ble_eq_true rfl⟩) hK hP hD hS hA 0 8 rfl rfl rfl hl.1 (Nat.le_of_ble_eq_true rfl) ⟨Nat.zero_le _, Nat.zero_le _⟩ dX8_letGoNow_28 (fun H locs hP hD hS => ?_)
          refine lv_iinc (v := zi (v1 + 1)) (lv' := [(1, .int (zi (v1 + 1))), (0, .ref (a 0)), (2, .int (zi v2))]) hx hb dX8_letGoNow_31 hl (k := 1) rfl (by rw [zi_add]; rfl) (by decide) rfl (fun ls hl => ?_)
          refine lv_iinc (v := zi (v2 + 1)) (lv' := [(2, .int (zi (v2 + 1))), (1, .int (zi (v1 + 1))), (0, .ref (a 0))]) hx hb dX8_letGoNow_34 hl (k := 2) rfl (by rw [zi_add]; rfl) (by decide) rfl (fun ls hl => ?_)
          refine lv_goto (tgt := 4) hx hb dX8_letGoNow_37 (by decide) ?_
          exact ih (v1 + 1) (v2 + 1) u11 _ _ _ h hP hD hS (lv_sub hl [2, 1, 0] rfl)
  have h := hf
  rw [f_X8_letGoNow] at h
  refine iv_iconst hx hb dX8_letGoNow_0 ?_
  refine lv_istore_n (lv' := [(1, .int (zi 0)), (0, .ref (a 0))]) hx hb dX8_letGoNow_1 rfl hl (by decide) rfl (fun ls hl => ?_)
  refine iv_iconst hx hb dX8_letGoNow_2 ?_
  refine lv_istore_n (lv' := [(2, .int (zi 0)), (1, .int (zi 0)), (0, .ref (a 0))]) hx hb dX8_letGoNow_3 rfl hl (by decide) rfl (fun ls hl => ?_)
  exact loop4 N 0 0 z _ _ _ h hP hD hS (lv_sub hl [2, 1, 0] rfl)
set_option maxRecDepth 20000 in
theorem wd_X8_classOf_f7 : Cond.fieldLink RX8 7 "ShirtButtonsModel" "row" "[I" ∈ wsX8_classOf := by decide +kernel
set_option maxRecDepth 20000 in
theorem in_X8_classOf_X8 : ∀ w ∈ u_ws RX8 TX8 13, w ∈ wsX8_classOf := by decide +kernel
set_option maxHeartbeats 4000000 in
set_option maxRecDepth 100000 in
theorem k_X8_classOf (l : Launch) (E : wE) (a : Nat → Nat) (sz : Nat) (x1 : Int) (z : bM) (u : (Int × bM)) (hf : f_X8_classOf x1 z = some u) : cI l yX8_classOf wsX8_classOf { frames := 1, cells := 0, slots := 0, locals := 22 } E sz [.ref (a 0), .int (zi x1)] (wM a E z) (wM a E u.2) u.1 := by
  refine met_go (cc := cX8_classOf) (maxL := 3) (ret := (some .int)) (Q0 := mQi E (wM a E u.2) u.1) (by decide +kernel) rfl (Nat.le_of_ble_eq_true rfl) ?_
  intro A p e s m below meth c hx hb hr hml hts hown hlocks hP hK hD hA hS ls hl
  have hl : lv_has ls 3 [(0, .ref (a 0)), (1, .int (zi x1))] := hl
  generalize hH : s.heap = H at hP
  have hS : va_S A s.heap H [] := by rw [← hH]; exact hS
  have hown : s.vm.findClass RX8 = some m.cls := hown
  have h := hf
  rw [f_X8_classOf] at h
  refine lv_aload_n hx hb dX8_classOf_0 rfl (lv_at hl 0 rfl) ?_
  refine lv_iload_n hx hb dX8_classOf_1 rfl (lv_at hl 1 rfl) ?_
  refine iv_iconst hx hb dX8_classOf_2 ?_
  obtain ⟨u1, q2, h⟩ := bd_t h
  refine iv_callIf (As := [.int (zi x1), .int (zi 1)]) (rest := []) ⟨hx, hb, hml, hown, hts⟩ (k_X8_of l E a H.size x1 1 z u1 q2) (cwV 2 hts gX8_classOf_X8_of rfl rfl rfl (by decide +kernel) ⟨Nat.le_of_ble_eq_true rfl, Nat.le_of_ble_eq_true rfl⟩) hK hP hD hS hA 0 8 rfl rfl rfl hl.1 (Nat.le_of_ble_eq_true rfl) ⟨Nat.zero_le _, Nat.zero_le _⟩ dX8_classOf_3 (fun H locs hP hD hS => ?_)
  refine lv_istore_n (lv' := [(2, .int (zi u1.1)), (0, .ref (a 0)), (1, .int (zi x1))]) hx hb dX8_classOf_6 rfl hl (by decide) rfl (fun ls hl => ?_)
  refine lv_iload_n hx hb dX8_classOf_7 rfl (lv_at hl 0 rfl) ?_
  refine lv_aload_n hx hb dX8_classOf_8 rfl (lv_at hl 1 rfl) ?_
  refine va_get (D := E.1) (ci := 8) (v := .ref (a 1)) (C := RX8) (T := TX8) (N := 13) hx hb hts in_X8_classOf_X8 hown hK.1 hP 0 rfl rfl 0 (by decide) (hts _ wd_X8_classOf_f7) (fun _ h9 => h9) rfl dX8_classOf_9 ?_
  refine iv_iconst hx hb dX8_classOf_12 ?_
  refine iv_iald (f := u1.2.1) (j := 0) hx hb hK.1 hP 1 0 rfl rfl (by decide) (by decide +kernel) rfl dX8_classOf_13 ?_
  obtain ⟨g3, h⟩ := gd_t h
  obtain ⟨g4, h⟩ := gd_t h
  refine iv_igt (tgt := 21) hx hb g3 g4 dX8_classOf_14 (by decide) (fun c5 => ?_) (fun c5 => ?_)
  · have h := it_t c5 h
    refine lv_iload_n hx hb dX8_classOf_21 rfl (lv_at hl 0 rfl) ?_
    refine lv_aload_n hx hb dX8_classOf_22 rfl (lv_at hl 1 rfl) ?_
    refine va_get (D := E.1) (ci := 8) (v := .ref (a 1)) (C := RX8) (T := TX8) (N := 13) hx hb hts in_X8_classOf_X8 hown hK.1 hP 0 rfl rfl 0 (by decide) (hts _ wd_X8_classOf_f7) (fun _ h9 => h9) rfl dX8_classOf_23 ?_
    refine iv_iconst hx hb dX8_classOf_26 ?_
    refine iv_iald (f := u1.2.1) (j := 1) hx hb hK.1 hP 1 0 rfl rfl (by decide) (by decide +kernel) rfl dX8_classOf_27 ?_
    obtain ⟨g6, h⟩ := gd_t h
    refine iv_igt (tgt := 35) hx hb g3 g6 dX8_classOf_28 (by decide) (fun c7 => ?_) (fun c7 => ?_)
    · have h := it_t c7 h
      refine iv_iconst hx hb dX8_classOf_35 ?_
      cases h
      exact iv_iret hx hb hr hlocks hK hP hD hS dX8_classOf_36
    · have h := it_f c7 h
      refine iv_iconst hx hb dX8_classOf_31 ?_
      refine lv_goto (tgt := 36) hx hb dX8_classOf_32 (by decide) ?_
      cases h
      exact iv_iret hx hb hr hlocks hK hP hD hS dX8_classOf_36
  · have h := it_f c5 h
    refine iv_iconst hx hb dX8_classOf_17 ?_
    refine lv_goto (tgt := 36) hx hb dX8_classOf_18 (by decide) ?_
    cases h
    exact iv_iret hx hb hr hlocks hK hP hD hS dX8_classOf_36
set_option maxHeartbeats 4000000 in
set_option maxRecDepth 100000 in
theorem k_X8_binOf (l : Launch) (E : wE) (a : Nat → Nat) (sz : Nat) (x1 : Int) (z : bM) (u : (Int × bM)) (hf : f_X8_binOf x1 z = some u) : cI l yX8_binOf wsX8_binOf { frames := 2, cells := 0, slots := 0, locals := 44 } E sz [.ref (a 0), .int (zi x1)] (wM a E z) (wM a E u.2) u.1 := by
  refine met_go (cc := cX8_binOf) (maxL := 2) (ret := (some .int)) (Q0 := mQi E (wM a E u.2) u.1) (by decide +kernel) rfl (Nat.le_of_ble_eq_true rfl) ?_
  intro A p e s m below meth c hx hb hr hml hts hown hlocks hP hK hD hA hS ls hl
  have hl : lv_has ls 2 [(0, .ref (a 0)), (1, .int (zi x1))] := hl
  generalize hH : s.heap = H at hP
  have hS : va_S A s.heap H [] := by rw [← hH]; exact hS
  have hown : s.vm.findClass RX8 = some m.cls := hown
  have h := hf
  rw [f_X8_binOf] at h
  refine iv_iconst hx hb dX8_binOf_0 ?_
  refine lv_aload_n hx hb dX8_binOf_1 rfl (lv_at hl 0 rfl) ?_
  refine lv_iload_n hx hb dX8_binOf_2 rfl (lv_at hl 1 rfl) ?_
  obtain ⟨u1, q2, h⟩ := bd_t h
  refine iv_callIf (As := [.int (zi x1)]) (rest := [.int (zi 4)]) ⟨hx, hb, hml, hown, hts⟩ (k_X8_classOf l E a H.size x1 z u1 q2) (cwV 1 hts gX8_binOf_X8_classOf rfl rfl rfl (by decide +kernel) ⟨Nat.le_of_ble_eq_true rfl, Nat.le_of_ble_eq_true rfl⟩) hK hP hD hS hA 0 8 rfl rfl rfl hl.1 (Nat.le_of_ble_eq_true rfl) ⟨Nat.zero_le _, Nat.zero_le _⟩ dX8_binOf_3 (fun H locs hP hD hS => ?_)
  refine iv_imul hx hb dX8_binOf_6 ?_
  refine lv_aload_n hx hb dX8_binOf_7 rfl (lv_at hl 0 rfl) ?_
  refine lv_iload_n hx hb dX8_binOf_8 rfl (lv_at hl 1 rfl) ?_
  refine iv_iconst hx hb dX8_binOf_9 ?_
  obtain ⟨u3, q4, h⟩ := bd_t h
  refine iv_callIf (As := [.int (zi x1), .int (zi 0)]) (rest := [.int (zi (4 * u1.1))]) ⟨hx, hb, hml, hown, hts⟩ (k_X8_of l E a H.size x1 0 u1.2 u3 q4) (cwV 2 hts gX8_binOf_X8_of rfl rfl rfl (by decide +kernel) ⟨Nat.le_of_ble_eq_true rfl, Nat.le_of_ble_eq_true rfl⟩) hK hP hD hS hA 0 8 rfl rfl rfl hl.1 (Nat.le_of_ble_eq_true rfl) ⟨Nat.zero_le _, Nat.zero_le _⟩ dX8_binOf_10 (fun H locs hP hD hS => ?_)
  refine iv_iadd hx hb dX8_binOf_13 ?_
  refine iv_iconst hx hb dX8_binOf_14 ?_
  refine iv_isub hx hb dX8_binOf_15 ?_
  cases h
  exact iv_iret hx hb hr hlocks hK hP hD hS dX8_binOf_16
set_option maxRecDepth 20000 in
theorem wd_X8_placeFor_f7 : Cond.fieldLink RX8 7 "ShirtButtonsModel" "row" "[I" ∈ wsX8_placeFor := by decide +kernel
set_option maxRecDepth 20000 in
theorem in_X8_placeFor_X8 : ∀ w ∈ u_ws RX8 TX8 13, w ∈ wsX8_placeFor := by decide +kernel
set_option maxHeartbeats 4000000 in
set_option maxRecDepth 100000 in
theorem k_X8_placeFor (l : Launch) (E : wE) (a : Nat → Nat) (sz : Nat) (x1 : Int) (z : bM) (u : (Int × bM)) (hf : f_X8_placeFor x1 z = some u) : cI l yX8_placeFor wsX8_placeFor { frames := 1, cells := 0, slots := 0, locals := 22 } E sz [.ref (a 0), .int (zi x1)] (wM a E z) (wM a E u.2) u.1 := by
  refine met_go (cc := cX8_placeFor) (maxL := 2) (ret := (some .int)) (Q0 := mQi E (wM a E u.2) u.1) (by decide +kernel) rfl (Nat.le_of_ble_eq_true rfl) ?_
  intro A p e s m below meth c hx hb hr hml hts hown hlocks hP hK hD hA hS ls hl
  have hl : lv_has ls 2 [(0, .ref (a 0)), (1, .int (zi x1))] := hl
  generalize hH : s.heap = H at hP
  have hS : va_S A s.heap H [] := by rw [← hH]; exact hS
  have hown : s.vm.findClass RX8 = some m.cls := hown
  have h := hf
  rw [f_X8_placeFor] at h
  refine lv_aload_n hx hb dX8_placeFor_0 rfl (lv_at hl 0 rfl) ?_
  refine lv_iload_n hx hb dX8_placeFor_1 rfl (lv_at hl 1 rfl) ?_
  refine iv_iconst hx hb dX8_placeFor_2 ?_
  obtain ⟨u1, q2, h⟩ := bd_t h
  refine iv_callIf (As := [.int (zi x1), .int (zi 3)]) (rest := []) ⟨hx, hb, hml, hown, hts⟩ (k_X8_of l E a H.size x1 3 z u1 q2) (cwV 2 hts gX8_placeFor_X8_of rfl rfl rfl (by decide +kernel) ⟨Nat.le_of_ble_eq_true rfl, Nat.le_of_ble_eq_true rfl⟩) hK hP hD hS hA 0 8 rfl rfl rfl hl.1 (Nat.le_of_ble_eq_true rfl) ⟨Nat.zero_le _, Nat.zero_le _⟩ dX8_placeFor_3 (fun H locs hP hD hS => ?_)
  refine lv_aload_n hx hb dX8_placeFor_6 rfl (lv_at hl 0 rfl) ?_
  refine va_get (D := E.1) (ci := 8) (v := .ref (a 1)) (C := RX8) (T := TX8) (N := 13) hx hb hts in_X8_placeFor_X8 hown hK.1 hP 0 rfl rfl 0 (by decide) (hts _ wd_X8_placeFor_f7) (fun _ h9 => h9) rfl dX8_placeFor_7 ?_
  refine iv_iconst hx hb dX8_placeFor_10 ?_
  refine iv_iald (f := u1.2.1) (j := 3) hx hb hK.1 hP 1 0 rfl rfl (by decide) (by decide +kernel) rfl dX8_placeFor_11 ?_
  obtain ⟨g3, h⟩ := gd_t h
  obtain ⟨g4, h⟩ := gd_t h
  refine iv_ile (tgt := 19) hx hb g3 g4 dX8_placeFor_12 (by decide) (fun c5 => ?_) (fun c5 => ?_)
  · have h := it_t c5 h
    refine lv_aload_n hx hb dX8_placeFor_19 rfl (lv_at hl 0 rfl) ?_
    refine lv_iload_n hx hb dX8_placeFor_20 rfl (lv_at hl 1 rfl) ?_
    refine iv_iconst hx hb dX8_placeFor_21 ?_
    obtain ⟨u6, q7, h⟩ := bd_t h
    refine iv_callIf (As := [.int (zi x1), .int (zi 2)]) (rest := []) ⟨hx, hb, hml, hown, hts⟩ (k_X8_of l E a H.size x1 2 u1.2 u6 q7) (cwV 2 hts gX8_placeFor_X8_of rfl rfl rfl (by decide +kernel) ⟨Nat.le_of_ble_eq_true rfl, Nat.le_of_ble_eq_true rfl⟩) hK hP hD hS hA 0 8 rfl rfl rfl hl.1 (Nat.le_of_ble_eq_true rfl) ⟨Nat.zero_le _, Nat.zero_le _⟩ dX8_placeFor_22 (fun H locs hP hD hS => ?_)
    refine lv_aload_n hx hb dX8_placeFor_25 rfl (lv_at hl 0 rfl) ?_
    refine va_get (D := E.1) (ci := 8) (v := .ref (a 1)) (C := RX8) (T := TX8) (N := 13) hx hb hts in_X8_placeFor_X8 hown hK.1 hP 0 rfl rfl 0 (by decide) (hts _ wd_X8_placeFor_f7) (fun _ h9 => h9) rfl dX8_placeFor_26 ?_
    refine iv_iconst hx hb dX8_placeFor_29 ?_
    refine iv_iald (f := u6.2.1) (j := 4) hx hb hK.1 hP 1 0 rfl rfl (by decide) (by decide +kernel) rfl dX8_placeFor_30 ?_
    obtain ⟨g8, h⟩ := gd_t h
    obtain ⟨g9, h⟩ := gd_t h
    refine iv_ilt (tgt := 38) hx hb g8 g9 dX8_placeFor_31 (by decide) (fun c10 => ?_) (fun c10 => ?_)
    · have h := it_t c10 h
      refine lv_aload_n hx hb dX8_placeFor_38 rfl (lv_at hl 0 rfl) ?_
      refine lv_iload_n hx hb dX8_placeFor_39 rfl (lv_at hl 1 rfl) ?_
      refine iv_iconst hx hb dX8_placeFor_40 ?_
      obtain ⟨u11, q12, h⟩ := bd_t h
      refine iv_callIf (As := [.int (zi x1), .int (zi 1)]) (rest := []) ⟨hx, hb, hml, hown, hts⟩ (k_X8_of l E a H.size x1 1 u6.2 u11 q12) (cwV 2 hts gX8_placeFor_X8_of rfl rfl rfl (by decide +kernel) ⟨Nat.le_of_ble_eq_true rfl, Nat.le_of_ble_eq_true rfl⟩) hK hP hD hS hA 0 8 rfl rfl rfl hl.1 (Nat.le_of_ble_eq_true rfl) ⟨Nat.zero_le _, Nat.zero_le _⟩ dX8_placeFor_41 (fun H locs hP hD hS => ?_)
      refine lv_aload_n hx hb dX8_placeFor_44 rfl (lv_at hl 0 rfl) ?_
      refine va_get (D := E.1) (ci := 8) (v := .ref (a 1)) (C := RX8) (T := TX8) (N := 13) hx hb hts in_X8_placeFor_X8 hown hK.1 hP 0 rfl rfl 0 (by decide) (hts _ wd_X8_placeFor_f7) (fun _ h9 => h9) rfl dX8_placeFor_45 ?_
      refine iv_iconst hx hb dX8_placeFor_48 ?_
      refine iv_iald (f := u11.2.1) (j := 2) hx hb hK.1 hP 1 0 rfl rfl (by decide) (by decide +kernel) rfl dX8_placeFor_49 ?_
      obtain ⟨g13, h⟩ := gd_t h
      obtain ⟨g14, h⟩ := gd_t h
      refine iv_ile (tgt := 57) hx hb g13 g14 dX8_placeFor_50 (by decide) (fun c15 => ?_) (fun c15 => ?_)
      · have h := it_t c15 h
        refine iv_iconst hx hb dX8_placeFor_57 ?_
        cases h
        exact iv_iret hx hb hr hlocks hK hP hD hS dX8_placeFor_58
      · have h := it_f c15 h
        refine iv_iconst hx hb dX8_placeFor_53 ?_
        refine lv_goto (tgt := 58) hx hb dX8_placeFor_54 (by decide) ?_
        cases h
        exact iv_iret hx hb hr hlocks hK hP hD hS dX8_placeFor_58
    · have h := it_f c10 h
      refine iv_iconst hx hb dX8_placeFor_34 ?_
      refine lv_goto (tgt := 58) hx hb dX8_placeFor_35 (by decide) ?_
      cases h
      exact iv_iret hx hb hr hlocks hK hP hD hS dX8_placeFor_58
  · have h := it_f c5 h
    refine iv_iconst hx hb dX8_placeFor_15 ?_
    refine lv_goto (tgt := 58) hx hb dX8_placeFor_16 (by decide) ?_
    cases h
    exact iv_iret hx hb hr hlocks hK hP hD hS dX8_placeFor_58
set_option maxRecDepth 20000 in
theorem wd_X8_sortOne_f7 : Cond.fieldLink RX8 7 "ShirtButtonsModel" "row" "[I" ∈ wsX8_sortOne := by decide +kernel
set_option maxRecDepth 20000 in
theorem in_X8_sortOne_X8 : ∀ w ∈ u_ws RX8 TX8 13, w ∈ wsX8_sortOne := by decide +kernel
set_option maxHeartbeats 4000000 in
set_option maxRecDepth 100000 in
theorem k_X8_sortOne (l : Launch) (E : wE) (a : Nat → Nat) (sz : Nat) (N : Nat) (z : bM) (u : bM) (hf : f_X8_sortOne N z = some u) : cV l yX8_sortOne wsX8_sortOne { frames := 3, cells := 0, slots := 0, locals := 67 } E sz [.ref (a 0)] (wM a E z) (wM a E u) := by
  refine met_go (cc := cX8_sortOne) (maxL := 4) (ret := none) (Q0 := mQv E (wM a E u)) (by decide +kernel) rfl (Nat.le_of_ble_eq_true rfl) ?_
  intro A p e s m below meth c hx hb hr hml hts hown hlocks hP hK hD hA hS ls hl
  have hl : lv_has ls 4 [(0, .ref (a 0))] := hl
  generalize hH : s.heap = H at hP
  have hS : va_S A s.heap H [] := by rw [← hH]; exact hS
  have hown : s.vm.findClass RX8 = some m.cls := hown
  have loop21 : ∀ (n : Nat) (v5 v6 : Int) (s7 : bM) (H : Heap) (locs : List Loc) (ls : Array Slot), f_X8_sortOne_L21 N n v5 v6 s7 = some u → va_P E.1 vwCl (wM a E s7) H → va_D A (wM a E s7) → va_S A s.heap H locs → lv_has ls 4 [(0, .ref (a 0)), (1, .int (zi v5)), (2, .int (zi v6))] → W p l e ({ frames := 3, cells := 0, slots := 0, locals := 67 }) s m ([.ref (a 0)] : List Value).toArray below meth c H locs 0 0 (MQ below (mQv E (wM a E u) A) ([.ref (a 0)] : List Value).toArray s 0 0 A) (F0 m 21 ls []) := by
    intro n
    induction n with
    | zero =>
      intro v5 v6 s7 H locs ls h
      exact absurd (show (none : Option bM) = some u from h) (by simp)
    | succ n ih =>
      intro v5 v6 s7 H locs ls h hP hD hS hl
      rw [f_X8_sortOne_L21] at h
      refine lv_iload_n hx hb dX8_sortOne_21 rfl (lv_at hl 2 rfl) ?_
      refine lv_aload_n hx hb dX8_sortOne_22 rfl (lv_at hl 0 rfl) ?_
      refine va_get (D := E.1) (ci := 8) (v := .ref (a 1)) (C := RX8) (T := TX8) (N := 13) hx hb hts in_X8_sortOne_X8 hown hK.1 hP 0 rfl rfl 0 (by decide) (hts _ wd_X8_sortOne_f7) (fun _ h9 => h9) rfl dX8_sortOne_23 ?_
      refine iv_bipush hx hb dX8_sortOne_26 (by decide +kernel) ?_
      refine iv_iald (f := s7.1) (j := 14) hx hb hK.1 hP 1 0 rfl rfl (by decide) (by decide +kernel) rfl dX8_sortOne_28 ?_
      obtain ⟨g8, h⟩ := gd_t h
      obtain ⟨g9, h⟩ := gd_t h
      refine iv_ige (tgt := 58) hx hb g8 g9 dX8_sortOne_29 (by decide) (fun c10 => ?_) (fun c10 => ?_)
      · have h := it_t c10 h
        refine lv_aload_n hx hb dX8_sortOne_58 rfl (lv_at hl 0 rfl) ?_
        refine va_get (D := E.1) (ci := 8) (v := .ref (a 1)) (C := RX8) (T := TX8) (N := 13) hx hb hts in_X8_sortOne_X8 hown hK.1 hP 0 rfl rfl 0 (by decide) (hts _ wd_X8_sortOne_f7) (fun _ h9 => h9) rfl dX8_sortOne_59 ?_
        refine iv_bipush hx hb dX8_sortOne_62 (by decide +kernel) ?_
        refine lv_aload_n hx hb dX8_sortOne_64 rfl (lv_at hl 0 rfl) ?_
        refine va_get (D := E.1) (ci := 8) (v := .ref (a 1)) (C := RX8) (T := TX8) (N := 13) hx hb hts in_X8_sortOne_X8 hown hK.1 hP 0 rfl rfl 0 (by decide) (hts _ wd_X8_sortOne_f7) (fun _ h9 => h9) rfl dX8_sortOne_65 ?_
        refine iv_bipush hx hb dX8_sortOne_68 (by decide +kernel) ?_
        refine iv_iald (f := s7.1) (j := 14) hx hb hK.1 hP 1 0 rfl rfl (by decide) (by decide +kernel) rfl dX8_sortOne_70 ?_
        refine iv_iadd hx hb dX8_sortOne_71 ?_
        refine iv_iconst hx hb dX8_sortOne_72 ?_
        obtain ⟨g11, h⟩ := gd_t h
        obtain ⟨s12, e13, h⟩ := nm_t h
        refine iv_iast (f := s7.1) (j := (15 + (s7.1 14)).toNat) (ws1 := wM a E s12) hx hb hK.1 hP hD hS 1 0 rfl rfl (by decide) g11 rfl (by rw [e13]; rfl) dX8_sortOne_73 (fun H locs hP hD hS => ?_)
        refine lv_aload_n hx hb dX8_sortOne_74 rfl (lv_at hl 0 rfl) ?_
        refine va_get (D := E.1) (ci := 8) (v := .ref (a 1)) (C := RX8) (T := TX8) (N := 13) hx hb hts in_X8_sortOne_X8 hown hK.1 hP 0 rfl rfl 0 (by decide) (hts _ wd_X8_sortOne_f7) (fun _ h9 => h9) rfl dX8_sortOne_75 ?_
        refine iv_bipush hx hb dX8_sortOne_78 (by decide +kernel) ?_
        refine lv_dup2_11 hx hb dX8_sortOne_80 rfl rfl ?_
        refine iv_iald (f := s12.1) (j := 10) hx hb hK.1 hP 1 0 rfl rfl (by decide) (by decide +kernel) rfl dX8_sortOne_81 ?_
        refine iv_iconst hx hb dX8_sortOne_82 ?_
        refine iv_iadd hx hb dX8_sortOne_83 ?_
        obtain ⟨s14, e15, h⟩ := nm_t h
        refine iv_iast (f := s12.1) (j := 10) (ws1 := wM a E s14) hx hb hK.1 hP hD hS 1 0 rfl rfl (by decide) (by decide +kernel) rfl (by rw [e15]; rfl) dX8_sortOne_84 (fun H locs hP hD hS => ?_)
        refine lv_aload_n hx hb dX8_sortOne_85 rfl (lv_at hl 0 rfl) ?_
        refine lv_iload_n hx hb dX8_sortOne_86 rfl (lv_at hl 1 rfl) ?_
        refine iv_bipush hx hb dX8_sortOne_87 (by decide +kernel) ?_
        refine lv_aload_n hx hb dX8_sortOne_89 rfl (lv_at hl 0 rfl) ?_
        refine lv_iload_n hx hb dX8_sortOne_90 rfl (lv_at hl 1 rfl) ?_
        refine iv_bipush hx hb dX8_sortOne_91 (by decide +kernel) ?_
        obtain ⟨u16, q17, h⟩ := bd_t h
        refine iv_callIf (As := [.int (zi v5), .int (zi 8)]) (rest := [.int (zi 8), .int (zi v5), .ref (a 0)]) ⟨hx, hb, hml, hown, hts⟩ (k_X8_of l E a H.size v5 8 s14 u16 q17) (cwV 2 hts gX8_sortOne_X8_of rfl rfl rfl (by decide +kernel) ⟨Nat.le_of_ble_eq_true rfl, Nat.le_of_ble_eq_true rfl⟩) hK hP hD hS hA 0 8 rfl rfl rfl hl.1 (Nat.le_of_ble_eq_true rfl) ⟨Nat.zero_le _, Nat.zero_le _⟩ dX8_sortOne_93 (fun H locs hP hD hS => ?_)
        refine iv_iconst hx hb dX8_sortOne_96 ?_
        refine iv_iadd hx hb dX8_sortOne_97 ?_
        obtain ⟨u18, q19, h⟩ := bd_t h
        refine iv_callVf (As := [.int (zi v5), .int (zi 8), .int (zi (u16.1 + 1))]) (rest := []) ⟨hx, hb, hml, hown, hts⟩ (k_X8_put l E a H.size v5 8 (u16.1 + 1) u16.2 u18 q19) (cwV 3 hts gX8_sortOne_X8_put rfl rfl rfl (by decide +kernel) ⟨Nat.le_of_ble_eq_true rfl, Nat.le_of_ble_eq_true rfl⟩) hK hP hD hS hA 0 8 rfl rfl rfl hl.1 (Nat.le_of_ble_eq_true rfl) ⟨Nat.zero_le _, Nat.zero_le _⟩ dX8_sortOne_98 (fun H locs hP hD hS => ?_)
        refine lv_aload_n hx hb dX8_sortOne_101 rfl (lv_at hl 0 rfl) ?_
        refine lv_iload_n hx hb dX8_sortOne_102 rfl (lv_at hl 1 rfl) ?_
        obtain ⟨u20, q21, h⟩ := bd_t h
        refine iv_callIf (As := [.int (zi v5)]) (rest := []) ⟨hx, hb, hml, hown, hts⟩ (k_X8_placeFor l E a H.size v5 u18 u20 q21) (cwV 1 hts gX8_sortOne_X8_placeFor rfl rfl rfl (by decide +kernel) ⟨Nat.le_of_ble_eq_true rfl, Nat.le_of_ble_eq_true rfl⟩) hK hP hD hS hA 0 8 rfl rfl rfl hl.1 (Nat.le_of_ble_eq_true rfl) ⟨Nat.zero_le _, Nat.zero_le _⟩ dX8_sortOne_103 (fun H locs hP hD hS => ?_)
        refine lv_istore_n (lv' := [(2, .int (zi u20.1)), (0, .ref (a 0)), (1, .int (zi v5))]) hx hb dX8_sortOne_106 rfl hl (by decide) rfl (fun ls hl => ?_)
        refine lv_iload_n hx hb dX8_sortOne_107 rfl (lv_at hl 0 rfl) ?_
        refine iv_iconst hx hb dX8_sortOne_108 ?_
        obtain ⟨g22, h⟩ := gd_t h
        refine iv_ieq (tgt := 143) hx hb g22 (by decide +kernel) dX8_sortOne_109 (by decide) (fun c23 => ?_) (fun c23 => ?_)
        · have h := it_t c23 h
          refine lv_aload_n hx hb dX8_sortOne_143 rfl (lv_at hl 1 rfl) ?_
          refine lv_iload_n hx hb dX8_sortOne_144 rfl (lv_at hl 2 rfl) ?_
          refine iv_iconst hx hb dX8_sortOne_145 ?_
          obtain ⟨u24, q25, h⟩ := bd_t h
          refine iv_callIf (As := [.int (zi v5), .int (zi 1)]) (rest := []) ⟨hx, hb, hml, hown, hts⟩ (k_X8_of l E a H.size v5 1 u20.2 u24 q25) (cwV 2 hts gX8_sortOne_X8_of rfl rfl rfl (by decide +kernel) ⟨Nat.le_of_ble_eq_true rfl, Nat.le_of_ble_eq_true rfl⟩) hK hP hD hS hA 0 8 rfl rfl rfl hl.1 (Nat.le_of_ble_eq_true rfl) ⟨Nat.zero_le _, Nat.zero_le _⟩ dX8_sortOne_146 (fun H locs hP hD hS => ?_)
          refine lv_aload_n hx hb dX8_sortOne_149 rfl (lv_at hl 1 rfl) ?_
          refine va_get (D := E.1) (ci := 8) (v := .ref (a 1)) (C := RX8) (T := TX8) (N := 13) hx hb hts in_X8_sortOne_X8 hown hK.1 hP 0 rfl rfl 0 (by decide) (hts _ wd_X8_sortOne_f7) (fun _ h9 => h9) rfl dX8_sortOne_150 ?_
          refine lv_aload_n hx hb dX8_sortOne_153 rfl (lv_at hl 1 rfl) ?_
          refine lv_iload_n hx hb dX8_sortOne_154 rfl (lv_at hl 2 rfl) ?_
          obtain ⟨u26, q27, h⟩ := bd_t h
          refine iv_callIf (As := [.int (zi v5)]) (rest := [.ref (a 1), .int (zi u24.1)]) ⟨hx, hb, hml, hown, hts⟩ (k_X8_classOf l E a H.size v5 u24.2 u26 q27) (cwV 1 hts gX8_sortOne_X8_classOf rfl rfl rfl (by decide +kernel) ⟨Nat.le_of_ble_eq_true rfl, Nat.le_of_ble_eq_true rfl⟩) hK hP hD hS hA 0 8 rfl rfl rfl hl.1 (Nat.le_of_ble_eq_true rfl) ⟨Nat.zero_le _, Nat.zero_le _⟩ dX8_sortOne_155 (fun H locs hP hD hS => ?_)
          obtain ⟨g28, h⟩ := gd_t h
          refine iv_iald (f := u26.2.1) (j := u26.1.toNat) hx hb hK.1 hP 1 0 rfl rfl (by decide) g28 rfl dX8_sortOne_158 ?_
          obtain ⟨g29, h⟩ := gd_t h
          obtain ⟨g30, h⟩ := gd_t h
          refine iv_ine (tgt := 203) hx hb g29 g30 dX8_sortOne_159 (by decide) (fun c31 => ?_) (fun c31 => ?_)
          · have h := it_f c31 h
            refine lv_aload_n hx hb dX8_sortOne_203 rfl (lv_at hl 1 rfl) ?_
            refine lv_aload_n hx hb dX8_sortOne_204 rfl (lv_at hl 1 rfl) ?_
            refine lv_iload_n hx hb dX8_sortOne_205 rfl (lv_at hl 2 rfl) ?_
            obtain ⟨u32, q33, h⟩ := bd_t h
            refine iv_callIf (As := [.int (zi v5)]) (rest := [.ref (a 0)]) ⟨hx, hb, hml, hown, hts⟩ (k_X8_binOf l E a H.size v5 u26.2 u32 q33) (cwV 1 hts gX8_sortOne_X8_binOf rfl rfl rfl (by decide +kernel) ⟨Nat.le_of_ble_eq_true rfl, Nat.le_of_ble_eq_true rfl⟩) hK hP hD hS hA 0 8 rfl rfl rfl hl.1 (Nat.le_of_ble_eq_true rfl) ⟨Nat.zero_le _, Nat.zero_le _⟩ dX8_sortOne_206 (fun H locs hP hD hS => ?_)
            obtain ⟨u34, q35, h⟩ := bd_t h
            refine iv_callIf (As := [.int (zi u32.1)]) (rest := []) ⟨hx, hb, hml, hown, hts⟩ (k_X8_manyIn l E a H.size N u32.1 u32.2 u34 q35) (cwV 1 hts gX8_sortOne_X8_manyIn rfl rfl rfl (by decide +kernel) ⟨Nat.le_of_ble_eq_true rfl, Nat.le_of_ble_eq_true rfl⟩) hK hP hD hS hA 0 8 rfl rfl rfl hl.1 (Nat.le_of_ble_eq_true rfl) ⟨Nat.zero_le _, Nat.zero_le _⟩ dX8_sortOne_209 (fun H locs hP hD hS => ?_)
            refine lv_aload_n hx hb dX8_sortOne_212 rfl (lv_at hl 1 rfl) ?_
            refine va_get (D := E.1) (ci := 8) (v := .ref (a 1)) (C := RX8) (T := TX8) (N := 13) hx hb hts in_X8_sortOne_X8 hown hK.1 hP 0 rfl rfl 0 (by decide) (hts _ wd_X8_sortOne_f7) (fun _ h9 => h9) rfl dX8_sortOne_213 ?_
            refine iv_bipush hx hb dX8_sortOne_216 (by decide +kernel) ?_
            refine iv_iald (f := u34.2.1) (j := 6) hx hb hK.1 hP 1 0 rfl rfl (by decide) (by decide +kernel) rfl dX8_sortOne_218 ?_
            obtain ⟨g36, h⟩ := gd_t h
            obtain ⟨g37, h⟩ := gd_t h
            refine iv_ige (tgt := 244) hx hb g36 g37 dX8_sortOne_219 (by decide) (fun c38 => ?_) (fun c38 => ?_)
            · have h := it_t c38 h
              refine lv_aload_n hx hb dX8_sortOne_244 rfl (lv_at hl 1 rfl) ?_
              refine lv_iload_n hx hb dX8_sortOne_245 rfl (lv_at hl 2 rfl) ?_
              obtain ⟨u39, q40, h⟩ := bd_t h
              refine iv_callVf (As := [.int (zi v5)]) (rest := []) ⟨hx, hb, hml, hown, hts⟩ (k_X8_toHopper l E a H.size v5 u34.2 u39 q40) (cwV 1 hts gX8_sortOne_X8_toHopper rfl rfl rfl (by decide +kernel) ⟨Nat.le_of_ble_eq_true rfl, Nat.le_of_ble_eq_true rfl⟩) hK hP hD hS hA 0 8 rfl rfl rfl hl.1 (Nat.le_of_ble_eq_true rfl) ⟨Nat.zero_le _, Nat.zero_le _⟩ dX8_sortOne_246 (fun H locs hP hD hS => ?_)
              refine lv_aload_n hx hb dX8_sortOne_249 rfl (lv_at hl 1 rfl) ?_
              refine va_get (D := E.1) (ci := 8) (v := .ref (a 1)) (C := RX8) (T := TX8) (N := 13) hx hb hts in_X8_sortOne_X8 hown hK.1 hP 0 rfl rfl 0 (by decide) (hts _ wd_X8_sortOne_f7) (fun _ h9 => h9) rfl dX8_sortOne_250 ?_
              refine iv_bipush hx hb dX8_sortOne_253 (by decide +kernel) ?_
              refine lv_dup2_11 hx hb dX8_sortOne_255 rfl rfl ?_
              refine iv_iald (f := u39.1) (j := 11) hx hb hK.1 hP 1 0 rfl rfl (by decide) (by decide +kernel) rfl dX8_sortOne_256 ?_
              refine iv_iconst hx hb dX8_sortOne_257 ?_
              refine iv_iadd hx hb dX8_sortOne_258 ?_
              obtain ⟨s41, e42, h⟩ := nm_t h
              refine iv_iast (f := u39.1) (j := 11) (ws1 := wM a E s41) hx hb hK.1 hP hD hS 1 0 rfl rfl (by decide) (by decide +kernel) rfl (by rw [e42]; rfl) dX8_sortOne_259 (fun H locs hP hD hS => ?_)
              cases h
              exact iv_vret hx hb hr hlocks hK hP hD hS dX8_sortOne_260
            · have h := it_f c38 h
              refine lv_aload_n hx hb dX8_sortOne_222 rfl (lv_at hl 1 rfl) ?_
              refine lv_iload_n hx hb dX8_sortOne_223 rfl (lv_at hl 2 rfl) ?_
              refine iv_iconst hx hb dX8_sortOne_224 ?_
              refine iv_iconst hx hb dX8_sortOne_225 ?_
              obtain ⟨u43, q44, h⟩ := bd_t h
              refine iv_callVf (As := [.int (zi v5), .int (zi 5), .int (zi 5)]) (rest := []) ⟨hx, hb, hml, hown, hts⟩ (k_X8_put l E a H.size v5 5 5 u34.2 u43 q44) (cwV 3 hts gX8_sortOne_X8_put rfl rfl rfl (by decide +kernel) ⟨Nat.le_of_ble_eq_true rfl, Nat.le_of_ble_eq_true rfl⟩) hK hP hD hS hA 0 8 rfl rfl rfl hl.1 (Nat.le_of_ble_eq_true rfl) ⟨Nat.zero_le _, Nat.zero_le _⟩ dX8_sortOne_226 (fun H locs hP hD hS => ?_)
              refine lv_aload_n hx hb dX8_sortOne_229 rfl (lv_at hl 1 rfl) ?_
              refine lv_iload_n hx hb dX8_sortOne_230 rfl (lv_at hl 2 rfl) ?_
              refine iv_bipush hx hb dX8_sortOne_231 (by decide +kernel) ?_
              refine lv_aload_n hx hb dX8_sortOne_233 rfl (lv_at hl 1 rfl) ?_
              refine lv_iload_n hx hb dX8_sortOne_234 rfl (lv_at hl 2 rfl) ?_
              obtain ⟨u45, q46, h⟩ := bd_t h
              refine iv_callIf (As := [.int (zi v5)]) (rest := [.int (zi 6), .int (zi v5), .ref (a 0)]) ⟨hx, hb, hml, hown, hts⟩ (k_X8_binOf l E a H.size v5 u43 u45 q46) (cwV 1 hts gX8_sortOne_X8_binOf rfl rfl rfl (by decide +kernel) ⟨Nat.le_of_ble_eq_true rfl, Nat.le_of_ble_eq_true rfl⟩) hK hP hD hS hA 0 8 rfl rfl rfl hl.1 (Nat.le_of_ble_eq_true rfl) ⟨Nat.zero_le _, Nat.zero_le _⟩ dX8_sortOne_235 (fun H locs hP hD hS => ?_)
              obtain ⟨u47, q48, h⟩ := bd_t h
              refine iv_callVf (As := [.int (zi v5), .int (zi 6), .int (zi u45.1)]) (rest := []) ⟨hx, hb, hml, hown, hts⟩ (k_X8_put l E a H.size v5 6 u45.1 u45.2 u47 q48) (cwV 3 hts gX8_sortOne_X8_put rfl rfl rfl (by decide +kernel) ⟨Nat.le_of_ble_eq_true rfl, Nat.le_of_ble_eq_true rfl⟩) hK hP hD hS hA 0 8 rfl rfl rfl hl.1 (Nat.le_of_ble_eq_true rfl) ⟨Nat.zero_le _, Nat.zero_le _⟩ dX8_sortOne_238 (fun H locs hP hD hS => ?_)
              refine lv_goto (tgt := 260) hx hb dX8_sortOne_241 (by decide) ?_
              cases h
              exact iv_vret hx hb hr hlocks hK hP hD hS dX8_sortOne_260
          · have h := it_t c31 h
            refine lv_aload_n hx hb dX8_sortOne_162 rfl (lv_at hl 1 rfl) ?_
            refine lv_iload_n hx hb dX8_sortOne_163 rfl (lv_at hl 2 rfl) ?_
            refine iv_iconst hx hb dX8_sortOne_164 ?_
            refine lv_aload_n hx hb dX8_sortOne_165 rfl (lv_at hl 1 rfl) ?_
            refine lv_iload_n hx hb dX8_sortOne_166 rfl (lv_at hl 2 rfl) ?_
            refine iv_iconst hx hb dX8_sortOne_167 ?_
            obtain ⟨u49, q50, h⟩ := bd_t h
            refine iv_callIf (As := [.int (zi v5), .int (zi 3)]) (rest := [.int (zi 3), .int (zi v5), .ref (a 0)]) ⟨hx, hb, hml, hown, hts⟩ (k_X8_of l E a H.size v5 3 u26.2 u49 q50) (cwV 2 hts gX8_sortOne_X8_of rfl rfl rfl (by decide +kernel) ⟨Nat.le_of_ble_eq_true rfl, Nat.le_of_ble_eq_true rfl⟩) hK hP hD hS hA 0 8 rfl rfl rfl hl.1 (Nat.le_of_ble_eq_true rfl) ⟨Nat.zero_le _, Nat.zero_le _⟩ dX8_sortOne_168 (fun H locs hP hD hS => ?_)
            refine iv_bipush hx hb dX8_sortOne_171 (by decide +kernel) ?_
            obtain ⟨g51, h⟩ := gd_t h
            refine iv_ige (tgt := 187) hx hb g51 (by decide +kernel) dX8_sortOne_173 (by decide) (fun c52 => ?_) (fun c52 => ?_)
            · have h := it_t c52 h
              refine iv_bipush hx hb dX8_sortOne_187 (by decide +kernel) ?_
              obtain ⟨u53, q54, h⟩ := bd_t h
              refine iv_callVf (As := [.int (zi v5), .int (zi 3), .int (zi 9)]) (rest := []) ⟨hx, hb, hml, hown, hts⟩ (k_X8_put l E a H.size v5 3 9 u49.2 u53 q54) (cwV 3 hts gX8_sortOne_X8_put rfl rfl rfl (by decide +kernel) ⟨Nat.le_of_ble_eq_true rfl, Nat.le_of_ble_eq_true rfl⟩) hK hP hD hS hA 0 8 rfl rfl rfl hl.1 (Nat.le_of_ble_eq_true rfl) ⟨Nat.zero_le _, Nat.zero_le _⟩ dX8_sortOne_189 (fun H locs hP hD hS => ?_)
              refine lv_aload_n hx hb dX8_sortOne_192 rfl (lv_at hl 1 rfl) ?_
              refine va_get (D := E.1) (ci := 8) (v := .ref (a 1)) (C := RX8) (T := TX8) (N := 13) hx hb hts in_X8_sortOne_X8 hown hK.1 hP 0 rfl rfl 0 (by decide) (hts _ wd_X8_sortOne_f7) (fun _ h9 => h9) rfl dX8_sortOne_193 ?_
              refine iv_bipush hx hb dX8_sortOne_196 (by decide +kernel) ?_
              refine lv_dup2_11 hx hb dX8_sortOne_198 rfl rfl ?_
              refine iv_iald (f := u53.1) (j := 12) hx hb hK.1 hP 1 0 rfl rfl (by decide) (by decide +kernel) rfl dX8_sortOne_199 ?_
              refine iv_iconst hx hb dX8_sortOne_200 ?_
              refine iv_iadd hx hb dX8_sortOne_201 ?_
              obtain ⟨s55, e56, h⟩ := nm_t h
              refine iv_iast (f := u53.1) (j := 12) (ws1 := wM a E s55) hx hb hK.1 hP hD hS 1 0 rfl rfl (by decide) (by decide +kernel) rfl (by rw [e56]; rfl) dX8_sortOne_202 (fun H locs hP hD hS => ?_)
              refine lv_aload_n hx hb dX8_sortOne_203 rfl (lv_at hl 1 rfl) ?_
              refine lv_aload_n hx hb dX8_sortOne_204 rfl (lv_at hl 1 rfl) ?_
              refine lv_iload_n hx hb dX8_sortOne_205 rfl (lv_at hl 2 rfl) ?_
              obtain ⟨u57, q58, h⟩ := bd_t h
              refine iv_callIf (As := [.int (zi v5)]) (rest := [.ref (a 0)]) ⟨hx, hb, hml, hown, hts⟩ (k_X8_binOf l E a H.size v5 s55 u57 q58) (cwV 1 hts gX8_sortOne_X8_binOf rfl rfl rfl (by decide +kernel) ⟨Nat.le_of_ble_eq_true rfl, Nat.le_of_ble_eq_true rfl⟩) hK hP hD hS hA 0 8 rfl rfl rfl hl.1 (Nat.le_of_ble_eq_true rfl) ⟨Nat.zero_le _, Nat.zero_le _⟩ dX8_sortOne_206 (fun H locs hP hD hS => ?_)
              obtain ⟨u59, q60, h⟩ := bd_t h
              refine iv_callIf (As := [.int (zi u57.1)]) (rest := []) ⟨hx, hb, hml, hown, hts⟩ (k_X8_manyIn l E a H.size N u57.1 u57.2 u59 q60) (cwV 1 hts gX8_sortOne_X8_manyIn rfl rfl rfl (by decide +kernel) ⟨Nat.le_of_ble_eq_true rfl, Nat.le_of_ble_eq_true rfl⟩) hK hP hD hS hA 0 8 rfl rfl rfl hl.1 (Nat.le_of_ble_eq_true rfl) ⟨Nat.zero_le _, Nat.zero_le _⟩ dX8_sortOne_209 (fun H locs hP hD hS => ?_)
              refine lv_aload_n hx hb dX8_sortOne_212 rfl (lv_at hl 1 rfl) ?_
              refine va_get (D := E.1) (ci := 8) (v := .ref (a 1)) (C := RX8) (T := TX8) (N := 13) hx hb hts in_X8_sortOne_X8 hown hK.1 hP 0 rfl rfl 0 (by decide) (hts _ wd_X8_sortOne_f7) (fun _ h9 => h9) rfl dX8_sortOne_213 ?_
              refine iv_bipush hx hb dX8_sortOne_216 (by decide +kernel) ?_
              refine iv_iald (f := u59.2.1) (j := 6) hx hb hK.1 hP 1 0 rfl rfl (by decide) (by decide +kernel) rfl dX8_sortOne_218 ?_
              obtain ⟨g61, h⟩ := gd_t h
              obtain ⟨g62, h⟩ := gd_t h
              refine iv_ige (tgt := 244) hx hb g61 g62 dX8_sortOne_219 (by decide) (fun c63 => ?_) (fun c63 => ?_)
              · have h := it_t c63 h
                refine lv_aload_n hx hb dX8_sortOne_244 rfl (lv_at hl 1 rfl) ?_
                refine lv_iload_n hx hb dX8_sortOne_245 rfl (lv_at hl 2 rfl) ?_
                obtain ⟨u64, q65, h⟩ := bd_t h
                refine iv_callVf (As := [.int (zi v5)]) (rest := []) ⟨hx, hb, hml, hown, hts⟩ (k_X8_toHopper l E a H.size v5 u59.2 u64 q65) (cwV 1 hts gX8_sortOne_X8_toHopper rfl rfl rfl (by decide +kernel) ⟨Nat.le_of_ble_eq_true rfl, Nat.le_of_ble_eq_true rfl⟩) hK hP hD hS hA 0 8 rfl rfl rfl hl.1 (Nat.le_of_ble_eq_true rfl) ⟨Nat.zero_le _, Nat.zero_le _⟩ dX8_sortOne_246 (fun H locs hP hD hS => ?_)
                refine lv_aload_n hx hb dX8_sortOne_249 rfl (lv_at hl 1 rfl) ?_
                refine va_get (D := E.1) (ci := 8) (v := .ref (a 1)) (C := RX8) (T := TX8) (N := 13) hx hb hts in_X8_sortOne_X8 hown hK.1 hP 0 rfl rfl 0 (by decide) (hts _ wd_X8_sortOne_f7) (fun _ h9 => h9) rfl dX8_sortOne_250 ?_
                refine iv_bipush hx hb dX8_sortOne_253 (by decide +kernel) ?_
                refine lv_dup2_11 hx hb dX8_sortOne_255 rfl rfl ?_
                refine iv_iald (f := u64.1) (j := 11) hx hb hK.1 hP 1 0 rfl rfl (by decide) (by decide +kernel) rfl dX8_sortOne_256 ?_
                refine iv_iconst hx hb dX8_sortOne_257 ?_
                refine iv_iadd hx hb dX8_sortOne_258 ?_
                obtain ⟨s66, e67, h⟩ := nm_t h
                refine iv_iast (f := u64.1) (j := 11) (ws1 := wM a E s66) hx hb hK.1 hP hD hS 1 0 rfl rfl (by decide) (by decide +kernel) rfl (by rw [e67]; rfl) dX8_sortOne_259 (fun H locs hP hD hS => ?_)
                cases h
                exact iv_vret hx hb hr hlocks hK hP hD hS dX8_sortOne_260
              · have h := it_f c63 h
                refine lv_aload_n hx hb dX8_sortOne_222 rfl (lv_at hl 1 rfl) ?_
                refine lv_iload_n hx hb dX8_sortOne_223 rfl (lv_at hl 2 rfl) ?_
                refine iv_iconst hx hb dX8_sortOne_224 ?_
                refine iv_iconst hx hb dX8_sortOne_225 ?_
                obtain ⟨u68, q69, h⟩ := bd_t h
                refine iv_callVf (As := [.int (zi v5), .int (zi 5), .int (zi 5)]) (rest := []) ⟨hx, hb, hml, hown, hts⟩ (k_X8_put l E a H.size v5 5 5 u59.2 u68 q69) (cwV 3 hts gX8_sortOne_X8_put rfl rfl rfl (by decide +kernel) ⟨Nat.le_of_ble_eq_true rfl, Nat.le_of_ble_eq_true rfl⟩) hK hP hD hS hA 0 8 rfl rfl rfl hl.1 (Nat.le_of_ble_eq_true rfl) ⟨Nat.zero_le _, Nat.zero_le _⟩ dX8_sortOne_226 (fun H locs hP hD hS => ?_)
                refine lv_aload_n hx hb dX8_sortOne_229 rfl (lv_at hl 1 rfl) ?_
                refine lv_iload_n hx hb dX8_sortOne_230 rfl (lv_at hl 2 rfl) ?_
                refine iv_bipush hx hb dX8_sortOne_231 (by decide +kernel) ?_
                refine lv_aload_n hx hb dX8_sortOne_233 rfl (lv_at hl 1 rfl) ?_
                refine lv_iload_n hx hb dX8_sortOne_234 rfl (lv_at hl 2 rfl) ?_
                obtain ⟨u70, q71, h⟩ := bd_t h
                refine iv_callIf (As := [.int (zi v5)]) (rest := [.int (zi 6), .int (zi v5), .ref (a 0)]) ⟨hx, hb, hml, hown, hts⟩ (k_X8_binOf l E a H.size v5 u68 u70 q71) (cwV 1 hts gX8_sortOne_X8_binOf rfl rfl rfl (by decide +kernel) ⟨Nat.le_of_ble_eq_true rfl, Nat.le_of_ble_eq_true rfl⟩) hK hP hD hS hA 0 8 rfl rfl rfl hl.1 (Nat.le_of_ble_eq_true rfl) ⟨Nat.zero_le _, Nat.zero_le _⟩ dX8_sortOne_235 (fun H locs hP hD hS => ?_)
                obtain ⟨u72, q73, h⟩ := bd_t h
                refine iv_callVf (As := [.int (zi v5), .int (zi 6), .int (zi u70.1)]) (rest := []) ⟨hx, hb, hml, hown, hts⟩ (k_X8_put l E a H.size v5 6 u70.1 u70.2 u72 q73) (cwV 3 hts gX8_sortOne_X8_put rfl rfl rfl (by decide +kernel) ⟨Nat.le_of_ble_eq_true rfl, Nat.le_of_ble_eq_true rfl⟩) hK hP hD hS hA 0 8 rfl rfl rfl hl.1 (Nat.le_of_ble_eq_true rfl) ⟨Nat.zero_le _, Nat.zero_le _⟩ dX8_sortOne_238 (fun H locs hP hD hS => ?_)
                refine lv_goto (tgt := 260) hx hb dX8_sortOne_241 (by decide) ?_
                cases h
                exact iv_vret hx hb hr hlocks hK hP hD hS dX8_sortOne_260
            · have h := it_f c52 h
              refine lv_aload_n hx hb dX8_sortOne_176 rfl (lv_at hl 1 rfl) ?_
              refine lv_iload_n hx hb dX8_sortOne_177 rfl (lv_at hl 2 rfl) ?_
              refine iv_iconst hx hb dX8_sortOne_178 ?_
              obtain ⟨u74, q75, h⟩ := bd_t h
              refine iv_callIf (As := [.int (zi v5), .int (zi 3)]) (rest := [.int (zi 3), .int (zi v5), .ref (a 0)]) ⟨hx, hb, hml, hown, hts⟩ (k_X8_of l E a H.size v5 3 u49.2 u74 q75) (cwV 2 hts gX8_sortOne_X8_of rfl rfl rfl (by decide +kernel) ⟨Nat.le_of_ble_eq_true rfl, Nat.le_of_ble_eq_true rfl⟩) hK hP hD hS hA 0 8 rfl rfl rfl hl.1 (Nat.le_of_ble_eq_true rfl) ⟨Nat.zero_le _, Nat.zero_le _⟩ dX8_sortOne_179 (fun H locs hP hD hS => ?_)
              refine iv_iconst hx hb dX8_sortOne_182 ?_
              refine iv_iadd hx hb dX8_sortOne_183 ?_
              refine lv_goto (tgt := 189) hx hb dX8_sortOne_184 (by decide) ?_
              obtain ⟨u76, q77, h⟩ := bd_t h
              refine iv_callVf (As := [.int (zi v5), .int (zi 3), .int (zi (u74.1 + 1))]) (rest := []) ⟨hx, hb, hml, hown, hts⟩ (k_X8_put l E a H.size v5 3 (u74.1 + 1) u74.2 u76 q77) (cwV 3 hts gX8_sortOne_X8_put rfl rfl rfl (by decide +kernel) ⟨Nat.le_of_ble_eq_true rfl, Nat.le_of_ble_eq_true rfl⟩) hK hP hD hS hA 0 8 rfl rfl rfl hl.1 (Nat.le_of_ble_eq_true rfl) ⟨Nat.zero_le _, Nat.zero_le _⟩ dX8_sortOne_189 (fun H locs hP hD hS => ?_)
              refine lv_aload_n hx hb dX8_sortOne_192 rfl (lv_at hl 1 rfl) ?_
              refine va_get (D := E.1) (ci := 8) (v := .ref (a 1)) (C := RX8) (T := TX8) (N := 13) hx hb hts in_X8_sortOne_X8 hown hK.1 hP 0 rfl rfl 0 (by decide) (hts _ wd_X8_sortOne_f7) (fun _ h9 => h9) rfl dX8_sortOne_193 ?_
              refine iv_bipush hx hb dX8_sortOne_196 (by decide +kernel) ?_
              refine lv_dup2_11 hx hb dX8_sortOne_198 rfl rfl ?_
              refine iv_iald (f := u76.1) (j := 12) hx hb hK.1 hP 1 0 rfl rfl (by decide) (by decide +kernel) rfl dX8_sortOne_199 ?_
              refine iv_iconst hx hb dX8_sortOne_200 ?_
              refine iv_iadd hx hb dX8_sortOne_201 ?_
              obtain ⟨s78, e79, h⟩ := nm_t h
              refine iv_iast (f := u76.1) (j := 12) (ws1 := wM a E s78) hx hb hK.1 hP hD hS 1 0 rfl rfl (by decide) (by decide +kernel) rfl (by rw [e79]; rfl) dX8_sortOne_202 (fun H locs hP hD hS => ?_)
              refine lv_aload_n hx hb dX8_sortOne_203 rfl (lv_at hl 1 rfl) ?_
              refine lv_aload_n hx hb dX8_sortOne_204 rfl (lv_at hl 1 rfl) ?_
              refine lv_iload_n hx hb dX8_sortOne_205 rfl (lv_at hl 2 rfl) ?_
              obtain ⟨u80, q81, h⟩ := bd_t h
              refine iv_callIf (As := [.int (zi v5)]) (rest := [.ref (a 0)]) ⟨hx, hb, hml, hown, hts⟩ (k_X8_binOf l E a H.size v5 s78 u80 q81) (cwV 1 hts gX8_sortOne_X8_binOf rfl rfl rfl (by decide +kernel) ⟨Nat.le_of_ble_eq_true rfl, Nat.le_of_ble_eq_true rfl⟩) hK hP hD hS hA 0 8 rfl rfl rfl hl.1 (Nat.le_of_ble_eq_true rfl) ⟨Nat.zero_le _, Nat.zero_le _⟩ dX8_sortOne_206 (fun H locs hP hD hS => ?_)
              obtain ⟨u82, q83, h⟩ := bd_t h
              refine iv_callIf (As := [.int (zi u80.1)]) (rest := []) ⟨hx, hb, hml, hown, hts⟩ (k_X8_manyIn l E a H.size N u80.1 u80.2 u82 q83) (cwV 1 hts gX8_sortOne_X8_manyIn rfl rfl rfl (by decide +kernel) ⟨Nat.le_of_ble_eq_true rfl, Nat.le_of_ble_eq_true rfl⟩) hK hP hD hS hA 0 8 rfl rfl rfl hl.1 (Nat.le_of_ble_eq_true rfl) ⟨Nat.zero_le _, Nat.zero_le _⟩ dX8_sortOne_209 (fun H locs hP hD hS => ?_)
              refine lv_aload_n hx hb dX8_sortOne_212 rfl (lv_at hl 1 rfl) ?_
              refine va_get (D := E.1) (ci := 8) (v := .ref (a 1)) (C := RX8) (T := TX8) (N := 13) hx hb hts in_X8_sortOne_X8 hown hK.1 hP 0 rfl rfl 0 (by decide) (hts _ wd_X8_sortOne_f7) (fun _ h9 => h9) rfl dX8_sortOne_213 ?_
              refine iv_bipush hx hb dX8_sortOne_216 (by decide +kernel) ?_
              refine iv_iald (f := u82.2.1) (j := 6) hx hb hK.1 hP 1 0 rfl rfl (by decide) (by decide +kernel) rfl dX8_sortOne_218 ?_
              obtain ⟨g84, h⟩ := gd_t h
              obtain ⟨g85, h⟩ := gd_t h
              refine iv_ige (tgt := 244) hx hb g84 g85 dX8_sortOne_219 (by decide) (fun c86 => ?_) (fun c86 => ?_)
              · have h := it_t c86 h
                refine lv_aload_n hx hb dX8_sortOne_244 rfl (lv_at hl 1 rfl) ?_
                refine lv_iload_n hx hb dX8_sortOne_245 rfl (lv_at hl 2 rfl) ?_
                obtain ⟨u87, q88, h⟩ := bd_t h
                refine iv_callVf (As := [.int (zi v5)]) (rest := []) ⟨hx, hb, hml, hown, hts⟩ (k_X8_toHopper l E a H.size v5 u82.2 u87 q88) (cwV 1 hts gX8_sortOne_X8_toHopper rfl rfl rfl (by decide +kernel) ⟨Nat.le_of_ble_eq_true rfl, Nat.le_of_ble_eq_true rfl⟩) hK hP hD hS hA 0 8 rfl rfl rfl hl.1 (Nat.le_of_ble_eq_true rfl) ⟨Nat.zero_le _, Nat.zero_le _⟩ dX8_sortOne_246 (fun H locs hP hD hS => ?_)
                refine lv_aload_n hx hb dX8_sortOne_249 rfl (lv_at hl 1 rfl) ?_
                refine va_get (D := E.1) (ci := 8) (v := .ref (a 1)) (C := RX8) (T := TX8) (N := 13) hx hb hts in_X8_sortOne_X8 hown hK.1 hP 0 rfl rfl 0 (by decide) (hts _ wd_X8_sortOne_f7) (fun _ h9 => h9) rfl dX8_sortOne_250 ?_
                refine iv_bipush hx hb dX8_sortOne_253 (by decide +kernel) ?_
                refine lv_dup2_11 hx hb dX8_sortOne_255 rfl rfl ?_
                refine iv_iald (f := u87.1) (j := 11) hx hb hK.1 hP 1 0 rfl rfl (by decide) (by decide +kernel) rfl dX8_sortOne_256 ?_
                refine iv_iconst hx hb dX8_sortOne_257 ?_
                refine iv_iadd hx hb dX8_sortOne_258 ?_
                obtain ⟨s89, e90, h⟩ := nm_t h
                refine iv_iast (f := u87.1) (j := 11) (ws1 := wM a E s89) hx hb hK.1 hP hD hS 1 0 rfl rfl (by decide) (by decide +kernel) rfl (by rw [e90]; rfl) dX8_sortOne_259 (fun H locs hP hD hS => ?_)
                cases h
                exact iv_vret hx hb hr hlocks hK hP hD hS dX8_sortOne_260
              · have h := it_f c86 h
                refine lv_aload_n hx hb dX8_sortOne_222 rfl (lv_at hl 1 rfl) ?_
                refine lv_iload_n hx hb dX8_sortOne_223 rfl (lv_at hl 2 rfl) ?_
                refine iv_iconst hx hb dX8_sortOne_224 ?_
                refine iv_iconst hx hb dX8_sortOne_225 ?_
                obtain ⟨u91, q92, h⟩ := bd_t h
                refine iv_callVf (As := [.int (zi v5), .int (zi 5), .int (zi 5)]) (rest := []) ⟨hx, hb, hml, hown, hts⟩ (k_X8_put l E a H.size v5 5 5 u82.2 u91 q92) (cwV 3 hts gX8_sortOne_X8_put rfl rfl rfl (by decide +kernel) ⟨Nat.le_of_ble_eq_true rfl, Nat.le_of_ble_eq_true rfl⟩) hK hP hD hS hA 0 8 rfl rfl rfl hl.1 (Nat.le_of_ble_eq_true rfl) ⟨Nat.zero_le _, Nat.zero_le _⟩ dX8_sortOne_226 (fun H locs hP hD hS => ?_)
                refine lv_aload_n hx hb dX8_sortOne_229 rfl (lv_at hl 1 rfl) ?_
                refine lv_iload_n hx hb dX8_sortOne_230 rfl (lv_at hl 2 rfl) ?_
                refine iv_bipush hx hb dX8_sortOne_231 (by decide +kernel) ?_
                refine lv_aload_n hx hb dX8_sortOne_233 rfl (lv_at hl 1 rfl) ?_
                refine lv_iload_n hx hb dX8_sortOne_234 rfl (lv_at hl 2 rfl) ?_
                obtain ⟨u93, q94, h⟩ := bd_t h
                refine iv_callIf (As := [.int (zi v5)]) (rest := [.int (zi 6), .int (zi v5), .ref (a 0)]) ⟨hx, hb, hml, hown, hts⟩ (k_X8_binOf l E a H.size v5 u91 u93 q94) (cwV 1 hts gX8_sortOne_X8_binOf rfl rfl rfl (by decide +kernel) ⟨Nat.le_of_ble_eq_true rfl, Nat.le_of_ble_eq_true rfl⟩) hK hP hD hS hA 0 8 rfl rfl rfl hl.1 (Nat.le_of_ble_eq_true rfl) ⟨Nat.zero_le _, Nat.zero_le _⟩ dX8_sortOne_235 (fun H locs hP hD hS => ?_)
                obtain ⟨u95, q96, h⟩ := bd_t h
                refine iv_callVf (As := [.int (zi v5), .int (zi 6), .int (zi u93.1)]) (rest := []) ⟨hx, hb, hml, hown, hts⟩ (k_X8_put l E a H.size v5 6 u93.1 u93.2 u95 q96) (cwV 3 hts gX8_sortOne_X8_put rfl rfl rfl (by decide +kernel) ⟨Nat.le_of_ble_eq_true rfl, Nat.le_of_ble_eq_true rfl⟩) hK hP hD hS hA 0 8 rfl rfl rfl hl.1 (Nat.le_of_ble_eq_true rfl) ⟨Nat.zero_le _, Nat.zero_le _⟩ dX8_sortOne_238 (fun H locs hP hD hS => ?_)
                refine lv_goto (tgt := 260) hx hb dX8_sortOne_241 (by decide) ?_
                cases h
                exact iv_vret hx hb hr hlocks hK hP hD hS dX8_sortOne_260
        · have h := it_f c23 h
          refine lv_aload_n hx hb dX8_sortOne_112 rfl (lv_at hl 1 rfl) ?_
          refine lv_iload_n hx hb dX8_sortOne_113 rfl (lv_at hl 2 rfl) ?_
          refine lv_iload_n hx hb dX8_sortOne_114 rfl (lv_at hl 0 rfl) ?_
          obtain ⟨u97, q98, h⟩ := bd_t h
          refine iv_callVf (As := [.int (zi v5), .int (zi u20.1)]) (rest := []) ⟨hx, hb, hml, hown, hts⟩ (k_X8_bring l E a H.size v5 u20.1 u20.2 u97 q98) (cwV 2 hts gX8_sortOne_X8_bring rfl rfl rfl (by decide +kernel) ⟨Nat.le_of_ble_eq_true rfl, Nat.le_of_ble_eq_true rfl⟩) hK hP hD hS hA 0 8 rfl rfl rfl hl.1 (Nat.le_of_ble_eq_true rfl) ⟨Nat.zero_le _, Nat.zero_le _⟩ dX8_sortOne_115 (fun H locs hP hD hS => ?_)
          refine lv_iload_n hx hb dX8_sortOne_118 rfl (lv_at hl 0 rfl) ?_
          refine iv_iconst hx hb dX8_sortOne_119 ?_
          refine iv_ine (tgt := 142) hx hb g22 (by decide +kernel) dX8_sortOne_120 (by decide) (fun c99 => ?_) (fun c99 => ?_)
          · have h := it_f c99 h
            cases h
            exact iv_vret hx hb hr hlocks hK hP hD hS dX8_sortOne_142
          · have h := it_t c99 h
            refine lv_aload_n hx hb dX8_sortOne_123 rfl (lv_at hl 1 rfl) ?_
            refine iv_iconst hx hb dX8_sortOne_124 ?_
            obtain ⟨u100, q101, h⟩ := bd_t h
            refine iv_callIf (As := [.int (zi 2)]) (rest := []) ⟨hx, hb, hml, hown, hts⟩ (k_X8_at l E a H.size N 2 u97 u100 q101) (cwV 1 hts gX8_sortOne_X8_at rfl rfl rfl (by decide +kernel) ⟨Nat.le_of_ble_eq_true rfl, Nat.le_of_ble_eq_true rfl⟩) hK hP hD hS hA 0 8 rfl rfl rfl hl.1 (Nat.le_of_ble_eq_true rfl) ⟨Nat.zero_le _, Nat.zero_le _⟩ dX8_sortOne_125 (fun H locs hP hD hS => ?_)
            refine lv_aload_n hx hb dX8_sortOne_128 rfl (lv_at hl 1 rfl) ?_
            refine va_get (D := E.1) (ci := 8) (v := .ref (a 1)) (C := RX8) (T := TX8) (N := 13) hx hb hts in_X8_sortOne_X8 hown hK.1 hP 0 rfl rfl 0 (by decide) (hts _ wd_X8_sortOne_f7) (fun _ h9 => h9) rfl dX8_sortOne_129 ?_
            refine iv_iconst hx hb dX8_sortOne_132 ?_
            refine iv_iald (f := u100.2.1) (j := 5) hx hb hK.1 hP 1 0 rfl rfl (by decide) (by decide +kernel) rfl dX8_sortOne_133 ?_
            obtain ⟨g102, h⟩ := gd_t h
            obtain ⟨g103, h⟩ := gd_t h
            refine iv_ilt (tgt := 142) hx hb g102 g103 dX8_sortOne_134 (by decide) (fun c104 => ?_) (fun c104 => ?_)
            · have h := it_t c104 h
              cases h
              exact iv_vret hx hb hr hlocks hK hP hD hS dX8_sortOne_142
            · have h := it_f c104 h
              refine lv_aload_n hx hb dX8_sortOne_137 rfl (lv_at hl 1 rfl) ?_
              obtain ⟨u105, q106, h⟩ := bd_t h
              refine iv_callIf (As := []) (rest := []) ⟨hx, hb, hml, hown, hts⟩ (k_X8_letGoNow l E a H.size N  u100.2 u105 q106) (cwV 0 hts gX8_sortOne_X8_letGoNow rfl rfl rfl (by decide +kernel) ⟨Nat.le_of_ble_eq_true rfl, Nat.le_of_ble_eq_true rfl⟩) hK hP hD hS hA 0 8 rfl rfl rfl hl.1 (Nat.le_of_ble_eq_true rfl) ⟨Nat.zero_le _, Nat.zero_le _⟩ dX8_sortOne_138 (fun H locs hP hD hS => ?_)
              refine lv_istore_n (lv' := [(3, .int (zi u105.1)), (2, .int (zi u20.1)), (0, .ref (a 0)), (1, .int (zi v5))]) hx hb dX8_sortOne_141 rfl hl (by decide) rfl (fun ls hl => ?_)
              cases h
              exact iv_vret hx hb hr hlocks hK hP hD hS dX8_sortOne_142
      · have h := it_f c10 h
        refine lv_aload_n hx hb dX8_sortOne_32 rfl (lv_at hl 0 rfl) ?_
        refine va_get (D := E.1) (ci := 8) (v := .ref (a 1)) (C := RX8) (T := TX8) (N := 13) hx hb hts in_X8_sortOne_X8 hown hK.1 hP 0 rfl rfl 0 (by decide) (hts _ wd_X8_sortOne_f7) (fun _ h9 => h9) rfl dX8_sortOne_33 ?_
        refine iv_bipush hx hb dX8_sortOne_36 (by decide +kernel) ?_
        refine lv_iload_n hx hb dX8_sortOne_38 rfl (lv_at hl 2 rfl) ?_
        refine iv_iadd hx hb dX8_sortOne_39 ?_
        refine lv_aload_n hx hb dX8_sortOne_40 rfl (lv_at hl 0 rfl) ?_
        refine va_get (D := E.1) (ci := 8) (v := .ref (a 1)) (C := RX8) (T := TX8) (N := 13) hx hb hts in_X8_sortOne_X8 hown hK.1 hP 0 rfl rfl 0 (by decide) (hts _ wd_X8_sortOne_f7) (fun _ h9 => h9) rfl dX8_sortOne_41 ?_
        refine iv_bipush hx hb dX8_sortOne_44 (by decide +kernel) ?_
        refine lv_iload_n hx hb dX8_sortOne_46 rfl (lv_at hl 2 rfl) ?_
        refine iv_iadd hx hb dX8_sortOne_47 ?_
        refine iv_iconst hx hb dX8_sortOne_48 ?_
        refine iv_iadd hx hb dX8_sortOne_49 ?_
        obtain ⟨g107, h⟩ := gd_t h
        refine iv_iald (f := s7.1) (j := ((15 + v6) + 1).toNat) hx hb hK.1 hP 1 0 rfl rfl (by decide) g107 rfl dX8_sortOne_50 ?_
        obtain ⟨g108, h⟩ := gd_t h
        obtain ⟨s109, e110, h⟩ := nm_t h
        refine iv_iast (f := s7.1) (j := (15 + v6).toNat) (ws1 := wM a E s109) hx hb hK.1 hP hD hS 1 0 rfl rfl (by decide) g108 rfl (by rw [e110]; rfl) dX8_sortOne_51 (fun H locs hP hD hS => ?_)
        refine lv_iinc (v := zi (v6 + 1)) (lv' := [(2, .int (zi (v6 + 1))), (0, .ref (a 0)), (1, .int (zi v5))]) hx hb dX8_sortOne_52 hl (k := 2) rfl (by rw [zi_add]; rfl) (by decide) rfl (fun ls hl => ?_)
        refine lv_goto (tgt := 21) hx hb dX8_sortOne_55 (by decide) ?_
        exact ih v5 (v6 + 1) s109 _ _ _ h hP hD hS (lv_sub hl [1, 2, 0] rfl)
  have h := hf
  rw [f_X8_sortOne] at h
  refine lv_aload_n hx hb dX8_sortOne_0 rfl (lv_at hl 0 rfl) ?_
  refine va_get (D := E.1) (ci := 8) (v := .ref (a 1)) (C := RX8) (T := TX8) (N := 13) hx hb hts in_X8_sortOne_X8 hown hK.1 hP 0 rfl rfl 0 (by decide) (hts _ wd_X8_sortOne_f7) (fun _ h9 => h9) rfl dX8_sortOne_1 ?_
  refine iv_bipush hx hb dX8_sortOne_4 (by decide +kernel) ?_
  refine iv_iald (f := z.1) (j := 15) hx hb hK.1 hP 1 0 rfl rfl (by decide) (by decide +kernel) rfl dX8_sortOne_6 ?_
  obtain ⟨v1, e2, h⟩ := nm_t h
  refine iv_nm e2 ?_
  refine lv_istore_n (lv' := [(1, .int (zi v1)), (0, .ref (a 0))]) hx hb dX8_sortOne_7 rfl hl (by decide) rfl (fun ls hl => ?_)
  refine lv_aload_n hx hb dX8_sortOne_8 rfl (lv_at hl 1 rfl) ?_
  refine va_get (D := E.1) (ci := 8) (v := .ref (a 1)) (C := RX8) (T := TX8) (N := 13) hx hb hts in_X8_sortOne_X8 hown hK.1 hP 0 rfl rfl 0 (by decide) (hts _ wd_X8_sortOne_f7) (fun _ h9 => h9) rfl dX8_sortOne_9 ?_
  refine iv_bipush hx hb dX8_sortOne_12 (by decide +kernel) ?_
  refine lv_dup2_11 hx hb dX8_sortOne_14 rfl rfl ?_
  refine iv_iald (f := z.1) (j := 14) hx hb hK.1 hP 1 0 rfl rfl (by decide) (by decide +kernel) rfl dX8_sortOne_15 ?_
  refine iv_iconst hx hb dX8_sortOne_16 ?_
  refine iv_isub hx hb dX8_sortOne_17 ?_
  obtain ⟨s3, e4, h⟩ := nm_t h
  refine iv_iast (f := z.1) (j := 14) (ws1 := wM a E s3) hx hb hK.1 hP hD hS 1 0 rfl rfl (by decide) (by decide +kernel) rfl (by rw [e4]; rfl) dX8_sortOne_18 (fun H locs hP hD hS => ?_)
  refine iv_iconst hx hb dX8_sortOne_19 ?_
  refine lv_istore_n (lv' := [(2, .int (zi 0)), (1, .int (zi v1)), (0, .ref (a 0))]) hx hb dX8_sortOne_20 rfl hl (by decide) rfl (fun ls hl => ?_)
  exact loop21 N v1 0 s3 _ _ _ h hP hD hS (lv_sub hl [2, 1, 0] rfl)
set_option maxRecDepth 20000 in
theorem wd_X8_sort_f7 : Cond.fieldLink RX8 7 "ShirtButtonsModel" "row" "[I" ∈ wsX8_sort := by decide +kernel
set_option maxRecDepth 20000 in
theorem in_X8_sort_X8 : ∀ w ∈ u_ws RX8 TX8 13, w ∈ wsX8_sort := by decide +kernel
set_option maxHeartbeats 4000000 in
set_option maxRecDepth 100000 in
theorem k_X8_sort (l : Launch) (E : wE) (a : Nat → Nat) (sz : Nat) (N : Nat) (x1 : Int) (z : bM) (u : (Int × bM)) (hf : f_X8_sort N x1 z = some u) : cI l yX8_sort wsX8_sort { frames := 4, cells := 0, slots := 0, locals := 90 } E sz [.ref (a 0), .int (zi x1)] (wM a E z) (wM a E u.2) u.1 := by
  refine met_go (cc := cX8_sort) (maxL := 3) (ret := (some .int)) (Q0 := mQi E (wM a E u.2) u.1) (by decide +kernel) rfl (Nat.le_of_ble_eq_true rfl) ?_
  intro A p e s m below meth c hx hb hr hml hts hown hlocks hP hK hD hA hS ls hl
  have hl : lv_has ls 3 [(0, .ref (a 0)), (1, .int (zi x1))] := hl
  generalize hH : s.heap = H at hP
  have hS : va_S A s.heap H [] := by rw [← hH]; exact hS
  have hown : s.vm.findClass RX8 = some m.cls := hown
  have loop32 : ∀ (n : Nat) (v9 v10 : Int) (s11 : bM) (H : Heap) (locs : List Loc) (ls : Array Slot), f_X8_sort_L32 N n v9 v10 s11 = some u → va_P E.1 vwCl (wM a E s11) H → va_D A (wM a E s11) → va_S A s.heap H locs → lv_has ls 3 [(0, .ref (a 0)), (1, .int (zi v9)), (2, .int (zi v10))] → W p l e ({ frames := 4, cells := 0, slots := 0, locals := 90 }) s m ([.ref (a 0), .int (zi x1)] : List Value).toArray below meth c H locs 0 0 (MQ below (mQi E (wM a E u.2) u.1 A) ([.ref (a 0), .int (zi x1)] : List Value).toArray s 0 0 A) (F0 m 32 ls []) := by
    intro n
    induction n with
    | zero =>
      intro v9 v10 s11 H locs ls h
      exact absurd (show (none : Option (Int × bM)) = some u from h) (by simp)
    | succ n ih =>
      intro v9 v10 s11 H locs ls h hP hD hS hl
      rw [f_X8_sort_L32] at h
      refine lv_iload_n hx hb dX8_sort_32 rfl (lv_at hl 2 rfl) ?_
      refine lv_iload_n hx hb dX8_sort_33 rfl (lv_at hl 1 rfl) ?_
      obtain ⟨g12, h⟩ := gd_t h
      obtain ⟨g13, h⟩ := gd_t h
      refine iv_ige (tgt := 57) hx hb g12 g13 dX8_sort_34 (by decide) (fun c14 => ?_) (fun c14 => ?_)
      · have h := it_t c14 h
        refine lv_iload_n hx hb dX8_sort_57 rfl (lv_at hl 2 rfl) ?_
        cases h
        exact iv_iret hx hb hr hlocks hK hP hD hS dX8_sort_58
      · have h := it_f c14 h
        refine lv_aload_n hx hb dX8_sort_37 rfl (lv_at hl 0 rfl) ?_
        refine va_get (D := E.1) (ci := 8) (v := .ref (a 1)) (C := RX8) (T := TX8) (N := 13) hx hb hts in_X8_sort_X8 hown hK.1 hP 0 rfl rfl 0 (by decide) (hts _ wd_X8_sort_f7) (fun _ h9 => h9) rfl dX8_sort_38 ?_
        refine iv_bipush hx hb dX8_sort_41 (by decide +kernel) ?_
        refine iv_iald (f := s11.1) (j := 14) hx hb hK.1 hP 1 0 rfl rfl (by decide) (by decide +kernel) rfl dX8_sort_43 ?_
        obtain ⟨g15, h⟩ := gd_t h
        refine iv_le (tgt := 57) hx hb g15 dX8_sort_44 (by decide) (fun c16 => ?_) (fun c16 => ?_)
        · have h := it_t c16 h
          refine lv_iload_n hx hb dX8_sort_57 rfl (lv_at hl 2 rfl) ?_
          cases h
          exact iv_iret hx hb hr hlocks hK hP hD hS dX8_sort_58
        · have h := it_f c16 h
          refine lv_aload_n hx hb dX8_sort_47 rfl (lv_at hl 0 rfl) ?_
          obtain ⟨u17, q18, h⟩ := bd_t h
          refine iv_callVf (As := []) (rest := []) ⟨hx, hb, hml, hown, hts⟩ (k_X8_sortOne l E a H.size N  s11 u17 q18) (cwV 0 hts gX8_sort_X8_sortOne rfl rfl rfl (by decide +kernel) ⟨Nat.le_of_ble_eq_true rfl, Nat.le_of_ble_eq_true rfl⟩) hK hP hD hS hA 0 8 rfl rfl rfl hl.1 (Nat.le_of_ble_eq_true rfl) ⟨Nat.zero_le _, Nat.zero_le _⟩ dX8_sort_48 (fun H locs hP hD hS => ?_)
          refine lv_iinc (v := zi (v10 + 1)) (lv' := [(2, .int (zi (v10 + 1))), (0, .ref (a 0)), (1, .int (zi v9))]) hx hb dX8_sort_51 hl (k := 2) rfl (by rw [zi_add]; rfl) (by decide) rfl (fun ls hl => ?_)
          refine lv_goto (tgt := 32) hx hb dX8_sort_54 (by decide) ?_
          exact ih v9 (v10 + 1) u17 _ _ _ h hP hD hS (lv_sub hl [1, 2, 0] rfl)
  have h := hf
  rw [f_X8_sort] at h
  refine lv_iload_n hx hb dX8_sort_0 rfl (lv_at hl 1 rfl) ?_
  refine iv_iconst hx hb dX8_sort_1 ?_
  refine iv_bipush hx hb dX8_sort_2 (by decide +kernel) ?_
  obtain ⟨u1, q2, h⟩ := bd_t h
  refine iv_callS (As := [.int (zi x1), .int (zi 1), .int (zi 99)]) (rest := []) ⟨hx, hb, hml, hown, hts⟩ (k_X8_in l E H.size x1 1 99 u1 q2) (va_cwS 3 hts gX8_sort_X8_in rfl rfl rfl (by decide +kernel) ⟨Nat.le_of_ble_eq_true rfl, Nat.le_of_ble_eq_true rfl⟩) hK hP hS hA rfl hl.1 (Nat.le_of_ble_eq_true rfl) ⟨Nat.zero_le _, Nat.zero_le _⟩ dX8_sort_4 (fun H locs hP hS => ?_)
  obtain ⟨g3, h⟩ := gd_t h
  refine iv_ne (tgt := 13) hx hb g3 dX8_sort_7 (by decide) (fun c4 => ?_) (fun c4 => ?_)
  · have h := it_f c4 h
    refine lv_aload_n hx hb dX8_sort_13 rfl (lv_at hl 0 rfl) ?_
    refine va_get (D := E.1) (ci := 8) (v := .ref (a 1)) (C := RX8) (T := TX8) (N := 13) hx hb hts in_X8_sort_X8 hown hK.1 hP 0 rfl rfl 0 (by decide) (hts _ wd_X8_sort_f7) (fun _ h9 => h9) rfl dX8_sort_14 ?_
    refine iv_bipush hx hb dX8_sort_17 (by decide +kernel) ?_
    refine iv_iald (f := z.1) (j := 14) hx hb hK.1 hP 1 0 rfl rfl (by decide) (by decide +kernel) rfl dX8_sort_19 ?_
    obtain ⟨g5, h⟩ := gd_t h
    refine iv_ne (tgt := 26) hx hb g5 dX8_sort_20 (by decide) (fun c6 => ?_) (fun c6 => ?_)
    · have h := it_f c6 h
      refine lv_aload_n hx hb dX8_sort_26 rfl (lv_at hl 0 rfl) ?_
      obtain ⟨u7, q8, h⟩ := bd_t h
      refine iv_callVf (As := []) (rest := []) ⟨hx, hb, hml, hown, hts⟩ (k_X8_record l E a H.size N  z u7 q8) (cwV 0 hts gX8_sort_X8_record rfl rfl rfl (by decide +kernel) ⟨Nat.le_of_ble_eq_true rfl, Nat.le_of_ble_eq_true rfl⟩) hK hP hD hS hA 0 8 rfl rfl rfl hl.1 (Nat.le_of_ble_eq_true rfl) ⟨Nat.zero_le _, Nat.zero_le _⟩ dX8_sort_27 (fun H locs hP hD hS => ?_)
      refine iv_iconst hx hb dX8_sort_30 ?_
      refine lv_istore_n (lv' := [(2, .int (zi 0)), (0, .ref (a 0)), (1, .int (zi x1))]) hx hb dX8_sort_31 rfl hl (by decide) rfl (fun ls hl => ?_)
      exact loop32 N x1 0 u7 _ _ _ h hP hD hS (lv_sub hl [1, 2, 0] rfl)
    · have h := it_t c6 h
      refine iv_bipush hx hb dX8_sort_23 (by decide +kernel) ?_
      cases h
      exact iv_iret hx hb hr hlocks hK hP hD hS dX8_sort_25
  · have h := it_t c4 h
    refine iv_bipush hx hb dX8_sort_10 (by decide +kernel) ?_
    cases h
    exact iv_iret hx hb hr hlocks hK hP hD hS dX8_sort_12
set_option maxHeartbeats 4000000 in
set_option maxRecDepth 100000 in
theorem k_X8_letGo (l : Launch) (E : wE) (a : Nat → Nat) (sz : Nat) (N : Nat) (z : bM) (u : (Int × bM)) (hf : f_X8_letGo N z = some u) : cI l yX8_letGo wsX8_letGo { frames := 3, cells := 0, slots := 0, locals := 67 } E sz [.ref (a 0)] (wM a E z) (wM a E u.2) u.1 := by
  refine met_go (cc := cX8_letGo) (maxL := 1) (ret := (some .int)) (Q0 := mQi E (wM a E u.2) u.1) (by decide +kernel) rfl (Nat.le_of_ble_eq_true rfl) ?_
  intro A p e s m below meth c hx hb hr hml hts hown hlocks hP hK hD hA hS ls hl
  have hl : lv_has ls 1 [(0, .ref (a 0))] := hl
  generalize hH : s.heap = H at hP
  have hS : va_S A s.heap H [] := by rw [← hH]; exact hS
  have hown : s.vm.findClass RX8 = some m.cls := hown
  have h := hf
  rw [f_X8_letGo] at h
  refine lv_aload_n hx hb dX8_letGo_0 rfl (lv_at hl 0 rfl) ?_
  refine iv_iconst hx hb dX8_letGo_1 ?_
  obtain ⟨u1, q2, h⟩ := bd_t h
  refine iv_callIf (As := [.int (zi 2)]) (rest := []) ⟨hx, hb, hml, hown, hts⟩ (k_X8_at l E a H.size N 2 z u1 q2) (cwV 1 hts gX8_letGo_X8_at rfl rfl rfl (by decide +kernel) ⟨Nat.le_of_ble_eq_true rfl, Nat.le_of_ble_eq_true rfl⟩) hK hP hD hS hA 0 8 rfl rfl rfl hl.1 (Nat.le_of_ble_eq_true rfl) ⟨Nat.zero_le _, Nat.zero_le _⟩ dX8_letGo_2 (fun H locs hP hD hS => ?_)
  obtain ⟨g3, h⟩ := gd_t h
  refine iv_ne (tgt := 11) hx hb g3 dX8_letGo_5 (by decide) (fun c4 => ?_) (fun c4 => ?_)
  · have h := it_f c4 h
    refine lv_aload_n hx hb dX8_letGo_11 rfl (lv_at hl 0 rfl) ?_
    obtain ⟨u5, q6, h⟩ := bd_t h
    refine iv_callVf (As := []) (rest := []) ⟨hx, hb, hml, hown, hts⟩ (k_X8_record l E a H.size N  u1.2 u5 q6) (cwV 0 hts gX8_letGo_X8_record rfl rfl rfl (by decide +kernel) ⟨Nat.le_of_ble_eq_true rfl, Nat.le_of_ble_eq_true rfl⟩) hK hP hD hS hA 0 8 rfl rfl rfl hl.1 (Nat.le_of_ble_eq_true rfl) ⟨Nat.zero_le _, Nat.zero_le _⟩ dX8_letGo_12 (fun H locs hP hD hS => ?_)
    refine lv_aload_n hx hb dX8_letGo_15 rfl (lv_at hl 0 rfl) ?_
    obtain ⟨u7, q8, h⟩ := bd_t h
    refine iv_callIf (As := []) (rest := []) ⟨hx, hb, hml, hown, hts⟩ (k_X8_letGoNow l E a H.size N  u5 u7 q8) (cwV 0 hts gX8_letGo_X8_letGoNow rfl rfl rfl (by decide +kernel) ⟨Nat.le_of_ble_eq_true rfl, Nat.le_of_ble_eq_true rfl⟩) hK hP hD hS hA 0 8 rfl rfl rfl hl.1 (Nat.le_of_ble_eq_true rfl) ⟨Nat.zero_le _, Nat.zero_le _⟩ dX8_letGo_16 (fun H locs hP hD hS => ?_)
    cases h
    exact iv_iret hx hb hr hlocks hK hP hD hS dX8_letGo_19
  · have h := it_t c4 h
    refine iv_bipush hx hb dX8_letGo_8 (by decide +kernel) ?_
    cases h
    exact iv_iret hx hb hr hlocks hK hP hD hS dX8_letGo_10
set_option maxRecDepth 20000 in
theorem wd_X8_pour_f7 : Cond.fieldLink RX8 7 "ShirtButtonsModel" "row" "[I" ∈ wsX8_pour := by decide +kernel
set_option maxRecDepth 20000 in
theorem in_X8_pour_X8 : ∀ w ∈ u_ws RX8 TX8 13, w ∈ wsX8_pour := by decide +kernel
set_option maxHeartbeats 4000000 in
set_option maxRecDepth 100000 in
theorem k_X8_pour (l : Launch) (E : wE) (a : Nat → Nat) (sz : Nat) (N : Nat) (x1 : Int) (z : bM) (u : (Int × bM)) (hf : f_X8_pour N x1 z = some u) : cI l yX8_pour wsX8_pour { frames := 3, cells := 0, slots := 0, locals := 67 } E sz [.ref (a 0), .int (zi x1)] (wM a E z) (wM a E u.2) u.1 := by
  refine met_go (cc := cX8_pour) (maxL := 4) (ret := (some .int)) (Q0 := mQi E (wM a E u.2) u.1) (by decide +kernel) rfl (Nat.le_of_ble_eq_true rfl) ?_
  intro A p e s m below meth c hx hb hr hml hts hown hlocks hP hK hD hA hS ls hl
  have hl : lv_has ls 4 [(0, .ref (a 0)), (1, .int (zi x1))] := hl
  generalize hH : s.heap = H at hP
  have hS : va_S A s.heap H [] := by rw [← hH]; exact hS
  have hown : s.vm.findClass RX8 = some m.cls := hown
  have loop28 : ∀ (n : Nat) (v11 v12 v13 : Int) (s14 : bM) (H : Heap) (locs : List Loc) (ls : Array Slot), f_X8_pour_L28 N n v11 v12 v13 s14 = some u → va_P E.1 vwCl (wM a E s14) H → va_D A (wM a E s14) → va_S A s.heap H locs → lv_has ls 4 [(0, .ref (a 0)), (1, .int (zi v11)), (2, .int (zi v12)), (3, .int (zi v13))] → W p l e ({ frames := 3, cells := 0, slots := 0, locals := 67 }) s m ([.ref (a 0), .int (zi x1)] : List Value).toArray below meth c H locs 0 0 (MQ below (mQi E (wM a E u.2) u.1 A) ([.ref (a 0), .int (zi x1)] : List Value).toArray s 0 0 A) (F0 m 28 ls []) := by
    intro n
    induction n with
    | zero =>
      intro v11 v12 v13 s14 H locs ls h
      exact absurd (show (none : Option (Int × bM)) = some u from h) (by simp)
    | succ n ih =>
      intro v11 v12 v13 s14 H locs ls h hP hD hS hl
      rw [f_X8_pour_L28] at h
      refine lv_iload_n hx hb dX8_pour_28 rfl (lv_at hl 3 rfl) ?_
      refine lv_aload_n hx hb dX8_pour_29 rfl (lv_at hl 0 rfl) ?_
      refine va_get (D := E.1) (ci := 8) (v := .ref (a 1)) (C := RX8) (T := TX8) (N := 13) hx hb hts in_X8_pour_X8 hown hK.1 hP 0 rfl rfl 0 (by decide) (hts _ wd_X8_pour_f7) (fun _ h9 => h9) rfl dX8_pour_30 ?_
      refine iv_bipush hx hb dX8_pour_33 (by decide +kernel) ?_
      refine iv_iald (f := s14.1) (j := 13) hx hb hK.1 hP 1 0 rfl rfl (by decide) (by decide +kernel) rfl dX8_pour_35 ?_
      obtain ⟨g15, h⟩ := gd_t h
      obtain ⟨g16, h⟩ := gd_t h
      refine iv_ige (tgt := 59) hx hb g15 g16 dX8_pour_36 (by decide) (fun c17 => ?_) (fun c17 => ?_)
      · have h := it_t c17 h
        refine lv_iload_n hx hb dX8_pour_59 rfl (lv_at hl 2 rfl) ?_
        cases h
        exact iv_iret hx hb hr hlocks hK hP hD hS dX8_pour_60
      · have h := it_f c17 h
        refine lv_aload_n hx hb dX8_pour_39 rfl (lv_at hl 0 rfl) ?_
        refine lv_iload_n hx hb dX8_pour_40 rfl (lv_at hl 3 rfl) ?_
        refine lv_iload_n hx hb dX8_pour_41 rfl (lv_at hl 1 rfl) ?_
        obtain ⟨u18, q19, h⟩ := bd_t h
        refine iv_callIf (As := [.int (zi v13), .int (zi v11)]) (rest := []) ⟨hx, hb, hml, hown, hts⟩ (k_X8_isIn l E a H.size v13 v11 s14 u18 q19) (cwV 2 hts gX8_pour_X8_isIn rfl rfl rfl (by decide +kernel) ⟨Nat.le_of_ble_eq_true rfl, Nat.le_of_ble_eq_true rfl⟩) hK hP hD hS hA 0 8 rfl rfl rfl hl.1 (Nat.le_of_ble_eq_true rfl) ⟨Nat.zero_le _, Nat.zero_le _⟩ dX8_pour_42 (fun H locs hP hD hS => ?_)
        obtain ⟨g20, h⟩ := gd_t h
        refine iv_eq (tgt := 53) hx hb g20 dX8_pour_45 (by decide) (fun c21 => ?_) (fun c21 => ?_)
        · have h := it_t c21 h
          refine lv_iinc (v := zi (v13 + 1)) (lv' := [(3, .int (zi (v13 + 1))), (0, .ref (a 0)), (1, .int (zi v11)), (2, .int (zi v12))]) hx hb dX8_pour_53 hl (k := 3) rfl (by rw [zi_add]; rfl) (by decide) rfl (fun ls hl => ?_)
          refine lv_goto (tgt := 28) hx hb dX8_pour_56 (by decide) ?_
          exact ih v11 v12 (v13 + 1) u18.2 _ _ _ h hP hD hS (lv_sub hl [1, 2, 3, 0] rfl)
        · have h := it_f c21 h
          refine lv_aload_n hx hb dX8_pour_48 rfl (lv_at hl 0 rfl) ?_
          refine lv_iload_n hx hb dX8_pour_49 rfl (lv_at hl 3 rfl) ?_
          obtain ⟨u22, q23, h⟩ := bd_t h
          refine iv_callVf (As := [.int (zi v13)]) (rest := []) ⟨hx, hb, hml, hown, hts⟩ (k_X8_toHopper l E a H.size v13 u18.2 u22 q23) (cwV 1 hts gX8_pour_X8_toHopper rfl rfl rfl (by decide +kernel) ⟨Nat.le_of_ble_eq_true rfl, Nat.le_of_ble_eq_true rfl⟩) hK hP hD hS hA 0 8 rfl rfl rfl hl.1 (Nat.le_of_ble_eq_true rfl) ⟨Nat.zero_le _, Nat.zero_le _⟩ dX8_pour_50 (fun H locs hP hD hS => ?_)
          refine lv_iinc (v := zi (v13 + 1)) (lv' := [(3, .int (zi (v13 + 1))), (0, .ref (a 0)), (1, .int (zi v11)), (2, .int (zi v12))]) hx hb dX8_pour_53 hl (k := 3) rfl (by rw [zi_add]; rfl) (by decide) rfl (fun ls hl => ?_)
          refine lv_goto (tgt := 28) hx hb dX8_pour_56 (by decide) ?_
          exact ih v11 v12 (v13 + 1) u22 _ _ _ h hP hD hS (lv_sub hl [1, 2, 3, 0] rfl)
  have h := hf
  rw [f_X8_pour] at h
  refine lv_iload_n hx hb dX8_pour_0 rfl (lv_at hl 1 rfl) ?_
  obtain ⟨u1, q2, h⟩ := bd_t h
  refine iv_callS (As := [.int (zi x1)]) (rest := []) ⟨hx, hb, hml, hown, hts⟩ (k_X8_isBin l E H.size x1 u1 q2) (va_cwS 1 hts gX8_pour_X8_isBin rfl rfl rfl (by decide +kernel) ⟨Nat.le_of_ble_eq_true rfl, Nat.le_of_ble_eq_true rfl⟩) hK hP hS hA rfl hl.1 (Nat.le_of_ble_eq_true rfl) ⟨Nat.zero_le _, Nat.zero_le _⟩ dX8_pour_1 (fun H locs hP hS => ?_)
  obtain ⟨g3, h⟩ := gd_t h
  refine iv_ne (tgt := 9) hx hb g3 dX8_pour_4 (by decide) (fun c4 => ?_) (fun c4 => ?_)
  · have h := it_f c4 h
    refine lv_aload_n hx hb dX8_pour_9 rfl (lv_at hl 0 rfl) ?_
    refine lv_iload_n hx hb dX8_pour_10 rfl (lv_at hl 1 rfl) ?_
    obtain ⟨u5, q6, h⟩ := bd_t h
    refine iv_callIf (As := [.int (zi x1)]) (rest := []) ⟨hx, hb, hml, hown, hts⟩ (k_X8_manyIn l E a H.size N x1 z u5 q6) (cwV 1 hts gX8_pour_X8_manyIn rfl rfl rfl (by decide +kernel) ⟨Nat.le_of_ble_eq_true rfl, Nat.le_of_ble_eq_true rfl⟩) hK hP hD hS hA 0 8 rfl rfl rfl hl.1 (Nat.le_of_ble_eq_true rfl) ⟨Nat.zero_le _, Nat.zero_le _⟩ dX8_pour_11 (fun H locs hP hD hS => ?_)
    refine lv_istore_n (lv' := [(2, .int (zi u5.1)), (0, .ref (a 0)), (1, .int (zi x1))]) hx hb dX8_pour_14 rfl hl (by decide) rfl (fun ls hl => ?_)
    refine lv_iload_n hx hb dX8_pour_15 rfl (lv_at hl 0 rfl) ?_
    obtain ⟨g7, h⟩ := gd_t h
    refine iv_ne (tgt := 22) hx hb g7 dX8_pour_16 (by decide) (fun c8 => ?_) (fun c8 => ?_)
    · have h := it_f c8 h
      refine lv_aload_n hx hb dX8_pour_22 rfl (lv_at hl 1 rfl) ?_
      obtain ⟨u9, q10, h⟩ := bd_t h
      refine iv_callVf (As := []) (rest := []) ⟨hx, hb, hml, hown, hts⟩ (k_X8_record l E a H.size N  u5.2 u9 q10) (cwV 0 hts gX8_pour_X8_record rfl rfl rfl (by decide +kernel) ⟨Nat.le_of_ble_eq_true rfl, Nat.le_of_ble_eq_true rfl⟩) hK hP hD hS hA 0 8 rfl rfl rfl hl.1 (Nat.le_of_ble_eq_true rfl) ⟨Nat.zero_le _, Nat.zero_le _⟩ dX8_pour_23 (fun H locs hP hD hS => ?_)
      refine iv_iconst hx hb dX8_pour_26 ?_
      refine lv_istore_n (lv' := [(3, .int (zi 0)), (2, .int (zi u5.1)), (0, .ref (a 0)), (1, .int (zi x1))]) hx hb dX8_pour_27 rfl hl (by decide) rfl (fun ls hl => ?_)
      exact loop28 N x1 u5.1 0 u9 _ _ _ h hP hD hS (lv_sub hl [2, 3, 1, 0] rfl)
    · have h := it_t c8 h
      refine iv_bipush hx hb dX8_pour_19 (by decide +kernel) ?_
      cases h
      exact iv_iret hx hb hr hlocks hK hP hD hS dX8_pour_21
  · have h := it_t c4 h
    refine iv_iconst hx hb dX8_pour_7 ?_
    cases h
    exact iv_iret hx hb hr hlocks hK hP hD hS dX8_pour_8
set_option maxRecDepth 20000 in
theorem wd_X8_order_f93 : Cond.fieldLink RX8 93 "ShirtButtonsModel" "lineMany" "I" ∈ wsX8_order := by decide +kernel
set_option maxRecDepth 20000 in
theorem in_X8_order_X8 : ∀ w ∈ u_ws RX8 TX8 13, w ∈ wsX8_order := by decide +kernel
set_option maxRecDepth 20000 in
theorem wd_X8_order_f7 : Cond.fieldLink RX8 7 "ShirtButtonsModel" "row" "[I" ∈ wsX8_order := by decide +kernel
set_option maxRecDepth 20000 in
theorem wd_X8_order_f22 : Cond.fieldLink RX8 22 "ShirtButtonsModel" "line" "[I" ∈ wsX8_order := by decide +kernel
set_option maxHeartbeats 4000000 in
set_option maxRecDepth 100000 in
theorem k_X8_order (l : Launch) (E : wE) (a : Nat → Nat) (sz : Nat) (N : Nat) (x1 : Int) (z : bM) (u : bM) (hf : f_X8_order N x1 z = some u) : cV l yX8_order wsX8_order { frames := 2, cells := 0, slots := 0, locals := 44 } E sz [.ref (a 0), .int (zi x1)] (wM a E z) (wM a E u) := by
  refine met_go (cc := cX8_order) (maxL := 4) (ret := none) (Q0 := mQv E (wM a E u)) (by decide +kernel) rfl (Nat.le_of_ble_eq_true rfl) ?_
  intro A p e s m below meth c hx hb hr hml hts hown hlocks hP hK hD hA hS ls hl
  have hl : lv_has ls 4 [(0, .ref (a 0)), (1, .int (zi x1))] := hl
  generalize hH : s.heap = H at hP
  have hS : va_S A s.heap H [] := by rw [← hH]; exact hS
  have hown : s.vm.findClass RX8 = some m.cls := hown
  have loop32 : ∀ (kt : Int → Int → Int → bM → Option bM) (n : Nat), (∀ (v13 v14 v15 : Int) (s16 : bM) (H : Heap) (locs : List Loc) (ls : Array Slot), kt v13 v14 v15 s16 = some u → va_P E.1 vwCl (wM a E s16) H → va_D A (wM a E s16) → va_S A s.heap H locs → lv_has ls 4 [(0, .ref (a 0)), (1, .int (zi v13)), (2, .int (zi v14)), (3, .int (zi v15))] → W p l e ({ frames := 2, cells := 0, slots := 0, locals := 44 }) s m ([.ref (a 0), .int (zi x1)] : List Value).toArray below meth c H locs 0 0 (MQ below (mQv E (wM a E u) A) ([.ref (a 0), .int (zi x1)] : List Value).toArray s 0 0 A) (F0 m 78 ls [])) → ∀ (v13 v14 v15 : Int) (s16 : bM) (H : Heap) (locs : List Loc) (ls : Array Slot), f_X8_order_L32 N kt n v13 v14 v15 s16 = some u → va_P E.1 vwCl (wM a E s16) H → va_D A (wM a E s16) → va_S A s.heap H locs → lv_has ls 4 [(0, .ref (a 0)), (1, .int (zi v13)), (2, .int (zi v14)), (3, .int (zi v15))] → W p l e ({ frames := 2, cells := 0, slots := 0, locals := 44 }) s m ([.ref (a 0), .int (zi x1)] : List Value).toArray below meth c H locs 0 0 (MQ below (mQv E (wM a E u) A) ([.ref (a 0), .int (zi x1)] : List Value).toArray s 0 0 A) (F0 m 32 ls []) := by
    intro kt n hk
    induction n with
    | zero =>
      intro v13 v14 v15 s16 H locs ls h
      exact absurd (show (none : Option bM) = some u from h) (by simp)
    | succ n ih =>
      intro v13 v14 v15 s16 H locs ls h hP hD hS hl
      rw [f_X8_order_L32] at h
      refine lv_iload_n hx hb dX8_order_32 rfl (lv_at hl 3 rfl) ?_
      obtain ⟨g17, h⟩ := gd_t h
      refine iv_le (tgt := 78) hx hb g17 dX8_order_33 (by decide) (fun c18 => ?_) (fun c18 => ?_)
      · have h := it_t c18 h
        exact hk v13 v14 v15 s16 _ _ _ h hP hD hS (lv_sub hl [0, 1, 2, 3] rfl)
      · have h := it_f c18 h
        refine lv_aload_n hx hb dX8_order_36 rfl (lv_at hl 0 rfl) ?_
        refine lv_aload_n hx hb dX8_order_37 rfl (lv_at hl 0 rfl) ?_
        refine va_get (D := E.1) (ci := 8) (v := .ref (a 5)) (C := RX8) (T := TX8) (N := 13) hx hb hts in_X8_order_X8 hown hK.1 hP 0 rfl rfl 6 (by decide) (hts _ wd_X8_order_f22) (fun _ h9 => h9) rfl dX8_order_38 ?_
        refine lv_iload_n hx hb dX8_order_41 rfl (lv_at hl 3 rfl) ?_
        refine iv_iconst hx hb dX8_order_42 ?_
        refine iv_isub hx hb dX8_order_43 ?_
        obtain ⟨g19, h⟩ := gd_t h
        refine iv_iald (f := s16.2.2.2.2.2.2.1) (j := (v15 - 1).toNat) hx hb hK.1 hP 5 0 rfl rfl (by decide) g19 rfl dX8_order_44 ?_
        refine iv_iconst hx hb dX8_order_45 ?_
        obtain ⟨u20, q21, h⟩ := bd_t h
        refine iv_callIf (As := [.int (zi (s16.2.2.2.2.2.2.1 ((v15 - 1).toNat))), .int (zi 4)]) (rest := []) ⟨hx, hb, hml, hown, hts⟩ (k_X8_of l E a H.size (s16.2.2.2.2.2.2.1 ((v15 - 1).toNat)) 4 s16 u20 q21) (cwV 2 hts gX8_order_X8_of rfl rfl rfl (by decide +kernel) ⟨Nat.le_of_ble_eq_true rfl, Nat.le_of_ble_eq_true rfl⟩) hK hP hD hS hA 0 8 rfl rfl rfl hl.1 (Nat.le_of_ble_eq_true rfl) ⟨Nat.zero_le _, Nat.zero_le _⟩ dX8_order_46 (fun H locs hP hD hS => ?_)
        refine lv_aload_n hx hb dX8_order_49 rfl (lv_at hl 0 rfl) ?_
        refine lv_iload_n hx hb dX8_order_50 rfl (lv_at hl 2 rfl) ?_
        refine iv_iconst hx hb dX8_order_51 ?_
        obtain ⟨u22, q23, h⟩ := bd_t h
        refine iv_callIf (As := [.int (zi v14), .int (zi 4)]) (rest := [.int (zi u20.1)]) ⟨hx, hb, hml, hown, hts⟩ (k_X8_of l E a H.size v14 4 u20.2 u22 q23) (cwV 2 hts gX8_order_X8_of rfl rfl rfl (by decide +kernel) ⟨Nat.le_of_ble_eq_true rfl, Nat.le_of_ble_eq_true rfl⟩) hK hP hD hS hA 0 8 rfl rfl rfl hl.1 (Nat.le_of_ble_eq_true rfl) ⟨Nat.zero_le _, Nat.zero_le _⟩ dX8_order_52 (fun H locs hP hD hS => ?_)
        obtain ⟨g24, h⟩ := gd_t h
        obtain ⟨g25, h⟩ := gd_t h
        refine iv_ile (tgt := 78) hx hb g24 g25 dX8_order_55 (by decide) (fun c26 => ?_) (fun c26 => ?_)
        · have h := it_t c26 h
          exact hk v13 v14 v15 u22.2 _ _ _ h hP hD hS (lv_sub hl [0, 1, 2, 3] rfl)
        · have h := it_f c26 h
          refine lv_aload_n hx hb dX8_order_58 rfl (lv_at hl 0 rfl) ?_
          refine va_get (D := E.1) (ci := 8) (v := .ref (a 5)) (C := RX8) (T := TX8) (N := 13) hx hb hts in_X8_order_X8 hown hK.1 hP 0 rfl rfl 6 (by decide) (hts _ wd_X8_order_f22) (fun _ h9 => h9) rfl dX8_order_59 ?_
          refine lv_iload_n hx hb dX8_order_62 rfl (lv_at hl 3 rfl) ?_
          refine lv_aload_n hx hb dX8_order_63 rfl (lv_at hl 0 rfl) ?_
          refine va_get (D := E.1) (ci := 8) (v := .ref (a 5)) (C := RX8) (T := TX8) (N := 13) hx hb hts in_X8_order_X8 hown hK.1 hP 0 rfl rfl 6 (by decide) (hts _ wd_X8_order_f22) (fun _ h9 => h9) rfl dX8_order_64 ?_
          refine lv_iload_n hx hb dX8_order_67 rfl (lv_at hl 3 rfl) ?_
          refine iv_iconst hx hb dX8_order_68 ?_
          refine iv_isub hx hb dX8_order_69 ?_
          refine iv_iald (f := u22.2.2.2.2.2.2.2.1) (j := (v15 - 1).toNat) hx hb hK.1 hP 5 0 rfl rfl (by decide) g19 rfl dX8_order_70 ?_
          obtain ⟨g27, h⟩ := gd_t h
          obtain ⟨s28, e29, h⟩ := nm_t h
          refine iv_iast (f := u22.2.2.2.2.2.2.2.1) (j := v15.toNat) (ws1 := wM a E s28) hx hb hK.1 hP hD hS 5 0 rfl rfl (by decide) g27 rfl (by rw [e29]; rfl) dX8_order_71 (fun H locs hP hD hS => ?_)
          refine lv_iinc (v := zi (v15 + (-1))) (lv' := [(3, .int (zi (v15 + (-1)))), (0, .ref (a 0)), (1, .int (zi v13)), (2, .int (zi v14))]) hx hb dX8_order_72 hl (k := 3) rfl (by rw [zi_add]; rfl) (by decide) rfl (fun ls hl => ?_)
          refine lv_goto (tgt := 32) hx hb dX8_order_75 (by decide) ?_
          exact ih v13 v14 (v15 + (-1)) s28 _ _ _ h hP hD hS (lv_sub hl [1, 2, 3, 0] rfl)
  have loop7 : ∀ (n : Nat) (v3 v4 : Int) (s5 : bM) (H : Heap) (locs : List Loc) (ls : Array Slot), f_X8_order_L7 N n v3 v4 s5 = some u → va_P E.1 vwCl (wM a E s5) H → va_D A (wM a E s5) → va_S A s.heap H locs → lv_has ls 4 [(0, .ref (a 0)), (1, .int (zi v3)), (2, .int (zi v4))] → W p l e ({ frames := 2, cells := 0, slots := 0, locals := 44 }) s m ([.ref (a 0), .int (zi x1)] : List Value).toArray below meth c H locs 0 0 (MQ below (mQv E (wM a E u) A) ([.ref (a 0), .int (zi x1)] : List Value).toArray s 0 0 A) (F0 m 7 ls []) := by
    intro n
    induction n with
    | zero =>
      intro v3 v4 s5 H locs ls h
      exact absurd (show (none : Option bM) = some u from h) (by simp)
    | succ n ih =>
      intro v3 v4 s5 H locs ls h hP hD hS hl
      rw [f_X8_order_L7] at h
      refine lv_iload_n hx hb dX8_order_7 rfl (lv_at hl 2 rfl) ?_
      refine lv_aload_n hx hb dX8_order_8 rfl (lv_at hl 0 rfl) ?_
      refine va_get (D := E.1) (ci := 8) (v := .ref (a 1)) (C := RX8) (T := TX8) (N := 13) hx hb hts in_X8_order_X8 hown hK.1 hP 0 rfl rfl 0 (by decide) (hts _ wd_X8_order_f7) (fun _ h9 => h9) rfl dX8_order_9 ?_
      refine iv_bipush hx hb dX8_order_12 (by decide +kernel) ?_
      refine iv_iald (f := s5.1) (j := 13) hx hb hK.1 hP 1 0 rfl rfl (by decide) (by decide +kernel) rfl dX8_order_14 ?_
      obtain ⟨g6, h⟩ := gd_t h
      obtain ⟨g7, h⟩ := gd_t h
      refine iv_ige (tgt := 101) hx hb g6 g7 dX8_order_15 (by decide) (fun c8 => ?_) (fun c8 => ?_)
      · have h := it_t c8 h
        cases h
        exact iv_vret hx hb hr hlocks hK hP hD hS dX8_order_101
      · have h := it_f c8 h
        refine lv_aload_n hx hb dX8_order_18 rfl (lv_at hl 0 rfl) ?_
        refine lv_iload_n hx hb dX8_order_19 rfl (lv_at hl 2 rfl) ?_
        refine lv_iload_n hx hb dX8_order_20 rfl (lv_at hl 1 rfl) ?_
        obtain ⟨u9, q10, h⟩ := bd_t h
        refine iv_callIf (As := [.int (zi v4), .int (zi v3)]) (rest := []) ⟨hx, hb, hml, hown, hts⟩ (k_X8_isIn l E a H.size v4 v3 s5 u9 q10) (cwV 2 hts gX8_order_X8_isIn rfl rfl rfl (by decide +kernel) ⟨Nat.le_of_ble_eq_true rfl, Nat.le_of_ble_eq_true rfl⟩) hK hP hD hS hA 0 8 rfl rfl rfl hl.1 (Nat.le_of_ble_eq_true rfl) ⟨Nat.zero_le _, Nat.zero_le _⟩ dX8_order_21 (fun H locs hP hD hS => ?_)
        obtain ⟨g11, h⟩ := gd_t h
        refine iv_eq (tgt := 95) hx hb g11 dX8_order_24 (by decide) (fun c12 => ?_) (fun c12 => ?_)
        · have h := it_t c12 h
          refine lv_iinc (v := zi (v4 + 1)) (lv' := [(2, .int (zi (v4 + 1))), (0, .ref (a 0)), (1, .int (zi v3))]) hx hb dX8_order_95 hl (k := 2) rfl (by rw [zi_add]; rfl) (by decide) rfl (fun ls hl => ?_)
          refine lv_goto (tgt := 7) hx hb dX8_order_98 (by decide) ?_
          exact ih v3 (v4 + 1) u9.2 _ _ _ h hP hD hS (lv_sub hl [1, 2, 0] rfl)
        · have h := it_f c12 h
          refine lv_aload_n hx hb dX8_order_27 rfl (lv_at hl 0 rfl) ?_
          refine va_get (D := E.1) (ci := 8) (v := .int (zi u9.2.2.2.2.2.2.2.2.1)) (C := RX8) (T := TX8) (N := 13) hx hb hts in_X8_order_X8 hown hK.1 hP 0 rfl rfl 7 (by decide) (hts _ wd_X8_order_f93) (fun _ h9 => h9) rfl dX8_order_28 ?_
          refine lv_istore_n (lv' := [(3, .int (zi u9.2.2.2.2.2.2.2.2.1)), (0, .ref (a 0)), (1, .int (zi v3)), (2, .int (zi v4))]) hx hb dX8_order_31 rfl hl (by decide) rfl (fun ls hl => ?_)
          refine loop32 (fun v30 v31 v32 s33 => gd (inb v32 40) <| nm (s33.1, s33.2.1, s33.2.2.1, s33.2.2.2.1, s33.2.2.2.2.1, s33.2.2.2.2.2.1, up s33.2.2.2.2.2.2.1 v32.toNat v31, s33.2.2.2.2.2.2.2) fun s35 => nm (s35.1, s35.2.1, s35.2.2.1, s35.2.2.2.1, s35.2.2.2.2.1, s35.2.2.2.2.2.1, s35.2.2.2.2.2.2.1, s35.2.2.2.2.2.2.2.1 + 1, s35.2.2.2.2.2.2.2.2) fun s37 => f_X8_order_L7 N n v30 (v31 + 1) s37) N (fun v30 v31 v32 s33 H locs ls h hP hD hS hl => ?_) v3 v4 u9.2.2.2.2.2.2.2.2.1 u9.2 _ _ _ h hP hD hS (lv_sub hl [1, 2, 3, 0] rfl)
          refine lv_aload_n hx hb dX8_order_78 rfl (lv_at hl 0 rfl) ?_
          refine va_get (D := E.1) (ci := 8) (v := .ref (a 5)) (C := RX8) (T := TX8) (N := 13) hx hb hts in_X8_order_X8 hown hK.1 hP 0 rfl rfl 6 (by decide) (hts _ wd_X8_order_f22) (fun _ h9 => h9) rfl dX8_order_79 ?_
          refine lv_iload_n hx hb dX8_order_82 rfl (lv_at hl 3 rfl) ?_
          refine lv_iload_n hx hb dX8_order_83 rfl (lv_at hl 2 rfl) ?_
          obtain ⟨g34, h⟩ := gd_t h
          obtain ⟨s35, e36, h⟩ := nm_t h
          refine iv_iast (f := s33.2.2.2.2.2.2.1) (j := v32.toNat) (ws1 := wM a E s35) hx hb hK.1 hP hD hS 5 0 rfl rfl (by decide) g34 rfl (by rw [e36]; rfl) dX8_order_84 (fun H locs hP hD hS => ?_)
          refine lv_aload_n hx hb dX8_order_85 rfl (lv_at hl 0 rfl) ?_
          refine lv_dup hx hb dX8_order_86 rfl ?_
          refine va_get (D := E.1) (ci := 8) (v := .int (zi s35.2.2.2.2.2.2.2.1)) (C := RX8) (T := TX8) (N := 13) hx hb hts in_X8_order_X8 hown hK.1 hP 0 rfl rfl 7 (by decide) (hts _ wd_X8_order_f93) (fun _ h9 => h9) rfl dX8_order_87 ?_
          refine iv_iconst hx hb dX8_order_90 ?_
          refine iv_iadd hx hb dX8_order_91 ?_
          obtain ⟨s37, e38, h⟩ := nm_t h
          refine iv_put (D := E.1) (ci := 8) (v := .int (zi (s35.2.2.2.2.2.2.2.1 + 1))) (ty := .int) (ws1 := wM a E s37) (C := RX8) (T := TX8) (N := 13) hx hb hts in_X8_order_X8 tyX8 tyX8_ok nmX8 hown hK.1 hP hD hS 0 rfl rfl 7 (by decide) (hts _ wd_X8_order_f93) (fun _ h9 => h9) rfl (by decide +kernel) rfl rfl (Nat.le_of_ble_eq_true rfl) (by rw [e38]; rfl) dX8_order_92 (fun H locs hP hD hS => ?_)
          refine lv_iinc (v := zi (v31 + 1)) (lv' := [(2, .int (zi (v31 + 1))), (0, .ref (a 0)), (1, .int (zi v30)), (3, .int (zi v32))]) hx hb dX8_order_95 hl (k := 2) rfl (by rw [zi_add]; rfl) (by decide) rfl (fun ls hl => ?_)
          refine lv_goto (tgt := 7) hx hb dX8_order_98 (by decide) ?_
          exact ih v30 (v31 + 1) s37 _ _ _ h hP hD hS (lv_sub hl [1, 2, 0] rfl)
  have h := hf
  rw [f_X8_order] at h
  refine lv_aload_n hx hb dX8_order_0 rfl (lv_at hl 0 rfl) ?_
  refine iv_iconst hx hb dX8_order_1 ?_
  obtain ⟨s1, e2, h⟩ := nm_t h
  refine iv_put (D := E.1) (ci := 8) (v := .int (zi 0)) (ty := .int) (ws1 := wM a E s1) (C := RX8) (T := TX8) (N := 13) hx hb hts in_X8_order_X8 tyX8 tyX8_ok nmX8 hown hK.1 hP hD hS 0 rfl rfl 7 (by decide) (hts _ wd_X8_order_f93) (fun _ h9 => h9) rfl (by decide +kernel) rfl rfl (Nat.le_of_ble_eq_true rfl) (by rw [e2]; rfl) dX8_order_2 (fun H locs hP hD hS => ?_)
  refine iv_iconst hx hb dX8_order_5 ?_
  refine lv_istore_n (lv' := [(2, .int (zi 0)), (0, .ref (a 0)), (1, .int (zi x1))]) hx hb dX8_order_6 rfl hl (by decide) rfl (fun ls hl => ?_)
  exact loop7 N x1 0 s1 _ _ _ h hP hD hS (lv_sub hl [1, 2, 0] rfl)
set_option maxRecDepth 20000 in
theorem wd_X8_spread_f22 : Cond.fieldLink RX8 22 "ShirtButtonsModel" "line" "[I" ∈ wsX8_spread := by decide +kernel
set_option maxRecDepth 20000 in
theorem in_X8_spread_X8 : ∀ w ∈ u_ws RX8 TX8 13, w ∈ wsX8_spread := by decide +kernel
set_option maxHeartbeats 4000000 in
set_option maxRecDepth 100000 in
theorem k_X8_spread (l : Launch) (E : wE) (a : Nat → Nat) (sz : Nat) (x1 x2 : Int) (z : bM) (u : (Int × bM)) (hf : f_X8_spread x1 x2 z = some u) : cI l yX8_spread wsX8_spread { frames := 1, cells := 0, slots := 0, locals := 22 } E sz [.ref (a 0), .int (zi x1), .int (zi x2)] (wM a E z) (wM a E u.2) u.1 := by
  refine met_go (cc := cX8_spread) (maxL := 3) (ret := (some .int)) (Q0 := mQi E (wM a E u.2) u.1) (by decide +kernel) rfl (Nat.le_of_ble_eq_true rfl) ?_
  intro A p e s m below meth c hx hb hr hml hts hown hlocks hP hK hD hA hS ls hl
  have hl : lv_has ls 3 [(0, .ref (a 0)), (1, .int (zi x1)), (2, .int (zi x2))] := hl
  generalize hH : s.heap = H at hP
  have hS : va_S A s.heap H [] := by rw [← hH]; exact hS
  have hown : s.vm.findClass RX8 = some m.cls := hown
  have h := hf
  rw [f_X8_spread] at h
  refine lv_aload_n hx hb dX8_spread_0 rfl (lv_at hl 0 rfl) ?_
  refine lv_aload_n hx hb dX8_spread_1 rfl (lv_at hl 0 rfl) ?_
  refine va_get (D := E.1) (ci := 8) (v := .ref (a 5)) (C := RX8) (T := TX8) (N := 13) hx hb hts in_X8_spread_X8 hown hK.1 hP 0 rfl rfl 6 (by decide) (hts _ wd_X8_spread_f22) (fun _ h9 => h9) rfl dX8_spread_2 ?_
  refine lv_iload_n hx hb dX8_spread_5 rfl (lv_at hl 1 rfl) ?_
  refine lv_iload_n hx hb dX8_spread_6 rfl (lv_at hl 2 rfl) ?_
  refine iv_iadd hx hb dX8_spread_7 ?_
  refine iv_iconst hx hb dX8_spread_8 ?_
  refine iv_isub hx hb dX8_spread_9 ?_
  obtain ⟨g1, h⟩ := gd_t h
  refine iv_iald (f := z.2.2.2.2.2.2.1) (j := ((x1 + x2) - 1).toNat) hx hb hK.1 hP 5 0 rfl rfl (by decide) g1 rfl dX8_spread_10 ?_
  refine iv_iconst hx hb dX8_spread_11 ?_
  obtain ⟨u2, q3, h⟩ := bd_t h
  refine iv_callIf (As := [.int (zi (z.2.2.2.2.2.2.1 (((x1 + x2) - 1).toNat))), .int (zi 4)]) (rest := []) ⟨hx, hb, hml, hown, hts⟩ (k_X8_of l E a H.size (z.2.2.2.2.2.2.1 (((x1 + x2) - 1).toNat)) 4 z u2 q3) (cwV 2 hts gX8_spread_X8_of rfl rfl rfl (by decide +kernel) ⟨Nat.le_of_ble_eq_true rfl, Nat.le_of_ble_eq_true rfl⟩) hK hP hD hS hA 0 8 rfl rfl rfl hl.1 (Nat.le_of_ble_eq_true rfl) ⟨Nat.zero_le _, Nat.zero_le _⟩ dX8_spread_12 (fun H locs hP hD hS => ?_)
  refine lv_aload_n hx hb dX8_spread_15 rfl (lv_at hl 0 rfl) ?_
  refine lv_aload_n hx hb dX8_spread_16 rfl (lv_at hl 0 rfl) ?_
  refine va_get (D := E.1) (ci := 8) (v := .ref (a 5)) (C := RX8) (T := TX8) (N := 13) hx hb hts in_X8_spread_X8 hown hK.1 hP 0 rfl rfl 6 (by decide) (hts _ wd_X8_spread_f22) (fun _ h9 => h9) rfl dX8_spread_17 ?_
  refine lv_iload_n hx hb dX8_spread_20 rfl (lv_at hl 1 rfl) ?_
  obtain ⟨g4, h⟩ := gd_t h
  refine iv_iald (f := u2.2.2.2.2.2.2.2.1) (j := x1.toNat) hx hb hK.1 hP 5 0 rfl rfl (by decide) g4 rfl dX8_spread_21 ?_
  refine iv_iconst hx hb dX8_spread_22 ?_
  obtain ⟨u5, q6, h⟩ := bd_t h
  refine iv_callIf (As := [.int (zi (u2.2.2.2.2.2.2.2.1 x1.toNat)), .int (zi 4)]) (rest := [.int (zi u2.1)]) ⟨hx, hb, hml, hown, hts⟩ (k_X8_of l E a H.size (u2.2.2.2.2.2.2.2.1 x1.toNat) 4 u2.2 u5 q6) (cwV 2 hts gX8_spread_X8_of rfl rfl rfl (by decide +kernel) ⟨Nat.le_of_ble_eq_true rfl, Nat.le_of_ble_eq_true rfl⟩) hK hP hD hS hA 0 8 rfl rfl rfl hl.1 (Nat.le_of_ble_eq_true rfl) ⟨Nat.zero_le _, Nat.zero_le _⟩ dX8_spread_23 (fun H locs hP hD hS => ?_)
  refine iv_isub hx hb dX8_spread_26 ?_
  cases h
  exact iv_iret hx hb hr hlocks hK hP hD hS dX8_spread_27
set_option maxRecDepth 20000 in
theorem wd_X8_firstAlike_f93 : Cond.fieldLink RX8 93 "ShirtButtonsModel" "lineMany" "I" ∈ wsX8_firstAlike := by decide +kernel
set_option maxRecDepth 20000 in
theorem in_X8_firstAlike_X8 : ∀ w ∈ u_ws RX8 TX8 13, w ∈ wsX8_firstAlike := by decide +kernel
set_option maxRecDepth 20000 in
theorem wd_X8_firstAlike_f7 : Cond.fieldLink RX8 7 "ShirtButtonsModel" "row" "[I" ∈ wsX8_firstAlike := by decide +kernel
set_option maxHeartbeats 4000000 in
set_option maxRecDepth 100000 in
theorem k_X8_firstAlike (l : Launch) (E : wE) (a : Nat → Nat) (sz : Nat) (N : Nat) (x1 x2 : Int) (z : bM) (u : (Int × bM)) (hf : f_X8_firstAlike N x1 x2 z = some u) : cI l yX8_firstAlike wsX8_firstAlike { frames := 3, cells := 0, slots := 0, locals := 67 } E sz [.ref (a 0), .int (zi x1), .int (zi x2)] (wM a E z) (wM a E u.2) u.1 := by
  refine met_go (cc := cX8_firstAlike) (maxL := 4) (ret := (some .int)) (Q0 := mQi E (wM a E u.2) u.1) (by decide +kernel) rfl (Nat.le_of_ble_eq_true rfl) ?_
  intro A p e s m below meth c hx hb hr hml hts hown hlocks hP hK hD hA hS ls hl
  have hl : lv_has ls 4 [(0, .ref (a 0)), (1, .int (zi x1)), (2, .int (zi x2))] := hl
  generalize hH : s.heap = H at hP
  have hS : va_S A s.heap H [] := by rw [← hH]; exact hS
  have hown : s.vm.findClass RX8 = some m.cls := hown
  have loop7 : ∀ (n : Nat) (v3 v4 v5 : Int) (s6 : bM) (H : Heap) (locs : List Loc) (ls : Array Slot), f_X8_firstAlike_L7 N n v3 v4 v5 s6 = some u → va_P E.1 vwCl (wM a E s6) H → va_D A (wM a E s6) → va_S A s.heap H locs → lv_has ls 4 [(0, .ref (a 0)), (1, .int (zi v3)), (2, .int (zi v4)), (3, .int (zi v5))] → W p l e ({ frames := 3, cells := 0, slots := 0, locals := 67 }) s m ([.ref (a 0), .int (zi x1), .int (zi x2)] : List Value).toArray below meth c H locs 0 0 (MQ below (mQi E (wM a E u.2) u.1 A) ([.ref (a 0), .int (zi x1), .int (zi x2)] : List Value).toArray s 0 0 A) (F0 m 7 ls []) := by
    intro n
    induction n with
    | zero =>
      intro v3 v4 v5 s6 H locs ls h
      exact absurd (show (none : Option (Int × bM)) = some u from h) (by simp)
    | succ n ih =>
      intro v3 v4 v5 s6 H locs ls h hP hD hS hl
      rw [f_X8_firstAlike_L7] at h
      refine lv_iload_n hx hb dX8_firstAlike_7 rfl (lv_at hl 3 rfl) ?_
      refine lv_iload_n hx hb dX8_firstAlike_8 rfl (lv_at hl 2 rfl) ?_
      refine iv_iadd hx hb dX8_firstAlike_9 ?_
      refine lv_aload_n hx hb dX8_firstAlike_10 rfl (lv_at hl 0 rfl) ?_
      refine va_get (D := E.1) (ci := 8) (v := .int (zi s6.2.2.2.2.2.2.2.1)) (C := RX8) (T := TX8) (N := 13) hx hb hts in_X8_firstAlike_X8 hown hK.1 hP 0 rfl rfl 7 (by decide) (hts _ wd_X8_firstAlike_f93) (fun _ h9 => h9) rfl dX8_firstAlike_11 ?_
      obtain ⟨g7, h⟩ := gd_t h
      obtain ⟨g8, h⟩ := gd_t h
      refine iv_igt (tgt := 41) hx hb g7 g8 dX8_firstAlike_14 (by decide) (fun c9 => ?_) (fun c9 => ?_)
      · have h := it_t c9 h
        refine iv_bipush hx hb dX8_firstAlike_41 (by decide +kernel) ?_
        cases h
        exact iv_iret hx hb hr hlocks hK hP hD hS dX8_firstAlike_43
      · have h := it_f c9 h
        refine lv_aload_n hx hb dX8_firstAlike_17 rfl (lv_at hl 0 rfl) ?_
        refine lv_iload_n hx hb dX8_firstAlike_18 rfl (lv_at hl 3 rfl) ?_
        refine lv_iload_n hx hb dX8_firstAlike_19 rfl (lv_at hl 2 rfl) ?_
        obtain ⟨u10, q11, h⟩ := bd_t h
        refine iv_callIf (As := [.int (zi v5), .int (zi v4)]) (rest := []) ⟨hx, hb, hml, hown, hts⟩ (k_X8_spread l E a H.size v5 v4 s6 u10 q11) (cwV 2 hts gX8_firstAlike_X8_spread rfl rfl rfl (by decide +kernel) ⟨Nat.le_of_ble_eq_true rfl, Nat.le_of_ble_eq_true rfl⟩) hK hP hD hS hA 0 8 rfl rfl rfl hl.1 (Nat.le_of_ble_eq_true rfl) ⟨Nat.zero_le _, Nat.zero_le _⟩ dX8_firstAlike_20 (fun H locs hP hD hS => ?_)
        refine lv_aload_n hx hb dX8_firstAlike_23 rfl (lv_at hl 0 rfl) ?_
        refine va_get (D := E.1) (ci := 8) (v := .ref (a 1)) (C := RX8) (T := TX8) (N := 13) hx hb hts in_X8_firstAlike_X8 hown hK.1 hP 0 rfl rfl 0 (by decide) (hts _ wd_X8_firstAlike_f7) (fun _ h9 => h9) rfl dX8_firstAlike_24 ?_
        refine iv_bipush hx hb dX8_firstAlike_27 (by decide +kernel) ?_
        refine iv_iald (f := u10.2.1) (j := 7) hx hb hK.1 hP 1 0 rfl rfl (by decide) (by decide +kernel) rfl dX8_firstAlike_29 ?_
        obtain ⟨g12, h⟩ := gd_t h
        obtain ⟨g13, h⟩ := gd_t h
        refine iv_igt (tgt := 35) hx hb g12 g13 dX8_firstAlike_30 (by decide) (fun c14 => ?_) (fun c14 => ?_)
        · have h := it_t c14 h
          refine lv_iinc (v := zi (v5 + 1)) (lv' := [(3, .int (zi (v5 + 1))), (0, .ref (a 0)), (1, .int (zi v3)), (2, .int (zi v4))]) hx hb dX8_firstAlike_35 hl (k := 3) rfl (by rw [zi_add]; rfl) (by decide) rfl (fun ls hl => ?_)
          refine lv_goto (tgt := 7) hx hb dX8_firstAlike_38 (by decide) ?_
          exact ih v3 v4 (v5 + 1) u10.2 _ _ _ h hP hD hS (lv_sub hl [1, 2, 3, 0] rfl)
        · have h := it_f c14 h
          refine lv_iload_n hx hb dX8_firstAlike_33 rfl (lv_at hl 3 rfl) ?_
          cases h
          exact iv_iret hx hb hr hlocks hK hP hD hS dX8_firstAlike_34
  have h := hf
  rw [f_X8_firstAlike] at h
  refine lv_aload_n hx hb dX8_firstAlike_0 rfl (lv_at hl 0 rfl) ?_
  refine lv_iload_n hx hb dX8_firstAlike_1 rfl (lv_at hl 1 rfl) ?_
  obtain ⟨u1, q2, h⟩ := bd_t h
  refine iv_callVf (As := [.int (zi x1)]) (rest := []) ⟨hx, hb, hml, hown, hts⟩ (k_X8_order l E a H.size N x1 z u1 q2) (cwV 1 hts gX8_firstAlike_X8_order rfl rfl rfl (by decide +kernel) ⟨Nat.le_of_ble_eq_true rfl, Nat.le_of_ble_eq_true rfl⟩) hK hP hD hS hA 0 8 rfl rfl rfl hl.1 (Nat.le_of_ble_eq_true rfl) ⟨Nat.zero_le _, Nat.zero_le _⟩ dX8_firstAlike_2 (fun H locs hP hD hS => ?_)
  refine iv_iconst hx hb dX8_firstAlike_5 ?_
  refine lv_istore_n (lv' := [(3, .int (zi 0)), (0, .ref (a 0)), (1, .int (zi x1)), (2, .int (zi x2))]) hx hb dX8_firstAlike_6 rfl hl (by decide) rfl (fun ls hl => ?_)
  exact loop7 N x1 x2 0 u1 _ _ _ h hP hD hS (lv_sub hl [1, 2, 3, 0] rfl)
set_option maxHeartbeats 4000000 in
set_option maxRecDepth 100000 in
theorem k_X8_reasonFor (l : Launch) (E : wE) (a : Nat → Nat) (sz : Nat) (N : Nat) (x1 x2 : Int) (z : bM) (u : (Int × bM)) (hf : f_X8_reasonFor N x1 x2 z = some u) : cI l yX8_reasonFor wsX8_reasonFor { frames := 4, cells := 0, slots := 0, locals := 90 } E sz [.ref (a 0), .int (zi x1), .int (zi x2)] (wM a E z) (wM a E u.2) u.1 := by
  refine met_go (cc := cX8_reasonFor) (maxL := 3) (ret := (some .int)) (Q0 := mQi E (wM a E u.2) u.1) (by decide +kernel) rfl (Nat.le_of_ble_eq_true rfl) ?_
  intro A p e s m below meth c hx hb hr hml hts hown hlocks hP hK hD hA hS ls hl
  have hl : lv_has ls 3 [(0, .ref (a 0)), (1, .int (zi x1)), (2, .int (zi x2))] := hl
  generalize hH : s.heap = H at hP
  have hS : va_S A s.heap H [] := by rw [← hH]; exact hS
  have hown : s.vm.findClass RX8 = some m.cls := hown
  have h := hf
  rw [f_X8_reasonFor] at h
  refine lv_aload_n hx hb dX8_reasonFor_0 rfl (lv_at hl 0 rfl) ?_
  refine lv_iload_n hx hb dX8_reasonFor_1 rfl (lv_at hl 1 rfl) ?_
  obtain ⟨u1, q2, h⟩ := bd_t h
  refine iv_callIf (As := [.int (zi x1)]) (rest := []) ⟨hx, hb, hml, hown, hts⟩ (k_X8_manyIn l E a H.size N x1 z u1 q2) (cwV 1 hts gX8_reasonFor_X8_manyIn rfl rfl rfl (by decide +kernel) ⟨Nat.le_of_ble_eq_true rfl, Nat.le_of_ble_eq_true rfl⟩) hK hP hD hS hA 0 8 rfl rfl rfl hl.1 (Nat.le_of_ble_eq_true rfl) ⟨Nat.zero_le _, Nat.zero_le _⟩ dX8_reasonFor_2 (fun H locs hP hD hS => ?_)
  refine lv_iload_n hx hb dX8_reasonFor_5 rfl (lv_at hl 2 rfl) ?_
  obtain ⟨g3, h⟩ := gd_t h
  obtain ⟨g4, h⟩ := gd_t h
  refine iv_ige (tgt := 13) hx hb g3 g4 dX8_reasonFor_6 (by decide) (fun c5 => ?_) (fun c5 => ?_)
  · have h := it_t c5 h
    refine lv_aload_n hx hb dX8_reasonFor_13 rfl (lv_at hl 0 rfl) ?_
    refine lv_iload_n hx hb dX8_reasonFor_14 rfl (lv_at hl 1 rfl) ?_
    refine lv_iload_n hx hb dX8_reasonFor_15 rfl (lv_at hl 2 rfl) ?_
    obtain ⟨u6, q7, h⟩ := bd_t h
    refine iv_callIf (As := [.int (zi x1), .int (zi x2)]) (rest := []) ⟨hx, hb, hml, hown, hts⟩ (k_X8_firstAlike l E a H.size N x1 x2 u1.2 u6 q7) (cwV 2 hts gX8_reasonFor_X8_firstAlike rfl rfl rfl (by decide +kernel) ⟨Nat.le_of_ble_eq_true rfl, Nat.le_of_ble_eq_true rfl⟩) hK hP hD hS hA 0 8 rfl rfl rfl hl.1 (Nat.le_of_ble_eq_true rfl) ⟨Nat.zero_le _, Nat.zero_le _⟩ dX8_reasonFor_16 (fun H locs hP hD hS => ?_)
    refine iv_bipush hx hb dX8_reasonFor_19 (by decide +kernel) ?_
    obtain ⟨g8, h⟩ := gd_t h
    refine iv_ine (tgt := 28) hx hb g8 (by decide +kernel) dX8_reasonFor_21 (by decide) (fun c9 => ?_) (fun c9 => ?_)
    · have h := it_f c9 h
      refine iv_iconst hx hb dX8_reasonFor_28 ?_
      cases h
      exact iv_iret hx hb hr hlocks hK hP hD hS dX8_reasonFor_29
    · have h := it_t c9 h
      refine iv_iconst hx hb dX8_reasonFor_24 ?_
      refine lv_goto (tgt := 29) hx hb dX8_reasonFor_25 (by decide) ?_
      cases h
      exact iv_iret hx hb hr hlocks hK hP hD hS dX8_reasonFor_29
  · have h := it_f c5 h
    refine iv_iconst hx hb dX8_reasonFor_9 ?_
    refine lv_goto (tgt := 29) hx hb dX8_reasonFor_10 (by decide) ?_
    cases h
    exact iv_iret hx hb hr hlocks hK hP hD hS dX8_reasonFor_29
set_option maxRecDepth 20000 in
theorem wd_X8_shirtNow_f7 : Cond.fieldLink RX8 7 "ShirtButtonsModel" "row" "[I" ∈ wsX8_shirtNow := by decide +kernel
set_option maxRecDepth 20000 in
theorem in_X8_shirtNow_X8 : ∀ w ∈ u_ws RX8 TX8 13, w ∈ wsX8_shirtNow := by decide +kernel
set_option maxRecDepth 20000 in
theorem wd_X8_shirtNow_f22 : Cond.fieldLink RX8 22 "ShirtButtonsModel" "line" "[I" ∈ wsX8_shirtNow := by decide +kernel
set_option maxHeartbeats 4000000 in
set_option maxRecDepth 100000 in
theorem k_X8_shirtNow (l : Launch) (E : wE) (a : Nat → Nat) (sz : Nat) (N : Nat) (x1 x2 : Int) (z : bM) (u : (Int × bM)) (hf : f_X8_shirtNow N x1 x2 z = some u) : cI l yX8_shirtNow wsX8_shirtNow { frames := 4, cells := 0, slots := 0, locals := 90 } E sz [.ref (a 0), .int (zi x1), .int (zi x2)] (wM a E z) (wM a E u.2) u.1 := by
  refine met_go (cc := cX8_shirtNow) (maxL := 6) (ret := (some .int)) (Q0 := mQi E (wM a E u.2) u.1) (by decide +kernel) rfl (Nat.le_of_ble_eq_true rfl) ?_
  intro A p e s m below meth c hx hb hr hml hts hown hlocks hP hK hD hA hS ls hl
  have hl : lv_has ls 6 [(0, .ref (a 0)), (1, .int (zi x1)), (2, .int (zi x2))] := hl
  generalize hH : s.heap = H at hP
  have hS : va_S A s.heap H [] := by rw [← hH]; exact hS
  have hown : s.vm.findClass RX8 = some m.cls := hown
  have loop13 : ∀ (n : Nat) (v3 v4 v5 v6 v7 : Int) (s8 : bM) (H : Heap) (locs : List Loc) (ls : Array Slot), f_X8_shirtNow_L13 N n v3 v4 v5 v6 v7 s8 = some u → va_P E.1 vwCl (wM a E s8) H → va_D A (wM a E s8) → va_S A s.heap H locs → lv_has ls 6 [(0, .ref (a 0)), (1, .int (zi v3)), (2, .int (zi v4)), (3, .int (zi v5)), (4, .int (zi v6)), (5, .int (zi v7))] → W p l e ({ frames := 4, cells := 0, slots := 0, locals := 90 }) s m ([.ref (a 0), .int (zi x1), .int (zi x2)] : List Value).toArray below meth c H locs 0 0 (MQ below (mQi E (wM a E u.2) u.1 A) ([.ref (a 0), .int (zi x1), .int (zi x2)] : List Value).toArray s 0 0 A) (F0 m 13 ls []) := by
    intro n
    induction n with
    | zero =>
      intro v3 v4 v5 v6 v7 s8 H locs ls h
      exact absurd (show (none : Option (Int × bM)) = some u from h) (by simp)
    | succ n ih =>
      intro v3 v4 v5 v6 v7 s8 H locs ls h hP hD hS hl
      rw [f_X8_shirtNow_L13] at h
      refine lv_iload hx hb dX8_shirtNow_13 (lv_at hl 5 rfl) ?_
      refine lv_iload_n hx hb dX8_shirtNow_15 rfl (lv_at hl 3 rfl) ?_
      refine lv_iload_n hx hb dX8_shirtNow_16 rfl (lv_at hl 2 rfl) ?_
      refine iv_iadd hx hb dX8_shirtNow_17 ?_
      obtain ⟨g9, h⟩ := gd_t h
      obtain ⟨g10, h⟩ := gd_t h
      refine iv_ige (tgt := 90) hx hb g9 g10 dX8_shirtNow_18 (by decide) (fun c11 => ?_) (fun c11 => ?_)
      · have h := it_t c11 h
        refine lv_iload hx hb dX8_shirtNow_90 (lv_at hl 4 rfl) ?_
        obtain ⟨g12, h⟩ := gd_t h
        refine iv_ge (tgt := 99) hx hb g12 dX8_shirtNow_92 (by decide) (fun c13 => ?_) (fun c13 => ?_)
        · have h := it_t c13 h
          refine lv_iload hx hb dX8_shirtNow_99 (lv_at hl 4 rfl) ?_
          refine lv_istore (lv' := [(4, .int (zi v6)), (0, .ref (a 0)), (1, .int (zi v3)), (2, .int (zi v4)), (3, .int (zi v5)), (5, .int (zi v7))]) hx hb dX8_shirtNow_101 hl (by decide) rfl (fun ls hl => ?_)
          refine lv_aload_n hx hb dX8_shirtNow_103 rfl (lv_at hl 1 rfl) ?_
          refine va_get (D := E.1) (ci := 8) (v := .ref (a 1)) (C := RX8) (T := TX8) (N := 13) hx hb hts in_X8_shirtNow_X8 hown hK.1 hP 0 rfl rfl 0 (by decide) (hts _ wd_X8_shirtNow_f7) (fun _ h9 => h9) rfl dX8_shirtNow_104 ?_
          refine iv_bipush hx hb dX8_shirtNow_107 (by decide +kernel) ?_
          refine lv_dup2_11 hx hb dX8_shirtNow_109 rfl rfl ?_
          refine iv_iald (f := s8.1) (j := 8) hx hb hK.1 hP 1 0 rfl rfl (by decide) (by decide +kernel) rfl dX8_shirtNow_110 ?_
          refine iv_iconst hx hb dX8_shirtNow_111 ?_
          refine iv_iadd hx hb dX8_shirtNow_112 ?_
          obtain ⟨s14, e15, h⟩ := nm_t h
          refine iv_iast (f := s8.1) (j := 8) (ws1 := wM a E s14) hx hb hK.1 hP hD hS 1 0 rfl rfl (by decide) (by decide +kernel) rfl (by rw [e15]; rfl) dX8_shirtNow_113 (fun H locs hP hD hS => ?_)
          refine lv_aload_n hx hb dX8_shirtNow_114 rfl (lv_at hl 1 rfl) ?_
          refine va_get (D := E.1) (ci := 8) (v := .ref (a 1)) (C := RX8) (T := TX8) (N := 13) hx hb hts in_X8_shirtNow_X8 hown hK.1 hP 0 rfl rfl 0 (by decide) (hts _ wd_X8_shirtNow_f7) (fun _ h9 => h9) rfl dX8_shirtNow_115 ?_
          refine iv_bipush hx hb dX8_shirtNow_118 (by decide +kernel) ?_
          refine lv_dup2_11 hx hb dX8_shirtNow_120 rfl rfl ?_
          refine iv_iald (f := s14.1) (j := 9) hx hb hK.1 hP 1 0 rfl rfl (by decide) (by decide +kernel) rfl dX8_shirtNow_121 ?_
          refine lv_iload hx hb dX8_shirtNow_122 (lv_at hl 0 rfl) ?_
          refine iv_iadd hx hb dX8_shirtNow_124 ?_
          obtain ⟨s16, e17, h⟩ := nm_t h
          refine iv_iast (f := s14.1) (j := 9) (ws1 := wM a E s16) hx hb hK.1 hP hD hS 1 0 rfl rfl (by decide) (by decide +kernel) rfl (by rw [e17]; rfl) dX8_shirtNow_125 (fun H locs hP hD hS => ?_)
          refine lv_iload hx hb dX8_shirtNow_126 (lv_at hl 0 rfl) ?_
          cases h
          exact iv_iret hx hb hr hlocks hK hP hD hS dX8_shirtNow_128
        · have h := it_f c13 h
          refine iv_iconst hx hb dX8_shirtNow_95 ?_
          refine lv_goto (tgt := 101) hx hb dX8_shirtNow_96 (by decide) ?_
          refine lv_istore (lv' := [(4, .int (zi 0)), (0, .ref (a 0)), (1, .int (zi v3)), (2, .int (zi v4)), (3, .int (zi v5)), (5, .int (zi v7))]) hx hb dX8_shirtNow_101 hl (by decide) rfl (fun ls hl => ?_)
          refine lv_aload_n hx hb dX8_shirtNow_103 rfl (lv_at hl 1 rfl) ?_
          refine va_get (D := E.1) (ci := 8) (v := .ref (a 1)) (C := RX8) (T := TX8) (N := 13) hx hb hts in_X8_shirtNow_X8 hown hK.1 hP 0 rfl rfl 0 (by decide) (hts _ wd_X8_shirtNow_f7) (fun _ h9 => h9) rfl dX8_shirtNow_104 ?_
          refine iv_bipush hx hb dX8_shirtNow_107 (by decide +kernel) ?_
          refine lv_dup2_11 hx hb dX8_shirtNow_109 rfl rfl ?_
          refine iv_iald (f := s8.1) (j := 8) hx hb hK.1 hP 1 0 rfl rfl (by decide) (by decide +kernel) rfl dX8_shirtNow_110 ?_
          refine iv_iconst hx hb dX8_shirtNow_111 ?_
          refine iv_iadd hx hb dX8_shirtNow_112 ?_
          obtain ⟨s18, e19, h⟩ := nm_t h
          refine iv_iast (f := s8.1) (j := 8) (ws1 := wM a E s18) hx hb hK.1 hP hD hS 1 0 rfl rfl (by decide) (by decide +kernel) rfl (by rw [e19]; rfl) dX8_shirtNow_113 (fun H locs hP hD hS => ?_)
          refine lv_aload_n hx hb dX8_shirtNow_114 rfl (lv_at hl 1 rfl) ?_
          refine va_get (D := E.1) (ci := 8) (v := .ref (a 1)) (C := RX8) (T := TX8) (N := 13) hx hb hts in_X8_shirtNow_X8 hown hK.1 hP 0 rfl rfl 0 (by decide) (hts _ wd_X8_shirtNow_f7) (fun _ h9 => h9) rfl dX8_shirtNow_115 ?_
          refine iv_bipush hx hb dX8_shirtNow_118 (by decide +kernel) ?_
          refine lv_dup2_11 hx hb dX8_shirtNow_120 rfl rfl ?_
          refine iv_iald (f := s18.1) (j := 9) hx hb hK.1 hP 1 0 rfl rfl (by decide) (by decide +kernel) rfl dX8_shirtNow_121 ?_
          refine lv_iload hx hb dX8_shirtNow_122 (lv_at hl 0 rfl) ?_
          refine iv_iadd hx hb dX8_shirtNow_124 ?_
          obtain ⟨s20, e21, h⟩ := nm_t h
          refine iv_iast (f := s18.1) (j := 9) (ws1 := wM a E s20) hx hb hK.1 hP hD hS 1 0 rfl rfl (by decide) (by decide +kernel) rfl (by rw [e21]; rfl) dX8_shirtNow_125 (fun H locs hP hD hS => ?_)
          refine lv_iload hx hb dX8_shirtNow_126 (lv_at hl 0 rfl) ?_
          cases h
          exact iv_iret hx hb hr hlocks hK hP hD hS dX8_shirtNow_128
      · have h := it_f c11 h
        refine lv_iload hx hb dX8_shirtNow_21 (lv_at hl 4 rfl) ?_
        refine lv_aload_n hx hb dX8_shirtNow_23 rfl (lv_at hl 0 rfl) ?_
        refine lv_aload_n hx hb dX8_shirtNow_24 rfl (lv_at hl 0 rfl) ?_
        refine va_get (D := E.1) (ci := 8) (v := .ref (a 5)) (C := RX8) (T := TX8) (N := 13) hx hb hts in_X8_shirtNow_X8 hown hK.1 hP 0 rfl rfl 6 (by decide) (hts _ wd_X8_shirtNow_f22) (fun _ h9 => h9) rfl dX8_shirtNow_25 ?_
        refine lv_iload hx hb dX8_shirtNow_28 (lv_at hl 5 rfl) ?_
        obtain ⟨g22, h⟩ := gd_t h
        refine iv_iald (f := s8.2.2.2.2.2.2.1) (j := v7.toNat) hx hb hK.1 hP 5 0 rfl rfl (by decide) g22 rfl dX8_shirtNow_30 ?_
        refine iv_iconst hx hb dX8_shirtNow_31 ?_
        obtain ⟨u23, q24, h⟩ := bd_t h
        refine iv_callIf (As := [.int (zi (s8.2.2.2.2.2.2.1 v7.toNat)), .int (zi 4)]) (rest := [.int (zi v6)]) ⟨hx, hb, hml, hown, hts⟩ (k_X8_of l E a H.size (s8.2.2.2.2.2.2.1 v7.toNat) 4 s8 u23 q24) (cwV 2 hts gX8_shirtNow_X8_of rfl rfl rfl (by decide +kernel) ⟨Nat.le_of_ble_eq_true rfl, Nat.le_of_ble_eq_true rfl⟩) hK hP hD hS hA 0 8 rfl rfl rfl hl.1 (Nat.le_of_ble_eq_true rfl) ⟨Nat.zero_le _, Nat.zero_le _⟩ dX8_shirtNow_32 (fun H locs hP hD hS => ?_)
        refine lv_aload_n hx hb dX8_shirtNow_35 rfl (lv_at hl 0 rfl) ?_
        refine lv_aload_n hx hb dX8_shirtNow_36 rfl (lv_at hl 0 rfl) ?_
        refine va_get (D := E.1) (ci := 8) (v := .ref (a 5)) (C := RX8) (T := TX8) (N := 13) hx hb hts in_X8_shirtNow_X8 hown hK.1 hP 0 rfl rfl 6 (by decide) (hts _ wd_X8_shirtNow_f22) (fun _ h9 => h9) rfl dX8_shirtNow_37 ?_
        refine lv_iload hx hb dX8_shirtNow_40 (lv_at hl 5 rfl) ?_
        refine iv_iald (f := u23.2.2.2.2.2.2.2.1) (j := v7.toNat) hx hb hK.1 hP 5 0 rfl rfl (by decide) g22 rfl dX8_shirtNow_42 ?_
        refine iv_iconst hx hb dX8_shirtNow_43 ?_
        obtain ⟨u25, q26, h⟩ := bd_t h
        refine iv_callIf (As := [.int (zi (u23.2.2.2.2.2.2.2.1 v7.toNat)), .int (zi 3)]) (rest := [.int (zi u23.1), .int (zi v6)]) ⟨hx, hb, hml, hown, hts⟩ (k_X8_of l E a H.size (u23.2.2.2.2.2.2.2.1 v7.toNat) 3 u23.2 u25 q26) (cwV 2 hts gX8_shirtNow_X8_of rfl rfl rfl (by decide +kernel) ⟨Nat.le_of_ble_eq_true rfl, Nat.le_of_ble_eq_true rfl⟩) hK hP hD hS hA 0 8 rfl rfl rfl hl.1 (Nat.le_of_ble_eq_true rfl) ⟨Nat.zero_le _, Nat.zero_le _⟩ dX8_shirtNow_44 (fun H locs hP hD hS => ?_)
        refine iv_isub hx hb dX8_shirtNow_47 ?_
        refine iv_iadd hx hb dX8_shirtNow_48 ?_
        obtain ⟨v27, e28, h⟩ := nm_t h
        refine iv_nm e28 ?_
        refine lv_istore (lv' := [(4, .int (zi v27)), (0, .ref (a 0)), (1, .int (zi v3)), (2, .int (zi v4)), (3, .int (zi v5)), (5, .int (zi v7))]) hx hb dX8_shirtNow_49 hl (by decide) rfl (fun ls hl => ?_)
        refine lv_aload_n hx hb dX8_shirtNow_51 rfl (lv_at hl 1 rfl) ?_
        refine lv_aload_n hx hb dX8_shirtNow_52 rfl (lv_at hl 1 rfl) ?_
        refine va_get (D := E.1) (ci := 8) (v := .ref (a 5)) (C := RX8) (T := TX8) (N := 13) hx hb hts in_X8_shirtNow_X8 hown hK.1 hP 0 rfl rfl 6 (by decide) (hts _ wd_X8_shirtNow_f22) (fun _ h9 => h9) rfl dX8_shirtNow_53 ?_
        refine lv_iload hx hb dX8_shirtNow_56 (lv_at hl 5 rfl) ?_
        refine iv_iald (f := u25.2.2.2.2.2.2.2.1) (j := v7.toNat) hx hb hK.1 hP 5 0 rfl rfl (by decide) g22 rfl dX8_shirtNow_58 ?_
        refine iv_bipush hx hb dX8_shirtNow_59 (by decide +kernel) ?_
        obtain ⟨u29, q30, h⟩ := bd_t h
        refine iv_callVf (As := [.int (zi (u25.2.2.2.2.2.2.2.1 v7.toNat)), .int (zi 6)]) (rest := []) ⟨hx, hb, hml, hown, hts⟩ (k_X8_bring l E a H.size (u25.2.2.2.2.2.2.2.1 v7.toNat) 6 u25.2 u29 q30) (cwV 2 hts gX8_shirtNow_X8_bring rfl rfl rfl (by decide +kernel) ⟨Nat.le_of_ble_eq_true rfl, Nat.le_of_ble_eq_true rfl⟩) hK hP hD hS hA 0 8 rfl rfl rfl hl.1 (Nat.le_of_ble_eq_true rfl) ⟨Nat.zero_le _, Nat.zero_le _⟩ dX8_shirtNow_61 (fun H locs hP hD hS => ?_)
        refine lv_aload_n hx hb dX8_shirtNow_64 rfl (lv_at hl 1 rfl) ?_
        refine lv_aload_n hx hb dX8_shirtNow_65 rfl (lv_at hl 1 rfl) ?_
        refine va_get (D := E.1) (ci := 8) (v := .ref (a 5)) (C := RX8) (T := TX8) (N := 13) hx hb hts in_X8_shirtNow_X8 hown hK.1 hP 0 rfl rfl 6 (by decide) (hts _ wd_X8_shirtNow_f22) (fun _ h9 => h9) rfl dX8_shirtNow_66 ?_
        refine lv_iload hx hb dX8_shirtNow_69 (lv_at hl 5 rfl) ?_
        refine iv_iald (f := u29.2.2.2.2.2.2.1) (j := v7.toNat) hx hb hK.1 hP 5 0 rfl rfl (by decide) g22 rfl dX8_shirtNow_71 ?_
        refine iv_bipush hx hb dX8_shirtNow_72 (by decide +kernel) ?_
        refine lv_aload_n hx hb dX8_shirtNow_74 rfl (lv_at hl 1 rfl) ?_
        refine va_get (D := E.1) (ci := 8) (v := .ref (a 1)) (C := RX8) (T := TX8) (N := 13) hx hb hts in_X8_shirtNow_X8 hown hK.1 hP 0 rfl rfl 0 (by decide) (hts _ wd_X8_shirtNow_f7) (fun _ h9 => h9) rfl dX8_shirtNow_75 ?_
        refine iv_bipush hx hb dX8_shirtNow_78 (by decide +kernel) ?_
        refine iv_iald (f := u29.1) (j := 8) hx hb hK.1 hP 1 0 rfl rfl (by decide) (by decide +kernel) rfl dX8_shirtNow_80 ?_
        obtain ⟨u31, q32, h⟩ := bd_t h
        refine iv_callVf (As := [.int (zi (u29.2.2.2.2.2.2.1 v7.toNat)), .int (zi 7), .int (zi (u29.1 8))]) (rest := []) ⟨hx, hb, hml, hown, hts⟩ (k_X8_put l E a H.size (u29.2.2.2.2.2.2.1 v7.toNat) 7 (u29.1 8) u29 u31 q32) (cwV 3 hts gX8_shirtNow_X8_put rfl rfl rfl (by decide +kernel) ⟨Nat.le_of_ble_eq_true rfl, Nat.le_of_ble_eq_true rfl⟩) hK hP hD hS hA 0 8 rfl rfl rfl hl.1 (Nat.le_of_ble_eq_true rfl) ⟨Nat.zero_le _, Nat.zero_le _⟩ dX8_shirtNow_81 (fun H locs hP hD hS => ?_)
        refine lv_iinc (v := zi (v7 + 1)) (lv' := [(5, .int (zi (v7 + 1))), (4, .int (zi v27)), (0, .ref (a 0)), (1, .int (zi v3)), (2, .int (zi v4)), (3, .int (zi v5))]) hx hb dX8_shirtNow_84 hl (k := 5) rfl (by rw [zi_add]; rfl) (by decide) rfl (fun ls hl => ?_)
        refine lv_goto (tgt := 13) hx hb dX8_shirtNow_87 (by decide) ?_
        exact ih v3 v4 v5 v27 (v7 + 1) u31 _ _ _ h hP hD hS (lv_sub hl [2, 3, 4, 5, 1, 0] rfl)
  have h := hf
  rw [f_X8_shirtNow] at h
  refine lv_aload_n hx hb dX8_shirtNow_0 rfl (lv_at hl 0 rfl) ?_
  refine lv_iload_n hx hb dX8_shirtNow_1 rfl (lv_at hl 1 rfl) ?_
  refine lv_iload_n hx hb dX8_shirtNow_2 rfl (lv_at hl 2 rfl) ?_
  obtain ⟨u1, q2, h⟩ := bd_t h
  refine iv_callIf (As := [.int (zi x1), .int (zi x2)]) (rest := []) ⟨hx, hb, hml, hown, hts⟩ (k_X8_firstAlike l E a H.size N x1 x2 z u1 q2) (cwV 2 hts gX8_shirtNow_X8_firstAlike rfl rfl rfl (by decide +kernel) ⟨Nat.le_of_ble_eq_true rfl, Nat.le_of_ble_eq_true rfl⟩) hK hP hD hS hA 0 8 rfl rfl rfl hl.1 (Nat.le_of_ble_eq_true rfl) ⟨Nat.zero_le _, Nat.zero_le _⟩ dX8_shirtNow_3 (fun H locs hP hD hS => ?_)
  refine lv_istore_n (lv' := [(3, .int (zi u1.1)), (0, .ref (a 0)), (1, .int (zi x1)), (2, .int (zi x2))]) hx hb dX8_shirtNow_6 rfl hl (by decide) rfl (fun ls hl => ?_)
  refine iv_iconst hx hb dX8_shirtNow_7 ?_
  refine lv_istore (lv' := [(4, .int (zi 0)), (3, .int (zi u1.1)), (0, .ref (a 0)), (1, .int (zi x1)), (2, .int (zi x2))]) hx hb dX8_shirtNow_8 hl (by decide) rfl (fun ls hl => ?_)
  refine lv_iload_n hx hb dX8_shirtNow_10 rfl (lv_at hl 1 rfl) ?_
  refine lv_istore (lv' := [(5, .int (zi u1.1)), (4, .int (zi 0)), (3, .int (zi u1.1)), (0, .ref (a 0)), (1, .int (zi x1)), (2, .int (zi x2))]) hx hb dX8_shirtNow_11 hl (by decide) rfl (fun ls hl => ?_)
  exact loop13 N x1 x2 u1.1 0 u1.1 u1.2 _ _ _ h hP hD hS (lv_sub hl [3, 4, 5, 2, 1, 0] rfl)
set_option maxHeartbeats 4000000 in
set_option maxRecDepth 100000 in
theorem k_X8_shirt (l : Launch) (E : wE) (a : Nat → Nat) (sz : Nat) (N : Nat) (x1 x2 : Int) (z : bM) (u : (Int × bM)) (hf : f_X8_shirt N x1 x2 z = some u) : cI l yX8_shirt wsX8_shirt { frames := 5, cells := 0, slots := 0, locals := 115 } E sz [.ref (a 0), .int (zi x1), .int (zi x2)] (wM a E z) (wM a E u.2) u.1 := by
  refine met_go (cc := cX8_shirt) (maxL := 4) (ret := (some .int)) (Q0 := mQi E (wM a E u.2) u.1) (by decide +kernel) rfl (Nat.le_of_ble_eq_true rfl) ?_
  intro A p e s m below meth c hx hb hr hml hts hown hlocks hP hK hD hA hS ls hl
  have hl : lv_has ls 4 [(0, .ref (a 0)), (1, .int (zi x1)), (2, .int (zi x2))] := hl
  generalize hH : s.heap = H at hP
  have hS : va_S A s.heap H [] := by rw [← hH]; exact hS
  have hown : s.vm.findClass RX8 = some m.cls := hown
  have h := hf
  rw [f_X8_shirt] at h
  refine lv_iload_n hx hb dX8_shirt_0 rfl (lv_at hl 1 rfl) ?_
  obtain ⟨u1, q2, h⟩ := bd_t h
  refine iv_callS (As := [.int (zi x1)]) (rest := []) ⟨hx, hb, hml, hown, hts⟩ (k_X8_isBin l E H.size x1 u1 q2) (va_cwS 1 hts gX8_shirt_X8_isBin rfl rfl rfl (by decide +kernel) ⟨Nat.le_of_ble_eq_true rfl, Nat.le_of_ble_eq_true rfl⟩) hK hP hS hA rfl hl.1 (Nat.le_of_ble_eq_true rfl) ⟨Nat.zero_le _, Nat.zero_le _⟩ dX8_shirt_1 (fun H locs hP hS => ?_)
  obtain ⟨g3, h⟩ := gd_t h
  refine iv_ne (tgt := 9) hx hb g3 dX8_shirt_4 (by decide) (fun c4 => ?_) (fun c4 => ?_)
  · have h := it_f c4 h
    refine lv_iload_n hx hb dX8_shirt_9 rfl (lv_at hl 2 rfl) ?_
    refine iv_iconst hx hb dX8_shirt_10 ?_
    refine iv_bipush hx hb dX8_shirt_11 (by decide +kernel) ?_
    obtain ⟨u5, q6, h⟩ := bd_t h
    refine iv_callS (As := [.int (zi x2), .int (zi 1), .int (zi 9)]) (rest := []) ⟨hx, hb, hml, hown, hts⟩ (k_X8_in l E H.size x2 1 9 u5 q6) (va_cwS 3 hts gX8_shirt_X8_in rfl rfl rfl (by decide +kernel) ⟨Nat.le_of_ble_eq_true rfl, Nat.le_of_ble_eq_true rfl⟩) hK hP hS hA rfl hl.1 (Nat.le_of_ble_eq_true rfl) ⟨Nat.zero_le _, Nat.zero_le _⟩ dX8_shirt_13 (fun H locs hP hS => ?_)
    obtain ⟨g7, h⟩ := gd_t h
    refine iv_ne (tgt := 22) hx hb g7 dX8_shirt_16 (by decide) (fun c8 => ?_) (fun c8 => ?_)
    · have h := it_f c8 h
      refine lv_aload_n hx hb dX8_shirt_22 rfl (lv_at hl 0 rfl) ?_
      refine lv_iload_n hx hb dX8_shirt_23 rfl (lv_at hl 1 rfl) ?_
      refine lv_iload_n hx hb dX8_shirt_24 rfl (lv_at hl 2 rfl) ?_
      obtain ⟨u9, q10, h⟩ := bd_t h
      refine iv_callIf (As := [.int (zi x1), .int (zi x2)]) (rest := []) ⟨hx, hb, hml, hown, hts⟩ (k_X8_reasonFor l E a H.size N x1 x2 z u9 q10) (cwV 2 hts gX8_shirt_X8_reasonFor rfl rfl rfl (by decide +kernel) ⟨Nat.le_of_ble_eq_true rfl, Nat.le_of_ble_eq_true rfl⟩) hK hP hD hS hA 0 8 rfl rfl rfl hl.1 (Nat.le_of_ble_eq_true rfl) ⟨Nat.zero_le _, Nat.zero_le _⟩ dX8_shirt_25 (fun H locs hP hD hS => ?_)
      refine lv_istore_n (lv' := [(3, .int (zi u9.1)), (0, .ref (a 0)), (1, .int (zi x1)), (2, .int (zi x2))]) hx hb dX8_shirt_28 rfl hl (by decide) rfl (fun ls hl => ?_)
      refine lv_iload_n hx hb dX8_shirt_29 rfl (lv_at hl 0 rfl) ?_
      obtain ⟨g11, h⟩ := gd_t h
      refine iv_le (tgt := 38) hx hb g11 dX8_shirt_30 (by decide) (fun c12 => ?_) (fun c12 => ?_)
      · have h := it_t c12 h
        refine lv_aload_n hx hb dX8_shirt_38 rfl (lv_at hl 1 rfl) ?_
        obtain ⟨u13, q14, h⟩ := bd_t h
        refine iv_callVf (As := []) (rest := []) ⟨hx, hb, hml, hown, hts⟩ (k_X8_record l E a H.size N  u9.2 u13 q14) (cwV 0 hts gX8_shirt_X8_record rfl rfl rfl (by decide +kernel) ⟨Nat.le_of_ble_eq_true rfl, Nat.le_of_ble_eq_true rfl⟩) hK hP hD hS hA 0 8 rfl rfl rfl hl.1 (Nat.le_of_ble_eq_true rfl) ⟨Nat.zero_le _, Nat.zero_le _⟩ dX8_shirt_39 (fun H locs hP hD hS => ?_)
        refine lv_aload_n hx hb dX8_shirt_42 rfl (lv_at hl 1 rfl) ?_
        refine lv_iload_n hx hb dX8_shirt_43 rfl (lv_at hl 2 rfl) ?_
        refine lv_iload_n hx hb dX8_shirt_44 rfl (lv_at hl 3 rfl) ?_
        obtain ⟨u15, q16, h⟩ := bd_t h
        refine iv_callIf (As := [.int (zi x1), .int (zi x2)]) (rest := []) ⟨hx, hb, hml, hown, hts⟩ (k_X8_shirtNow l E a H.size N x1 x2 u13 u15 q16) (cwV 2 hts gX8_shirt_X8_shirtNow rfl rfl rfl (by decide +kernel) ⟨Nat.le_of_ble_eq_true rfl, Nat.le_of_ble_eq_true rfl⟩) hK hP hD hS hA 0 8 rfl rfl rfl hl.1 (Nat.le_of_ble_eq_true rfl) ⟨Nat.zero_le _, Nat.zero_le _⟩ dX8_shirt_45 (fun H locs hP hD hS => ?_)
        cases h
        exact iv_iret hx hb hr hlocks hK hP hD hS dX8_shirt_48
      · have h := it_f c12 h
        refine iv_bipush hx hb dX8_shirt_33 (by decide +kernel) ?_
        refine lv_iload_n hx hb dX8_shirt_35 rfl (lv_at hl 0 rfl) ?_
        refine iv_isub hx hb dX8_shirt_36 ?_
        cases h
        exact iv_iret hx hb hr hlocks hK hP hD hS dX8_shirt_37
    · have h := it_t c8 h
      refine iv_bipush hx hb dX8_shirt_19 (by decide +kernel) ?_
      cases h
      exact iv_iret hx hb hr hlocks hK hP hD hS dX8_shirt_21
  · have h := it_t c4 h
    refine iv_iconst hx hb dX8_shirt_7 ?_
    cases h
    exact iv_iret hx hb hr hlocks hK hP hD hS dX8_shirt_8
set_option maxHeartbeats 4000000 in
set_option maxRecDepth 100000 in
theorem k_X8_polish (l : Launch) (E : wE) (a : Nat → Nat) (sz : Nat) (N : Nat) (x1 : Int) (z : bM) (u : (Int × bM)) (hf : f_X8_polish N x1 z = some u) : cI l yX8_polish wsX8_polish { frames := 2, cells := 0, slots := 0, locals := 43 } E sz [.ref (a 0), .int (zi x1)] (wM a E z) (wM a E u.2) u.1 := by
  refine met_go (cc := cX8_polish) (maxL := 2) (ret := (some .int)) (Q0 := mQi E (wM a E u.2) u.1) (by decide +kernel) rfl (Nat.le_of_ble_eq_true rfl) ?_
  intro A p e s m below meth c hx hb hr hml hts hown hlocks hP hK hD hA hS ls hl
  have hl : lv_has ls 2 [(0, .ref (a 0)), (1, .int (zi x1))] := hl
  generalize hH : s.heap = H at hP
  have hS : va_S A s.heap H [] := by rw [← hH]; exact hS
  have hown : s.vm.findClass RX8 = some m.cls := hown
  have h := hf
  rw [f_X8_polish] at h
  refine lv_aload_n hx hb dX8_polish_0 rfl (lv_at hl 0 rfl) ?_
  refine lv_iload_n hx hb dX8_polish_1 rfl (lv_at hl 1 rfl) ?_
  obtain ⟨u1, q2, h⟩ := bd_t h
  refine iv_callIf (As := [.int (zi x1)]) (rest := []) ⟨hx, hb, hml, hown, hts⟩ (k_X8_isButton l E a H.size x1 z u1 q2) (cwV 1 hts gX8_polish_X8_isButton rfl rfl rfl (by decide +kernel) ⟨Nat.le_of_ble_eq_true rfl, Nat.le_of_ble_eq_true rfl⟩) hK hP hD hS hA 0 8 rfl rfl rfl hl.1 (Nat.le_of_ble_eq_true rfl) ⟨Nat.zero_le _, Nat.zero_le _⟩ dX8_polish_2 (fun H locs hP hD hS => ?_)
  obtain ⟨g3, h⟩ := gd_t h
  refine iv_ne (tgt := 10) hx hb g3 dX8_polish_5 (by decide) (fun c4 => ?_) (fun c4 => ?_)
  · have h := it_f c4 h
    refine lv_aload_n hx hb dX8_polish_10 rfl (lv_at hl 0 rfl) ?_
    refine lv_iload_n hx hb dX8_polish_11 rfl (lv_at hl 1 rfl) ?_
    refine iv_iconst hx hb dX8_polish_12 ?_
    obtain ⟨u5, q6, h⟩ := bd_t h
    refine iv_callIf (As := [.int (zi x1), .int (zi 5)]) (rest := []) ⟨hx, hb, hml, hown, hts⟩ (k_X8_of l E a H.size x1 5 u1.2 u5 q6) (cwV 2 hts gX8_polish_X8_of rfl rfl rfl (by decide +kernel) ⟨Nat.le_of_ble_eq_true rfl, Nat.le_of_ble_eq_true rfl⟩) hK hP hD hS hA 0 8 rfl rfl rfl hl.1 (Nat.le_of_ble_eq_true rfl) ⟨Nat.zero_le _, Nat.zero_le _⟩ dX8_polish_13 (fun H locs hP hD hS => ?_)
    refine iv_bipush hx hb dX8_polish_16 (by decide +kernel) ?_
    obtain ⟨g7, h⟩ := gd_t h
    refine iv_ieq (tgt := 32) hx hb g7 (by decide +kernel) dX8_polish_18 (by decide) (fun c8 => ?_) (fun c8 => ?_)
    · have h := it_t c8 h
      refine iv_bipush hx hb dX8_polish_32 (by decide +kernel) ?_
      cases h
      exact iv_iret hx hb hr hlocks hK hP hD hS dX8_polish_34
    · have h := it_f c8 h
      refine lv_aload_n hx hb dX8_polish_21 rfl (lv_at hl 0 rfl) ?_
      refine lv_iload_n hx hb dX8_polish_22 rfl (lv_at hl 1 rfl) ?_
      refine iv_iconst hx hb dX8_polish_23 ?_
      obtain ⟨u9, q10, h⟩ := bd_t h
      refine iv_callIf (As := [.int (zi x1), .int (zi 4)]) (rest := []) ⟨hx, hb, hml, hown, hts⟩ (k_X8_of l E a H.size x1 4 u5.2 u9 q10) (cwV 2 hts gX8_polish_X8_of rfl rfl rfl (by decide +kernel) ⟨Nat.le_of_ble_eq_true rfl, Nat.le_of_ble_eq_true rfl⟩) hK hP hD hS hA 0 8 rfl rfl rfl hl.1 (Nat.le_of_ble_eq_true rfl) ⟨Nat.zero_le _, Nat.zero_le _⟩ dX8_polish_24 (fun H locs hP hD hS => ?_)
      refine iv_bipush hx hb dX8_polish_27 (by decide +kernel) ?_
      obtain ⟨g11, h⟩ := gd_t h
      refine iv_ine (tgt := 35) hx hb g11 (by decide +kernel) dX8_polish_29 (by decide) (fun c12 => ?_) (fun c12 => ?_)
      · have h := it_f c12 h
        refine lv_aload_n hx hb dX8_polish_35 rfl (lv_at hl 0 rfl) ?_
        obtain ⟨u13, q14, h⟩ := bd_t h
        refine iv_callVf (As := []) (rest := []) ⟨hx, hb, hml, hown, hts⟩ (k_X8_record l E a H.size N  u9.2 u13 q14) (cwV 0 hts gX8_polish_X8_record rfl rfl rfl (by decide +kernel) ⟨Nat.le_of_ble_eq_true rfl, Nat.le_of_ble_eq_true rfl⟩) hK hP hD hS hA 0 8 rfl rfl rfl hl.1 (Nat.le_of_ble_eq_true rfl) ⟨Nat.zero_le _, Nat.zero_le _⟩ dX8_polish_36 (fun H locs hP hD hS => ?_)
        refine lv_aload_n hx hb dX8_polish_39 rfl (lv_at hl 0 rfl) ?_
        refine lv_iload_n hx hb dX8_polish_40 rfl (lv_at hl 1 rfl) ?_
        refine iv_iconst hx hb dX8_polish_41 ?_
        refine lv_aload_n hx hb dX8_polish_42 rfl (lv_at hl 0 rfl) ?_
        refine lv_iload_n hx hb dX8_polish_43 rfl (lv_at hl 1 rfl) ?_
        refine iv_iconst hx hb dX8_polish_44 ?_
        obtain ⟨u15, q16, h⟩ := bd_t h
        refine iv_callIf (As := [.int (zi x1), .int (zi 4)]) (rest := [.int (zi 4), .int (zi x1), .ref (a 0)]) ⟨hx, hb, hml, hown, hts⟩ (k_X8_of l E a H.size x1 4 u13 u15 q16) (cwV 2 hts gX8_polish_X8_of rfl rfl rfl (by decide +kernel) ⟨Nat.le_of_ble_eq_true rfl, Nat.le_of_ble_eq_true rfl⟩) hK hP hD hS hA 0 8 rfl rfl rfl hl.1 (Nat.le_of_ble_eq_true rfl) ⟨Nat.zero_le _, Nat.zero_le _⟩ dX8_polish_45 (fun H locs hP hD hS => ?_)
        refine iv_iconst hx hb dX8_polish_48 ?_
        refine iv_iadd hx hb dX8_polish_49 ?_
        obtain ⟨u17, q18, h⟩ := bd_t h
        refine iv_callVf (As := [.int (zi x1), .int (zi 4), .int (zi (u15.1 + 1))]) (rest := []) ⟨hx, hb, hml, hown, hts⟩ (k_X8_put l E a H.size x1 4 (u15.1 + 1) u15.2 u17 q18) (cwV 3 hts gX8_polish_X8_put rfl rfl rfl (by decide +kernel) ⟨Nat.le_of_ble_eq_true rfl, Nat.le_of_ble_eq_true rfl⟩) hK hP hD hS hA 0 8 rfl rfl rfl hl.1 (Nat.le_of_ble_eq_true rfl) ⟨Nat.zero_le _, Nat.zero_le _⟩ dX8_polish_50 (fun H locs hP hD hS => ?_)
        refine lv_aload_n hx hb dX8_polish_53 rfl (lv_at hl 0 rfl) ?_
        refine lv_iload_n hx hb dX8_polish_54 rfl (lv_at hl 1 rfl) ?_
        refine iv_iconst hx hb dX8_polish_55 ?_
        refine lv_aload_n hx hb dX8_polish_56 rfl (lv_at hl 0 rfl) ?_
        refine lv_iload_n hx hb dX8_polish_57 rfl (lv_at hl 1 rfl) ?_
        refine iv_iconst hx hb dX8_polish_58 ?_
        obtain ⟨u19, q20, h⟩ := bd_t h
        refine iv_callIf (As := [.int (zi x1), .int (zi 3)]) (rest := [.int (zi 3), .int (zi x1), .ref (a 0)]) ⟨hx, hb, hml, hown, hts⟩ (k_X8_of l E a H.size x1 3 u17 u19 q20) (cwV 2 hts gX8_polish_X8_of rfl rfl rfl (by decide +kernel) ⟨Nat.le_of_ble_eq_true rfl, Nat.le_of_ble_eq_true rfl⟩) hK hP hD hS hA 0 8 rfl rfl rfl hl.1 (Nat.le_of_ble_eq_true rfl) ⟨Nat.zero_le _, Nat.zero_le _⟩ dX8_polish_59 (fun H locs hP hD hS => ?_)
        obtain ⟨g21, h⟩ := gd_t h
        refine iv_le (tgt := 76) hx hb g21 dX8_polish_62 (by decide) (fun c22 => ?_) (fun c22 => ?_)
        · have h := it_t c22 h
          refine iv_iconst hx hb dX8_polish_76 ?_
          obtain ⟨u23, q24, h⟩ := bd_t h
          refine iv_callVf (As := [.int (zi x1), .int (zi 3), .int (zi 0)]) (rest := []) ⟨hx, hb, hml, hown, hts⟩ (k_X8_put l E a H.size x1 3 0 u19.2 u23 q24) (cwV 3 hts gX8_polish_X8_put rfl rfl rfl (by decide +kernel) ⟨Nat.le_of_ble_eq_true rfl, Nat.le_of_ble_eq_true rfl⟩) hK hP hD hS hA 0 8 rfl rfl rfl hl.1 (Nat.le_of_ble_eq_true rfl) ⟨Nat.zero_le _, Nat.zero_le _⟩ dX8_polish_77 (fun H locs hP hD hS => ?_)
          refine lv_aload_n hx hb dX8_polish_80 rfl (lv_at hl 0 rfl) ?_
          refine lv_iload_n hx hb dX8_polish_81 rfl (lv_at hl 1 rfl) ?_
          refine iv_iconst hx hb dX8_polish_82 ?_
          obtain ⟨u25, q26, h⟩ := bd_t h
          refine iv_callIf (As := [.int (zi x1), .int (zi 4)]) (rest := []) ⟨hx, hb, hml, hown, hts⟩ (k_X8_of l E a H.size x1 4 u23 u25 q26) (cwV 2 hts gX8_polish_X8_of rfl rfl rfl (by decide +kernel) ⟨Nat.le_of_ble_eq_true rfl, Nat.le_of_ble_eq_true rfl⟩) hK hP hD hS hA 0 8 rfl rfl rfl hl.1 (Nat.le_of_ble_eq_true rfl) ⟨Nat.zero_le _, Nat.zero_le _⟩ dX8_polish_83 (fun H locs hP hD hS => ?_)
          cases h
          exact iv_iret hx hb hr hlocks hK hP hD hS dX8_polish_86
        · have h := it_f c22 h
          refine lv_aload_n hx hb dX8_polish_65 rfl (lv_at hl 0 rfl) ?_
          refine lv_iload_n hx hb dX8_polish_66 rfl (lv_at hl 1 rfl) ?_
          refine iv_iconst hx hb dX8_polish_67 ?_
          obtain ⟨u27, q28, h⟩ := bd_t h
          refine iv_callIf (As := [.int (zi x1), .int (zi 3)]) (rest := [.int (zi 3), .int (zi x1), .ref (a 0)]) ⟨hx, hb, hml, hown, hts⟩ (k_X8_of l E a H.size x1 3 u19.2 u27 q28) (cwV 2 hts gX8_polish_X8_of rfl rfl rfl (by decide +kernel) ⟨Nat.le_of_ble_eq_true rfl, Nat.le_of_ble_eq_true rfl⟩) hK hP hD hS hA 0 8 rfl rfl rfl hl.1 (Nat.le_of_ble_eq_true rfl) ⟨Nat.zero_le _, Nat.zero_le _⟩ dX8_polish_68 (fun H locs hP hD hS => ?_)
          refine iv_iconst hx hb dX8_polish_71 ?_
          refine iv_isub hx hb dX8_polish_72 ?_
          refine lv_goto (tgt := 77) hx hb dX8_polish_73 (by decide) ?_
          obtain ⟨u29, q30, h⟩ := bd_t h
          refine iv_callVf (As := [.int (zi x1), .int (zi 3), .int (zi (u27.1 - 1))]) (rest := []) ⟨hx, hb, hml, hown, hts⟩ (k_X8_put l E a H.size x1 3 (u27.1 - 1) u27.2 u29 q30) (cwV 3 hts gX8_polish_X8_put rfl rfl rfl (by decide +kernel) ⟨Nat.le_of_ble_eq_true rfl, Nat.le_of_ble_eq_true rfl⟩) hK hP hD hS hA 0 8 rfl rfl rfl hl.1 (Nat.le_of_ble_eq_true rfl) ⟨Nat.zero_le _, Nat.zero_le _⟩ dX8_polish_77 (fun H locs hP hD hS => ?_)
          refine lv_aload_n hx hb dX8_polish_80 rfl (lv_at hl 0 rfl) ?_
          refine lv_iload_n hx hb dX8_polish_81 rfl (lv_at hl 1 rfl) ?_
          refine iv_iconst hx hb dX8_polish_82 ?_
          obtain ⟨u31, q32, h⟩ := bd_t h
          refine iv_callIf (As := [.int (zi x1), .int (zi 4)]) (rest := []) ⟨hx, hb, hml, hown, hts⟩ (k_X8_of l E a H.size x1 4 u29 u31 q32) (cwV 2 hts gX8_polish_X8_of rfl rfl rfl (by decide +kernel) ⟨Nat.le_of_ble_eq_true rfl, Nat.le_of_ble_eq_true rfl⟩) hK hP hD hS hA 0 8 rfl rfl rfl hl.1 (Nat.le_of_ble_eq_true rfl) ⟨Nat.zero_le _, Nat.zero_le _⟩ dX8_polish_83 (fun H locs hP hD hS => ?_)
          cases h
          exact iv_iret hx hb hr hlocks hK hP hD hS dX8_polish_86
      · have h := it_t c12 h
        refine iv_bipush hx hb dX8_polish_32 (by decide +kernel) ?_
        cases h
        exact iv_iret hx hb hr hlocks hK hP hD hS dX8_polish_34
  · have h := it_t c4 h
    refine iv_iconst hx hb dX8_polish_8 ?_
    cases h
    exact iv_iret hx hb hr hlocks hK hP hD hS dX8_polish_9
set_option maxHeartbeats 4000000 in
set_option maxRecDepth 100000 in
theorem k_X8_maySet (l : Launch) (E : wE) (sz : Nat) (x0 x1 : Int) (u : Int) (hf : f_X8_maySet x0 x1  = some u) : cI l yX8_maySet wsX8_maySet { frames := 1, cells := 0, slots := 0, locals := 22 } E sz [.int (zi x0), .int (zi x1)] ([]) ([]) u := by
  refine met_go (cc := cX8_maySet) (maxL := 2) (ret := (some .boolean)) (Q0 := mQi E ([]) u) (by decide +kernel) rfl (Nat.le_of_ble_eq_true rfl) ?_
  intro A p e s m below meth c hx hb hr hml hts hown hlocks hP hK hD hA hS ls hl
  have hl : lv_has ls 2 [(0, .int (zi x0)), (1, .int (zi x1))] := hl
  generalize hH : s.heap = H at hP
  have hS : va_S A s.heap H [] := by rw [← hH]; exact hS
  have hown : s.vm.findClass RX8 = some m.cls := hown
  have h := hf
  rw [f_X8_maySet] at h
  refine lv_iload_n hx hb dX8_maySet_0 rfl (lv_at hl 0 rfl) ?_
  obtain ⟨g1, h⟩ := gd_t h
  by_cases c2 : x0 = 3
  · have h := it_t c2 h
    refine iv_tabIn (tgt := 36) (off := 35) hx hb dX8_maySet_1 g1 c2 (by decide) (by decide) rfl (by decide) ?_
    refine lv_iload_n hx hb dX8_maySet_36 rfl (lv_at hl 1 rfl) ?_
    refine iv_iconst hx hb dX8_maySet_37 ?_
    refine iv_bipush hx hb dX8_maySet_38 (by decide +kernel) ?_
    obtain ⟨u3, q4, h⟩ := bd_t h
    refine iv_callS (As := [.int (zi x1), .int (zi 0), .int (zi 9)]) (rest := []) ⟨hx, hb, hml, hown, hts⟩ (k_X8_in l E H.size x1 0 9 u3 q4) (va_cwS 3 hts gX8_maySet_X8_in rfl rfl rfl (by decide +kernel) ⟨Nat.le_of_ble_eq_true rfl, Nat.le_of_ble_eq_true rfl⟩) hK hP hS hA rfl hl.1 (Nat.le_of_ble_eq_true rfl) ⟨Nat.zero_le _, Nat.zero_le _⟩ dX8_maySet_40 (fun H locs hP hS => ?_)
    obtain ⟨g5, h⟩ := gd_t h
    cases h
    exact iv_zret hx hb hr hlocks g5 hK hP hD hS dX8_maySet_43
  have h := it_f c2 h
  by_cases c6 : x0 = 4
  · have h := it_t c6 h
    refine iv_tabIn (tgt := 44) (off := 43) hx hb dX8_maySet_1 g1 c6 (by decide) (by decide) rfl (by decide) ?_
    refine lv_iload_n hx hb dX8_maySet_44 rfl (lv_at hl 1 rfl) ?_
    refine iv_iconst hx hb dX8_maySet_45 ?_
    refine iv_bipush hx hb dX8_maySet_46 (by decide +kernel) ?_
    obtain ⟨u7, q8, h⟩ := bd_t h
    refine iv_callS (As := [.int (zi x1), .int (zi 1), .int (zi 10)]) (rest := []) ⟨hx, hb, hml, hown, hts⟩ (k_X8_in l E H.size x1 1 10 u7 q8) (va_cwS 3 hts gX8_maySet_X8_in rfl rfl rfl (by decide +kernel) ⟨Nat.le_of_ble_eq_true rfl, Nat.le_of_ble_eq_true rfl⟩) hK hP hS hA rfl hl.1 (Nat.le_of_ble_eq_true rfl) ⟨Nat.zero_le _, Nat.zero_le _⟩ dX8_maySet_48 (fun H locs hP hS => ?_)
    obtain ⟨g9, h⟩ := gd_t h
    cases h
    exact iv_zret hx hb hr hlocks g9 hK hP hD hS dX8_maySet_51
  have h := it_f c6 h
  by_cases c10 : x0 = 5
  · have h := it_t c10 h
    refine iv_tabIn (tgt := 52) (off := 51) hx hb dX8_maySet_1 g1 c10 (by decide) (by decide) rfl (by decide) ?_
    refine lv_iload_n hx hb dX8_maySet_52 rfl (lv_at hl 1 rfl) ?_
    refine iv_iconst hx hb dX8_maySet_53 ?_
    refine iv_bipush hx hb dX8_maySet_54 (by decide +kernel) ?_
    obtain ⟨u11, q12, h⟩ := bd_t h
    refine iv_callS (As := [.int (zi x1), .int (zi 1), .int (zi 9)]) (rest := []) ⟨hx, hb, hml, hown, hts⟩ (k_X8_in l E H.size x1 1 9 u11 q12) (va_cwS 3 hts gX8_maySet_X8_in rfl rfl rfl (by decide +kernel) ⟨Nat.le_of_ble_eq_true rfl, Nat.le_of_ble_eq_true rfl⟩) hK hP hS hA rfl hl.1 (Nat.le_of_ble_eq_true rfl) ⟨Nat.zero_le _, Nat.zero_le _⟩ dX8_maySet_56 (fun H locs hP hS => ?_)
    obtain ⟨g13, h⟩ := gd_t h
    cases h
    exact iv_zret hx hb hr hlocks g13 hK hP hD hS dX8_maySet_59
  have h := it_f c10 h
  by_cases c14 : x0 = 6
  · have h := it_t c14 h
    refine iv_tabIn (tgt := 60) (off := 59) hx hb dX8_maySet_1 g1 c14 (by decide) (by decide) rfl (by decide) ?_
    refine lv_iload_n hx hb dX8_maySet_60 rfl (lv_at hl 1 rfl) ?_
    refine iv_iconst hx hb dX8_maySet_61 ?_
    refine iv_bipush hx hb dX8_maySet_62 (by decide +kernel) ?_
    obtain ⟨u15, q16, h⟩ := bd_t h
    refine iv_callS (As := [.int (zi x1), .int (zi 0), .int (zi 20)]) (rest := []) ⟨hx, hb, hml, hown, hts⟩ (k_X8_in l E H.size x1 0 20 u15 q16) (va_cwS 3 hts gX8_maySet_X8_in rfl rfl rfl (by decide +kernel) ⟨Nat.le_of_ble_eq_true rfl, Nat.le_of_ble_eq_true rfl⟩) hK hP hS hA rfl hl.1 (Nat.le_of_ble_eq_true rfl) ⟨Nat.zero_le _, Nat.zero_le _⟩ dX8_maySet_64 (fun H locs hP hS => ?_)
    obtain ⟨g17, h⟩ := gd_t h
    cases h
    exact iv_zret hx hb hr hlocks g17 hK hP hD hS dX8_maySet_67
  have h := it_f c14 h
  by_cases c18 : x0 = 7
  · have h := it_t c18 h
    refine iv_tabIn (tgt := 36) (off := 35) hx hb dX8_maySet_1 g1 c18 (by decide) (by decide) rfl (by decide) ?_
    refine lv_iload_n hx hb dX8_maySet_36 rfl (lv_at hl 1 rfl) ?_
    refine iv_iconst hx hb dX8_maySet_37 ?_
    refine iv_bipush hx hb dX8_maySet_38 (by decide +kernel) ?_
    obtain ⟨u19, q20, h⟩ := bd_t h
    refine iv_callS (As := [.int (zi x1), .int (zi 0), .int (zi 9)]) (rest := []) ⟨hx, hb, hml, hown, hts⟩ (k_X8_in l E H.size x1 0 9 u19 q20) (va_cwS 3 hts gX8_maySet_X8_in rfl rfl rfl (by decide +kernel) ⟨Nat.le_of_ble_eq_true rfl, Nat.le_of_ble_eq_true rfl⟩) hK hP hS hA rfl hl.1 (Nat.le_of_ble_eq_true rfl) ⟨Nat.zero_le _, Nat.zero_le _⟩ dX8_maySet_40 (fun H locs hP hS => ?_)
    obtain ⟨g21, h⟩ := gd_t h
    cases h
    exact iv_zret hx hb hr hlocks g21 hK hP hD hS dX8_maySet_43
  have h := it_f c18 h
  refine iv_tabOut (tgt := 68) hx hb dX8_maySet_1 g1 (by omega) (by decide) ?_
  refine lv_iload_n hx hb dX8_maySet_68 rfl (lv_at hl 1 rfl) ?_
  refine iv_iconst hx hb dX8_maySet_69 ?_
  refine iv_bipush hx hb dX8_maySet_70 (by decide +kernel) ?_
  obtain ⟨u22, q23, h⟩ := bd_t h
  refine iv_callS (As := [.int (zi x1), .int (zi 1), .int (zi 30)]) (rest := []) ⟨hx, hb, hml, hown, hts⟩ (k_X8_in l E H.size x1 1 30 u22 q23) (va_cwS 3 hts gX8_maySet_X8_in rfl rfl rfl (by decide +kernel) ⟨Nat.le_of_ble_eq_true rfl, Nat.le_of_ble_eq_true rfl⟩) hK hP hS hA rfl hl.1 (Nat.le_of_ble_eq_true rfl) ⟨Nat.zero_le _, Nat.zero_le _⟩ dX8_maySet_72 (fun H locs hP hS => ?_)
  obtain ⟨g24, h⟩ := gd_t h
  cases h
  exact iv_zret hx hb hr hlocks g24 hK hP hD hS dX8_maySet_75
set_option maxRecDepth 20000 in
theorem wd_X8_areMeshes_f7 : Cond.fieldLink RX8 7 "ShirtButtonsModel" "row" "[I" ∈ wsX8_areMeshes := by decide +kernel
set_option maxRecDepth 20000 in
theorem in_X8_areMeshes_X8 : ∀ w ∈ u_ws RX8 TX8 13, w ∈ wsX8_areMeshes := by decide +kernel
set_option maxHeartbeats 4000000 in
set_option maxRecDepth 100000 in
theorem k_X8_areMeshes (l : Launch) (E : wE) (a : Nat → Nat) (sz : Nat) (x1 x2 : Int) (z : bM) (u : (Int × bM)) (hf : f_X8_areMeshes x1 x2 z = some u) : cI l yX8_areMeshes wsX8_areMeshes { frames := 0, cells := 0, slots := 0, locals := 0 } E sz [.ref (a 0), .int (zi x1), .int (zi x2)] (wM a E z) (wM a E u.2) u.1 := by
  refine met_go (cc := cX8_areMeshes) (maxL := 6) (ret := (some .boolean)) (Q0 := mQi E (wM a E u.2) u.1) (by decide +kernel) rfl (Nat.le_of_ble_eq_true rfl) ?_
  intro A p e s m below meth c hx hb hr hml hts hown hlocks hP hK hD hA hS ls hl
  have hl : lv_has ls 6 [(0, .ref (a 0)), (1, .int (zi x1)), (2, .int (zi x2))] := hl
  generalize hH : s.heap = H at hP
  have hS : va_S A s.heap H [] := by rw [← hH]; exact hS
  have hown : s.vm.findClass RX8 = some m.cls := hown
  have h := hf
  rw [f_X8_areMeshes] at h
  refine lv_iload_n hx hb dX8_areMeshes_0 rfl (lv_at hl 1 rfl) ?_
  obtain ⟨g1, h⟩ := gd_t h
  refine iv_ne (tgt := 8) hx hb g1 dX8_areMeshes_1 (by decide) (fun c2 => ?_) (fun c2 => ?_)
  · have h := it_f c2 h
    refine lv_aload_n hx hb dX8_areMeshes_8 rfl (lv_at hl 0 rfl) ?_
    refine va_get (D := E.1) (ci := 8) (v := .ref (a 1)) (C := RX8) (T := TX8) (N := 13) hx hb hts in_X8_areMeshes_X8 hown hK.1 hP 0 rfl rfl 0 (by decide) (hts _ wd_X8_areMeshes_f7) (fun _ h9 => h9) rfl dX8_areMeshes_9 ?_
    refine iv_iconst hx hb dX8_areMeshes_12 ?_
    refine iv_iald (f := z.1) (j := 0) hx hb hK.1 hP 1 0 rfl rfl (by decide) (by decide +kernel) rfl dX8_areMeshes_13 ?_
    obtain ⟨v3, e4, h⟩ := nm_t h
    refine iv_nm e4 ?_
    refine lv_istore_n (lv' := [(3, .int (zi v3)), (0, .ref (a 0)), (1, .int (zi x1)), (2, .int (zi x2))]) hx hb dX8_areMeshes_14 rfl hl (by decide) rfl (fun ls hl => ?_)
    refine lv_iload_n hx hb dX8_areMeshes_15 rfl (lv_at hl 2 rfl) ?_
    refine iv_iconst hx hb dX8_areMeshes_16 ?_
    refine iv_ine (tgt := 24) hx hb g1 (by decide +kernel) dX8_areMeshes_17 (by decide) (fun c5 => ?_) (fun c5 => ?_)
    · have h := it_f c5 h
      refine lv_aload_n hx hb dX8_areMeshes_24 rfl (lv_at hl 1 rfl) ?_
      refine va_get (D := E.1) (ci := 8) (v := .ref (a 1)) (C := RX8) (T := TX8) (N := 13) hx hb hts in_X8_areMeshes_X8 hown hK.1 hP 0 rfl rfl 0 (by decide) (hts _ wd_X8_areMeshes_f7) (fun _ h9 => h9) rfl dX8_areMeshes_25 ?_
      refine iv_iconst hx hb dX8_areMeshes_28 ?_
      refine iv_iald (f := z.1) (j := 1) hx hb hK.1 hP 1 0 rfl rfl (by decide) (by decide +kernel) rfl dX8_areMeshes_29 ?_
      obtain ⟨v6, e7, h⟩ := nm_t h
      refine iv_nm e7 ?_
      refine lv_istore (lv' := [(4, .int (zi v6)), (3, .int (zi v3)), (0, .ref (a 0)), (1, .int (zi x1)), (2, .int (zi x2))]) hx hb dX8_areMeshes_30 hl (by decide) rfl (fun ls hl => ?_)
      refine lv_iload_n hx hb dX8_areMeshes_32 rfl (lv_at hl 3 rfl) ?_
      refine iv_iconst hx hb dX8_areMeshes_33 ?_
      refine iv_ine (tgt := 41) hx hb g1 (by decide +kernel) dX8_areMeshes_34 (by decide) (fun c8 => ?_) (fun c8 => ?_)
      · have h := it_f c8 h
        refine lv_aload_n hx hb dX8_areMeshes_41 rfl (lv_at hl 2 rfl) ?_
        refine va_get (D := E.1) (ci := 8) (v := .ref (a 1)) (C := RX8) (T := TX8) (N := 13) hx hb hts in_X8_areMeshes_X8 hown hK.1 hP 0 rfl rfl 0 (by decide) (hts _ wd_X8_areMeshes_f7) (fun _ h9 => h9) rfl dX8_areMeshes_42 ?_
        refine iv_iconst hx hb dX8_areMeshes_45 ?_
        refine iv_iald (f := z.1) (j := 2) hx hb hK.1 hP 1 0 rfl rfl (by decide) (by decide +kernel) rfl dX8_areMeshes_46 ?_
        obtain ⟨v9, e10, h⟩ := nm_t h
        refine iv_nm e10 ?_
        refine lv_istore (lv' := [(5, .int (zi v9)), (4, .int (zi v6)), (3, .int (zi v3)), (0, .ref (a 0)), (1, .int (zi x1)), (2, .int (zi x2))]) hx hb dX8_areMeshes_47 hl (by decide) rfl (fun ls hl => ?_)
        refine lv_iload_n hx hb dX8_areMeshes_49 rfl (lv_at hl 2 rfl) ?_
        refine lv_iload hx hb dX8_areMeshes_50 (lv_at hl 1 rfl) ?_
        obtain ⟨g11, h⟩ := gd_t h
        obtain ⟨g12, h⟩ := gd_t h
        refine iv_igt (tgt := 66) hx hb g11 g12 dX8_areMeshes_52 (by decide) (fun c13 => ?_) (fun c13 => ?_)
        · have h := it_t c13 h
          refine iv_iconst hx hb dX8_areMeshes_66 ?_
          cases h
          exact iv_zret (r := 0) hx hb hr hlocks (by decide +kernel) hK hP hD hS dX8_areMeshes_67
        · have h := it_f c13 h
          refine lv_iload hx hb dX8_areMeshes_55 (lv_at hl 1 rfl) ?_
          refine lv_iload hx hb dX8_areMeshes_57 (lv_at hl 0 rfl) ?_
          obtain ⟨g14, h⟩ := gd_t h
          refine iv_igt (tgt := 66) hx hb g12 g14 dX8_areMeshes_59 (by decide) (fun c15 => ?_) (fun c15 => ?_)
          · have h := it_t c15 h
            refine iv_iconst hx hb dX8_areMeshes_66 ?_
            cases h
            exact iv_zret (r := 0) hx hb hr hlocks (by decide +kernel) hK hP hD hS dX8_areMeshes_67
          · have h := it_f c15 h
            refine iv_iconst hx hb dX8_areMeshes_62 ?_
            refine lv_goto (tgt := 67) hx hb dX8_areMeshes_63 (by decide) ?_
            cases h
            exact iv_zret (r := 1) hx hb hr hlocks (by decide +kernel) hK hP hD hS dX8_areMeshes_67
      · have h := it_t c8 h
        refine lv_iload_n hx hb dX8_areMeshes_37 rfl (lv_at hl 4 rfl) ?_
        refine lv_goto (tgt := 47) hx hb dX8_areMeshes_38 (by decide) ?_
        refine lv_istore (lv' := [(5, .int (zi x2)), (4, .int (zi v6)), (3, .int (zi v3)), (0, .ref (a 0)), (1, .int (zi x1)), (2, .int (zi x2))]) hx hb dX8_areMeshes_47 hl (by decide) rfl (fun ls hl => ?_)
        refine lv_iload_n hx hb dX8_areMeshes_49 rfl (lv_at hl 2 rfl) ?_
        refine lv_iload hx hb dX8_areMeshes_50 (lv_at hl 1 rfl) ?_
        obtain ⟨g16, h⟩ := gd_t h
        obtain ⟨g17, h⟩ := gd_t h
        refine iv_igt (tgt := 66) hx hb g16 g17 dX8_areMeshes_52 (by decide) (fun c18 => ?_) (fun c18 => ?_)
        · have h := it_t c18 h
          refine iv_iconst hx hb dX8_areMeshes_66 ?_
          cases h
          exact iv_zret (r := 0) hx hb hr hlocks (by decide +kernel) hK hP hD hS dX8_areMeshes_67
        · have h := it_f c18 h
          refine lv_iload hx hb dX8_areMeshes_55 (lv_at hl 1 rfl) ?_
          refine lv_iload hx hb dX8_areMeshes_57 (lv_at hl 0 rfl) ?_
          obtain ⟨g19, h⟩ := gd_t h
          refine iv_igt (tgt := 66) hx hb g17 g19 dX8_areMeshes_59 (by decide) (fun c20 => ?_) (fun c20 => ?_)
          · have h := it_t c20 h
            refine iv_iconst hx hb dX8_areMeshes_66 ?_
            cases h
            exact iv_zret (r := 0) hx hb hr hlocks (by decide +kernel) hK hP hD hS dX8_areMeshes_67
          · have h := it_f c20 h
            refine iv_iconst hx hb dX8_areMeshes_62 ?_
            refine lv_goto (tgt := 67) hx hb dX8_areMeshes_63 (by decide) ?_
            cases h
            exact iv_zret (r := 1) hx hb hr hlocks (by decide +kernel) hK hP hD hS dX8_areMeshes_67
    · have h := it_t c5 h
      refine lv_iload_n hx hb dX8_areMeshes_20 rfl (lv_at hl 3 rfl) ?_
      refine lv_goto (tgt := 30) hx hb dX8_areMeshes_21 (by decide) ?_
      refine lv_istore (lv' := [(4, .int (zi x2)), (3, .int (zi v3)), (0, .ref (a 0)), (1, .int (zi x1)), (2, .int (zi x2))]) hx hb dX8_areMeshes_30 hl (by decide) rfl (fun ls hl => ?_)
      refine lv_iload_n hx hb dX8_areMeshes_32 rfl (lv_at hl 3 rfl) ?_
      refine iv_iconst hx hb dX8_areMeshes_33 ?_
      refine iv_ine (tgt := 41) hx hb g1 (by decide +kernel) dX8_areMeshes_34 (by decide) (fun c21 => ?_) (fun c21 => ?_)
      · have h := it_f c21 h
        refine lv_aload_n hx hb dX8_areMeshes_41 rfl (lv_at hl 2 rfl) ?_
        refine va_get (D := E.1) (ci := 8) (v := .ref (a 1)) (C := RX8) (T := TX8) (N := 13) hx hb hts in_X8_areMeshes_X8 hown hK.1 hP 0 rfl rfl 0 (by decide) (hts _ wd_X8_areMeshes_f7) (fun _ h9 => h9) rfl dX8_areMeshes_42 ?_
        refine iv_iconst hx hb dX8_areMeshes_45 ?_
        refine iv_iald (f := z.1) (j := 2) hx hb hK.1 hP 1 0 rfl rfl (by decide) (by decide +kernel) rfl dX8_areMeshes_46 ?_
        obtain ⟨v22, e23, h⟩ := nm_t h
        refine iv_nm e23 ?_
        refine lv_istore (lv' := [(5, .int (zi v22)), (4, .int (zi x2)), (3, .int (zi v3)), (0, .ref (a 0)), (1, .int (zi x1)), (2, .int (zi x2))]) hx hb dX8_areMeshes_47 hl (by decide) rfl (fun ls hl => ?_)
        refine lv_iload_n hx hb dX8_areMeshes_49 rfl (lv_at hl 2 rfl) ?_
        refine lv_iload hx hb dX8_areMeshes_50 (lv_at hl 1 rfl) ?_
        obtain ⟨g24, h⟩ := gd_t h
        obtain ⟨g25, h⟩ := gd_t h
        refine iv_igt (tgt := 66) hx hb g24 g25 dX8_areMeshes_52 (by decide) (fun c26 => ?_) (fun c26 => ?_)
        · have h := it_t c26 h
          refine iv_iconst hx hb dX8_areMeshes_66 ?_
          cases h
          exact iv_zret (r := 0) hx hb hr hlocks (by decide +kernel) hK hP hD hS dX8_areMeshes_67
        · have h := it_f c26 h
          refine lv_iload hx hb dX8_areMeshes_55 (lv_at hl 1 rfl) ?_
          refine lv_iload hx hb dX8_areMeshes_57 (lv_at hl 0 rfl) ?_
          obtain ⟨g27, h⟩ := gd_t h
          refine iv_igt (tgt := 66) hx hb g25 g27 dX8_areMeshes_59 (by decide) (fun c28 => ?_) (fun c28 => ?_)
          · have h := it_t c28 h
            refine iv_iconst hx hb dX8_areMeshes_66 ?_
            cases h
            exact iv_zret (r := 0) hx hb hr hlocks (by decide +kernel) hK hP hD hS dX8_areMeshes_67
          · have h := it_f c28 h
            refine iv_iconst hx hb dX8_areMeshes_62 ?_
            refine lv_goto (tgt := 67) hx hb dX8_areMeshes_63 (by decide) ?_
            cases h
            exact iv_zret (r := 1) hx hb hr hlocks (by decide +kernel) hK hP hD hS dX8_areMeshes_67
      · have h := it_t c21 h
        refine lv_iload_n hx hb dX8_areMeshes_37 rfl (lv_at hl 4 rfl) ?_
        refine lv_goto (tgt := 47) hx hb dX8_areMeshes_38 (by decide) ?_
        refine lv_istore (lv' := [(5, .int (zi x2)), (4, .int (zi x2)), (3, .int (zi v3)), (0, .ref (a 0)), (1, .int (zi x1)), (2, .int (zi x2))]) hx hb dX8_areMeshes_47 hl (by decide) rfl (fun ls hl => ?_)
        refine lv_iload_n hx hb dX8_areMeshes_49 rfl (lv_at hl 2 rfl) ?_
        refine lv_iload hx hb dX8_areMeshes_50 (lv_at hl 1 rfl) ?_
        obtain ⟨g29, h⟩ := gd_t h
        obtain ⟨g30, h⟩ := gd_t h
        refine iv_igt (tgt := 66) hx hb g29 g30 dX8_areMeshes_52 (by decide) (fun c31 => ?_) (fun c31 => ?_)
        · have h := it_t c31 h
          refine iv_iconst hx hb dX8_areMeshes_66 ?_
          cases h
          exact iv_zret (r := 0) hx hb hr hlocks (by decide +kernel) hK hP hD hS dX8_areMeshes_67
        · have h := it_f c31 h
          refine lv_iload hx hb dX8_areMeshes_55 (lv_at hl 1 rfl) ?_
          refine lv_iload hx hb dX8_areMeshes_57 (lv_at hl 0 rfl) ?_
          refine iv_igt (tgt := 66) hx hb g30 g30 dX8_areMeshes_59 (by decide) (fun c32 => ?_) (fun c32 => ?_)
          · have h := it_t c32 h
            refine iv_iconst hx hb dX8_areMeshes_66 ?_
            cases h
            exact iv_zret (r := 0) hx hb hr hlocks (by decide +kernel) hK hP hD hS dX8_areMeshes_67
          · have h := it_f c32 h
            refine iv_iconst hx hb dX8_areMeshes_62 ?_
            refine lv_goto (tgt := 67) hx hb dX8_areMeshes_63 (by decide) ?_
            cases h
            exact iv_zret (r := 1) hx hb hr hlocks (by decide +kernel) hK hP hD hS dX8_areMeshes_67
  · have h := it_t c2 h
    refine lv_iload_n hx hb dX8_areMeshes_4 rfl (lv_at hl 2 rfl) ?_
    refine lv_goto (tgt := 14) hx hb dX8_areMeshes_5 (by decide) ?_
    refine lv_istore_n (lv' := [(3, .int (zi x2)), (0, .ref (a 0)), (1, .int (zi x1)), (2, .int (zi x2))]) hx hb dX8_areMeshes_14 rfl hl (by decide) rfl (fun ls hl => ?_)
    refine lv_iload_n hx hb dX8_areMeshes_15 rfl (lv_at hl 2 rfl) ?_
    refine iv_iconst hx hb dX8_areMeshes_16 ?_
    refine iv_ine (tgt := 24) hx hb g1 (by decide +kernel) dX8_areMeshes_17 (by decide) (fun c33 => ?_) (fun c33 => ?_)
    · have h := it_f c33 h
      refine lv_aload_n hx hb dX8_areMeshes_24 rfl (lv_at hl 1 rfl) ?_
      refine va_get (D := E.1) (ci := 8) (v := .ref (a 1)) (C := RX8) (T := TX8) (N := 13) hx hb hts in_X8_areMeshes_X8 hown hK.1 hP 0 rfl rfl 0 (by decide) (hts _ wd_X8_areMeshes_f7) (fun _ h9 => h9) rfl dX8_areMeshes_25 ?_
      refine iv_iconst hx hb dX8_areMeshes_28 ?_
      refine iv_iald (f := z.1) (j := 1) hx hb hK.1 hP 1 0 rfl rfl (by decide) (by decide +kernel) rfl dX8_areMeshes_29 ?_
      obtain ⟨v34, e35, h⟩ := nm_t h
      refine iv_nm e35 ?_
      refine lv_istore (lv' := [(4, .int (zi v34)), (3, .int (zi x2)), (0, .ref (a 0)), (1, .int (zi x1)), (2, .int (zi x2))]) hx hb dX8_areMeshes_30 hl (by decide) rfl (fun ls hl => ?_)
      refine lv_iload_n hx hb dX8_areMeshes_32 rfl (lv_at hl 3 rfl) ?_
      refine iv_iconst hx hb dX8_areMeshes_33 ?_
      refine iv_ine (tgt := 41) hx hb g1 (by decide +kernel) dX8_areMeshes_34 (by decide) (fun c36 => ?_) (fun c36 => ?_)
      · have h := it_f c36 h
        refine lv_aload_n hx hb dX8_areMeshes_41 rfl (lv_at hl 2 rfl) ?_
        refine va_get (D := E.1) (ci := 8) (v := .ref (a 1)) (C := RX8) (T := TX8) (N := 13) hx hb hts in_X8_areMeshes_X8 hown hK.1 hP 0 rfl rfl 0 (by decide) (hts _ wd_X8_areMeshes_f7) (fun _ h9 => h9) rfl dX8_areMeshes_42 ?_
        refine iv_iconst hx hb dX8_areMeshes_45 ?_
        refine iv_iald (f := z.1) (j := 2) hx hb hK.1 hP 1 0 rfl rfl (by decide) (by decide +kernel) rfl dX8_areMeshes_46 ?_
        obtain ⟨v37, e38, h⟩ := nm_t h
        refine iv_nm e38 ?_
        refine lv_istore (lv' := [(5, .int (zi v37)), (4, .int (zi v34)), (3, .int (zi x2)), (0, .ref (a 0)), (1, .int (zi x1)), (2, .int (zi x2))]) hx hb dX8_areMeshes_47 hl (by decide) rfl (fun ls hl => ?_)
        refine lv_iload_n hx hb dX8_areMeshes_49 rfl (lv_at hl 2 rfl) ?_
        refine lv_iload hx hb dX8_areMeshes_50 (lv_at hl 1 rfl) ?_
        obtain ⟨g39, h⟩ := gd_t h
        obtain ⟨g40, h⟩ := gd_t h
        refine iv_igt (tgt := 66) hx hb g39 g40 dX8_areMeshes_52 (by decide) (fun c41 => ?_) (fun c41 => ?_)
        · have h := it_t c41 h
          refine iv_iconst hx hb dX8_areMeshes_66 ?_
          cases h
          exact iv_zret (r := 0) hx hb hr hlocks (by decide +kernel) hK hP hD hS dX8_areMeshes_67
        · have h := it_f c41 h
          refine lv_iload hx hb dX8_areMeshes_55 (lv_at hl 1 rfl) ?_
          refine lv_iload hx hb dX8_areMeshes_57 (lv_at hl 0 rfl) ?_
          obtain ⟨g42, h⟩ := gd_t h
          refine iv_igt (tgt := 66) hx hb g40 g42 dX8_areMeshes_59 (by decide) (fun c43 => ?_) (fun c43 => ?_)
          · have h := it_t c43 h
            refine iv_iconst hx hb dX8_areMeshes_66 ?_
            cases h
            exact iv_zret (r := 0) hx hb hr hlocks (by decide +kernel) hK hP hD hS dX8_areMeshes_67
          · have h := it_f c43 h
            refine iv_iconst hx hb dX8_areMeshes_62 ?_
            refine lv_goto (tgt := 67) hx hb dX8_areMeshes_63 (by decide) ?_
            cases h
            exact iv_zret (r := 1) hx hb hr hlocks (by decide +kernel) hK hP hD hS dX8_areMeshes_67
      · have h := it_t c36 h
        refine lv_iload_n hx hb dX8_areMeshes_37 rfl (lv_at hl 4 rfl) ?_
        refine lv_goto (tgt := 47) hx hb dX8_areMeshes_38 (by decide) ?_
        refine lv_istore (lv' := [(5, .int (zi x2)), (4, .int (zi v34)), (3, .int (zi x2)), (0, .ref (a 0)), (1, .int (zi x1)), (2, .int (zi x2))]) hx hb dX8_areMeshes_47 hl (by decide) rfl (fun ls hl => ?_)
        refine lv_iload_n hx hb dX8_areMeshes_49 rfl (lv_at hl 2 rfl) ?_
        refine lv_iload hx hb dX8_areMeshes_50 (lv_at hl 1 rfl) ?_
        obtain ⟨g44, h⟩ := gd_t h
        obtain ⟨g45, h⟩ := gd_t h
        refine iv_igt (tgt := 66) hx hb g44 g45 dX8_areMeshes_52 (by decide) (fun c46 => ?_) (fun c46 => ?_)
        · have h := it_t c46 h
          refine iv_iconst hx hb dX8_areMeshes_66 ?_
          cases h
          exact iv_zret (r := 0) hx hb hr hlocks (by decide +kernel) hK hP hD hS dX8_areMeshes_67
        · have h := it_f c46 h
          refine lv_iload hx hb dX8_areMeshes_55 (lv_at hl 1 rfl) ?_
          refine lv_iload hx hb dX8_areMeshes_57 (lv_at hl 0 rfl) ?_
          refine iv_igt (tgt := 66) hx hb g45 g44 dX8_areMeshes_59 (by decide) (fun c47 => ?_) (fun c47 => ?_)
          · have h := it_t c47 h
            refine iv_iconst hx hb dX8_areMeshes_66 ?_
            cases h
            exact iv_zret (r := 0) hx hb hr hlocks (by decide +kernel) hK hP hD hS dX8_areMeshes_67
          · have h := it_f c47 h
            refine iv_iconst hx hb dX8_areMeshes_62 ?_
            refine lv_goto (tgt := 67) hx hb dX8_areMeshes_63 (by decide) ?_
            cases h
            exact iv_zret (r := 1) hx hb hr hlocks (by decide +kernel) hK hP hD hS dX8_areMeshes_67
    · have h := it_t c33 h
      refine lv_iload_n hx hb dX8_areMeshes_20 rfl (lv_at hl 3 rfl) ?_
      refine lv_goto (tgt := 30) hx hb dX8_areMeshes_21 (by decide) ?_
      refine lv_istore (lv' := [(4, .int (zi x2)), (3, .int (zi x2)), (0, .ref (a 0)), (1, .int (zi x1)), (2, .int (zi x2))]) hx hb dX8_areMeshes_30 hl (by decide) rfl (fun ls hl => ?_)
      refine lv_iload_n hx hb dX8_areMeshes_32 rfl (lv_at hl 3 rfl) ?_
      refine iv_iconst hx hb dX8_areMeshes_33 ?_
      refine iv_ine (tgt := 41) hx hb g1 (by decide +kernel) dX8_areMeshes_34 (by decide) (fun c48 => ?_) (fun c48 => ?_)
      · have h := it_f c48 h
        refine lv_aload_n hx hb dX8_areMeshes_41 rfl (lv_at hl 2 rfl) ?_
        refine va_get (D := E.1) (ci := 8) (v := .ref (a 1)) (C := RX8) (T := TX8) (N := 13) hx hb hts in_X8_areMeshes_X8 hown hK.1 hP 0 rfl rfl 0 (by decide) (hts _ wd_X8_areMeshes_f7) (fun _ h9 => h9) rfl dX8_areMeshes_42 ?_
        refine iv_iconst hx hb dX8_areMeshes_45 ?_
        refine iv_iald (f := z.1) (j := 2) hx hb hK.1 hP 1 0 rfl rfl (by decide) (by decide +kernel) rfl dX8_areMeshes_46 ?_
        obtain ⟨v49, e50, h⟩ := nm_t h
        refine iv_nm e50 ?_
        refine lv_istore (lv' := [(5, .int (zi v49)), (4, .int (zi x2)), (3, .int (zi x2)), (0, .ref (a 0)), (1, .int (zi x1)), (2, .int (zi x2))]) hx hb dX8_areMeshes_47 hl (by decide) rfl (fun ls hl => ?_)
        refine lv_iload_n hx hb dX8_areMeshes_49 rfl (lv_at hl 2 rfl) ?_
        refine lv_iload hx hb dX8_areMeshes_50 (lv_at hl 1 rfl) ?_
        obtain ⟨g51, h⟩ := gd_t h
        refine iv_igt (tgt := 66) hx hb g51 g51 dX8_areMeshes_52 (by decide) (fun c52 => ?_) (fun c52 => ?_)
        · have h := it_t c52 h
          refine iv_iconst hx hb dX8_areMeshes_66 ?_
          cases h
          exact iv_zret (r := 0) hx hb hr hlocks (by decide +kernel) hK hP hD hS dX8_areMeshes_67
        · have h := it_f c52 h
          refine lv_iload hx hb dX8_areMeshes_55 (lv_at hl 1 rfl) ?_
          refine lv_iload hx hb dX8_areMeshes_57 (lv_at hl 0 rfl) ?_
          obtain ⟨g53, h⟩ := gd_t h
          refine iv_igt (tgt := 66) hx hb g51 g53 dX8_areMeshes_59 (by decide) (fun c54 => ?_) (fun c54 => ?_)
          · have h := it_t c54 h
            refine iv_iconst hx hb dX8_areMeshes_66 ?_
            cases h
            exact iv_zret (r := 0) hx hb hr hlocks (by decide +kernel) hK hP hD hS dX8_areMeshes_67
          · have h := it_f c54 h
            refine iv_iconst hx hb dX8_areMeshes_62 ?_
            refine lv_goto (tgt := 67) hx hb dX8_areMeshes_63 (by decide) ?_
            cases h
            exact iv_zret (r := 1) hx hb hr hlocks (by decide +kernel) hK hP hD hS dX8_areMeshes_67
      · have h := it_t c48 h
        refine lv_iload_n hx hb dX8_areMeshes_37 rfl (lv_at hl 4 rfl) ?_
        refine lv_goto (tgt := 47) hx hb dX8_areMeshes_38 (by decide) ?_
        refine lv_istore (lv' := [(5, .int (zi x2)), (4, .int (zi x2)), (3, .int (zi x2)), (0, .ref (a 0)), (1, .int (zi x1)), (2, .int (zi x2))]) hx hb dX8_areMeshes_47 hl (by decide) rfl (fun ls hl => ?_)
        refine lv_iload_n hx hb dX8_areMeshes_49 rfl (lv_at hl 2 rfl) ?_
        refine lv_iload hx hb dX8_areMeshes_50 (lv_at hl 1 rfl) ?_
        obtain ⟨g55, h⟩ := gd_t h
        refine iv_igt (tgt := 66) hx hb g55 g55 dX8_areMeshes_52 (by decide) (fun c56 => ?_) (fun c56 => ?_)
        · have h := it_t c56 h
          refine iv_iconst hx hb dX8_areMeshes_66 ?_
          cases h
          exact iv_zret (r := 0) hx hb hr hlocks (by decide +kernel) hK hP hD hS dX8_areMeshes_67
        · have h := it_f c56 h
          refine lv_iload hx hb dX8_areMeshes_55 (lv_at hl 1 rfl) ?_
          refine lv_iload hx hb dX8_areMeshes_57 (lv_at hl 0 rfl) ?_
          refine iv_igt (tgt := 66) hx hb g55 g55 dX8_areMeshes_59 (by decide) (fun c57 => ?_) (fun c57 => ?_)
          · have h := it_t c57 h
            refine iv_iconst hx hb dX8_areMeshes_66 ?_
            cases h
            exact iv_zret (r := 0) hx hb hr hlocks (by decide +kernel) hK hP hD hS dX8_areMeshes_67
          · have h := it_f c57 h
            refine iv_iconst hx hb dX8_areMeshes_62 ?_
            refine lv_goto (tgt := 67) hx hb dX8_areMeshes_63 (by decide) ?_
            cases h
            exact iv_zret (r := 1) hx hb hr hlocks (by decide +kernel) hK hP hD hS dX8_areMeshes_67
set_option maxRecDepth 20000 in
theorem wd_X8_set_f7 : Cond.fieldLink RX8 7 "ShirtButtonsModel" "row" "[I" ∈ wsX8_set := by decide +kernel
set_option maxRecDepth 20000 in
theorem in_X8_set_X8 : ∀ w ∈ u_ws RX8 TX8 13, w ∈ wsX8_set := by decide +kernel
set_option maxHeartbeats 4000000 in
set_option maxRecDepth 100000 in
theorem k_X8_set (l : Launch) (E : wE) (a : Nat → Nat) (sz : Nat) (N : Nat) (x1 x2 : Int) (z : bM) (u : (Int × bM)) (hf : f_X8_set N x1 x2 z = some u) : cI l yX8_set wsX8_set { frames := 2, cells := 0, slots := 0, locals := 43 } E sz [.ref (a 0), .int (zi x1), .int (zi x2)] (wM a E z) (wM a E u.2) u.1 := by
  refine met_go (cc := cX8_set) (maxL := 4) (ret := (some .int)) (Q0 := mQi E (wM a E u.2) u.1) (by decide +kernel) rfl (Nat.le_of_ble_eq_true rfl) ?_
  intro A p e s m below meth c hx hb hr hml hts hown hlocks hP hK hD hA hS ls hl
  have hl : lv_has ls 4 [(0, .ref (a 0)), (1, .int (zi x1)), (2, .int (zi x2))] := hl
  generalize hH : s.heap = H at hP
  have hS : va_S A s.heap H [] := by rw [← hH]; exact hS
  have hown : s.vm.findClass RX8 = some m.cls := hown
  have h := hf
  rw [f_X8_set] at h
  refine lv_iload_n hx hb dX8_set_0 rfl (lv_at hl 1 rfl) ?_
  refine iv_iconst hx hb dX8_set_1 ?_
  refine iv_bipush hx hb dX8_set_2 (by decide +kernel) ?_
  obtain ⟨u1, q2, h⟩ := bd_t h
  refine iv_callS (As := [.int (zi x1), .int (zi 0), .int (zi 7)]) (rest := []) ⟨hx, hb, hml, hown, hts⟩ (k_X8_in l E H.size x1 0 7 u1 q2) (va_cwS 3 hts gX8_set_X8_in rfl rfl rfl (by decide +kernel) ⟨Nat.le_of_ble_eq_true rfl, Nat.le_of_ble_eq_true rfl⟩) hK hP hS hA rfl hl.1 (Nat.le_of_ble_eq_true rfl) ⟨Nat.zero_le _, Nat.zero_le _⟩ dX8_set_4 (fun H locs hP hS => ?_)
  obtain ⟨g3, h⟩ := gd_t h
  refine iv_ne (tgt := 12) hx hb g3 dX8_set_7 (by decide) (fun c4 => ?_) (fun c4 => ?_)
  · have h := it_f c4 h
    refine lv_iload_n hx hb dX8_set_12 rfl (lv_at hl 1 rfl) ?_
    refine lv_iload_n hx hb dX8_set_13 rfl (lv_at hl 2 rfl) ?_
    obtain ⟨u5, q6, h⟩ := bd_t h
    refine iv_callS (As := [.int (zi x1), .int (zi x2)]) (rest := []) ⟨hx, hb, hml, hown, hts⟩ (k_X8_maySet l E H.size x1 x2 u5 q6) (va_cwS 2 hts gX8_set_X8_maySet rfl rfl rfl (by decide +kernel) ⟨Nat.le_of_ble_eq_true rfl, Nat.le_of_ble_eq_true rfl⟩) hK hP hS hA rfl hl.1 (Nat.le_of_ble_eq_true rfl) ⟨Nat.zero_le _, Nat.zero_le _⟩ dX8_set_14 (fun H locs hP hS => ?_)
    obtain ⟨g7, h⟩ := gd_t h
    refine iv_ne (tgt := 23) hx hb g7 dX8_set_17 (by decide) (fun c8 => ?_) (fun c8 => ?_)
    · have h := it_f c8 h
      refine lv_aload_n hx hb dX8_set_23 rfl (lv_at hl 0 rfl) ?_
      refine lv_iload_n hx hb dX8_set_24 rfl (lv_at hl 1 rfl) ?_
      refine lv_iload_n hx hb dX8_set_25 rfl (lv_at hl 2 rfl) ?_
      obtain ⟨u9, q10, h⟩ := bd_t h
      refine iv_callIf (As := [.int (zi x1), .int (zi x2)]) (rest := []) ⟨hx, hb, hml, hown, hts⟩ (k_X8_areMeshes l E a H.size x1 x2 z u9 q10) (cwV 2 hts gX8_set_X8_areMeshes rfl rfl rfl (by decide +kernel) ⟨Nat.le_of_ble_eq_true rfl, Nat.le_of_ble_eq_true rfl⟩) hK hP hD hS hA 0 8 rfl rfl rfl hl.1 (Nat.le_of_ble_eq_true rfl) ⟨Nat.zero_le _, Nat.zero_le _⟩ dX8_set_26 (fun H locs hP hD hS => ?_)
      obtain ⟨g11, h⟩ := gd_t h
      refine iv_ne (tgt := 35) hx hb g11 dX8_set_29 (by decide) (fun c12 => ?_) (fun c12 => ?_)
      · have h := it_f c12 h
        refine lv_aload_n hx hb dX8_set_35 rfl (lv_at hl 0 rfl) ?_
        refine va_get (D := E.1) (ci := 8) (v := .ref (a 1)) (C := RX8) (T := TX8) (N := 13) hx hb hts in_X8_set_X8 hown hK.1 hP 0 rfl rfl 0 (by decide) (hts _ wd_X8_set_f7) (fun _ h9 => h9) rfl dX8_set_36 ?_
        refine lv_iload_n hx hb dX8_set_39 rfl (lv_at hl 1 rfl) ?_
        obtain ⟨g13, h⟩ := gd_t h
        refine iv_iald (f := u9.2.1) (j := x1.toNat) hx hb hK.1 hP 1 0 rfl rfl (by decide) g13 rfl dX8_set_40 ?_
        obtain ⟨v14, e15, h⟩ := nm_t h
        refine iv_nm e15 ?_
        refine lv_istore_n (lv' := [(3, .int (zi v14)), (0, .ref (a 0)), (1, .int (zi x1)), (2, .int (zi x2))]) hx hb dX8_set_41 rfl hl (by decide) rfl (fun ls hl => ?_)
        refine lv_iload_n hx hb dX8_set_42 rfl (lv_at hl 0 rfl) ?_
        refine lv_iload_n hx hb dX8_set_43 rfl (lv_at hl 3 rfl) ?_
        obtain ⟨g16, h⟩ := gd_t h
        obtain ⟨g17, h⟩ := gd_t h
        refine iv_ine (tgt := 50) hx hb g16 g17 dX8_set_44 (by decide) (fun c18 => ?_) (fun c18 => ?_)
        · have h := it_f c18 h
          refine lv_aload_n hx hb dX8_set_50 rfl (lv_at hl 1 rfl) ?_
          obtain ⟨u19, q20, h⟩ := bd_t h
          refine iv_callVf (As := []) (rest := []) ⟨hx, hb, hml, hown, hts⟩ (k_X8_record l E a H.size N  u9.2 u19 q20) (cwV 0 hts gX8_set_X8_record rfl rfl rfl (by decide +kernel) ⟨Nat.le_of_ble_eq_true rfl, Nat.le_of_ble_eq_true rfl⟩) hK hP hD hS hA 0 8 rfl rfl rfl hl.1 (Nat.le_of_ble_eq_true rfl) ⟨Nat.zero_le _, Nat.zero_le _⟩ dX8_set_51 (fun H locs hP hD hS => ?_)
          refine lv_aload_n hx hb dX8_set_54 rfl (lv_at hl 1 rfl) ?_
          refine va_get (D := E.1) (ci := 8) (v := .ref (a 1)) (C := RX8) (T := TX8) (N := 13) hx hb hts in_X8_set_X8 hown hK.1 hP 0 rfl rfl 0 (by decide) (hts _ wd_X8_set_f7) (fun _ h9 => h9) rfl dX8_set_55 ?_
          refine lv_iload_n hx hb dX8_set_58 rfl (lv_at hl 2 rfl) ?_
          refine lv_iload_n hx hb dX8_set_59 rfl (lv_at hl 3 rfl) ?_
          obtain ⟨s21, e22, h⟩ := nm_t h
          refine iv_iast (f := u19.1) (j := x1.toNat) (ws1 := wM a E s21) hx hb hK.1 hP hD hS 1 0 rfl rfl (by decide) g13 rfl (by rw [e22]; rfl) dX8_set_60 (fun H locs hP hD hS => ?_)
          refine lv_iload_n hx hb dX8_set_61 rfl (lv_at hl 0 rfl) ?_
          cases h
          exact iv_iret hx hb hr hlocks hK hP hD hS dX8_set_62
        · have h := it_t c18 h
          refine iv_bipush hx hb dX8_set_47 (by decide +kernel) ?_
          cases h
          exact iv_iret hx hb hr hlocks hK hP hD hS dX8_set_49
      · have h := it_t c12 h
        refine iv_bipush hx hb dX8_set_32 (by decide +kernel) ?_
        cases h
        exact iv_iret hx hb hr hlocks hK hP hD hS dX8_set_34
    · have h := it_t c8 h
      refine iv_bipush hx hb dX8_set_20 (by decide +kernel) ?_
      cases h
      exact iv_iret hx hb hr hlocks hK hP hD hS dX8_set_22
  · have h := it_t c4 h
    refine iv_iconst hx hb dX8_set_10 ?_
    cases h
    exact iv_iret hx hb hr hlocks hK hP hD hS dX8_set_11
set_option maxRecDepth 20000 in
theorem wd_X8_type_f120 : Cond.fieldLink RX8 120 "ShirtButtonsModel" "length" "I" ∈ wsX8_type := by decide +kernel
set_option maxRecDepth 20000 in
theorem in_X8_type_X8 : ∀ w ∈ u_ws RX8 TX8 13, w ∈ wsX8_type := by decide +kernel
set_option maxRecDepth 20000 in
theorem wd_X8_type_f25 : Cond.fieldLink RX8 25 "ShirtButtonsModel" "text" "[I" ∈ wsX8_type := by decide +kernel
set_option maxHeartbeats 4000000 in
set_option maxRecDepth 100000 in
theorem k_X8_type (l : Launch) (E : wE) (a : Nat → Nat) (sz : Nat) (x1 : Int) (z : bM) (u : (Int × bM)) (hf : f_X8_type x1 z = some u) : cI l yX8_type wsX8_type { frames := 0, cells := 0, slots := 0, locals := 0 } E sz [.ref (a 0), .int (zi x1)] (wM a E z) (wM a E u.2) u.1 := by
  refine met_go (cc := cX8_type) (maxL := 2) (ret := (some .int)) (Q0 := mQi E (wM a E u.2) u.1) (by decide +kernel) rfl (Nat.le_of_ble_eq_true rfl) ?_
  intro A p e s m below meth c hx hb hr hml hts hown hlocks hP hK hD hA hS ls hl
  have hl : lv_has ls 2 [(0, .ref (a 0)), (1, .int (zi x1))] := hl
  generalize hH : s.heap = H at hP
  have hS : va_S A s.heap H [] := by rw [← hH]; exact hS
  have hown : s.vm.findClass RX8 = some m.cls := hown
  have h := hf
  rw [f_X8_type] at h
  refine lv_aload_n hx hb dX8_type_0 rfl (lv_at hl 0 rfl) ?_
  refine va_get (D := E.1) (ci := 8) (v := .int (zi z.2.2.2.2.2.2.2.2.2.1)) (C := RX8) (T := TX8) (N := 13) hx hb hts in_X8_type_X8 hown hK.1 hP 0 rfl rfl 9 (by decide) (hts _ wd_X8_type_f120) (fun _ h9 => h9) rfl dX8_type_1 ?_
  refine iv_bipush hx hb dX8_type_4 (by decide +kernel) ?_
  obtain ⟨g1, h⟩ := gd_t h
  refine iv_ine (tgt := 12) hx hb g1 (by decide +kernel) dX8_type_6 (by decide) (fun c2 => ?_) (fun c2 => ?_)
  · have h := it_f c2 h
    refine lv_aload_n hx hb dX8_type_12 rfl (lv_at hl 0 rfl) ?_
    refine va_get (D := E.1) (ci := 8) (v := .ref (a 6)) (C := RX8) (T := TX8) (N := 13) hx hb hts in_X8_type_X8 hown hK.1 hP 0 rfl rfl 8 (by decide) (hts _ wd_X8_type_f25) (fun _ h9 => h9) rfl dX8_type_13 ?_
    refine lv_aload_n hx hb dX8_type_16 rfl (lv_at hl 0 rfl) ?_
    refine va_get (D := E.1) (ci := 8) (v := .int (zi z.2.2.2.2.2.2.2.2.2.1)) (C := RX8) (T := TX8) (N := 13) hx hb hts in_X8_type_X8 hown hK.1 hP 0 rfl rfl 9 (by decide) (hts _ wd_X8_type_f120) (fun _ h9 => h9) rfl dX8_type_17 ?_
    refine lv_iload_n hx hb dX8_type_20 rfl (lv_at hl 1 rfl) ?_
    obtain ⟨g3, h⟩ := gd_t h
    obtain ⟨s4, e5, h⟩ := nm_t h
    refine iv_iast (f := z.2.2.2.2.2.2.2.2.1) (j := z.2.2.2.2.2.2.2.2.2.1.toNat) (ws1 := wM a E s4) hx hb hK.1 hP hD hS 6 0 rfl rfl (by decide) g3 rfl (by rw [e5]; rfl) dX8_type_21 (fun H locs hP hD hS => ?_)
    refine lv_aload_n hx hb dX8_type_22 rfl (lv_at hl 0 rfl) ?_
    refine lv_dup hx hb dX8_type_23 rfl ?_
    refine va_get (D := E.1) (ci := 8) (v := .int (zi s4.2.2.2.2.2.2.2.2.2.1)) (C := RX8) (T := TX8) (N := 13) hx hb hts in_X8_type_X8 hown hK.1 hP 0 rfl rfl 9 (by decide) (hts _ wd_X8_type_f120) (fun _ h9 => h9) rfl dX8_type_24 ?_
    refine iv_iconst hx hb dX8_type_27 ?_
    refine iv_iadd hx hb dX8_type_28 ?_
    obtain ⟨s6, e7, h⟩ := nm_t h
    refine iv_put (D := E.1) (ci := 8) (v := .int (zi (s4.2.2.2.2.2.2.2.2.2.1 + 1))) (ty := .int) (ws1 := wM a E s6) (C := RX8) (T := TX8) (N := 13) hx hb hts in_X8_type_X8 tyX8 tyX8_ok nmX8 hown hK.1 hP hD hS 0 rfl rfl 9 (by decide) (hts _ wd_X8_type_f120) (fun _ h9 => h9) rfl (by decide +kernel) rfl rfl (Nat.le_of_ble_eq_true rfl) (by rw [e7]; rfl) dX8_type_29 (fun H locs hP hD hS => ?_)
    refine lv_aload_n hx hb dX8_type_32 rfl (lv_at hl 0 rfl) ?_
    refine va_get (D := E.1) (ci := 8) (v := .int (zi s6.2.2.2.2.2.2.2.2.2.1)) (C := RX8) (T := TX8) (N := 13) hx hb hts in_X8_type_X8 hown hK.1 hP 0 rfl rfl 9 (by decide) (hts _ wd_X8_type_f120) (fun _ h9 => h9) rfl dX8_type_33 ?_
    cases h
    exact iv_iret hx hb hr hlocks hK hP hD hS dX8_type_36
  · have h := it_t c2 h
    refine iv_bipush hx hb dX8_type_9 (by decide +kernel) ?_
    cases h
    exact iv_iret hx hb hr hlocks hK hP hD hS dX8_type_11
set_option maxRecDepth 20000 in
theorem wd_X8_clearText_f120 : Cond.fieldLink RX8 120 "ShirtButtonsModel" "length" "I" ∈ wsX8_clearText := by decide +kernel
set_option maxRecDepth 20000 in
theorem in_X8_clearText_X8 : ∀ w ∈ u_ws RX8 TX8 13, w ∈ wsX8_clearText := by decide +kernel
set_option maxHeartbeats 4000000 in
set_option maxRecDepth 100000 in
theorem k_X8_clearText (l : Launch) (E : wE) (a : Nat → Nat) (sz : Nat) (z : bM) (u : (Int × bM)) (hf : f_X8_clearText z = some u) : cI l yX8_clearText wsX8_clearText { frames := 0, cells := 0, slots := 0, locals := 0 } E sz [.ref (a 0)] (wM a E z) (wM a E u.2) u.1 := by
  refine met_go (cc := cX8_clearText) (maxL := 2) (ret := (some .int)) (Q0 := mQi E (wM a E u.2) u.1) (by decide +kernel) rfl (Nat.le_of_ble_eq_true rfl) ?_
  intro A p e s m below meth c hx hb hr hml hts hown hlocks hP hK hD hA hS ls hl
  have hl : lv_has ls 2 [(0, .ref (a 0))] := hl
  generalize hH : s.heap = H at hP
  have hS : va_S A s.heap H [] := by rw [← hH]; exact hS
  have hown : s.vm.findClass RX8 = some m.cls := hown
  have h := hf
  rw [f_X8_clearText] at h
  refine lv_aload_n hx hb dX8_clearText_0 rfl (lv_at hl 0 rfl) ?_
  refine va_get (D := E.1) (ci := 8) (v := .int (zi z.2.2.2.2.2.2.2.2.2.1)) (C := RX8) (T := TX8) (N := 13) hx hb hts in_X8_clearText_X8 hown hK.1 hP 0 rfl rfl 9 (by decide) (hts _ wd_X8_clearText_f120) (fun _ h9 => h9) rfl dX8_clearText_1 ?_
  refine lv_istore_n (lv' := [(1, .int (zi z.2.2.2.2.2.2.2.2.2.1)), (0, .ref (a 0))]) hx hb dX8_clearText_4 rfl hl (by decide) rfl (fun ls hl => ?_)
  refine lv_aload_n hx hb dX8_clearText_5 rfl (lv_at hl 1 rfl) ?_
  refine iv_iconst hx hb dX8_clearText_6 ?_
  obtain ⟨s1, e2, h⟩ := nm_t h
  refine iv_put (D := E.1) (ci := 8) (v := .int (zi 0)) (ty := .int) (ws1 := wM a E s1) (C := RX8) (T := TX8) (N := 13) hx hb hts in_X8_clearText_X8 tyX8 tyX8_ok nmX8 hown hK.1 hP hD hS 0 rfl rfl 9 (by decide) (hts _ wd_X8_clearText_f120) (fun _ h9 => h9) rfl (by decide +kernel) rfl rfl (Nat.le_of_ble_eq_true rfl) (by rw [e2]; rfl) dX8_clearText_7 (fun H locs hP hD hS => ?_)
  refine lv_iload_n hx hb dX8_clearText_10 rfl (lv_at hl 0 rfl) ?_
  cases h
  exact iv_iret hx hb hr hlocks hK hP hD hS dX8_clearText_11
set_option maxRecDepth 20000 in
theorem wd_X8_takes_f123 : Cond.fieldLink RX8 123 "ShirtButtonsModel" "spot" "I" ∈ wsX8_takes := by decide +kernel
set_option maxRecDepth 20000 in
theorem in_X8_takes_X8 : ∀ w ∈ u_ws RX8 TX8 13, w ∈ wsX8_takes := by decide +kernel
set_option maxRecDepth 20000 in
theorem wd_X8_takes_f120 : Cond.fieldLink RX8 120 "ShirtButtonsModel" "length" "I" ∈ wsX8_takes := by decide +kernel
set_option maxRecDepth 20000 in
theorem wd_X8_takes_f25 : Cond.fieldLink RX8 25 "ShirtButtonsModel" "text" "[I" ∈ wsX8_takes := by decide +kernel
set_option maxHeartbeats 4000000 in
set_option maxRecDepth 100000 in
theorem k_X8_takes (l : Launch) (E : wE) (a : Nat → Nat) (sz : Nat) (x1 x2 : Int) (z : bM) (u : (Int × bM)) (hf : f_X8_takes x1 x2 z = some u) : cI l yX8_takes wsX8_takes { frames := 1, cells := 0, slots := 0, locals := 22 } E sz [.ref (a 0), .int (zi x1), .int (zi x2)] (wM a E z) (wM a E u.2) u.1 := by
  refine met_go (cc := cX8_takes) (maxL := 4) (ret := (some .boolean)) (Q0 := mQi E (wM a E u.2) u.1) (by decide +kernel) rfl (Nat.le_of_ble_eq_true rfl) ?_
  intro A p e s m below meth c hx hb hr hml hts hown hlocks hP hK hD hA hS ls hl
  have hl : lv_has ls 4 [(0, .ref (a 0)), (1, .int (zi x1)), (2, .int (zi x2))] := hl
  generalize hH : s.heap = H at hP
  have hS : va_S A s.heap H [] := by rw [← hH]; exact hS
  have hown : s.vm.findClass RX8 = some m.cls := hown
  have h := hf
  rw [f_X8_takes] at h
  refine lv_aload_n hx hb dX8_takes_0 rfl (lv_at hl 0 rfl) ?_
  refine va_get (D := E.1) (ci := 8) (v := .int (zi z.2.2.2.2.2.2.2.2.2.2.1)) (C := RX8) (T := TX8) (N := 13) hx hb hts in_X8_takes_X8 hown hK.1 hP 0 rfl rfl 10 (by decide) (hts _ wd_X8_takes_f123) (fun _ h9 => h9) rfl dX8_takes_1 ?_
  refine lv_aload_n hx hb dX8_takes_4 rfl (lv_at hl 0 rfl) ?_
  refine va_get (D := E.1) (ci := 8) (v := .int (zi z.2.2.2.2.2.2.2.2.2.1)) (C := RX8) (T := TX8) (N := 13) hx hb hts in_X8_takes_X8 hown hK.1 hP 0 rfl rfl 9 (by decide) (hts _ wd_X8_takes_f120) (fun _ h9 => h9) rfl dX8_takes_5 ?_
  obtain ⟨g1, h⟩ := gd_t h
  obtain ⟨g2, h⟩ := gd_t h
  refine iv_ige (tgt := 32) hx hb g1 g2 dX8_takes_8 (by decide) (fun c3 => ?_) (fun c3 => ?_)
  · have h := it_t c3 h
    refine iv_iconst hx hb dX8_takes_32 ?_
    refine lv_istore_n (lv' := [(3, .int (zi 0)), (0, .ref (a 0)), (1, .int (zi x1)), (2, .int (zi x2))]) hx hb dX8_takes_33 rfl hl (by decide) rfl (fun ls hl => ?_)
    refine lv_aload_n hx hb dX8_takes_34 rfl (lv_at hl 1 rfl) ?_
    refine lv_dup hx hb dX8_takes_35 rfl ?_
    refine va_get (D := E.1) (ci := 8) (v := .int (zi z.2.2.2.2.2.2.2.2.2.2.1)) (C := RX8) (T := TX8) (N := 13) hx hb hts in_X8_takes_X8 hown hK.1 hP 0 rfl rfl 10 (by decide) (hts _ wd_X8_takes_f123) (fun _ h9 => h9) rfl dX8_takes_36 ?_
    refine lv_iload_n hx hb dX8_takes_39 rfl (lv_at hl 0 rfl) ?_
    refine iv_eq (tgt := 47) hx hb (by decide +kernel) dX8_takes_40 (by decide) (fun c4 => ?_) (fun c4 => ?_)
    rotate_left
    · exact absurd c4 (by decide)
    refine iv_iconst hx hb dX8_takes_47 ?_
    refine iv_iadd hx hb dX8_takes_48 ?_
    obtain ⟨s5, e6, h⟩ := nm_t h
    refine iv_put (D := E.1) (ci := 8) (v := .int (zi (z.2.2.2.2.2.2.2.2.2.2.1 + 0))) (ty := .int) (ws1 := wM a E s5) (C := RX8) (T := TX8) (N := 13) hx hb hts in_X8_takes_X8 tyX8 tyX8_ok nmX8 hown hK.1 hP hD hS 0 rfl rfl 10 (by decide) (hts _ wd_X8_takes_f123) (fun _ h9 => h9) rfl (by decide +kernel) rfl rfl (Nat.le_of_ble_eq_true rfl) (by rw [e6]; rfl) dX8_takes_49 (fun H locs hP hD hS => ?_)
    refine lv_iload_n hx hb dX8_takes_52 rfl (lv_at hl 0 rfl) ?_
    cases h
    exact iv_zret (r := 0) hx hb hr hlocks (by decide +kernel) hK hP hD hS dX8_takes_53
  · have h := it_f c3 h
    refine lv_aload_n hx hb dX8_takes_11 rfl (lv_at hl 0 rfl) ?_
    refine va_get (D := E.1) (ci := 8) (v := .ref (a 6)) (C := RX8) (T := TX8) (N := 13) hx hb hts in_X8_takes_X8 hown hK.1 hP 0 rfl rfl 8 (by decide) (hts _ wd_X8_takes_f25) (fun _ h9 => h9) rfl dX8_takes_12 ?_
    refine lv_aload_n hx hb dX8_takes_15 rfl (lv_at hl 0 rfl) ?_
    refine va_get (D := E.1) (ci := 8) (v := .int (zi z.2.2.2.2.2.2.2.2.2.2.1)) (C := RX8) (T := TX8) (N := 13) hx hb hts in_X8_takes_X8 hown hK.1 hP 0 rfl rfl 10 (by decide) (hts _ wd_X8_takes_f123) (fun _ h9 => h9) rfl dX8_takes_16 ?_
    obtain ⟨g7, h⟩ := gd_t h
    refine iv_iald (f := z.2.2.2.2.2.2.2.2.1) (j := z.2.2.2.2.2.2.2.2.2.2.1.toNat) hx hb hK.1 hP 6 0 rfl rfl (by decide) g7 rfl dX8_takes_19 ?_
    refine lv_iload_n hx hb dX8_takes_20 rfl (lv_at hl 1 rfl) ?_
    refine lv_iload_n hx hb dX8_takes_21 rfl (lv_at hl 2 rfl) ?_
    obtain ⟨u8, q9, h⟩ := bd_t h
    refine iv_callS (As := [.int (zi (z.2.2.2.2.2.2.2.2.1 z.2.2.2.2.2.2.2.2.2.2.1.toNat)), .int (zi x1), .int (zi x2)]) (rest := []) ⟨hx, hb, hml, hown, hts⟩ (k_X8_in l E H.size (z.2.2.2.2.2.2.2.2.1 z.2.2.2.2.2.2.2.2.2.2.1.toNat) x1 x2 u8 q9) (va_cwS 3 hts gX8_takes_X8_in rfl rfl rfl (by decide +kernel) ⟨Nat.le_of_ble_eq_true rfl, Nat.le_of_ble_eq_true rfl⟩) hK hP hS hA rfl hl.1 (Nat.le_of_ble_eq_true rfl) ⟨Nat.zero_le _, Nat.zero_le _⟩ dX8_takes_22 (fun H locs hP hS => ?_)
    obtain ⟨g10, h⟩ := gd_t h
    refine iv_eq (tgt := 32) hx hb g10 dX8_takes_25 (by decide) (fun c11 => ?_) (fun c11 => ?_)
    · have h := it_t c11 h
      refine iv_iconst hx hb dX8_takes_32 ?_
      refine lv_istore_n (lv' := [(3, .int (zi 0)), (0, .ref (a 0)), (1, .int (zi x1)), (2, .int (zi x2))]) hx hb dX8_takes_33 rfl hl (by decide) rfl (fun ls hl => ?_)
      refine lv_aload_n hx hb dX8_takes_34 rfl (lv_at hl 1 rfl) ?_
      refine lv_dup hx hb dX8_takes_35 rfl ?_
      refine va_get (D := E.1) (ci := 8) (v := .int (zi z.2.2.2.2.2.2.2.2.2.2.1)) (C := RX8) (T := TX8) (N := 13) hx hb hts in_X8_takes_X8 hown hK.1 hP 0 rfl rfl 10 (by decide) (hts _ wd_X8_takes_f123) (fun _ h9 => h9) rfl dX8_takes_36 ?_
      refine lv_iload_n hx hb dX8_takes_39 rfl (lv_at hl 0 rfl) ?_
      refine iv_eq (tgt := 47) hx hb (by decide +kernel) dX8_takes_40 (by decide) (fun c12 => ?_) (fun c12 => ?_)
      rotate_left
      · exact absurd c12 (by decide)
      refine iv_iconst hx hb dX8_takes_47 ?_
      refine iv_iadd hx hb dX8_takes_48 ?_
      obtain ⟨s13, e14, h⟩ := nm_t h
      refine iv_put (D := E.1) (ci := 8) (v := .int (zi (z.2.2.2.2.2.2.2.2.2.2.1 + 0))) (ty := .int) (ws1 := wM a E s13) (C := RX8) (T := TX8) (N := 13) hx hb hts in_X8_takes_X8 tyX8 tyX8_ok nmX8 hown hK.1 hP hD hS 0 rfl rfl 10 (by decide) (hts _ wd_X8_takes_f123) (fun _ h9 => h9) rfl (by decide +kernel) rfl rfl (Nat.le_of_ble_eq_true rfl) (by rw [e14]; rfl) dX8_takes_49 (fun H locs hP hD hS => ?_)
      refine lv_iload_n hx hb dX8_takes_52 rfl (lv_at hl 0 rfl) ?_
      cases h
      exact iv_zret (r := 0) hx hb hr hlocks (by decide +kernel) hK hP hD hS dX8_takes_53
    · have h := it_f c11 h
      refine iv_iconst hx hb dX8_takes_28 ?_
      refine lv_goto (tgt := 33) hx hb dX8_takes_29 (by decide) ?_
      refine lv_istore_n (lv' := [(3, .int (zi 1)), (0, .ref (a 0)), (1, .int (zi x1)), (2, .int (zi x2))]) hx hb dX8_takes_33 rfl hl (by decide) rfl (fun ls hl => ?_)
      refine lv_aload_n hx hb dX8_takes_34 rfl (lv_at hl 1 rfl) ?_
      refine lv_dup hx hb dX8_takes_35 rfl ?_
      refine va_get (D := E.1) (ci := 8) (v := .int (zi z.2.2.2.2.2.2.2.2.2.2.1)) (C := RX8) (T := TX8) (N := 13) hx hb hts in_X8_takes_X8 hown hK.1 hP 0 rfl rfl 10 (by decide) (hts _ wd_X8_takes_f123) (fun _ h9 => h9) rfl dX8_takes_36 ?_
      refine lv_iload_n hx hb dX8_takes_39 rfl (lv_at hl 0 rfl) ?_
      refine iv_eq (tgt := 47) hx hb (by decide +kernel) dX8_takes_40 (by decide) (fun c15 => ?_) (fun c15 => ?_)
      · exact absurd c15 (by decide)
      refine iv_iconst hx hb dX8_takes_43 ?_
      refine lv_goto (tgt := 48) hx hb dX8_takes_44 (by decide) ?_
      refine iv_iadd hx hb dX8_takes_48 ?_
      obtain ⟨s16, e17, h⟩ := nm_t h
      refine iv_put (D := E.1) (ci := 8) (v := .int (zi (z.2.2.2.2.2.2.2.2.2.2.1 + 1))) (ty := .int) (ws1 := wM a E s16) (C := RX8) (T := TX8) (N := 13) hx hb hts in_X8_takes_X8 tyX8 tyX8_ok nmX8 hown hK.1 hP hD hS 0 rfl rfl 10 (by decide) (hts _ wd_X8_takes_f123) (fun _ h9 => h9) rfl (by decide +kernel) rfl rfl (Nat.le_of_ble_eq_true rfl) (by rw [e17]; rfl) dX8_takes_49 (fun H locs hP hD hS => ?_)
      refine lv_iload_n hx hb dX8_takes_52 rfl (lv_at hl 0 rfl) ?_
      cases h
      exact iv_zret (r := 1) hx hb hr hlocks (by decide +kernel) hK hP hD hS dX8_takes_53
set_option maxRecDepth 20000 in
theorem wd_X8_digit_f25 : Cond.fieldLink RX8 25 "ShirtButtonsModel" "text" "[I" ∈ wsX8_digit := by decide +kernel
set_option maxRecDepth 20000 in
theorem in_X8_digit_X8 : ∀ w ∈ u_ws RX8 TX8 13, w ∈ wsX8_digit := by decide +kernel
set_option maxRecDepth 20000 in
theorem wd_X8_digit_f123 : Cond.fieldLink RX8 123 "ShirtButtonsModel" "spot" "I" ∈ wsX8_digit := by decide +kernel
set_option maxHeartbeats 4000000 in
set_option maxRecDepth 100000 in
theorem k_X8_digit (l : Launch) (E : wE) (a : Nat → Nat) (sz : Nat) (z : bM) (u : (Int × bM)) (hf : f_X8_digit z = some u) : cI l yX8_digit wsX8_digit { frames := 0, cells := 0, slots := 0, locals := 0 } E sz [.ref (a 0)] (wM a E z) (wM a E u.2) u.1 := by
  refine met_go (cc := cX8_digit) (maxL := 1) (ret := (some .int)) (Q0 := mQi E (wM a E u.2) u.1) (by decide +kernel) rfl (Nat.le_of_ble_eq_true rfl) ?_
  intro A p e s m below meth c hx hb hr hml hts hown hlocks hP hK hD hA hS ls hl
  have hl : lv_has ls 1 [(0, .ref (a 0))] := hl
  generalize hH : s.heap = H at hP
  have hS : va_S A s.heap H [] := by rw [← hH]; exact hS
  have hown : s.vm.findClass RX8 = some m.cls := hown
  have h := hf
  rw [f_X8_digit] at h
  refine lv_aload_n hx hb dX8_digit_0 rfl (lv_at hl 0 rfl) ?_
  refine va_get (D := E.1) (ci := 8) (v := .ref (a 6)) (C := RX8) (T := TX8) (N := 13) hx hb hts in_X8_digit_X8 hown hK.1 hP 0 rfl rfl 8 (by decide) (hts _ wd_X8_digit_f25) (fun _ h9 => h9) rfl dX8_digit_1 ?_
  refine lv_aload_n hx hb dX8_digit_4 rfl (lv_at hl 0 rfl) ?_
  refine va_get (D := E.1) (ci := 8) (v := .int (zi z.2.2.2.2.2.2.2.2.2.2.1)) (C := RX8) (T := TX8) (N := 13) hx hb hts in_X8_digit_X8 hown hK.1 hP 0 rfl rfl 10 (by decide) (hts _ wd_X8_digit_f123) (fun _ h9 => h9) rfl dX8_digit_5 ?_
  refine iv_iconst hx hb dX8_digit_8 ?_
  refine iv_isub hx hb dX8_digit_9 ?_
  obtain ⟨g1, h⟩ := gd_t h
  refine iv_iald (f := z.2.2.2.2.2.2.2.2.1) (j := (z.2.2.2.2.2.2.2.2.2.2.1 - 1).toNat) hx hb hK.1 hP 6 0 rfl rfl (by decide) g1 rfl dX8_digit_10 ?_
  refine iv_bipush hx hb dX8_digit_11 (by decide +kernel) ?_
  refine iv_isub hx hb dX8_digit_13 ?_
  cases h
  exact iv_iret hx hb hr hlocks hK hP hD hS dX8_digit_14
set_option maxRecDepth 20000 in
theorem wd_X8_readsSize_f28 : Cond.fieldLink RX8 28 "ShirtButtonsModel" "read" "[I" ∈ wsX8_readsSize := by decide +kernel
set_option maxRecDepth 20000 in
theorem in_X8_readsSize_X8 : ∀ w ∈ u_ws RX8 TX8 13, w ∈ wsX8_readsSize := by decide +kernel
set_option maxRecDepth 20000 in
theorem wd_X8_readsSize_f132 : Cond.fieldLink RX8 132 "ShirtButtonsModel" "reads" "I" ∈ wsX8_readsSize := by decide +kernel
set_option maxHeartbeats 4000000 in
set_option maxRecDepth 100000 in
theorem k_X8_readsSize (l : Launch) (E : wE) (a : Nat → Nat) (sz : Nat) (z : bM) (u : (Int × bM)) (hf : f_X8_readsSize z = some u) : cI l yX8_readsSize wsX8_readsSize { frames := 2, cells := 0, slots := 0, locals := 45 } E sz [.ref (a 0)] (wM a E z) (wM a E u.2) u.1 := by
  refine met_go (cc := cX8_readsSize) (maxL := 2) (ret := (some .boolean)) (Q0 := mQi E (wM a E u.2) u.1) (by decide +kernel) rfl (Nat.le_of_ble_eq_true rfl) ?_
  intro A p e s m below meth c hx hb hr hml hts hown hlocks hP hK hD hA hS ls hl
  have hl : lv_has ls 2 [(0, .ref (a 0))] := hl
  generalize hH : s.heap = H at hP
  have hS : va_S A s.heap H [] := by rw [← hH]; exact hS
  have hown : s.vm.findClass RX8 = some m.cls := hown
  have h := hf
  rw [f_X8_readsSize] at h
  refine lv_aload_n hx hb dX8_readsSize_0 rfl (lv_at hl 0 rfl) ?_
  refine iv_bipush hx hb dX8_readsSize_1 (by decide +kernel) ?_
  refine iv_bipush hx hb dX8_readsSize_3 (by decide +kernel) ?_
  obtain ⟨u1, q2, h⟩ := bd_t h
  refine iv_callIf (As := [.int (zi 49), .int (zi 57)]) (rest := []) ⟨hx, hb, hml, hown, hts⟩ (k_X8_takes l E a H.size 49 57 z u1 q2) (cwV 2 hts gX8_readsSize_X8_takes rfl rfl rfl (by decide +kernel) ⟨Nat.le_of_ble_eq_true rfl, Nat.le_of_ble_eq_true rfl⟩) hK hP hD hS hA 0 8 rfl rfl rfl hl.1 (Nat.le_of_ble_eq_true rfl) ⟨Nat.zero_le _, Nat.zero_le _⟩ dX8_readsSize_5 (fun H locs hP hD hS => ?_)
  obtain ⟨g3, h⟩ := gd_t h
  refine iv_ne (tgt := 13) hx hb g3 dX8_readsSize_8 (by decide) (fun c4 => ?_) (fun c4 => ?_)
  · have h := it_f c4 h
    refine lv_aload_n hx hb dX8_readsSize_13 rfl (lv_at hl 0 rfl) ?_
    obtain ⟨u5, q6, h⟩ := bd_t h
    refine iv_callIf (As := []) (rest := []) ⟨hx, hb, hml, hown, hts⟩ (k_X8_digit l E a H.size  u1.2 u5 q6) (cwV 0 hts gX8_readsSize_X8_digit rfl rfl rfl (by decide +kernel) ⟨Nat.le_of_ble_eq_true rfl, Nat.le_of_ble_eq_true rfl⟩) hK hP hD hS hA 0 8 rfl rfl rfl hl.1 (Nat.le_of_ble_eq_true rfl) ⟨Nat.zero_le _, Nat.zero_le _⟩ dX8_readsSize_14 (fun H locs hP hD hS => ?_)
    refine lv_istore_n (lv' := [(1, .int (zi u5.1)), (0, .ref (a 0))]) hx hb dX8_readsSize_17 rfl hl (by decide) rfl (fun ls hl => ?_)
    refine lv_iload_n hx hb dX8_readsSize_18 rfl (lv_at hl 0 rfl) ?_
    refine iv_iconst hx hb dX8_readsSize_19 ?_
    obtain ⟨g7, h⟩ := gd_t h
    refine iv_ige (tgt := 37) hx hb g7 (by decide +kernel) dX8_readsSize_20 (by decide) (fun c8 => ?_) (fun c8 => ?_)
    · have h := it_t c8 h
      refine lv_iload_n hx hb dX8_readsSize_37 rfl (lv_at hl 0 rfl) ?_
      refine iv_iconst hx hb dX8_readsSize_38 ?_
      refine iv_ine (tgt := 63) hx hb g7 (by decide +kernel) dX8_readsSize_39 (by decide) (fun c9 => ?_) (fun c9 => ?_)
      · have h := it_f c9 h
        refine lv_aload_n hx hb dX8_readsSize_63 rfl (lv_at hl 1 rfl) ?_
        refine va_get (D := E.1) (ci := 8) (v := .ref (a 7)) (C := RX8) (T := TX8) (N := 13) hx hb hts in_X8_readsSize_X8 hown hK.1 hP 0 rfl rfl 12 (by decide) (hts _ wd_X8_readsSize_f28) (fun _ h9 => h9) rfl dX8_readsSize_64 ?_
        refine iv_iconst hx hb dX8_readsSize_67 ?_
        refine lv_aload_n hx hb dX8_readsSize_68 rfl (lv_at hl 1 rfl) ?_
        refine va_get (D := E.1) (ci := 8) (v := .int (zi u5.2.2.2.2.2.2.2.2.2.2.2.2.1)) (C := RX8) (T := TX8) (N := 13) hx hb hts in_X8_readsSize_X8 hown hK.1 hP 0 rfl rfl 11 (by decide) (hts _ wd_X8_readsSize_f132) (fun _ h9 => h9) rfl dX8_readsSize_69 ?_
        refine iv_imul hx hb dX8_readsSize_72 ?_
        refine iv_iconst hx hb dX8_readsSize_73 ?_
        refine iv_iadd hx hb dX8_readsSize_74 ?_
        refine lv_iload_n hx hb dX8_readsSize_75 rfl (lv_at hl 0 rfl) ?_
        obtain ⟨g10, h⟩ := gd_t h
        obtain ⟨s11, e12, h⟩ := nm_t h
        refine iv_iast (f := u5.2.2.2.2.2.2.2.2.2.2.2.2.2) (j := ((5 * u5.2.2.2.2.2.2.2.2.2.2.2.2.1) + 1).toNat) (ws1 := wM a E s11) hx hb hK.1 hP hD hS 7 0 rfl rfl (by decide) g10 rfl (by rw [e12]; rfl) dX8_readsSize_76 (fun H locs hP hD hS => ?_)
        refine iv_iconst hx hb dX8_readsSize_77 ?_
        cases h
        exact iv_zret (r := 1) hx hb hr hlocks (by decide +kernel) hK hP hD hS dX8_readsSize_78
      · have h := it_t c9 h
        refine lv_aload_n hx hb dX8_readsSize_42 rfl (lv_at hl 1 rfl) ?_
        refine iv_bipush hx hb dX8_readsSize_43 (by decide +kernel) ?_
        refine iv_bipush hx hb dX8_readsSize_45 (by decide +kernel) ?_
        obtain ⟨u13, q14, h⟩ := bd_t h
        refine iv_callIf (As := [.int (zi 48), .int (zi 48)]) (rest := []) ⟨hx, hb, hml, hown, hts⟩ (k_X8_takes l E a H.size 48 48 u5.2 u13 q14) (cwV 2 hts gX8_readsSize_X8_takes rfl rfl rfl (by decide +kernel) ⟨Nat.le_of_ble_eq_true rfl, Nat.le_of_ble_eq_true rfl⟩) hK hP hD hS hA 0 8 rfl rfl rfl hl.1 (Nat.le_of_ble_eq_true rfl) ⟨Nat.zero_le _, Nat.zero_le _⟩ dX8_readsSize_47 (fun H locs hP hD hS => ?_)
        obtain ⟨g15, h⟩ := gd_t h
        refine iv_eq (tgt := 63) hx hb g15 dX8_readsSize_50 (by decide) (fun c16 => ?_) (fun c16 => ?_)
        · have h := it_t c16 h
          refine lv_aload_n hx hb dX8_readsSize_63 rfl (lv_at hl 1 rfl) ?_
          refine va_get (D := E.1) (ci := 8) (v := .ref (a 7)) (C := RX8) (T := TX8) (N := 13) hx hb hts in_X8_readsSize_X8 hown hK.1 hP 0 rfl rfl 12 (by decide) (hts _ wd_X8_readsSize_f28) (fun _ h9 => h9) rfl dX8_readsSize_64 ?_
          refine iv_iconst hx hb dX8_readsSize_67 ?_
          refine lv_aload_n hx hb dX8_readsSize_68 rfl (lv_at hl 1 rfl) ?_
          refine va_get (D := E.1) (ci := 8) (v := .int (zi u13.2.2.2.2.2.2.2.2.2.2.2.2.1)) (C := RX8) (T := TX8) (N := 13) hx hb hts in_X8_readsSize_X8 hown hK.1 hP 0 rfl rfl 11 (by decide) (hts _ wd_X8_readsSize_f132) (fun _ h9 => h9) rfl dX8_readsSize_69 ?_
          refine iv_imul hx hb dX8_readsSize_72 ?_
          refine iv_iconst hx hb dX8_readsSize_73 ?_
          refine iv_iadd hx hb dX8_readsSize_74 ?_
          refine lv_iload_n hx hb dX8_readsSize_75 rfl (lv_at hl 0 rfl) ?_
          obtain ⟨g17, h⟩ := gd_t h
          obtain ⟨s18, e19, h⟩ := nm_t h
          refine iv_iast (f := u13.2.2.2.2.2.2.2.2.2.2.2.2.2) (j := ((5 * u13.2.2.2.2.2.2.2.2.2.2.2.2.1) + 1).toNat) (ws1 := wM a E s18) hx hb hK.1 hP hD hS 7 0 rfl rfl (by decide) g17 rfl (by rw [e19]; rfl) dX8_readsSize_76 (fun H locs hP hD hS => ?_)
          refine iv_iconst hx hb dX8_readsSize_77 ?_
          cases h
          exact iv_zret (r := 1) hx hb hr hlocks (by decide +kernel) hK hP hD hS dX8_readsSize_78
        · have h := it_f c16 h
          refine iv_bipush hx hb dX8_readsSize_53 (by decide +kernel) ?_
          refine lv_iload_n hx hb dX8_readsSize_55 rfl (lv_at hl 0 rfl) ?_
          refine iv_imul hx hb dX8_readsSize_56 ?_
          refine lv_aload_n hx hb dX8_readsSize_57 rfl (lv_at hl 1 rfl) ?_
          obtain ⟨u20, q21, h⟩ := bd_t h
          refine iv_callIf (As := []) (rest := [.int (zi (10 * u5.1))]) ⟨hx, hb, hml, hown, hts⟩ (k_X8_digit l E a H.size  u13.2 u20 q21) (cwV 0 hts gX8_readsSize_X8_digit rfl rfl rfl (by decide +kernel) ⟨Nat.le_of_ble_eq_true rfl, Nat.le_of_ble_eq_true rfl⟩) hK hP hD hS hA 0 8 rfl rfl rfl hl.1 (Nat.le_of_ble_eq_true rfl) ⟨Nat.zero_le _, Nat.zero_le _⟩ dX8_readsSize_58 (fun H locs hP hD hS => ?_)
          refine iv_iadd hx hb dX8_readsSize_61 ?_
          obtain ⟨v22, e23, h⟩ := nm_t h
          refine iv_nm e23 ?_
          refine lv_istore_n (lv' := [(1, .int (zi v22)), (0, .ref (a 0))]) hx hb dX8_readsSize_62 rfl hl (by decide) rfl (fun ls hl => ?_)
          refine lv_aload_n hx hb dX8_readsSize_63 rfl (lv_at hl 1 rfl) ?_
          refine va_get (D := E.1) (ci := 8) (v := .ref (a 7)) (C := RX8) (T := TX8) (N := 13) hx hb hts in_X8_readsSize_X8 hown hK.1 hP 0 rfl rfl 12 (by decide) (hts _ wd_X8_readsSize_f28) (fun _ h9 => h9) rfl dX8_readsSize_64 ?_
          refine iv_iconst hx hb dX8_readsSize_67 ?_
          refine lv_aload_n hx hb dX8_readsSize_68 rfl (lv_at hl 1 rfl) ?_
          refine va_get (D := E.1) (ci := 8) (v := .int (zi u20.2.2.2.2.2.2.2.2.2.2.2.2.1)) (C := RX8) (T := TX8) (N := 13) hx hb hts in_X8_readsSize_X8 hown hK.1 hP 0 rfl rfl 11 (by decide) (hts _ wd_X8_readsSize_f132) (fun _ h9 => h9) rfl dX8_readsSize_69 ?_
          refine iv_imul hx hb dX8_readsSize_72 ?_
          refine iv_iconst hx hb dX8_readsSize_73 ?_
          refine iv_iadd hx hb dX8_readsSize_74 ?_
          refine lv_iload_n hx hb dX8_readsSize_75 rfl (lv_at hl 0 rfl) ?_
          obtain ⟨g24, h⟩ := gd_t h
          obtain ⟨s25, e26, h⟩ := nm_t h
          refine iv_iast (f := u20.2.2.2.2.2.2.2.2.2.2.2.2.2) (j := ((5 * u20.2.2.2.2.2.2.2.2.2.2.2.2.1) + 1).toNat) (ws1 := wM a E s25) hx hb hK.1 hP hD hS 7 0 rfl rfl (by decide) g24 rfl (by rw [e26]; rfl) dX8_readsSize_76 (fun H locs hP hD hS => ?_)
          refine iv_iconst hx hb dX8_readsSize_77 ?_
          cases h
          exact iv_zret (r := 1) hx hb hr hlocks (by decide +kernel) hK hP hD hS dX8_readsSize_78
    · have h := it_f c8 h
      refine lv_aload_n hx hb dX8_readsSize_23 rfl (lv_at hl 1 rfl) ?_
      refine iv_bipush hx hb dX8_readsSize_24 (by decide +kernel) ?_
      refine iv_bipush hx hb dX8_readsSize_26 (by decide +kernel) ?_
      obtain ⟨u27, q28, h⟩ := bd_t h
      refine iv_callIf (As := [.int (zi 48), .int (zi 57)]) (rest := []) ⟨hx, hb, hml, hown, hts⟩ (k_X8_takes l E a H.size 48 57 u5.2 u27 q28) (cwV 2 hts gX8_readsSize_X8_takes rfl rfl rfl (by decide +kernel) ⟨Nat.le_of_ble_eq_true rfl, Nat.le_of_ble_eq_true rfl⟩) hK hP hD hS hA 0 8 rfl rfl rfl hl.1 (Nat.le_of_ble_eq_true rfl) ⟨Nat.zero_le _, Nat.zero_le _⟩ dX8_readsSize_28 (fun H locs hP hD hS => ?_)
      obtain ⟨g29, h⟩ := gd_t h
      refine iv_eq (tgt := 63) hx hb g29 dX8_readsSize_31 (by decide) (fun c30 => ?_) (fun c30 => ?_)
      · have h := it_t c30 h
        refine lv_aload_n hx hb dX8_readsSize_63 rfl (lv_at hl 1 rfl) ?_
        refine va_get (D := E.1) (ci := 8) (v := .ref (a 7)) (C := RX8) (T := TX8) (N := 13) hx hb hts in_X8_readsSize_X8 hown hK.1 hP 0 rfl rfl 12 (by decide) (hts _ wd_X8_readsSize_f28) (fun _ h9 => h9) rfl dX8_readsSize_64 ?_
        refine iv_iconst hx hb dX8_readsSize_67 ?_
        refine lv_aload_n hx hb dX8_readsSize_68 rfl (lv_at hl 1 rfl) ?_
        refine va_get (D := E.1) (ci := 8) (v := .int (zi u27.2.2.2.2.2.2.2.2.2.2.2.2.1)) (C := RX8) (T := TX8) (N := 13) hx hb hts in_X8_readsSize_X8 hown hK.1 hP 0 rfl rfl 11 (by decide) (hts _ wd_X8_readsSize_f132) (fun _ h9 => h9) rfl dX8_readsSize_69 ?_
        refine iv_imul hx hb dX8_readsSize_72 ?_
        refine iv_iconst hx hb dX8_readsSize_73 ?_
        refine iv_iadd hx hb dX8_readsSize_74 ?_
        refine lv_iload_n hx hb dX8_readsSize_75 rfl (lv_at hl 0 rfl) ?_
        obtain ⟨g31, h⟩ := gd_t h
        obtain ⟨s32, e33, h⟩ := nm_t h
        refine iv_iast (f := u27.2.2.2.2.2.2.2.2.2.2.2.2.2) (j := ((5 * u27.2.2.2.2.2.2.2.2.2.2.2.2.1) + 1).toNat) (ws1 := wM a E s32) hx hb hK.1 hP hD hS 7 0 rfl rfl (by decide) g31 rfl (by rw [e33]; rfl) dX8_readsSize_76 (fun H locs hP hD hS => ?_)
        refine iv_iconst hx hb dX8_readsSize_77 ?_
        cases h
        exact iv_zret (r := 1) hx hb hr hlocks (by decide +kernel) hK hP hD hS dX8_readsSize_78
      · have h := it_f c30 h
        refine lv_goto (tgt := 53) hx hb dX8_readsSize_34 (by decide) ?_
        refine iv_bipush hx hb dX8_readsSize_53 (by decide +kernel) ?_
        refine lv_iload_n hx hb dX8_readsSize_55 rfl (lv_at hl 0 rfl) ?_
        refine iv_imul hx hb dX8_readsSize_56 ?_
        refine lv_aload_n hx hb dX8_readsSize_57 rfl (lv_at hl 1 rfl) ?_
        obtain ⟨u34, q35, h⟩ := bd_t h
        refine iv_callIf (As := []) (rest := [.int (zi (10 * u5.1))]) ⟨hx, hb, hml, hown, hts⟩ (k_X8_digit l E a H.size  u27.2 u34 q35) (cwV 0 hts gX8_readsSize_X8_digit rfl rfl rfl (by decide +kernel) ⟨Nat.le_of_ble_eq_true rfl, Nat.le_of_ble_eq_true rfl⟩) hK hP hD hS hA 0 8 rfl rfl rfl hl.1 (Nat.le_of_ble_eq_true rfl) ⟨Nat.zero_le _, Nat.zero_le _⟩ dX8_readsSize_58 (fun H locs hP hD hS => ?_)
        refine iv_iadd hx hb dX8_readsSize_61 ?_
        obtain ⟨v36, e37, h⟩ := nm_t h
        refine iv_nm e37 ?_
        refine lv_istore_n (lv' := [(1, .int (zi v36)), (0, .ref (a 0))]) hx hb dX8_readsSize_62 rfl hl (by decide) rfl (fun ls hl => ?_)
        refine lv_aload_n hx hb dX8_readsSize_63 rfl (lv_at hl 1 rfl) ?_
        refine va_get (D := E.1) (ci := 8) (v := .ref (a 7)) (C := RX8) (T := TX8) (N := 13) hx hb hts in_X8_readsSize_X8 hown hK.1 hP 0 rfl rfl 12 (by decide) (hts _ wd_X8_readsSize_f28) (fun _ h9 => h9) rfl dX8_readsSize_64 ?_
        refine iv_iconst hx hb dX8_readsSize_67 ?_
        refine lv_aload_n hx hb dX8_readsSize_68 rfl (lv_at hl 1 rfl) ?_
        refine va_get (D := E.1) (ci := 8) (v := .int (zi u34.2.2.2.2.2.2.2.2.2.2.2.2.1)) (C := RX8) (T := TX8) (N := 13) hx hb hts in_X8_readsSize_X8 hown hK.1 hP 0 rfl rfl 11 (by decide) (hts _ wd_X8_readsSize_f132) (fun _ h9 => h9) rfl dX8_readsSize_69 ?_
        refine iv_imul hx hb dX8_readsSize_72 ?_
        refine iv_iconst hx hb dX8_readsSize_73 ?_
        refine iv_iadd hx hb dX8_readsSize_74 ?_
        refine lv_iload_n hx hb dX8_readsSize_75 rfl (lv_at hl 0 rfl) ?_
        obtain ⟨g38, h⟩ := gd_t h
        obtain ⟨s39, e40, h⟩ := nm_t h
        refine iv_iast (f := u34.2.2.2.2.2.2.2.2.2.2.2.2.2) (j := ((5 * u34.2.2.2.2.2.2.2.2.2.2.2.2.1) + 1).toNat) (ws1 := wM a E s39) hx hb hK.1 hP hD hS 7 0 rfl rfl (by decide) g38 rfl (by rw [e40]; rfl) dX8_readsSize_76 (fun H locs hP hD hS => ?_)
        refine iv_iconst hx hb dX8_readsSize_77 ?_
        cases h
        exact iv_zret (r := 1) hx hb hr hlocks (by decide +kernel) hK hP hD hS dX8_readsSize_78
  · have h := it_t c4 h
    refine iv_iconst hx hb dX8_readsSize_11 ?_
    cases h
    exact iv_zret (r := 0) hx hb hr hlocks (by decide +kernel) hK hP hD hS dX8_readsSize_12
set_option maxRecDepth 20000 in
theorem wd_X8_readsDigit_f28 : Cond.fieldLink RX8 28 "ShirtButtonsModel" "read" "[I" ∈ wsX8_readsDigit := by decide +kernel
set_option maxRecDepth 20000 in
theorem in_X8_readsDigit_X8 : ∀ w ∈ u_ws RX8 TX8 13, w ∈ wsX8_readsDigit := by decide +kernel
set_option maxRecDepth 20000 in
theorem wd_X8_readsDigit_f132 : Cond.fieldLink RX8 132 "ShirtButtonsModel" "reads" "I" ∈ wsX8_readsDigit := by decide +kernel
set_option maxHeartbeats 4000000 in
set_option maxRecDepth 100000 in
theorem k_X8_readsDigit (l : Launch) (E : wE) (a : Nat → Nat) (sz : Nat) (x1 x2 : Int) (z : bM) (u : (Int × bM)) (hf : f_X8_readsDigit x1 x2 z = some u) : cI l yX8_readsDigit wsX8_readsDigit { frames := 2, cells := 0, slots := 0, locals := 45 } E sz [.ref (a 0), .int (zi x1), .int (zi x2)] (wM a E z) (wM a E u.2) u.1 := by
  refine met_go (cc := cX8_readsDigit) (maxL := 4) (ret := (some .boolean)) (Q0 := mQi E (wM a E u.2) u.1) (by decide +kernel) rfl (Nat.le_of_ble_eq_true rfl) ?_
  intro A p e s m below meth c hx hb hr hml hts hown hlocks hP hK hD hA hS ls hl
  have hl : lv_has ls 4 [(0, .ref (a 0)), (1, .int (zi x1)), (2, .int (zi x2))] := hl
  generalize hH : s.heap = H at hP
  have hS : va_S A s.heap H [] := by rw [← hH]; exact hS
  have hown : s.vm.findClass RX8 = some m.cls := hown
  have h := hf
  rw [f_X8_readsDigit] at h
  refine lv_aload_n hx hb dX8_readsDigit_0 rfl (lv_at hl 0 rfl) ?_
  refine va_get (D := E.1) (ci := 8) (v := .ref (a 7)) (C := RX8) (T := TX8) (N := 13) hx hb hts in_X8_readsDigit_X8 hown hK.1 hP 0 rfl rfl 12 (by decide) (hts _ wd_X8_readsDigit_f28) (fun _ h9 => h9) rfl dX8_readsDigit_1 ?_
  refine iv_iconst hx hb dX8_readsDigit_4 ?_
  refine lv_aload_n hx hb dX8_readsDigit_5 rfl (lv_at hl 0 rfl) ?_
  refine va_get (D := E.1) (ci := 8) (v := .int (zi z.2.2.2.2.2.2.2.2.2.2.2.1)) (C := RX8) (T := TX8) (N := 13) hx hb hts in_X8_readsDigit_X8 hown hK.1 hP 0 rfl rfl 11 (by decide) (hts _ wd_X8_readsDigit_f132) (fun _ h9 => h9) rfl dX8_readsDigit_6 ?_
  refine iv_imul hx hb dX8_readsDigit_9 ?_
  refine lv_iload_n hx hb dX8_readsDigit_10 rfl (lv_at hl 2 rfl) ?_
  refine iv_iadd hx hb dX8_readsDigit_11 ?_
  refine iv_iconst hx hb dX8_readsDigit_12 ?_
  obtain ⟨g1, h⟩ := gd_t h
  obtain ⟨s2, e3, h⟩ := nm_t h
  refine iv_iast (f := z.2.2.2.2.2.2.2.2.2.2.2.2) (j := ((5 * z.2.2.2.2.2.2.2.2.2.2.2.1) + x2).toNat) (ws1 := wM a E s2) hx hb hK.1 hP hD hS 7 0 rfl rfl (by decide) g1 rfl (by rw [e3]; rfl) dX8_readsDigit_13 (fun H locs hP hD hS => ?_)
  refine lv_aload_n hx hb dX8_readsDigit_14 rfl (lv_at hl 0 rfl) ?_
  refine lv_iload_n hx hb dX8_readsDigit_15 rfl (lv_at hl 1 rfl) ?_
  refine lv_iload_n hx hb dX8_readsDigit_16 rfl (lv_at hl 1 rfl) ?_
  obtain ⟨u4, q5, h⟩ := bd_t h
  refine iv_callIf (As := [.int (zi x1), .int (zi x1)]) (rest := []) ⟨hx, hb, hml, hown, hts⟩ (k_X8_takes l E a H.size x1 x1 s2 u4 q5) (cwV 2 hts gX8_readsDigit_X8_takes rfl rfl rfl (by decide +kernel) ⟨Nat.le_of_ble_eq_true rfl, Nat.le_of_ble_eq_true rfl⟩) hK hP hD hS hA 0 8 rfl rfl rfl hl.1 (Nat.le_of_ble_eq_true rfl) ⟨Nat.zero_le _, Nat.zero_le _⟩ dX8_readsDigit_17 (fun H locs hP hD hS => ?_)
  obtain ⟨g6, h⟩ := gd_t h
  refine iv_ne (tgt := 25) hx hb g6 dX8_readsDigit_20 (by decide) (fun c7 => ?_) (fun c7 => ?_)
  · have h := it_f c7 h
    refine lv_aload_n hx hb dX8_readsDigit_25 rfl (lv_at hl 0 rfl) ?_
    refine iv_bipush hx hb dX8_readsDigit_26 (by decide +kernel) ?_
    refine iv_bipush hx hb dX8_readsDigit_28 (by decide +kernel) ?_
    obtain ⟨u8, q9, h⟩ := bd_t h
    refine iv_callIf (As := [.int (zi 48), .int (zi 57)]) (rest := []) ⟨hx, hb, hml, hown, hts⟩ (k_X8_takes l E a H.size 48 57 u4.2 u8 q9) (cwV 2 hts gX8_readsDigit_X8_takes rfl rfl rfl (by decide +kernel) ⟨Nat.le_of_ble_eq_true rfl, Nat.le_of_ble_eq_true rfl⟩) hK hP hD hS hA 0 8 rfl rfl rfl hl.1 (Nat.le_of_ble_eq_true rfl) ⟨Nat.zero_le _, Nat.zero_le _⟩ dX8_readsDigit_30 (fun H locs hP hD hS => ?_)
    refine lv_istore_n (lv' := [(3, .int (zi u8.1)), (0, .ref (a 0)), (1, .int (zi x1)), (2, .int (zi x2))]) hx hb dX8_readsDigit_33 rfl hl (by decide) rfl (fun ls hl => ?_)
    refine lv_aload_n hx hb dX8_readsDigit_34 rfl (lv_at hl 1 rfl) ?_
    refine va_get (D := E.1) (ci := 8) (v := .ref (a 7)) (C := RX8) (T := TX8) (N := 13) hx hb hts in_X8_readsDigit_X8 hown hK.1 hP 0 rfl rfl 12 (by decide) (hts _ wd_X8_readsDigit_f28) (fun _ h9 => h9) rfl dX8_readsDigit_35 ?_
    refine iv_iconst hx hb dX8_readsDigit_38 ?_
    refine lv_aload_n hx hb dX8_readsDigit_39 rfl (lv_at hl 1 rfl) ?_
    refine va_get (D := E.1) (ci := 8) (v := .int (zi u8.2.2.2.2.2.2.2.2.2.2.2.2.1)) (C := RX8) (T := TX8) (N := 13) hx hb hts in_X8_readsDigit_X8 hown hK.1 hP 0 rfl rfl 11 (by decide) (hts _ wd_X8_readsDigit_f132) (fun _ h9 => h9) rfl dX8_readsDigit_40 ?_
    refine iv_imul hx hb dX8_readsDigit_43 ?_
    refine lv_iload_n hx hb dX8_readsDigit_44 rfl (lv_at hl 3 rfl) ?_
    refine iv_iadd hx hb dX8_readsDigit_45 ?_
    refine lv_iload_n hx hb dX8_readsDigit_46 rfl (lv_at hl 0 rfl) ?_
    obtain ⟨g10, h⟩ := gd_t h
    refine iv_eq (tgt := 57) hx hb g10 dX8_readsDigit_47 (by decide) (fun c11 => ?_) (fun c11 => ?_)
    · have h := it_t c11 h
      refine iv_iconst hx hb dX8_readsDigit_57 ?_
      obtain ⟨g12, h⟩ := gd_t h
      obtain ⟨s13, e14, h⟩ := nm_t h
      refine iv_iast (f := u8.2.2.2.2.2.2.2.2.2.2.2.2.2) (j := ((5 * u8.2.2.2.2.2.2.2.2.2.2.2.2.1) + x2).toNat) (ws1 := wM a E s13) hx hb hK.1 hP hD hS 7 0 rfl rfl (by decide) g12 rfl (by rw [e14]; rfl) dX8_readsDigit_58 (fun H locs hP hD hS => ?_)
      refine lv_iload_n hx hb dX8_readsDigit_59 rfl (lv_at hl 0 rfl) ?_
      obtain ⟨g15, h⟩ := gd_t h
      cases h
      exact iv_zret hx hb hr hlocks g15 hK hP hD hS dX8_readsDigit_60
    · have h := it_f c11 h
      refine lv_aload_n hx hb dX8_readsDigit_50 rfl (lv_at hl 1 rfl) ?_
      obtain ⟨u16, q17, h⟩ := bd_t h
      refine iv_callIf (As := []) (rest := [.int (zi ((5 * u8.2.2.2.2.2.2.2.2.2.2.2.2.1) + x2)), .ref (a 7)]) ⟨hx, hb, hml, hown, hts⟩ (k_X8_digit l E a H.size  u8.2 u16 q17) (cwV 0 hts gX8_readsDigit_X8_digit rfl rfl rfl (by decide +kernel) ⟨Nat.le_of_ble_eq_true rfl, Nat.le_of_ble_eq_true rfl⟩) hK hP hD hS hA 0 8 rfl rfl rfl hl.1 (Nat.le_of_ble_eq_true rfl) ⟨Nat.zero_le _, Nat.zero_le _⟩ dX8_readsDigit_51 (fun H locs hP hD hS => ?_)
      refine lv_goto (tgt := 58) hx hb dX8_readsDigit_54 (by decide) ?_
      obtain ⟨g18, h⟩ := gd_t h
      obtain ⟨s19, e20, h⟩ := nm_t h
      refine iv_iast (f := u16.2.2.2.2.2.2.2.2.2.2.2.2.2) (j := ((5 * u8.2.2.2.2.2.2.2.2.2.2.2.2.1) + x2).toNat) (ws1 := wM a E s19) hx hb hK.1 hP hD hS 7 0 rfl rfl (by decide) g18 rfl (by rw [e20]; rfl) dX8_readsDigit_58 (fun H locs hP hD hS => ?_)
      refine lv_iload_n hx hb dX8_readsDigit_59 rfl (lv_at hl 0 rfl) ?_
      obtain ⟨g21, h⟩ := gd_t h
      cases h
      exact iv_zret hx hb hr hlocks g21 hK hP hD hS dX8_readsDigit_60
  · have h := it_t c7 h
    refine iv_iconst hx hb dX8_readsDigit_23 ?_
    cases h
    exact iv_zret (r := 1) hx hb hr hlocks (by decide +kernel) hK hP hD hS dX8_readsDigit_24
set_option maxRecDepth 20000 in
theorem wd_X8_readsButton_f28 : Cond.fieldLink RX8 28 "ShirtButtonsModel" "read" "[I" ∈ wsX8_readsButton := by decide +kernel
set_option maxRecDepth 20000 in
theorem in_X8_readsButton_X8 : ∀ w ∈ u_ws RX8 TX8 13, w ∈ wsX8_readsButton := by decide +kernel
set_option maxRecDepth 20000 in
theorem wd_X8_readsButton_f132 : Cond.fieldLink RX8 132 "ShirtButtonsModel" "reads" "I" ∈ wsX8_readsButton := by decide +kernel
set_option maxHeartbeats 4000000 in
set_option maxRecDepth 100000 in
theorem k_X8_readsButton (l : Launch) (E : wE) (a : Nat → Nat) (sz : Nat) (z : bM) (u : (Int × bM)) (hf : f_X8_readsButton z = some u) : cI l yX8_readsButton wsX8_readsButton { frames := 3, cells := 0, slots := 0, locals := 68 } E sz [.ref (a 0)] (wM a E z) (wM a E u.2) u.1 := by
  refine met_go (cc := cX8_readsButton) (maxL := 2) (ret := (some .boolean)) (Q0 := mQi E (wM a E u.2) u.1) (by decide +kernel) rfl (Nat.le_of_ble_eq_true rfl) ?_
  intro A p e s m below meth c hx hb hr hml hts hown hlocks hP hK hD hA hS ls hl
  have hl : lv_has ls 2 [(0, .ref (a 0))] := hl
  generalize hH : s.heap = H at hP
  have hS : va_S A s.heap H [] := by rw [← hH]; exact hS
  have hown : s.vm.findClass RX8 = some m.cls := hown
  have h := hf
  rw [f_X8_readsButton] at h
  refine lv_aload_n hx hb dX8_readsButton_0 rfl (lv_at hl 0 rfl) ?_
  refine iv_bipush hx hb dX8_readsButton_1 (by decide +kernel) ?_
  refine iv_bipush hx hb dX8_readsButton_3 (by decide +kernel) ?_
  obtain ⟨u1, q2, h⟩ := bd_t h
  refine iv_callIf (As := [.int (zi 49), .int (zi 52)]) (rest := []) ⟨hx, hb, hml, hown, hts⟩ (k_X8_takes l E a H.size 49 52 z u1 q2) (cwV 2 hts gX8_readsButton_X8_takes rfl rfl rfl (by decide +kernel) ⟨Nat.le_of_ble_eq_true rfl, Nat.le_of_ble_eq_true rfl⟩) hK hP hD hS hA 0 8 rfl rfl rfl hl.1 (Nat.le_of_ble_eq_true rfl) ⟨Nat.zero_le _, Nat.zero_le _⟩ dX8_readsButton_5 (fun H locs hP hD hS => ?_)
  obtain ⟨g3, h⟩ := gd_t h
  refine iv_ne (tgt := 13) hx hb g3 dX8_readsButton_8 (by decide) (fun c4 => ?_) (fun c4 => ?_)
  · have h := it_f c4 h
    refine lv_aload_n hx hb dX8_readsButton_13 rfl (lv_at hl 0 rfl) ?_
    refine va_get (D := E.1) (ci := 8) (v := .ref (a 7)) (C := RX8) (T := TX8) (N := 13) hx hb hts in_X8_readsButton_X8 hown hK.1 hP 0 rfl rfl 12 (by decide) (hts _ wd_X8_readsButton_f28) (fun _ h9 => h9) rfl dX8_readsButton_14 ?_
    refine iv_iconst hx hb dX8_readsButton_17 ?_
    refine lv_aload_n hx hb dX8_readsButton_18 rfl (lv_at hl 0 rfl) ?_
    refine va_get (D := E.1) (ci := 8) (v := .int (zi u1.2.2.2.2.2.2.2.2.2.2.2.2.1)) (C := RX8) (T := TX8) (N := 13) hx hb hts in_X8_readsButton_X8 hown hK.1 hP 0 rfl rfl 11 (by decide) (hts _ wd_X8_readsButton_f132) (fun _ h9 => h9) rfl dX8_readsButton_19 ?_
    refine iv_imul hx hb dX8_readsButton_22 ?_
    refine lv_aload_n hx hb dX8_readsButton_23 rfl (lv_at hl 0 rfl) ?_
    obtain ⟨u5, q6, h⟩ := bd_t h
    refine iv_callIf (As := []) (rest := [.int (zi (5 * u1.2.2.2.2.2.2.2.2.2.2.2.2.1)), .ref (a 7)]) ⟨hx, hb, hml, hown, hts⟩ (k_X8_digit l E a H.size  u1.2 u5 q6) (cwV 0 hts gX8_readsButton_X8_digit rfl rfl rfl (by decide +kernel) ⟨Nat.le_of_ble_eq_true rfl, Nat.le_of_ble_eq_true rfl⟩) hK hP hD hS hA 0 8 rfl rfl rfl hl.1 (Nat.le_of_ble_eq_true rfl) ⟨Nat.zero_le _, Nat.zero_le _⟩ dX8_readsButton_24 (fun H locs hP hD hS => ?_)
    obtain ⟨g7, h⟩ := gd_t h
    obtain ⟨s8, e9, h⟩ := nm_t h
    refine iv_iast (f := u5.2.2.2.2.2.2.2.2.2.2.2.2.2) (j := (5 * u1.2.2.2.2.2.2.2.2.2.2.2.2.1).toNat) (ws1 := wM a E s8) hx hb hK.1 hP hD hS 7 0 rfl rfl (by decide) g7 rfl (by rw [e9]; rfl) dX8_readsButton_27 (fun H locs hP hD hS => ?_)
    refine lv_aload_n hx hb dX8_readsButton_28 rfl (lv_at hl 0 rfl) ?_
    refine iv_bipush hx hb dX8_readsButton_29 (by decide +kernel) ?_
    refine iv_bipush hx hb dX8_readsButton_31 (by decide +kernel) ?_
    obtain ⟨u10, q11, h⟩ := bd_t h
    refine iv_callIf (As := [.int (zi 104), .int (zi 104)]) (rest := []) ⟨hx, hb, hml, hown, hts⟩ (k_X8_takes l E a H.size 104 104 s8 u10 q11) (cwV 2 hts gX8_readsButton_X8_takes rfl rfl rfl (by decide +kernel) ⟨Nat.le_of_ble_eq_true rfl, Nat.le_of_ble_eq_true rfl⟩) hK hP hD hS hA 0 8 rfl rfl rfl hl.1 (Nat.le_of_ble_eq_true rfl) ⟨Nat.zero_le _, Nat.zero_le _⟩ dX8_readsButton_33 (fun H locs hP hD hS => ?_)
    obtain ⟨g12, h⟩ := gd_t h
    refine iv_eq (tgt := 80) hx hb g12 dX8_readsButton_36 (by decide) (fun c13 => ?_) (fun c13 => ?_)
    · have h := it_t c13 h
      refine iv_iconst hx hb dX8_readsButton_80 ?_
      refine lv_istore_n (lv' := [(1, .int (zi 0)), (0, .ref (a 0))]) hx hb dX8_readsButton_81 rfl hl (by decide) rfl (fun ls hl => ?_)
      refine lv_aload_n hx hb dX8_readsButton_82 rfl (lv_at hl 1 rfl) ?_
      refine lv_dup hx hb dX8_readsButton_83 rfl ?_
      refine va_get (D := E.1) (ci := 8) (v := .int (zi u10.2.2.2.2.2.2.2.2.2.2.2.2.1)) (C := RX8) (T := TX8) (N := 13) hx hb hts in_X8_readsButton_X8 hown hK.1 hP 0 rfl rfl 11 (by decide) (hts _ wd_X8_readsButton_f132) (fun _ h9 => h9) rfl dX8_readsButton_84 ?_
      refine lv_iload_n hx hb dX8_readsButton_87 rfl (lv_at hl 0 rfl) ?_
      refine iv_eq (tgt := 95) hx hb (by decide +kernel) dX8_readsButton_88 (by decide) (fun c14 => ?_) (fun c14 => ?_)
      rotate_left
      · exact absurd c14 (by decide)
      refine iv_iconst hx hb dX8_readsButton_95 ?_
      refine iv_iadd hx hb dX8_readsButton_96 ?_
      obtain ⟨s15, e16, h⟩ := nm_t h
      refine iv_put (D := E.1) (ci := 8) (v := .int (zi (u10.2.2.2.2.2.2.2.2.2.2.2.2.1 + 0))) (ty := .int) (ws1 := wM a E s15) (C := RX8) (T := TX8) (N := 13) hx hb hts in_X8_readsButton_X8 tyX8 tyX8_ok nmX8 hown hK.1 hP hD hS 0 rfl rfl 11 (by decide) (hts _ wd_X8_readsButton_f132) (fun _ h9 => h9) rfl (by decide +kernel) rfl rfl (Nat.le_of_ble_eq_true rfl) (by rw [e16]; rfl) dX8_readsButton_97 (fun H locs hP hD hS => ?_)
      refine lv_iload_n hx hb dX8_readsButton_100 rfl (lv_at hl 0 rfl) ?_
      cases h
      exact iv_zret (r := 0) hx hb hr hlocks (by decide +kernel) hK hP hD hS dX8_readsButton_101
    · have h := it_f c13 h
      refine lv_aload_n hx hb dX8_readsButton_39 rfl (lv_at hl 0 rfl) ?_
      obtain ⟨u17, q18, h⟩ := bd_t h
      refine iv_callIf (As := []) (rest := []) ⟨hx, hb, hml, hown, hts⟩ (k_X8_readsSize l E a H.size  u10.2 u17 q18) (cwV 0 hts gX8_readsButton_X8_readsSize rfl rfl rfl (by decide +kernel) ⟨Nat.le_of_ble_eq_true rfl, Nat.le_of_ble_eq_true rfl⟩) hK hP hD hS hA 0 8 rfl rfl rfl hl.1 (Nat.le_of_ble_eq_true rfl) ⟨Nat.zero_le _, Nat.zero_le _⟩ dX8_readsButton_40 (fun H locs hP hD hS => ?_)
      obtain ⟨g19, h⟩ := gd_t h
      refine iv_eq (tgt := 80) hx hb g19 dX8_readsButton_43 (by decide) (fun c20 => ?_) (fun c20 => ?_)
      · have h := it_t c20 h
        refine iv_iconst hx hb dX8_readsButton_80 ?_
        refine lv_istore_n (lv' := [(1, .int (zi 0)), (0, .ref (a 0))]) hx hb dX8_readsButton_81 rfl hl (by decide) rfl (fun ls hl => ?_)
        refine lv_aload_n hx hb dX8_readsButton_82 rfl (lv_at hl 1 rfl) ?_
        refine lv_dup hx hb dX8_readsButton_83 rfl ?_
        refine va_get (D := E.1) (ci := 8) (v := .int (zi u17.2.2.2.2.2.2.2.2.2.2.2.2.1)) (C := RX8) (T := TX8) (N := 13) hx hb hts in_X8_readsButton_X8 hown hK.1 hP 0 rfl rfl 11 (by decide) (hts _ wd_X8_readsButton_f132) (fun _ h9 => h9) rfl dX8_readsButton_84 ?_
        refine lv_iload_n hx hb dX8_readsButton_87 rfl (lv_at hl 0 rfl) ?_
        refine iv_eq (tgt := 95) hx hb (by decide +kernel) dX8_readsButton_88 (by decide) (fun c21 => ?_) (fun c21 => ?_)
        rotate_left
        · exact absurd c21 (by decide)
        refine iv_iconst hx hb dX8_readsButton_95 ?_
        refine iv_iadd hx hb dX8_readsButton_96 ?_
        obtain ⟨s22, e23, h⟩ := nm_t h
        refine iv_put (D := E.1) (ci := 8) (v := .int (zi (u17.2.2.2.2.2.2.2.2.2.2.2.2.1 + 0))) (ty := .int) (ws1 := wM a E s22) (C := RX8) (T := TX8) (N := 13) hx hb hts in_X8_readsButton_X8 tyX8 tyX8_ok nmX8 hown hK.1 hP hD hS 0 rfl rfl 11 (by decide) (hts _ wd_X8_readsButton_f132) (fun _ h9 => h9) rfl (by decide +kernel) rfl rfl (Nat.le_of_ble_eq_true rfl) (by rw [e23]; rfl) dX8_readsButton_97 (fun H locs hP hD hS => ?_)
        refine lv_iload_n hx hb dX8_readsButton_100 rfl (lv_at hl 0 rfl) ?_
        cases h
        exact iv_zret (r := 0) hx hb hr hlocks (by decide +kernel) hK hP hD hS dX8_readsButton_101
      · have h := it_f c20 h
        refine lv_aload_n hx hb dX8_readsButton_46 rfl (lv_at hl 0 rfl) ?_
        refine iv_bipush hx hb dX8_readsButton_47 (by decide +kernel) ?_
        refine iv_iconst hx hb dX8_readsButton_49 ?_
        obtain ⟨u24, q25, h⟩ := bd_t h
        refine iv_callIf (As := [.int (zi 105), .int (zi 2)]) (rest := []) ⟨hx, hb, hml, hown, hts⟩ (k_X8_readsDigit l E a H.size 105 2 u17.2 u24 q25) (cwV 2 hts gX8_readsButton_X8_readsDigit rfl rfl rfl (by decide +kernel) ⟨Nat.le_of_ble_eq_true rfl, Nat.le_of_ble_eq_true rfl⟩) hK hP hD hS hA 0 8 rfl rfl rfl hl.1 (Nat.le_of_ble_eq_true rfl) ⟨Nat.zero_le _, Nat.zero_le _⟩ dX8_readsButton_50 (fun H locs hP hD hS => ?_)
        obtain ⟨g26, h⟩ := gd_t h
        refine iv_eq (tgt := 80) hx hb g26 dX8_readsButton_53 (by decide) (fun c27 => ?_) (fun c27 => ?_)
        · have h := it_t c27 h
          refine iv_iconst hx hb dX8_readsButton_80 ?_
          refine lv_istore_n (lv' := [(1, .int (zi 0)), (0, .ref (a 0))]) hx hb dX8_readsButton_81 rfl hl (by decide) rfl (fun ls hl => ?_)
          refine lv_aload_n hx hb dX8_readsButton_82 rfl (lv_at hl 1 rfl) ?_
          refine lv_dup hx hb dX8_readsButton_83 rfl ?_
          refine va_get (D := E.1) (ci := 8) (v := .int (zi u24.2.2.2.2.2.2.2.2.2.2.2.2.1)) (C := RX8) (T := TX8) (N := 13) hx hb hts in_X8_readsButton_X8 hown hK.1 hP 0 rfl rfl 11 (by decide) (hts _ wd_X8_readsButton_f132) (fun _ h9 => h9) rfl dX8_readsButton_84 ?_
          refine lv_iload_n hx hb dX8_readsButton_87 rfl (lv_at hl 0 rfl) ?_
          refine iv_eq (tgt := 95) hx hb (by decide +kernel) dX8_readsButton_88 (by decide) (fun c28 => ?_) (fun c28 => ?_)
          rotate_left
          · exact absurd c28 (by decide)
          refine iv_iconst hx hb dX8_readsButton_95 ?_
          refine iv_iadd hx hb dX8_readsButton_96 ?_
          obtain ⟨s29, e30, h⟩ := nm_t h
          refine iv_put (D := E.1) (ci := 8) (v := .int (zi (u24.2.2.2.2.2.2.2.2.2.2.2.2.1 + 0))) (ty := .int) (ws1 := wM a E s29) (C := RX8) (T := TX8) (N := 13) hx hb hts in_X8_readsButton_X8 tyX8 tyX8_ok nmX8 hown hK.1 hP hD hS 0 rfl rfl 11 (by decide) (hts _ wd_X8_readsButton_f132) (fun _ h9 => h9) rfl (by decide +kernel) rfl rfl (Nat.le_of_ble_eq_true rfl) (by rw [e30]; rfl) dX8_readsButton_97 (fun H locs hP hD hS => ?_)
          refine lv_iload_n hx hb dX8_readsButton_100 rfl (lv_at hl 0 rfl) ?_
          cases h
          exact iv_zret (r := 0) hx hb hr hlocks (by decide +kernel) hK hP hD hS dX8_readsButton_101
        · have h := it_f c27 h
          refine lv_aload_n hx hb dX8_readsButton_56 rfl (lv_at hl 0 rfl) ?_
          refine iv_bipush hx hb dX8_readsButton_57 (by decide +kernel) ?_
          refine iv_iconst hx hb dX8_readsButton_59 ?_
          obtain ⟨u31, q32, h⟩ := bd_t h
          refine iv_callIf (As := [.int (zi 99), .int (zi 3)]) (rest := []) ⟨hx, hb, hml, hown, hts⟩ (k_X8_readsDigit l E a H.size 99 3 u24.2 u31 q32) (cwV 2 hts gX8_readsButton_X8_readsDigit rfl rfl rfl (by decide +kernel) ⟨Nat.le_of_ble_eq_true rfl, Nat.le_of_ble_eq_true rfl⟩) hK hP hD hS hA 0 8 rfl rfl rfl hl.1 (Nat.le_of_ble_eq_true rfl) ⟨Nat.zero_le _, Nat.zero_le _⟩ dX8_readsButton_60 (fun H locs hP hD hS => ?_)
          obtain ⟨g33, h⟩ := gd_t h
          refine iv_eq (tgt := 80) hx hb g33 dX8_readsButton_63 (by decide) (fun c34 => ?_) (fun c34 => ?_)
          · have h := it_t c34 h
            refine iv_iconst hx hb dX8_readsButton_80 ?_
            refine lv_istore_n (lv' := [(1, .int (zi 0)), (0, .ref (a 0))]) hx hb dX8_readsButton_81 rfl hl (by decide) rfl (fun ls hl => ?_)
            refine lv_aload_n hx hb dX8_readsButton_82 rfl (lv_at hl 1 rfl) ?_
            refine lv_dup hx hb dX8_readsButton_83 rfl ?_
            refine va_get (D := E.1) (ci := 8) (v := .int (zi u31.2.2.2.2.2.2.2.2.2.2.2.2.1)) (C := RX8) (T := TX8) (N := 13) hx hb hts in_X8_readsButton_X8 hown hK.1 hP 0 rfl rfl 11 (by decide) (hts _ wd_X8_readsButton_f132) (fun _ h9 => h9) rfl dX8_readsButton_84 ?_
            refine lv_iload_n hx hb dX8_readsButton_87 rfl (lv_at hl 0 rfl) ?_
            refine iv_eq (tgt := 95) hx hb (by decide +kernel) dX8_readsButton_88 (by decide) (fun c35 => ?_) (fun c35 => ?_)
            rotate_left
            · exact absurd c35 (by decide)
            refine iv_iconst hx hb dX8_readsButton_95 ?_
            refine iv_iadd hx hb dX8_readsButton_96 ?_
            obtain ⟨s36, e37, h⟩ := nm_t h
            refine iv_put (D := E.1) (ci := 8) (v := .int (zi (u31.2.2.2.2.2.2.2.2.2.2.2.2.1 + 0))) (ty := .int) (ws1 := wM a E s36) (C := RX8) (T := TX8) (N := 13) hx hb hts in_X8_readsButton_X8 tyX8 tyX8_ok nmX8 hown hK.1 hP hD hS 0 rfl rfl 11 (by decide) (hts _ wd_X8_readsButton_f132) (fun _ h9 => h9) rfl (by decide +kernel) rfl rfl (Nat.le_of_ble_eq_true rfl) (by rw [e37]; rfl) dX8_readsButton_97 (fun H locs hP hD hS => ?_)
            refine lv_iload_n hx hb dX8_readsButton_100 rfl (lv_at hl 0 rfl) ?_
            cases h
            exact iv_zret (r := 0) hx hb hr hlocks (by decide +kernel) hK hP hD hS dX8_readsButton_101
          · have h := it_f c34 h
            refine lv_aload_n hx hb dX8_readsButton_66 rfl (lv_at hl 0 rfl) ?_
            refine iv_bipush hx hb dX8_readsButton_67 (by decide +kernel) ?_
            refine iv_iconst hx hb dX8_readsButton_69 ?_
            obtain ⟨u38, q39, h⟩ := bd_t h
            refine iv_callIf (As := [.int (zi 115), .int (zi 4)]) (rest := []) ⟨hx, hb, hml, hown, hts⟩ (k_X8_readsDigit l E a H.size 115 4 u31.2 u38 q39) (cwV 2 hts gX8_readsButton_X8_readsDigit rfl rfl rfl (by decide +kernel) ⟨Nat.le_of_ble_eq_true rfl, Nat.le_of_ble_eq_true rfl⟩) hK hP hD hS hA 0 8 rfl rfl rfl hl.1 (Nat.le_of_ble_eq_true rfl) ⟨Nat.zero_le _, Nat.zero_le _⟩ dX8_readsButton_70 (fun H locs hP hD hS => ?_)
            obtain ⟨g40, h⟩ := gd_t h
            refine iv_eq (tgt := 80) hx hb g40 dX8_readsButton_73 (by decide) (fun c41 => ?_) (fun c41 => ?_)
            · have h := it_t c41 h
              refine iv_iconst hx hb dX8_readsButton_80 ?_
              refine lv_istore_n (lv' := [(1, .int (zi 0)), (0, .ref (a 0))]) hx hb dX8_readsButton_81 rfl hl (by decide) rfl (fun ls hl => ?_)
              refine lv_aload_n hx hb dX8_readsButton_82 rfl (lv_at hl 1 rfl) ?_
              refine lv_dup hx hb dX8_readsButton_83 rfl ?_
              refine va_get (D := E.1) (ci := 8) (v := .int (zi u38.2.2.2.2.2.2.2.2.2.2.2.2.1)) (C := RX8) (T := TX8) (N := 13) hx hb hts in_X8_readsButton_X8 hown hK.1 hP 0 rfl rfl 11 (by decide) (hts _ wd_X8_readsButton_f132) (fun _ h9 => h9) rfl dX8_readsButton_84 ?_
              refine lv_iload_n hx hb dX8_readsButton_87 rfl (lv_at hl 0 rfl) ?_
              refine iv_eq (tgt := 95) hx hb (by decide +kernel) dX8_readsButton_88 (by decide) (fun c42 => ?_) (fun c42 => ?_)
              rotate_left
              · exact absurd c42 (by decide)
              refine iv_iconst hx hb dX8_readsButton_95 ?_
              refine iv_iadd hx hb dX8_readsButton_96 ?_
              obtain ⟨s43, e44, h⟩ := nm_t h
              refine iv_put (D := E.1) (ci := 8) (v := .int (zi (u38.2.2.2.2.2.2.2.2.2.2.2.2.1 + 0))) (ty := .int) (ws1 := wM a E s43) (C := RX8) (T := TX8) (N := 13) hx hb hts in_X8_readsButton_X8 tyX8 tyX8_ok nmX8 hown hK.1 hP hD hS 0 rfl rfl 11 (by decide) (hts _ wd_X8_readsButton_f132) (fun _ h9 => h9) rfl (by decide +kernel) rfl rfl (Nat.le_of_ble_eq_true rfl) (by rw [e44]; rfl) dX8_readsButton_97 (fun H locs hP hD hS => ?_)
              refine lv_iload_n hx hb dX8_readsButton_100 rfl (lv_at hl 0 rfl) ?_
              cases h
              exact iv_zret (r := 0) hx hb hr hlocks (by decide +kernel) hK hP hD hS dX8_readsButton_101
            · have h := it_f c41 h
              refine iv_iconst hx hb dX8_readsButton_76 ?_
              refine lv_goto (tgt := 81) hx hb dX8_readsButton_77 (by decide) ?_
              refine lv_istore_n (lv' := [(1, .int (zi 1)), (0, .ref (a 0))]) hx hb dX8_readsButton_81 rfl hl (by decide) rfl (fun ls hl => ?_)
              refine lv_aload_n hx hb dX8_readsButton_82 rfl (lv_at hl 1 rfl) ?_
              refine lv_dup hx hb dX8_readsButton_83 rfl ?_
              refine va_get (D := E.1) (ci := 8) (v := .int (zi u38.2.2.2.2.2.2.2.2.2.2.2.2.1)) (C := RX8) (T := TX8) (N := 13) hx hb hts in_X8_readsButton_X8 hown hK.1 hP 0 rfl rfl 11 (by decide) (hts _ wd_X8_readsButton_f132) (fun _ h9 => h9) rfl dX8_readsButton_84 ?_
              refine lv_iload_n hx hb dX8_readsButton_87 rfl (lv_at hl 0 rfl) ?_
              refine iv_eq (tgt := 95) hx hb (by decide +kernel) dX8_readsButton_88 (by decide) (fun c45 => ?_) (fun c45 => ?_)
              · exact absurd c45 (by decide)
              refine iv_iconst hx hb dX8_readsButton_91 ?_
              refine lv_goto (tgt := 96) hx hb dX8_readsButton_92 (by decide) ?_
              refine iv_iadd hx hb dX8_readsButton_96 ?_
              obtain ⟨s46, e47, h⟩ := nm_t h
              refine iv_put (D := E.1) (ci := 8) (v := .int (zi (u38.2.2.2.2.2.2.2.2.2.2.2.2.1 + 1))) (ty := .int) (ws1 := wM a E s46) (C := RX8) (T := TX8) (N := 13) hx hb hts in_X8_readsButton_X8 tyX8 tyX8_ok nmX8 hown hK.1 hP hD hS 0 rfl rfl 11 (by decide) (hts _ wd_X8_readsButton_f132) (fun _ h9 => h9) rfl (by decide +kernel) rfl rfl (Nat.le_of_ble_eq_true rfl) (by rw [e47]; rfl) dX8_readsButton_97 (fun H locs hP hD hS => ?_)
              refine lv_iload_n hx hb dX8_readsButton_100 rfl (lv_at hl 0 rfl) ?_
              cases h
              exact iv_zret (r := 1) hx hb hr hlocks (by decide +kernel) hK hP hD hS dX8_readsButton_101
  · have h := it_t c4 h
    refine iv_iconst hx hb dX8_readsButton_11 ?_
    cases h
    exact iv_zret (r := 0) hx hb hr hlocks (by decide +kernel) hK hP hD hS dX8_readsButton_12
set_option maxRecDepth 20000 in
theorem wd_X8_areButtons_f123 : Cond.fieldLink RX8 123 "ShirtButtonsModel" "spot" "I" ∈ wsX8_areButtons := by decide +kernel
set_option maxRecDepth 20000 in
theorem in_X8_areButtons_X8 : ∀ w ∈ u_ws RX8 TX8 13, w ∈ wsX8_areButtons := by decide +kernel
set_option maxRecDepth 20000 in
theorem wd_X8_areButtons_f132 : Cond.fieldLink RX8 132 "ShirtButtonsModel" "reads" "I" ∈ wsX8_areButtons := by decide +kernel
set_option maxRecDepth 20000 in
theorem wd_X8_areButtons_f120 : Cond.fieldLink RX8 120 "ShirtButtonsModel" "length" "I" ∈ wsX8_areButtons := by decide +kernel
set_option maxHeartbeats 4000000 in
set_option maxRecDepth 100000 in
theorem k_X8_areButtons (l : Launch) (E : wE) (a : Nat → Nat) (sz : Nat) (N : Nat) (z : bM) (u : (Int × bM)) (hf : f_X8_areButtons N z = some u) : cI l yX8_areButtons wsX8_areButtons { frames := 4, cells := 0, slots := 0, locals := 89 } E sz [.ref (a 0)] (wM a E z) (wM a E u.2) u.1 := by
  refine met_go (cc := cX8_areButtons) (maxL := 2) (ret := (some .boolean)) (Q0 := mQi E (wM a E u.2) u.1) (by decide +kernel) rfl (Nat.le_of_ble_eq_true rfl) ?_
  intro A p e s m below meth c hx hb hr hml hts hown hlocks hP hK hD hA hS ls hl
  have hl : lv_has ls 2 [(0, .ref (a 0))] := hl
  generalize hH : s.heap = H at hP
  have hS : va_S A s.heap H [] := by rw [← hH]; exact hS
  have hown : s.vm.findClass RX8 = some m.cls := hown
  have loop15 : ∀ (n : Nat) (v7 : Int) (s8 : bM) (H : Heap) (locs : List Loc) (ls : Array Slot), f_X8_areButtons_L15 N n v7 s8 = some u → va_P E.1 vwCl (wM a E s8) H → va_D A (wM a E s8) → va_S A s.heap H locs → lv_has ls 2 [(0, .ref (a 0)), (1, .int (zi v7))] → W p l e ({ frames := 4, cells := 0, slots := 0, locals := 89 }) s m ([.ref (a 0)] : List Value).toArray below meth c H locs 0 0 (MQ below (mQi E (wM a E u.2) u.1 A) ([.ref (a 0)] : List Value).toArray s 0 0 A) (F0 m 15 ls []) := by
    intro n
    induction n with
    | zero =>
      intro v7 s8 H locs ls h
      exact absurd (show (none : Option (Int × bM)) = some u from h) (by simp)
    | succ n ih =>
      intro v7 s8 H locs ls h hP hD hS hl
      rw [f_X8_areButtons_L15] at h
      refine lv_iload_n hx hb dX8_areButtons_15 rfl (lv_at hl 1 rfl) ?_
      obtain ⟨g9, h⟩ := gd_t h
      refine iv_eq (tgt := 38) hx hb g9 dX8_areButtons_16 (by decide) (fun c10 => ?_) (fun c10 => ?_)
      · have h := it_t c10 h
        refine lv_iload_n hx hb dX8_areButtons_38 rfl (lv_at hl 1 rfl) ?_
        refine iv_eq (tgt := 57) hx hb g9 dX8_areButtons_39 (by decide) (fun c11 => ?_) (fun c11 => ?_)
        · have h := it_t c11 h
          refine iv_iconst hx hb dX8_areButtons_57 ?_
          cases h
          exact iv_zret (r := 0) hx hb hr hlocks (by decide +kernel) hK hP hD hS dX8_areButtons_58
        · have h := it_f c11 h
          refine lv_aload_n hx hb dX8_areButtons_42 rfl (lv_at hl 0 rfl) ?_
          refine va_get (D := E.1) (ci := 8) (v := .int (zi s8.2.2.2.2.2.2.2.2.2.2.1)) (C := RX8) (T := TX8) (N := 13) hx hb hts in_X8_areButtons_X8 hown hK.1 hP 0 rfl rfl 10 (by decide) (hts _ wd_X8_areButtons_f123) (fun _ h9 => h9) rfl dX8_areButtons_43 ?_
          refine lv_aload_n hx hb dX8_areButtons_46 rfl (lv_at hl 0 rfl) ?_
          refine va_get (D := E.1) (ci := 8) (v := .int (zi s8.2.2.2.2.2.2.2.2.2.1)) (C := RX8) (T := TX8) (N := 13) hx hb hts in_X8_areButtons_X8 hown hK.1 hP 0 rfl rfl 9 (by decide) (hts _ wd_X8_areButtons_f120) (fun _ h9 => h9) rfl dX8_areButtons_47 ?_
          obtain ⟨g12, h⟩ := gd_t h
          obtain ⟨g13, h⟩ := gd_t h
          refine iv_ine (tgt := 57) hx hb g12 g13 dX8_areButtons_50 (by decide) (fun c14 => ?_) (fun c14 => ?_)
          · have h := it_f c14 h
            refine iv_iconst hx hb dX8_areButtons_57 ?_
            cases h
            exact iv_zret (r := 0) hx hb hr hlocks (by decide +kernel) hK hP hD hS dX8_areButtons_58
          · have h := it_t c14 h
            refine iv_iconst hx hb dX8_areButtons_53 ?_
            refine lv_goto (tgt := 58) hx hb dX8_areButtons_54 (by decide) ?_
            cases h
            exact iv_zret (r := 1) hx hb hr hlocks (by decide +kernel) hK hP hD hS dX8_areButtons_58
      · have h := it_f c10 h
        refine lv_aload_n hx hb dX8_areButtons_19 rfl (lv_at hl 0 rfl) ?_
        refine iv_bipush hx hb dX8_areButtons_20 (by decide +kernel) ?_
        refine iv_bipush hx hb dX8_areButtons_22 (by decide +kernel) ?_
        obtain ⟨u15, q16, h⟩ := bd_t h
        refine iv_callIf (As := [.int (zi 44), .int (zi 44)]) (rest := []) ⟨hx, hb, hml, hown, hts⟩ (k_X8_takes l E a H.size 44 44 s8 u15 q16) (cwV 2 hts gX8_areButtons_X8_takes rfl rfl rfl (by decide +kernel) ⟨Nat.le_of_ble_eq_true rfl, Nat.le_of_ble_eq_true rfl⟩) hK hP hD hS hA 0 8 rfl rfl rfl hl.1 (Nat.le_of_ble_eq_true rfl) ⟨Nat.zero_le _, Nat.zero_le _⟩ dX8_areButtons_24 (fun H locs hP hD hS => ?_)
        obtain ⟨g17, h⟩ := gd_t h
        refine iv_eq (tgt := 38) hx hb g17 dX8_areButtons_27 (by decide) (fun c18 => ?_) (fun c18 => ?_)
        · have h := it_t c18 h
          refine lv_iload_n hx hb dX8_areButtons_38 rfl (lv_at hl 1 rfl) ?_
          refine iv_eq (tgt := 57) hx hb g9 dX8_areButtons_39 (by decide) (fun c19 => ?_) (fun c19 => ?_)
          · have h := it_t c19 h
            refine iv_iconst hx hb dX8_areButtons_57 ?_
            cases h
            exact iv_zret (r := 0) hx hb hr hlocks (by decide +kernel) hK hP hD hS dX8_areButtons_58
          · have h := it_f c19 h
            refine lv_aload_n hx hb dX8_areButtons_42 rfl (lv_at hl 0 rfl) ?_
            refine va_get (D := E.1) (ci := 8) (v := .int (zi u15.2.2.2.2.2.2.2.2.2.2.2.1)) (C := RX8) (T := TX8) (N := 13) hx hb hts in_X8_areButtons_X8 hown hK.1 hP 0 rfl rfl 10 (by decide) (hts _ wd_X8_areButtons_f123) (fun _ h9 => h9) rfl dX8_areButtons_43 ?_
            refine lv_aload_n hx hb dX8_areButtons_46 rfl (lv_at hl 0 rfl) ?_
            refine va_get (D := E.1) (ci := 8) (v := .int (zi u15.2.2.2.2.2.2.2.2.2.2.1)) (C := RX8) (T := TX8) (N := 13) hx hb hts in_X8_areButtons_X8 hown hK.1 hP 0 rfl rfl 9 (by decide) (hts _ wd_X8_areButtons_f120) (fun _ h9 => h9) rfl dX8_areButtons_47 ?_
            obtain ⟨g20, h⟩ := gd_t h
            obtain ⟨g21, h⟩ := gd_t h
            refine iv_ine (tgt := 57) hx hb g20 g21 dX8_areButtons_50 (by decide) (fun c22 => ?_) (fun c22 => ?_)
            · have h := it_f c22 h
              refine iv_iconst hx hb dX8_areButtons_57 ?_
              cases h
              exact iv_zret (r := 0) hx hb hr hlocks (by decide +kernel) hK hP hD hS dX8_areButtons_58
            · have h := it_t c22 h
              refine iv_iconst hx hb dX8_areButtons_53 ?_
              refine lv_goto (tgt := 58) hx hb dX8_areButtons_54 (by decide) ?_
              cases h
              exact iv_zret (r := 1) hx hb hr hlocks (by decide +kernel) hK hP hD hS dX8_areButtons_58
        · have h := it_f c18 h
          refine lv_aload_n hx hb dX8_areButtons_30 rfl (lv_at hl 0 rfl) ?_
          obtain ⟨u23, q24, h⟩ := bd_t h
          refine iv_callIf (As := []) (rest := []) ⟨hx, hb, hml, hown, hts⟩ (k_X8_readsButton l E a H.size  u15.2 u23 q24) (cwV 0 hts gX8_areButtons_X8_readsButton rfl rfl rfl (by decide +kernel) ⟨Nat.le_of_ble_eq_true rfl, Nat.le_of_ble_eq_true rfl⟩) hK hP hD hS hA 0 8 rfl rfl rfl hl.1 (Nat.le_of_ble_eq_true rfl) ⟨Nat.zero_le _, Nat.zero_le _⟩ dX8_areButtons_31 (fun H locs hP hD hS => ?_)
          refine lv_istore_n (lv' := [(1, .int (zi u23.1)), (0, .ref (a 0))]) hx hb dX8_areButtons_34 rfl hl (by decide) rfl (fun ls hl => ?_)
          refine lv_goto (tgt := 15) hx hb dX8_areButtons_35 (by decide) ?_
          exact ih u23.1 u23.2 _ _ _ h hP hD hS (lv_sub hl [1, 0] rfl)
  have h := hf
  rw [f_X8_areButtons] at h
  refine lv_aload_n hx hb dX8_areButtons_0 rfl (lv_at hl 0 rfl) ?_
  refine iv_iconst hx hb dX8_areButtons_1 ?_
  obtain ⟨s1, e2, h⟩ := nm_t h
  refine iv_put (D := E.1) (ci := 8) (v := .int (zi 0)) (ty := .int) (ws1 := wM a E s1) (C := RX8) (T := TX8) (N := 13) hx hb hts in_X8_areButtons_X8 tyX8 tyX8_ok nmX8 hown hK.1 hP hD hS 0 rfl rfl 10 (by decide) (hts _ wd_X8_areButtons_f123) (fun _ h9 => h9) rfl (by decide +kernel) rfl rfl (Nat.le_of_ble_eq_true rfl) (by rw [e2]; rfl) dX8_areButtons_2 (fun H locs hP hD hS => ?_)
  refine lv_aload_n hx hb dX8_areButtons_5 rfl (lv_at hl 0 rfl) ?_
  refine iv_iconst hx hb dX8_areButtons_6 ?_
  obtain ⟨s3, e4, h⟩ := nm_t h
  refine iv_put (D := E.1) (ci := 8) (v := .int (zi 0)) (ty := .int) (ws1 := wM a E s3) (C := RX8) (T := TX8) (N := 13) hx hb hts in_X8_areButtons_X8 tyX8 tyX8_ok nmX8 hown hK.1 hP hD hS 0 rfl rfl 11 (by decide) (hts _ wd_X8_areButtons_f132) (fun _ h9 => h9) rfl (by decide +kernel) rfl rfl (Nat.le_of_ble_eq_true rfl) (by rw [e4]; rfl) dX8_areButtons_7 (fun H locs hP hD hS => ?_)
  refine lv_aload_n hx hb dX8_areButtons_10 rfl (lv_at hl 0 rfl) ?_
  obtain ⟨u5, q6, h⟩ := bd_t h
  refine iv_callIf (As := []) (rest := []) ⟨hx, hb, hml, hown, hts⟩ (k_X8_readsButton l E a H.size  s3 u5 q6) (cwV 0 hts gX8_areButtons_X8_readsButton rfl rfl rfl (by decide +kernel) ⟨Nat.le_of_ble_eq_true rfl, Nat.le_of_ble_eq_true rfl⟩) hK hP hD hS hA 0 8 rfl rfl rfl hl.1 (Nat.le_of_ble_eq_true rfl) ⟨Nat.zero_le _, Nat.zero_le _⟩ dX8_areButtons_11 (fun H locs hP hD hS => ?_)
  refine lv_istore_n (lv' := [(1, .int (zi u5.1)), (0, .ref (a 0))]) hx hb dX8_areButtons_14 rfl hl (by decide) rfl (fun ls hl => ?_)
  exact loop15 N u5.1 u5.2 _ _ _ h hP hD hS (lv_sub hl [1, 0] rfl)
set_option maxRecDepth 20000 in
theorem wd_X8_come_f7 : Cond.fieldLink RX8 7 "ShirtButtonsModel" "row" "[I" ∈ wsX8_come := by decide +kernel
set_option maxRecDepth 20000 in
theorem in_X8_come_X8 : ∀ w ∈ u_ws RX8 TX8 13, w ∈ wsX8_come := by decide +kernel
set_option maxRecDepth 20000 in
theorem wd_X8_come_f28 : Cond.fieldLink RX8 28 "ShirtButtonsModel" "read" "[I" ∈ wsX8_come := by decide +kernel
set_option maxHeartbeats 4000000 in
set_option maxRecDepth 100000 in
theorem k_X8_come (l : Launch) (E : wE) (a : Nat → Nat) (sz : Nat) (N : Nat) (x1 : Int) (z : bM) (u : bM) (hf : f_X8_come N x1 z = some u) : cV l yX8_come wsX8_come { frames := 3, cells := 0, slots := 0, locals := 66 } E sz [.ref (a 0), .int (zi x1)] (wM a E z) (wM a E u) := by
  refine met_go (cc := cX8_come) (maxL := 4) (ret := none) (Q0 := mQv E (wM a E u)) (by decide +kernel) rfl (Nat.le_of_ble_eq_true rfl) ?_
  intro A p e s m below meth c hx hb hr hml hts hown hlocks hP hK hD hA hS ls hl
  have hl : lv_has ls 4 [(0, .ref (a 0)), (1, .int (zi x1))] := hl
  generalize hH : s.heap = H at hP
  have hS : va_S A s.heap H [] := by rw [← hH]; exact hS
  have hown : s.vm.findClass RX8 = some m.cls := hown
  have loop21 : ∀ (n : Nat) (v5 v6 v7 : Int) (s8 : bM) (H : Heap) (locs : List Loc) (ls : Array Slot), f_X8_come_L21 N n v5 v6 v7 s8 = some u → va_P E.1 vwCl (wM a E s8) H → va_D A (wM a E s8) → va_S A s.heap H locs → lv_has ls 4 [(0, .ref (a 0)), (1, .int (zi v5)), (2, .int (zi v6)), (3, .int (zi v7))] → W p l e ({ frames := 3, cells := 0, slots := 0, locals := 66 }) s m ([.ref (a 0), .int (zi x1)] : List Value).toArray below meth c H locs 0 0 (MQ below (mQv E (wM a E u) A) ([.ref (a 0), .int (zi x1)] : List Value).toArray s 0 0 A) (F0 m 21 ls []) := by
    intro n
    induction n with
    | zero =>
      intro v5 v6 v7 s8 H locs ls h
      exact absurd (show (none : Option bM) = some u from h) (by simp)
    | succ n ih =>
      intro v5 v6 v7 s8 H locs ls h hP hD hS hl
      rw [f_X8_come_L21] at h
      refine lv_iload_n hx hb dX8_come_21 rfl (lv_at hl 3 rfl) ?_
      refine iv_iconst hx hb dX8_come_22 ?_
      obtain ⟨g9, h⟩ := gd_t h
      refine iv_ige (tgt := 48) hx hb g9 (by decide +kernel) dX8_come_23 (by decide) (fun c10 => ?_) (fun c10 => ?_)
      · have h := it_t c10 h
        refine lv_aload_n hx hb dX8_come_48 rfl (lv_at hl 0 rfl) ?_
        refine lv_iload_n hx hb dX8_come_49 rfl (lv_at hl 2 rfl) ?_
        refine iv_bipush hx hb dX8_come_50 (by decide +kernel) ?_
        refine iv_bipush hx hb dX8_come_52 (by decide +kernel) ?_
        obtain ⟨u11, q12, h⟩ := bd_t h
        refine iv_callVf (As := [.int (zi v6), .int (zi 7), .int (zi (-5))]) (rest := []) ⟨hx, hb, hml, hown, hts⟩ (k_X8_put l E a H.size v6 7 (-5) s8 u11 q12) (cwV 3 hts gX8_come_X8_put rfl rfl rfl (by decide +kernel) ⟨Nat.le_of_ble_eq_true rfl, Nat.le_of_ble_eq_true rfl⟩) hK hP hD hS hA 0 8 rfl rfl rfl hl.1 (Nat.le_of_ble_eq_true rfl) ⟨Nat.zero_le _, Nat.zero_le _⟩ dX8_come_54 (fun H locs hP hD hS => ?_)
        refine lv_aload_n hx hb dX8_come_57 rfl (lv_at hl 0 rfl) ?_
        refine lv_iload_n hx hb dX8_come_58 rfl (lv_at hl 2 rfl) ?_
        refine iv_bipush hx hb dX8_come_59 (by decide +kernel) ?_
        refine iv_iconst hx hb dX8_come_61 ?_
        obtain ⟨u13, q14, h⟩ := bd_t h
        refine iv_callVf (As := [.int (zi v6), .int (zi 8), .int (zi 0)]) (rest := []) ⟨hx, hb, hml, hown, hts⟩ (k_X8_put l E a H.size v6 8 0 u11 u13 q14) (cwV 3 hts gX8_come_X8_put rfl rfl rfl (by decide +kernel) ⟨Nat.le_of_ble_eq_true rfl, Nat.le_of_ble_eq_true rfl⟩) hK hP hD hS hA 0 8 rfl rfl rfl hl.1 (Nat.le_of_ble_eq_true rfl) ⟨Nat.zero_le _, Nat.zero_le _⟩ dX8_come_62 (fun H locs hP hD hS => ?_)
        refine lv_aload_n hx hb dX8_come_65 rfl (lv_at hl 0 rfl) ?_
        refine lv_iload_n hx hb dX8_come_66 rfl (lv_at hl 2 rfl) ?_
        obtain ⟨u15, q16, h⟩ := bd_t h
        refine iv_callVf (As := [.int (zi v6)]) (rest := []) ⟨hx, hb, hml, hown, hts⟩ (k_X8_toHopper l E a H.size v6 u13 u15 q16) (cwV 1 hts gX8_come_X8_toHopper rfl rfl rfl (by decide +kernel) ⟨Nat.le_of_ble_eq_true rfl, Nat.le_of_ble_eq_true rfl⟩) hK hP hD hS hA 0 8 rfl rfl rfl hl.1 (Nat.le_of_ble_eq_true rfl) ⟨Nat.zero_le _, Nat.zero_le _⟩ dX8_come_67 (fun H locs hP hD hS => ?_)
        cases h
        exact iv_vret hx hb hr hlocks hK hP hD hS dX8_come_70
      · have h := it_f c10 h
        refine lv_aload_n hx hb dX8_come_26 rfl (lv_at hl 0 rfl) ?_
        refine lv_iload_n hx hb dX8_come_27 rfl (lv_at hl 2 rfl) ?_
        refine lv_iload_n hx hb dX8_come_28 rfl (lv_at hl 3 rfl) ?_
        refine lv_aload_n hx hb dX8_come_29 rfl (lv_at hl 0 rfl) ?_
        refine va_get (D := E.1) (ci := 8) (v := .ref (a 7)) (C := RX8) (T := TX8) (N := 13) hx hb hts in_X8_come_X8 hown hK.1 hP 0 rfl rfl 12 (by decide) (hts _ wd_X8_come_f28) (fun _ h9 => h9) rfl dX8_come_30 ?_
        refine iv_iconst hx hb dX8_come_33 ?_
        refine lv_iload_n hx hb dX8_come_34 rfl (lv_at hl 1 rfl) ?_
        refine iv_imul hx hb dX8_come_35 ?_
        refine lv_iload_n hx hb dX8_come_36 rfl (lv_at hl 3 rfl) ?_
        refine iv_iadd hx hb dX8_come_37 ?_
        obtain ⟨g17, h⟩ := gd_t h
        refine iv_iald (f := s8.2.2.2.2.2.2.2.2.2.2.2.2) (j := ((5 * v5) + v7).toNat) hx hb hK.1 hP 7 0 rfl rfl (by decide) g17 rfl dX8_come_38 ?_
        obtain ⟨u18, q19, h⟩ := bd_t h
        refine iv_callVf (As := [.int (zi v6), .int (zi v7), .int (zi (s8.2.2.2.2.2.2.2.2.2.2.2.2 (((5 * v5) + v7).toNat)))]) (rest := []) ⟨hx, hb, hml, hown, hts⟩ (k_X8_put l E a H.size v6 v7 (s8.2.2.2.2.2.2.2.2.2.2.2.2 (((5 * v5) + v7).toNat)) s8 u18 q19) (cwV 3 hts gX8_come_X8_put rfl rfl rfl (by decide +kernel) ⟨Nat.le_of_ble_eq_true rfl, Nat.le_of_ble_eq_true rfl⟩) hK hP hD hS hA 0 8 rfl rfl rfl hl.1 (Nat.le_of_ble_eq_true rfl) ⟨Nat.zero_le _, Nat.zero_le _⟩ dX8_come_39 (fun H locs hP hD hS => ?_)
        refine lv_iinc (v := zi (v7 + 1)) (lv' := [(3, .int (zi (v7 + 1))), (0, .ref (a 0)), (1, .int (zi v5)), (2, .int (zi v6))]) hx hb dX8_come_42 hl (k := 3) rfl (by rw [zi_add]; rfl) (by decide) rfl (fun ls hl => ?_)
        refine lv_goto (tgt := 21) hx hb dX8_come_45 (by decide) ?_
        exact ih v5 v6 (v7 + 1) u18 _ _ _ h hP hD hS (lv_sub hl [1, 2, 3, 0] rfl)
  have h := hf
  rw [f_X8_come] at h
  refine lv_aload_n hx hb dX8_come_0 rfl (lv_at hl 0 rfl) ?_
  refine va_get (D := E.1) (ci := 8) (v := .ref (a 1)) (C := RX8) (T := TX8) (N := 13) hx hb hts in_X8_come_X8 hown hK.1 hP 0 rfl rfl 0 (by decide) (hts _ wd_X8_come_f7) (fun _ h9 => h9) rfl dX8_come_1 ?_
  refine iv_bipush hx hb dX8_come_4 (by decide +kernel) ?_
  refine iv_iald (f := z.1) (j := 13) hx hb hK.1 hP 1 0 rfl rfl (by decide) (by decide +kernel) rfl dX8_come_6 ?_
  obtain ⟨v1, e2, h⟩ := nm_t h
  refine iv_nm e2 ?_
  refine lv_istore_n (lv' := [(2, .int (zi v1)), (0, .ref (a 0)), (1, .int (zi x1))]) hx hb dX8_come_7 rfl hl (by decide) rfl (fun ls hl => ?_)
  refine lv_aload_n hx hb dX8_come_8 rfl (lv_at hl 1 rfl) ?_
  refine va_get (D := E.1) (ci := 8) (v := .ref (a 1)) (C := RX8) (T := TX8) (N := 13) hx hb hts in_X8_come_X8 hown hK.1 hP 0 rfl rfl 0 (by decide) (hts _ wd_X8_come_f7) (fun _ h9 => h9) rfl dX8_come_9 ?_
  refine iv_bipush hx hb dX8_come_12 (by decide +kernel) ?_
  refine lv_dup2_11 hx hb dX8_come_14 rfl rfl ?_
  refine iv_iald (f := z.1) (j := 13) hx hb hK.1 hP 1 0 rfl rfl (by decide) (by decide +kernel) rfl dX8_come_15 ?_
  refine iv_iconst hx hb dX8_come_16 ?_
  refine iv_iadd hx hb dX8_come_17 ?_
  obtain ⟨s3, e4, h⟩ := nm_t h
  refine iv_iast (f := z.1) (j := 13) (ws1 := wM a E s3) hx hb hK.1 hP hD hS 1 0 rfl rfl (by decide) (by decide +kernel) rfl (by rw [e4]; rfl) dX8_come_18 (fun H locs hP hD hS => ?_)
  refine iv_iconst hx hb dX8_come_19 ?_
  refine lv_istore_n (lv' := [(3, .int (zi 0)), (2, .int (zi v1)), (0, .ref (a 0)), (1, .int (zi x1))]) hx hb dX8_come_20 rfl hl (by decide) rfl (fun ls hl => ?_)
  exact loop21 N x1 v1 0 s3 _ _ _ h hP hD hS (lv_sub hl [2, 3, 1, 0] rfl)
set_option maxRecDepth 20000 in
theorem wd_X8_read_f7 : Cond.fieldLink RX8 7 "ShirtButtonsModel" "row" "[I" ∈ wsX8_read := by decide +kernel
set_option maxRecDepth 20000 in
theorem in_X8_read_X8 : ∀ w ∈ u_ws RX8 TX8 13, w ∈ wsX8_read := by decide +kernel
set_option maxRecDepth 20000 in
theorem wd_X8_read_f132 : Cond.fieldLink RX8 132 "ShirtButtonsModel" "reads" "I" ∈ wsX8_read := by decide +kernel
set_option maxRecDepth 20000 in
theorem wd_X8_read_f123 : Cond.fieldLink RX8 123 "ShirtButtonsModel" "spot" "I" ∈ wsX8_read := by decide +kernel
set_option maxHeartbeats 4000000 in
set_option maxRecDepth 100000 in
theorem k_X8_read (l : Launch) (E : wE) (a : Nat → Nat) (sz : Nat) (N : Nat) (z : bM) (u : (Int × bM)) (hf : f_X8_read N z = some u) : cI l yX8_read wsX8_read { frames := 5, cells := 0, slots := 0, locals := 110 } E sz [.ref (a 0)] (wM a E z) (wM a E u.2) u.1 := by
  refine met_go (cc := cX8_read) (maxL := 2) (ret := (some .int)) (Q0 := mQi E (wM a E u.2) u.1) (by decide +kernel) rfl (Nat.le_of_ble_eq_true rfl) ?_
  intro A p e s m below meth c hx hb hr hml hts hown hlocks hP hK hD hA hS ls hl
  have hl : lv_has ls 2 [(0, .ref (a 0))] := hl
  generalize hH : s.heap = H at hP
  have hS : va_S A s.heap H [] := by rw [← hH]; exact hS
  have hown : s.vm.findClass RX8 = some m.cls := hown
  have loop41 : ∀ (n : Nat) (v9 : Int) (s10 : bM) (H : Heap) (locs : List Loc) (ls : Array Slot), f_X8_read_L41 N n v9 s10 = some u → va_P E.1 vwCl (wM a E s10) H → va_D A (wM a E s10) → va_S A s.heap H locs → lv_has ls 2 [(0, .ref (a 0)), (1, .int (zi v9))] → W p l e ({ frames := 5, cells := 0, slots := 0, locals := 110 }) s m ([.ref (a 0)] : List Value).toArray below meth c H locs 0 0 (MQ below (mQi E (wM a E u.2) u.1 A) ([.ref (a 0)] : List Value).toArray s 0 0 A) (F0 m 41 ls []) := by
    intro n
    induction n with
    | zero =>
      intro v9 s10 H locs ls h
      exact absurd (show (none : Option (Int × bM)) = some u from h) (by simp)
    | succ n ih =>
      intro v9 s10 H locs ls h hP hD hS hl
      rw [f_X8_read_L41] at h
      refine lv_iload_n hx hb dX8_read_41 rfl (lv_at hl 1 rfl) ?_
      refine lv_aload_n hx hb dX8_read_42 rfl (lv_at hl 0 rfl) ?_
      refine va_get (D := E.1) (ci := 8) (v := .int (zi s10.2.2.2.2.2.2.2.2.2.2.2.1)) (C := RX8) (T := TX8) (N := 13) hx hb hts in_X8_read_X8 hown hK.1 hP 0 rfl rfl 11 (by decide) (hts _ wd_X8_read_f132) (fun _ h9 => h9) rfl dX8_read_43 ?_
      obtain ⟨g11, h⟩ := gd_t h
      obtain ⟨g12, h⟩ := gd_t h
      refine iv_ige (tgt := 60) hx hb g11 g12 dX8_read_46 (by decide) (fun c13 => ?_) (fun c13 => ?_)
      · have h := it_t c13 h
        refine lv_aload_n hx hb dX8_read_60 rfl (lv_at hl 0 rfl) ?_
        refine va_get (D := E.1) (ci := 8) (v := .int (zi s10.2.2.2.2.2.2.2.2.2.2.2.1)) (C := RX8) (T := TX8) (N := 13) hx hb hts in_X8_read_X8 hown hK.1 hP 0 rfl rfl 11 (by decide) (hts _ wd_X8_read_f132) (fun _ h9 => h9) rfl dX8_read_61 ?_
        cases h
        exact iv_iret hx hb hr hlocks hK hP hD hS dX8_read_64
      · have h := it_f c13 h
        refine lv_aload_n hx hb dX8_read_49 rfl (lv_at hl 0 rfl) ?_
        refine lv_iload_n hx hb dX8_read_50 rfl (lv_at hl 1 rfl) ?_
        obtain ⟨u14, q15, h⟩ := bd_t h
        refine iv_callVf (As := [.int (zi v9)]) (rest := []) ⟨hx, hb, hml, hown, hts⟩ (k_X8_come l E a H.size N v9 s10 u14 q15) (cwV 1 hts gX8_read_X8_come rfl rfl rfl (by decide +kernel) ⟨Nat.le_of_ble_eq_true rfl, Nat.le_of_ble_eq_true rfl⟩) hK hP hD hS hA 0 8 rfl rfl rfl hl.1 (Nat.le_of_ble_eq_true rfl) ⟨Nat.zero_le _, Nat.zero_le _⟩ dX8_read_51 (fun H locs hP hD hS => ?_)
        refine lv_iinc (v := zi (v9 + 1)) (lv' := [(1, .int (zi (v9 + 1))), (0, .ref (a 0))]) hx hb dX8_read_54 hl (k := 1) rfl (by rw [zi_add]; rfl) (by decide) rfl (fun ls hl => ?_)
        refine lv_goto (tgt := 41) hx hb dX8_read_57 (by decide) ?_
        exact ih (v9 + 1) u14 _ _ _ h hP hD hS (lv_sub hl [1, 0] rfl)
  have h := hf
  rw [f_X8_read] at h
  refine lv_aload_n hx hb dX8_read_0 rfl (lv_at hl 0 rfl) ?_
  obtain ⟨u1, q2, h⟩ := bd_t h
  refine iv_callIf (As := []) (rest := []) ⟨hx, hb, hml, hown, hts⟩ (k_X8_areButtons l E a H.size N  z u1 q2) (cwV 0 hts gX8_read_X8_areButtons rfl rfl rfl (by decide +kernel) ⟨Nat.le_of_ble_eq_true rfl, Nat.le_of_ble_eq_true rfl⟩) hK hP hD hS hA 0 8 rfl rfl rfl hl.1 (Nat.le_of_ble_eq_true rfl) ⟨Nat.zero_le _, Nat.zero_le _⟩ dX8_read_1 (fun H locs hP hD hS => ?_)
  obtain ⟨g3, h⟩ := gd_t h
  refine iv_ne (tgt := 15) hx hb g3 dX8_read_4 (by decide) (fun c4 => ?_) (fun c4 => ?_)
  · have h := it_f c4 h
    refine lv_aload_n hx hb dX8_read_15 rfl (lv_at hl 0 rfl) ?_
    refine va_get (D := E.1) (ci := 8) (v := .ref (a 1)) (C := RX8) (T := TX8) (N := 13) hx hb hts in_X8_read_X8 hown hK.1 hP 0 rfl rfl 0 (by decide) (hts _ wd_X8_read_f7) (fun _ h9 => h9) rfl dX8_read_16 ?_
    refine iv_bipush hx hb dX8_read_19 (by decide +kernel) ?_
    refine iv_iald (f := u1.2.1) (j := 13) hx hb hK.1 hP 1 0 rfl rfl (by decide) (by decide +kernel) rfl dX8_read_21 ?_
    refine lv_aload_n hx hb dX8_read_22 rfl (lv_at hl 0 rfl) ?_
    refine va_get (D := E.1) (ci := 8) (v := .int (zi u1.2.2.2.2.2.2.2.2.2.2.2.2.1)) (C := RX8) (T := TX8) (N := 13) hx hb hts in_X8_read_X8 hown hK.1 hP 0 rfl rfl 11 (by decide) (hts _ wd_X8_read_f132) (fun _ h9 => h9) rfl dX8_read_23 ?_
    refine iv_iadd hx hb dX8_read_26 ?_
    refine iv_bipush hx hb dX8_read_27 (by decide +kernel) ?_
    obtain ⟨g5, h⟩ := gd_t h
    refine iv_ile (tgt := 35) hx hb g5 (by decide +kernel) dX8_read_29 (by decide) (fun c6 => ?_) (fun c6 => ?_)
    · have h := it_t c6 h
      refine lv_aload_n hx hb dX8_read_35 rfl (lv_at hl 0 rfl) ?_
      obtain ⟨u7, q8, h⟩ := bd_t h
      refine iv_callVf (As := []) (rest := []) ⟨hx, hb, hml, hown, hts⟩ (k_X8_record l E a H.size N  u1.2 u7 q8) (cwV 0 hts gX8_read_X8_record rfl rfl rfl (by decide +kernel) ⟨Nat.le_of_ble_eq_true rfl, Nat.le_of_ble_eq_true rfl⟩) hK hP hD hS hA 0 8 rfl rfl rfl hl.1 (Nat.le_of_ble_eq_true rfl) ⟨Nat.zero_le _, Nat.zero_le _⟩ dX8_read_36 (fun H locs hP hD hS => ?_)
      refine iv_iconst hx hb dX8_read_39 ?_
      refine lv_istore_n (lv' := [(1, .int (zi 0)), (0, .ref (a 0))]) hx hb dX8_read_40 rfl hl (by decide) rfl (fun ls hl => ?_)
      exact loop41 N 0 u7 _ _ _ h hP hD hS (lv_sub hl [1, 0] rfl)
    · have h := it_f c6 h
      refine iv_bipush hx hb dX8_read_32 (by decide +kernel) ?_
      cases h
      exact iv_iret hx hb hr hlocks hK hP hD hS dX8_read_34
  · have h := it_t c4 h
    refine iv_bipush hx hb dX8_read_7 (by decide +kernel) ?_
    refine lv_aload_n hx hb dX8_read_9 rfl (lv_at hl 0 rfl) ?_
    refine va_get (D := E.1) (ci := 8) (v := .int (zi u1.2.2.2.2.2.2.2.2.2.2.2.1)) (C := RX8) (T := TX8) (N := 13) hx hb hts in_X8_read_X8 hown hK.1 hP 0 rfl rfl 10 (by decide) (hts _ wd_X8_read_f123) (fun _ h9 => h9) rfl dX8_read_10 ?_
    refine iv_isub hx hb dX8_read_13 ?_
    cases h
    exact iv_iret hx hb hr hlocks hK hP hD hS dX8_read_14
set_option maxRecDepth 20000 in
theorem wd_X8_rankInHopper_f7 : Cond.fieldLink RX8 7 "ShirtButtonsModel" "row" "[I" ∈ wsX8_rankInHopper := by decide +kernel
set_option maxRecDepth 20000 in
theorem in_X8_rankInHopper_X8 : ∀ w ∈ u_ws RX8 TX8 13, w ∈ wsX8_rankInHopper := by decide +kernel
set_option maxHeartbeats 4000000 in
set_option maxRecDepth 100000 in
theorem k_X8_rankInHopper (l : Launch) (E : wE) (a : Nat → Nat) (sz : Nat) (N : Nat) (x1 : Int) (z : bM) (u : (Int × bM)) (hf : f_X8_rankInHopper N x1 z = some u) : cI l yX8_rankInHopper wsX8_rankInHopper { frames := 0, cells := 0, slots := 0, locals := 0 } E sz [.ref (a 0), .int (zi x1)] (wM a E z) (wM a E u.2) u.1 := by
  refine met_go (cc := cX8_rankInHopper) (maxL := 4) (ret := (some .int)) (Q0 := mQi E (wM a E u.2) u.1) (by decide +kernel) rfl (Nat.le_of_ble_eq_true rfl) ?_
  intro A p e s m below meth c hx hb hr hml hts hown hlocks hP hK hD hA hS ls hl
  have hl : lv_has ls 4 [(0, .ref (a 0)), (1, .int (zi x1))] := hl
  generalize hH : s.heap = H at hP
  have hS : va_S A s.heap H [] := by rw [← hH]; exact hS
  have hown : s.vm.findClass RX8 = some m.cls := hown
  have loop5 : ∀ (n : Nat) (v1 v2 v3 : Int) (s4 : bM) (H : Heap) (locs : List Loc) (ls : Array Slot), f_X8_rankInHopper_L5 N n v1 v2 v3 s4 = some u → va_P E.1 vwCl (wM a E s4) H → va_D A (wM a E s4) → va_S A s.heap H locs → lv_has ls 4 [(0, .ref (a 0)), (1, .int (zi v1)), (2, .int (zi v2)), (3, .int (zi v3))] → W p l e ({ frames := 0, cells := 0, slots := 0, locals := 0 }) s m ([.ref (a 0), .int (zi x1)] : List Value).toArray below meth c H locs 0 0 (MQ below (mQi E (wM a E u.2) u.1 A) ([.ref (a 0), .int (zi x1)] : List Value).toArray s 0 0 A) (F0 m 5 ls []) := by
    intro n
    induction n with
    | zero =>
      intro v1 v2 v3 s4 H locs ls h
      exact absurd (show (none : Option (Int × bM)) = some u from h) (by simp)
    | succ n ih =>
      intro v1 v2 v3 s4 H locs ls h hP hD hS hl
      rw [f_X8_rankInHopper_L5] at h
      refine lv_iload_n hx hb dX8_rankInHopper_5 rfl (lv_at hl 3 rfl) ?_
      refine lv_aload_n hx hb dX8_rankInHopper_6 rfl (lv_at hl 0 rfl) ?_
      refine va_get (D := E.1) (ci := 8) (v := .ref (a 1)) (C := RX8) (T := TX8) (N := 13) hx hb hts in_X8_rankInHopper_X8 hown hK.1 hP 0 rfl rfl 0 (by decide) (hts _ wd_X8_rankInHopper_f7) (fun _ h9 => h9) rfl dX8_rankInHopper_7 ?_
      refine iv_bipush hx hb dX8_rankInHopper_10 (by decide +kernel) ?_
      refine iv_iald (f := s4.1) (j := 14) hx hb hK.1 hP 1 0 rfl rfl (by decide) (by decide +kernel) rfl dX8_rankInHopper_12 ?_
      obtain ⟨g5, h⟩ := gd_t h
      obtain ⟨g6, h⟩ := gd_t h
      refine iv_ige (tgt := 41) hx hb g5 g6 dX8_rankInHopper_13 (by decide) (fun c7 => ?_) (fun c7 => ?_)
      · have h := it_t c7 h
        refine lv_iload_n hx hb dX8_rankInHopper_41 rfl (lv_at hl 2 rfl) ?_
        cases h
        exact iv_iret hx hb hr hlocks hK hP hD hS dX8_rankInHopper_42
      · have h := it_f c7 h
        refine lv_aload_n hx hb dX8_rankInHopper_16 rfl (lv_at hl 0 rfl) ?_
        refine va_get (D := E.1) (ci := 8) (v := .ref (a 1)) (C := RX8) (T := TX8) (N := 13) hx hb hts in_X8_rankInHopper_X8 hown hK.1 hP 0 rfl rfl 0 (by decide) (hts _ wd_X8_rankInHopper_f7) (fun _ h9 => h9) rfl dX8_rankInHopper_17 ?_
        refine iv_bipush hx hb dX8_rankInHopper_20 (by decide +kernel) ?_
        refine lv_iload_n hx hb dX8_rankInHopper_22 rfl (lv_at hl 3 rfl) ?_
        refine iv_iadd hx hb dX8_rankInHopper_23 ?_
        obtain ⟨g8, h⟩ := gd_t h
        refine iv_iald (f := s4.1) (j := (15 + v3).toNat) hx hb hK.1 hP 1 0 rfl rfl (by decide) g8 rfl dX8_rankInHopper_24 ?_
        refine lv_iload_n hx hb dX8_rankInHopper_25 rfl (lv_at hl 1 rfl) ?_
        obtain ⟨g9, h⟩ := gd_t h
        obtain ⟨g10, h⟩ := gd_t h
        refine iv_ine (tgt := 33) hx hb g9 g10 dX8_rankInHopper_26 (by decide) (fun c11 => ?_) (fun c11 => ?_)
        · have h := it_f c11 h
          refine lv_iload_n hx hb dX8_rankInHopper_33 rfl (lv_at hl 2 rfl) ?_
          refine lv_istore_n (lv' := [(2, .int (zi v2)), (0, .ref (a 0)), (1, .int (zi v1)), (3, .int (zi v3))]) hx hb dX8_rankInHopper_34 rfl hl (by decide) rfl (fun ls hl => ?_)
          refine lv_iinc (v := zi (v3 + 1)) (lv' := [(3, .int (zi (v3 + 1))), (2, .int (zi v2)), (0, .ref (a 0)), (1, .int (zi v1))]) hx hb dX8_rankInHopper_35 hl (k := 3) rfl (by rw [zi_add]; rfl) (by decide) rfl (fun ls hl => ?_)
          refine lv_goto (tgt := 5) hx hb dX8_rankInHopper_38 (by decide) ?_
          exact ih v1 v2 (v3 + 1) s4 _ _ _ h hP hD hS (lv_sub hl [2, 3, 1, 0] rfl)
        · have h := it_t c11 h
          refine lv_iload_n hx hb dX8_rankInHopper_29 rfl (lv_at hl 3 rfl) ?_
          refine lv_goto (tgt := 34) hx hb dX8_rankInHopper_30 (by decide) ?_
          refine lv_istore_n (lv' := [(2, .int (zi v3)), (0, .ref (a 0)), (1, .int (zi v1)), (3, .int (zi v3))]) hx hb dX8_rankInHopper_34 rfl hl (by decide) rfl (fun ls hl => ?_)
          refine lv_iinc (v := zi (v3 + 1)) (lv' := [(3, .int (zi (v3 + 1))), (2, .int (zi v3)), (0, .ref (a 0)), (1, .int (zi v1))]) hx hb dX8_rankInHopper_35 hl (k := 3) rfl (by rw [zi_add]; rfl) (by decide) rfl (fun ls hl => ?_)
          refine lv_goto (tgt := 5) hx hb dX8_rankInHopper_38 (by decide) ?_
          exact ih v1 v3 (v3 + 1) s4 _ _ _ h hP hD hS (lv_sub hl [2, 3, 1, 0] rfl)
  have h := hf
  rw [f_X8_rankInHopper] at h
  refine iv_bipush hx hb dX8_rankInHopper_0 (by decide +kernel) ?_
  refine lv_istore_n (lv' := [(2, .int (zi (-5))), (0, .ref (a 0)), (1, .int (zi x1))]) hx hb dX8_rankInHopper_2 rfl hl (by decide) rfl (fun ls hl => ?_)
  refine iv_iconst hx hb dX8_rankInHopper_3 ?_
  refine lv_istore_n (lv' := [(3, .int (zi 0)), (2, .int (zi (-5))), (0, .ref (a 0)), (1, .int (zi x1))]) hx hb dX8_rankInHopper_4 rfl hl (by decide) rfl (fun ls hl => ?_)
  exact loop5 N x1 (-5) 0 z _ _ _ h hP hD hS (lv_sub hl [2, 3, 1, 0] rfl)
set_option maxHeartbeats 4000000 in
set_option maxRecDepth 100000 in
theorem k_X8_button (l : Launch) (E : wE) (a : Nat → Nat) (sz : Nat) (N : Nat) (x1 x2 : Int) (z : bM) (u : (Int × bM)) (hf : f_X8_button N x1 x2 z = some u) : cI l yX8_button wsX8_button { frames := 2, cells := 0, slots := 0, locals := 43 } E sz [.ref (a 0), .int (zi x1), .int (zi x2)] (wM a E z) (wM a E u.2) u.1 := by
  refine met_go (cc := cX8_button) (maxL := 3) (ret := (some .int)) (Q0 := mQi E (wM a E u.2) u.1) (by decide +kernel) rfl (Nat.le_of_ble_eq_true rfl) ?_
  intro A p e s m below meth c hx hb hr hml hts hown hlocks hP hK hD hA hS ls hl
  have hl : lv_has ls 3 [(0, .ref (a 0)), (1, .int (zi x1)), (2, .int (zi x2))] := hl
  generalize hH : s.heap = H at hP
  have hS : va_S A s.heap H [] := by rw [← hH]; exact hS
  have hown : s.vm.findClass RX8 = some m.cls := hown
  have h := hf
  rw [f_X8_button] at h
  refine lv_aload_n hx hb dX8_button_0 rfl (lv_at hl 0 rfl) ?_
  refine lv_iload_n hx hb dX8_button_1 rfl (lv_at hl 1 rfl) ?_
  obtain ⟨u1, q2, h⟩ := bd_t h
  refine iv_callIf (As := [.int (zi x1)]) (rest := []) ⟨hx, hb, hml, hown, hts⟩ (k_X8_isButton l E a H.size x1 z u1 q2) (cwV 1 hts gX8_button_X8_isButton rfl rfl rfl (by decide +kernel) ⟨Nat.le_of_ble_eq_true rfl, Nat.le_of_ble_eq_true rfl⟩) hK hP hD hS hA 0 8 rfl rfl rfl hl.1 (Nat.le_of_ble_eq_true rfl) ⟨Nat.zero_le _, Nat.zero_le _⟩ dX8_button_2 (fun H locs hP hD hS => ?_)
  obtain ⟨g3, h⟩ := gd_t h
  refine iv_ne (tgt := 10) hx hb g3 dX8_button_5 (by decide) (fun c4 => ?_) (fun c4 => ?_)
  · have h := it_f c4 h
    refine lv_iload_n hx hb dX8_button_10 rfl (lv_at hl 2 rfl) ?_
    obtain ⟨g5, h⟩ := gd_t h
    by_cases c6 : x2 = 0
    · have h := it_t c6 h
      refine iv_tabIn (tgt := 64) (off := 53) hx hb dX8_button_11 g5 c6 (by decide) (by decide) rfl (by decide) ?_
      refine lv_aload_n hx hb dX8_button_64 rfl (lv_at hl 0 rfl) ?_
      refine lv_iload_n hx hb dX8_button_65 rfl (lv_at hl 1 rfl) ?_
      refine lv_iload_n hx hb dX8_button_66 rfl (lv_at hl 2 rfl) ?_
      obtain ⟨u7, q8, h⟩ := bd_t h
      refine iv_callIf (As := [.int (zi x1), .int (zi x2)]) (rest := []) ⟨hx, hb, hml, hown, hts⟩ (k_X8_of l E a H.size x1 x2 u1.2 u7 q8) (cwV 2 hts gX8_button_X8_of rfl rfl rfl (by decide +kernel) ⟨Nat.le_of_ble_eq_true rfl, Nat.le_of_ble_eq_true rfl⟩) hK hP hD hS hA 0 8 rfl rfl rfl hl.1 (Nat.le_of_ble_eq_true rfl) ⟨Nat.zero_le _, Nat.zero_le _⟩ dX8_button_67 (fun H locs hP hD hS => ?_)
      cases h
      exact iv_iret hx hb hr hlocks hK hP hD hS dX8_button_70
    have h := it_f c6 h
    by_cases c9 : x2 = 1
    · have h := it_t c9 h
      refine iv_tabIn (tgt := 64) (off := 53) hx hb dX8_button_11 g5 c9 (by decide) (by decide) rfl (by decide) ?_
      refine lv_aload_n hx hb dX8_button_64 rfl (lv_at hl 0 rfl) ?_
      refine lv_iload_n hx hb dX8_button_65 rfl (lv_at hl 1 rfl) ?_
      refine lv_iload_n hx hb dX8_button_66 rfl (lv_at hl 2 rfl) ?_
      obtain ⟨u10, q11, h⟩ := bd_t h
      refine iv_callIf (As := [.int (zi x1), .int (zi x2)]) (rest := []) ⟨hx, hb, hml, hown, hts⟩ (k_X8_of l E a H.size x1 x2 u1.2 u10 q11) (cwV 2 hts gX8_button_X8_of rfl rfl rfl (by decide +kernel) ⟨Nat.le_of_ble_eq_true rfl, Nat.le_of_ble_eq_true rfl⟩) hK hP hD hS hA 0 8 rfl rfl rfl hl.1 (Nat.le_of_ble_eq_true rfl) ⟨Nat.zero_le _, Nat.zero_le _⟩ dX8_button_67 (fun H locs hP hD hS => ?_)
      cases h
      exact iv_iret hx hb hr hlocks hK hP hD hS dX8_button_70
    have h := it_f c9 h
    by_cases c12 : x2 = 2
    · have h := it_t c12 h
      refine iv_tabIn (tgt := 64) (off := 53) hx hb dX8_button_11 g5 c12 (by decide) (by decide) rfl (by decide) ?_
      refine lv_aload_n hx hb dX8_button_64 rfl (lv_at hl 0 rfl) ?_
      refine lv_iload_n hx hb dX8_button_65 rfl (lv_at hl 1 rfl) ?_
      refine lv_iload_n hx hb dX8_button_66 rfl (lv_at hl 2 rfl) ?_
      obtain ⟨u13, q14, h⟩ := bd_t h
      refine iv_callIf (As := [.int (zi x1), .int (zi x2)]) (rest := []) ⟨hx, hb, hml, hown, hts⟩ (k_X8_of l E a H.size x1 x2 u1.2 u13 q14) (cwV 2 hts gX8_button_X8_of rfl rfl rfl (by decide +kernel) ⟨Nat.le_of_ble_eq_true rfl, Nat.le_of_ble_eq_true rfl⟩) hK hP hD hS hA 0 8 rfl rfl rfl hl.1 (Nat.le_of_ble_eq_true rfl) ⟨Nat.zero_le _, Nat.zero_le _⟩ dX8_button_67 (fun H locs hP hD hS => ?_)
      cases h
      exact iv_iret hx hb hr hlocks hK hP hD hS dX8_button_70
    have h := it_f c12 h
    by_cases c15 : x2 = 3
    · have h := it_t c15 h
      refine iv_tabIn (tgt := 64) (off := 53) hx hb dX8_button_11 g5 c15 (by decide) (by decide) rfl (by decide) ?_
      refine lv_aload_n hx hb dX8_button_64 rfl (lv_at hl 0 rfl) ?_
      refine lv_iload_n hx hb dX8_button_65 rfl (lv_at hl 1 rfl) ?_
      refine lv_iload_n hx hb dX8_button_66 rfl (lv_at hl 2 rfl) ?_
      obtain ⟨u16, q17, h⟩ := bd_t h
      refine iv_callIf (As := [.int (zi x1), .int (zi x2)]) (rest := []) ⟨hx, hb, hml, hown, hts⟩ (k_X8_of l E a H.size x1 x2 u1.2 u16 q17) (cwV 2 hts gX8_button_X8_of rfl rfl rfl (by decide +kernel) ⟨Nat.le_of_ble_eq_true rfl, Nat.le_of_ble_eq_true rfl⟩) hK hP hD hS hA 0 8 rfl rfl rfl hl.1 (Nat.le_of_ble_eq_true rfl) ⟨Nat.zero_le _, Nat.zero_le _⟩ dX8_button_67 (fun H locs hP hD hS => ?_)
      cases h
      exact iv_iret hx hb hr hlocks hK hP hD hS dX8_button_70
    have h := it_f c15 h
    by_cases c18 : x2 = 4
    · have h := it_t c18 h
      refine iv_tabIn (tgt := 64) (off := 53) hx hb dX8_button_11 g5 c18 (by decide) (by decide) rfl (by decide) ?_
      refine lv_aload_n hx hb dX8_button_64 rfl (lv_at hl 0 rfl) ?_
      refine lv_iload_n hx hb dX8_button_65 rfl (lv_at hl 1 rfl) ?_
      refine lv_iload_n hx hb dX8_button_66 rfl (lv_at hl 2 rfl) ?_
      obtain ⟨u19, q20, h⟩ := bd_t h
      refine iv_callIf (As := [.int (zi x1), .int (zi x2)]) (rest := []) ⟨hx, hb, hml, hown, hts⟩ (k_X8_of l E a H.size x1 x2 u1.2 u19 q20) (cwV 2 hts gX8_button_X8_of rfl rfl rfl (by decide +kernel) ⟨Nat.le_of_ble_eq_true rfl, Nat.le_of_ble_eq_true rfl⟩) hK hP hD hS hA 0 8 rfl rfl rfl hl.1 (Nat.le_of_ble_eq_true rfl) ⟨Nat.zero_le _, Nat.zero_le _⟩ dX8_button_67 (fun H locs hP hD hS => ?_)
      cases h
      exact iv_iret hx hb hr hlocks hK hP hD hS dX8_button_70
    have h := it_f c18 h
    by_cases c21 : x2 = 5
    · have h := it_t c21 h
      refine iv_tabIn (tgt := 64) (off := 53) hx hb dX8_button_11 g5 c21 (by decide) (by decide) rfl (by decide) ?_
      refine lv_aload_n hx hb dX8_button_64 rfl (lv_at hl 0 rfl) ?_
      refine lv_iload_n hx hb dX8_button_65 rfl (lv_at hl 1 rfl) ?_
      refine lv_iload_n hx hb dX8_button_66 rfl (lv_at hl 2 rfl) ?_
      obtain ⟨u22, q23, h⟩ := bd_t h
      refine iv_callIf (As := [.int (zi x1), .int (zi x2)]) (rest := []) ⟨hx, hb, hml, hown, hts⟩ (k_X8_of l E a H.size x1 x2 u1.2 u22 q23) (cwV 2 hts gX8_button_X8_of rfl rfl rfl (by decide +kernel) ⟨Nat.le_of_ble_eq_true rfl, Nat.le_of_ble_eq_true rfl⟩) hK hP hD hS hA 0 8 rfl rfl rfl hl.1 (Nat.le_of_ble_eq_true rfl) ⟨Nat.zero_le _, Nat.zero_le _⟩ dX8_button_67 (fun H locs hP hD hS => ?_)
      cases h
      exact iv_iret hx hb hr hlocks hK hP hD hS dX8_button_70
    have h := it_f c21 h
    by_cases c24 : x2 = 6
    · have h := it_t c24 h
      refine iv_tabIn (tgt := 64) (off := 53) hx hb dX8_button_11 g5 c24 (by decide) (by decide) rfl (by decide) ?_
      refine lv_aload_n hx hb dX8_button_64 rfl (lv_at hl 0 rfl) ?_
      refine lv_iload_n hx hb dX8_button_65 rfl (lv_at hl 1 rfl) ?_
      refine lv_iload_n hx hb dX8_button_66 rfl (lv_at hl 2 rfl) ?_
      obtain ⟨u25, q26, h⟩ := bd_t h
      refine iv_callIf (As := [.int (zi x1), .int (zi x2)]) (rest := []) ⟨hx, hb, hml, hown, hts⟩ (k_X8_of l E a H.size x1 x2 u1.2 u25 q26) (cwV 2 hts gX8_button_X8_of rfl rfl rfl (by decide +kernel) ⟨Nat.le_of_ble_eq_true rfl, Nat.le_of_ble_eq_true rfl⟩) hK hP hD hS hA 0 8 rfl rfl rfl hl.1 (Nat.le_of_ble_eq_true rfl) ⟨Nat.zero_le _, Nat.zero_le _⟩ dX8_button_67 (fun H locs hP hD hS => ?_)
      cases h
      exact iv_iret hx hb hr hlocks hK hP hD hS dX8_button_70
    have h := it_f c24 h
    by_cases c27 : x2 = 7
    · have h := it_t c27 h
      refine iv_tabIn (tgt := 71) (off := 60) hx hb dX8_button_11 g5 c27 (by decide) (by decide) rfl (by decide) ?_
      refine lv_aload_n hx hb dX8_button_71 rfl (lv_at hl 0 rfl) ?_
      refine lv_iload_n hx hb dX8_button_72 rfl (lv_at hl 1 rfl) ?_
      obtain ⟨u28, q29, h⟩ := bd_t h
      refine iv_callIf (As := [.int (zi x1)]) (rest := []) ⟨hx, hb, hml, hown, hts⟩ (k_X8_rankInHopper l E a H.size N x1 u1.2 u28 q29) (cwV 1 hts gX8_button_X8_rankInHopper rfl rfl rfl (by decide +kernel) ⟨Nat.le_of_ble_eq_true rfl, Nat.le_of_ble_eq_true rfl⟩) hK hP hD hS hA 0 8 rfl rfl rfl hl.1 (Nat.le_of_ble_eq_true rfl) ⟨Nat.zero_le _, Nat.zero_le _⟩ dX8_button_73 (fun H locs hP hD hS => ?_)
      cases h
      exact iv_iret hx hb hr hlocks hK hP hD hS dX8_button_76
    have h := it_f c27 h
    by_cases c30 : x2 = 8
    · have h := it_t c30 h
      refine iv_tabIn (tgt := 77) (off := 66) hx hb dX8_button_11 g5 c30 (by decide) (by decide) rfl (by decide) ?_
      refine lv_aload_n hx hb dX8_button_77 rfl (lv_at hl 0 rfl) ?_
      refine lv_iload_n hx hb dX8_button_78 rfl (lv_at hl 1 rfl) ?_
      refine iv_bipush hx hb dX8_button_79 (by decide +kernel) ?_
      obtain ⟨u31, q32, h⟩ := bd_t h
      refine iv_callIf (As := [.int (zi x1), .int (zi 7)]) (rest := []) ⟨hx, hb, hml, hown, hts⟩ (k_X8_of l E a H.size x1 7 u1.2 u31 q32) (cwV 2 hts gX8_button_X8_of rfl rfl rfl (by decide +kernel) ⟨Nat.le_of_ble_eq_true rfl, Nat.le_of_ble_eq_true rfl⟩) hK hP hD hS hA 0 8 rfl rfl rfl hl.1 (Nat.le_of_ble_eq_true rfl) ⟨Nat.zero_le _, Nat.zero_le _⟩ dX8_button_81 (fun H locs hP hD hS => ?_)
      cases h
      exact iv_iret hx hb hr hlocks hK hP hD hS dX8_button_84
    have h := it_f c30 h
    by_cases c33 : x2 = 9
    · have h := it_t c33 h
      refine iv_tabIn (tgt := 85) (off := 74) hx hb dX8_button_11 g5 c33 (by decide) (by decide) rfl (by decide) ?_
      refine lv_aload_n hx hb dX8_button_85 rfl (lv_at hl 0 rfl) ?_
      refine lv_iload_n hx hb dX8_button_86 rfl (lv_at hl 1 rfl) ?_
      refine iv_bipush hx hb dX8_button_87 (by decide +kernel) ?_
      obtain ⟨u34, q35, h⟩ := bd_t h
      refine iv_callIf (As := [.int (zi x1), .int (zi 8)]) (rest := []) ⟨hx, hb, hml, hown, hts⟩ (k_X8_of l E a H.size x1 8 u1.2 u34 q35) (cwV 2 hts gX8_button_X8_of rfl rfl rfl (by decide +kernel) ⟨Nat.le_of_ble_eq_true rfl, Nat.le_of_ble_eq_true rfl⟩) hK hP hD hS hA 0 8 rfl rfl rfl hl.1 (Nat.le_of_ble_eq_true rfl) ⟨Nat.zero_le _, Nat.zero_le _⟩ dX8_button_89 (fun H locs hP hD hS => ?_)
      cases h
      exact iv_iret hx hb hr hlocks hK hP hD hS dX8_button_92
    have h := it_f c33 h
    refine iv_tabOut (tgt := 93) hx hb dX8_button_11 g5 (by omega) (by decide) ?_
    refine iv_bipush hx hb dX8_button_93 (by decide +kernel) ?_
    cases h
    exact iv_iret hx hb hr hlocks hK hP hD hS dX8_button_95
  · have h := it_t c4 h
    refine iv_iconst hx hb dX8_button_8 ?_
    cases h
    exact iv_iret hx hb hr hlocks hK hP hD hS dX8_button_9
set_option maxRecDepth 20000 in
theorem wd_X8_inBin_f93 : Cond.fieldLink RX8 93 "ShirtButtonsModel" "lineMany" "I" ∈ wsX8_inBin := by decide +kernel
set_option maxRecDepth 20000 in
theorem in_X8_inBin_X8 : ∀ w ∈ u_ws RX8 TX8 13, w ∈ wsX8_inBin := by decide +kernel
set_option maxRecDepth 20000 in
theorem wd_X8_inBin_f22 : Cond.fieldLink RX8 22 "ShirtButtonsModel" "line" "[I" ∈ wsX8_inBin := by decide +kernel
set_option maxHeartbeats 4000000 in
set_option maxRecDepth 100000 in
theorem k_X8_inBin (l : Launch) (E : wE) (a : Nat → Nat) (sz : Nat) (N : Nat) (x1 x2 : Int) (z : bM) (u : (Int × bM)) (hf : f_X8_inBin N x1 x2 z = some u) : cI l yX8_inBin wsX8_inBin { frames := 3, cells := 0, slots := 0, locals := 67 } E sz [.ref (a 0), .int (zi x1), .int (zi x2)] (wM a E z) (wM a E u.2) u.1 := by
  refine met_go (cc := cX8_inBin) (maxL := 3) (ret := (some .int)) (Q0 := mQi E (wM a E u.2) u.1) (by decide +kernel) rfl (Nat.le_of_ble_eq_true rfl) ?_
  intro A p e s m below meth c hx hb hr hml hts hown hlocks hP hK hD hA hS ls hl
  have hl : lv_has ls 3 [(0, .ref (a 0)), (1, .int (zi x1)), (2, .int (zi x2))] := hl
  generalize hH : s.heap = H at hP
  have hS : va_S A s.heap H [] := by rw [← hH]; exact hS
  have hown : s.vm.findClass RX8 = some m.cls := hown
  have h := hf
  rw [f_X8_inBin] at h
  refine lv_iload_n hx hb dX8_inBin_0 rfl (lv_at hl 1 rfl) ?_
  obtain ⟨u1, q2, h⟩ := bd_t h
  refine iv_callS (As := [.int (zi x1)]) (rest := []) ⟨hx, hb, hml, hown, hts⟩ (k_X8_isBin l E H.size x1 u1 q2) (va_cwS 1 hts gX8_inBin_X8_isBin rfl rfl rfl (by decide +kernel) ⟨Nat.le_of_ble_eq_true rfl, Nat.le_of_ble_eq_true rfl⟩) hK hP hS hA rfl hl.1 (Nat.le_of_ble_eq_true rfl) ⟨Nat.zero_le _, Nat.zero_le _⟩ dX8_inBin_1 (fun H locs hP hS => ?_)
  obtain ⟨g3, h⟩ := gd_t h
  refine iv_ne (tgt := 9) hx hb g3 dX8_inBin_4 (by decide) (fun c4 => ?_) (fun c4 => ?_)
  · have h := it_f c4 h
    refine lv_iload_n hx hb dX8_inBin_9 rfl (lv_at hl 2 rfl) ?_
    obtain ⟨g5, h⟩ := gd_t h
    refine iv_ge (tgt := 16) hx hb g5 dX8_inBin_10 (by decide) (fun c6 => ?_) (fun c6 => ?_)
    · have h := it_t c6 h
      refine lv_aload_n hx hb dX8_inBin_16 rfl (lv_at hl 0 rfl) ?_
      refine lv_iload_n hx hb dX8_inBin_17 rfl (lv_at hl 1 rfl) ?_
      obtain ⟨u7, q8, h⟩ := bd_t h
      refine iv_callVf (As := [.int (zi x1)]) (rest := []) ⟨hx, hb, hml, hown, hts⟩ (k_X8_order l E a H.size N x1 z u7 q8) (cwV 1 hts gX8_inBin_X8_order rfl rfl rfl (by decide +kernel) ⟨Nat.le_of_ble_eq_true rfl, Nat.le_of_ble_eq_true rfl⟩) hK hP hD hS hA 0 8 rfl rfl rfl hl.1 (Nat.le_of_ble_eq_true rfl) ⟨Nat.zero_le _, Nat.zero_le _⟩ dX8_inBin_18 (fun H locs hP hD hS => ?_)
      refine lv_iload_n hx hb dX8_inBin_21 rfl (lv_at hl 2 rfl) ?_
      refine lv_aload_n hx hb dX8_inBin_22 rfl (lv_at hl 0 rfl) ?_
      refine va_get (D := E.1) (ci := 8) (v := .int (zi u7.2.2.2.2.2.2.2.1)) (C := RX8) (T := TX8) (N := 13) hx hb hts in_X8_inBin_X8 hown hK.1 hP 0 rfl rfl 7 (by decide) (hts _ wd_X8_inBin_f93) (fun _ h9 => h9) rfl dX8_inBin_23 ?_
      obtain ⟨g9, h⟩ := gd_t h
      refine iv_ige (tgt := 38) hx hb g5 g9 dX8_inBin_26 (by decide) (fun c10 => ?_) (fun c10 => ?_)
      · have h := it_t c10 h
        refine iv_bipush hx hb dX8_inBin_38 (by decide +kernel) ?_
        cases h
        exact iv_iret hx hb hr hlocks hK hP hD hS dX8_inBin_40
      · have h := it_f c10 h
        refine lv_aload_n hx hb dX8_inBin_29 rfl (lv_at hl 0 rfl) ?_
        refine va_get (D := E.1) (ci := 8) (v := .ref (a 5)) (C := RX8) (T := TX8) (N := 13) hx hb hts in_X8_inBin_X8 hown hK.1 hP 0 rfl rfl 6 (by decide) (hts _ wd_X8_inBin_f22) (fun _ h9 => h9) rfl dX8_inBin_30 ?_
        refine lv_iload_n hx hb dX8_inBin_33 rfl (lv_at hl 2 rfl) ?_
        obtain ⟨g11, h⟩ := gd_t h
        refine iv_iald (f := u7.2.2.2.2.2.2.1) (j := x2.toNat) hx hb hK.1 hP 5 0 rfl rfl (by decide) g11 rfl dX8_inBin_34 ?_
        refine lv_goto (tgt := 40) hx hb dX8_inBin_35 (by decide) ?_
        cases h
        exact iv_iret hx hb hr hlocks hK hP hD hS dX8_inBin_40
    · have h := it_f c6 h
      refine iv_bipush hx hb dX8_inBin_13 (by decide +kernel) ?_
      cases h
      exact iv_iret hx hb hr hlocks hK hP hD hS dX8_inBin_15
  · have h := it_t c4 h
    refine iv_iconst hx hb dX8_inBin_7 ?_
    cases h
    exact iv_iret hx hb hr hlocks hK hP hD hS dX8_inBin_8
set_option maxRecDepth 20000 in
theorem wd_X8_sumOf_f93 : Cond.fieldLink RX8 93 "ShirtButtonsModel" "lineMany" "I" ∈ wsX8_sumOf := by decide +kernel
set_option maxRecDepth 20000 in
theorem in_X8_sumOf_X8 : ∀ w ∈ u_ws RX8 TX8 13, w ∈ wsX8_sumOf := by decide +kernel
set_option maxRecDepth 20000 in
theorem wd_X8_sumOf_f22 : Cond.fieldLink RX8 22 "ShirtButtonsModel" "line" "[I" ∈ wsX8_sumOf := by decide +kernel
set_option maxHeartbeats 4000000 in
set_option maxRecDepth 100000 in
theorem k_X8_sumOf (l : Launch) (E : wE) (a : Nat → Nat) (sz : Nat) (N : Nat) (x1 : Int) (z : bM) (u : (Int × bM)) (hf : f_X8_sumOf N x1 z = some u) : cI l yX8_sumOf wsX8_sumOf { frames := 3, cells := 0, slots := 0, locals := 67 } E sz [.ref (a 0), .int (zi x1)] (wM a E z) (wM a E u.2) u.1 := by
  refine met_go (cc := cX8_sumOf) (maxL := 4) (ret := (some .int)) (Q0 := mQi E (wM a E u.2) u.1) (by decide +kernel) rfl (Nat.le_of_ble_eq_true rfl) ?_
  intro A p e s m below meth c hx hb hr hml hts hown hlocks hP hK hD hA hS ls hl
  have hl : lv_has ls 4 [(0, .ref (a 0)), (1, .int (zi x1))] := hl
  generalize hH : s.heap = H at hP
  have hS : va_S A s.heap H [] := by rw [← hH]; exact hS
  have hown : s.vm.findClass RX8 = some m.cls := hown
  have loop9 : ∀ (n : Nat) (v3 v4 v5 : Int) (s6 : bM) (H : Heap) (locs : List Loc) (ls : Array Slot), f_X8_sumOf_L9 N n v3 v4 v5 s6 = some u → va_P E.1 vwCl (wM a E s6) H → va_D A (wM a E s6) → va_S A s.heap H locs → lv_has ls 4 [(0, .ref (a 0)), (1, .int (zi v3)), (2, .int (zi v4)), (3, .int (zi v5))] → W p l e ({ frames := 3, cells := 0, slots := 0, locals := 67 }) s m ([.ref (a 0), .int (zi x1)] : List Value).toArray below meth c H locs 0 0 (MQ below (mQi E (wM a E u.2) u.1 A) ([.ref (a 0), .int (zi x1)] : List Value).toArray s 0 0 A) (F0 m 9 ls []) := by
    intro n
    induction n with
    | zero =>
      intro v3 v4 v5 s6 H locs ls h
      exact absurd (show (none : Option (Int × bM)) = some u from h) (by simp)
    | succ n ih =>
      intro v3 v4 v5 s6 H locs ls h hP hD hS hl
      rw [f_X8_sumOf_L9] at h
      refine lv_iload_n hx hb dX8_sumOf_9 rfl (lv_at hl 3 rfl) ?_
      refine lv_aload_n hx hb dX8_sumOf_10 rfl (lv_at hl 0 rfl) ?_
      refine va_get (D := E.1) (ci := 8) (v := .int (zi s6.2.2.2.2.2.2.2.1)) (C := RX8) (T := TX8) (N := 13) hx hb hts in_X8_sumOf_X8 hown hK.1 hP 0 rfl rfl 7 (by decide) (hts _ wd_X8_sumOf_f93) (fun _ h9 => h9) rfl dX8_sumOf_11 ?_
      obtain ⟨g7, h⟩ := gd_t h
      obtain ⟨g8, h⟩ := gd_t h
      refine iv_ige (tgt := 37) hx hb g7 g8 dX8_sumOf_14 (by decide) (fun c9 => ?_) (fun c9 => ?_)
      · have h := it_t c9 h
        refine lv_iload_n hx hb dX8_sumOf_37 rfl (lv_at hl 2 rfl) ?_
        cases h
        exact iv_iret hx hb hr hlocks hK hP hD hS dX8_sumOf_38
      · have h := it_f c9 h
        refine lv_iload_n hx hb dX8_sumOf_17 rfl (lv_at hl 2 rfl) ?_
        refine lv_aload_n hx hb dX8_sumOf_18 rfl (lv_at hl 0 rfl) ?_
        refine lv_aload_n hx hb dX8_sumOf_19 rfl (lv_at hl 0 rfl) ?_
        refine va_get (D := E.1) (ci := 8) (v := .ref (a 5)) (C := RX8) (T := TX8) (N := 13) hx hb hts in_X8_sumOf_X8 hown hK.1 hP 0 rfl rfl 6 (by decide) (hts _ wd_X8_sumOf_f22) (fun _ h9 => h9) rfl dX8_sumOf_20 ?_
        refine lv_iload_n hx hb dX8_sumOf_23 rfl (lv_at hl 3 rfl) ?_
        obtain ⟨g10, h⟩ := gd_t h
        refine iv_iald (f := s6.2.2.2.2.2.2.1) (j := v5.toNat) hx hb hK.1 hP 5 0 rfl rfl (by decide) g10 rfl dX8_sumOf_24 ?_
        refine iv_iconst hx hb dX8_sumOf_25 ?_
        obtain ⟨u11, q12, h⟩ := bd_t h
        refine iv_callIf (As := [.int (zi (s6.2.2.2.2.2.2.1 v5.toNat)), .int (zi 4)]) (rest := [.int (zi v4)]) ⟨hx, hb, hml, hown, hts⟩ (k_X8_of l E a H.size (s6.2.2.2.2.2.2.1 v5.toNat) 4 s6 u11 q12) (cwV 2 hts gX8_sumOf_X8_of rfl rfl rfl (by decide +kernel) ⟨Nat.le_of_ble_eq_true rfl, Nat.le_of_ble_eq_true rfl⟩) hK hP hD hS hA 0 8 rfl rfl rfl hl.1 (Nat.le_of_ble_eq_true rfl) ⟨Nat.zero_le _, Nat.zero_le _⟩ dX8_sumOf_26 (fun H locs hP hD hS => ?_)
        refine iv_iadd hx hb dX8_sumOf_29 ?_
        obtain ⟨v13, e14, h⟩ := nm_t h
        refine iv_nm e14 ?_
        refine lv_istore_n (lv' := [(2, .int (zi v13)), (0, .ref (a 0)), (1, .int (zi v3)), (3, .int (zi v5))]) hx hb dX8_sumOf_30 rfl hl (by decide) rfl (fun ls hl => ?_)
        refine lv_iinc (v := zi (v5 + 1)) (lv' := [(3, .int (zi (v5 + 1))), (2, .int (zi v13)), (0, .ref (a 0)), (1, .int (zi v3))]) hx hb dX8_sumOf_31 hl (k := 3) rfl (by rw [zi_add]; rfl) (by decide) rfl (fun ls hl => ?_)
        refine lv_goto (tgt := 9) hx hb dX8_sumOf_34 (by decide) ?_
        exact ih v3 v13 (v5 + 1) u11.2 _ _ _ h hP hD hS (lv_sub hl [2, 3, 1, 0] rfl)
  have h := hf
  rw [f_X8_sumOf] at h
  refine iv_iconst hx hb dX8_sumOf_0 ?_
  refine lv_istore_n (lv' := [(2, .int (zi 0)), (0, .ref (a 0)), (1, .int (zi x1))]) hx hb dX8_sumOf_1 rfl hl (by decide) rfl (fun ls hl => ?_)
  refine lv_aload_n hx hb dX8_sumOf_2 rfl (lv_at hl 1 rfl) ?_
  refine lv_iload_n hx hb dX8_sumOf_3 rfl (lv_at hl 2 rfl) ?_
  obtain ⟨u1, q2, h⟩ := bd_t h
  refine iv_callVf (As := [.int (zi x1)]) (rest := []) ⟨hx, hb, hml, hown, hts⟩ (k_X8_order l E a H.size N x1 z u1 q2) (cwV 1 hts gX8_sumOf_X8_order rfl rfl rfl (by decide +kernel) ⟨Nat.le_of_ble_eq_true rfl, Nat.le_of_ble_eq_true rfl⟩) hK hP hD hS hA 0 8 rfl rfl rfl hl.1 (Nat.le_of_ble_eq_true rfl) ⟨Nat.zero_le _, Nat.zero_le _⟩ dX8_sumOf_4 (fun H locs hP hD hS => ?_)
  refine iv_iconst hx hb dX8_sumOf_7 ?_
  refine lv_istore_n (lv' := [(3, .int (zi 0)), (2, .int (zi 0)), (0, .ref (a 0)), (1, .int (zi x1))]) hx hb dX8_sumOf_8 rfl hl (by decide) rfl (fun ls hl => ?_)
  exact loop9 N x1 0 0 u1 _ _ _ h hP hD hS (lv_sub hl [2, 3, 1, 0] rfl)
set_option maxHeartbeats 4000000 in
set_option maxRecDepth 100000 in
theorem k_X8_mostAlike (l : Launch) (E : wE) (a : Nat → Nat) (sz : Nat) (N : Nat) (x1 : Int) (z : bM) (u : (Int × bM)) (hf : f_X8_mostAlike N x1 z = some u) : cI l yX8_mostAlike wsX8_mostAlike { frames := 4, cells := 0, slots := 0, locals := 90 } E sz [.ref (a 0), .int (zi x1)] (wM a E z) (wM a E u.2) u.1 := by
  refine met_go (cc := cX8_mostAlike) (maxL := 4) (ret := (some .int)) (Q0 := mQi E (wM a E u.2) u.1) (by decide +kernel) rfl (Nat.le_of_ble_eq_true rfl) ?_
  intro A p e s m below meth c hx hb hr hml hts hown hlocks hP hK hD hA hS ls hl
  have hl : lv_has ls 4 [(0, .ref (a 0)), (1, .int (zi x1))] := hl
  generalize hH : s.heap = H at hP
  have hS : va_S A s.heap H [] := by rw [← hH]; exact hS
  have hown : s.vm.findClass RX8 = some m.cls := hown
  have loop4 : ∀ (n : Nat) (v1 v2 v3 : Int) (s4 : bM) (H : Heap) (locs : List Loc) (ls : Array Slot), f_X8_mostAlike_L4 N n v1 v2 v3 s4 = some u → va_P E.1 vwCl (wM a E s4) H → va_D A (wM a E s4) → va_S A s.heap H locs → lv_has ls 4 [(0, .ref (a 0)), (1, .int (zi v1)), (2, .int (zi v2)), (3, .int (zi v3))] → W p l e ({ frames := 4, cells := 0, slots := 0, locals := 90 }) s m ([.ref (a 0), .int (zi x1)] : List Value).toArray below meth c H locs 0 0 (MQ below (mQi E (wM a E u.2) u.1 A) ([.ref (a 0), .int (zi x1)] : List Value).toArray s 0 0 A) (F0 m 4 ls []) := by
    intro n
    induction n with
    | zero =>
      intro v1 v2 v3 s4 H locs ls h
      exact absurd (show (none : Option (Int × bM)) = some u from h) (by simp)
    | succ n ih =>
      intro v1 v2 v3 s4 H locs ls h hP hD hS hl
      rw [f_X8_mostAlike_L4] at h
      refine lv_iload_n hx hb dX8_mostAlike_4 rfl (lv_at hl 3 rfl) ?_
      refine iv_bipush hx hb dX8_mostAlike_5 (by decide +kernel) ?_
      obtain ⟨g5, h⟩ := gd_t h
      refine iv_ige (tgt := 33) hx hb g5 (by decide +kernel) dX8_mostAlike_7 (by decide) (fun c6 => ?_) (fun c6 => ?_)
      · have h := it_t c6 h
        refine lv_iload_n hx hb dX8_mostAlike_33 rfl (lv_at hl 2 rfl) ?_
        cases h
        exact iv_iret hx hb hr hlocks hK hP hD hS dX8_mostAlike_34
      · have h := it_f c6 h
        refine lv_aload_n hx hb dX8_mostAlike_10 rfl (lv_at hl 0 rfl) ?_
        refine lv_iload_n hx hb dX8_mostAlike_11 rfl (lv_at hl 1 rfl) ?_
        refine lv_iload_n hx hb dX8_mostAlike_12 rfl (lv_at hl 3 rfl) ?_
        obtain ⟨u7, q8, h⟩ := bd_t h
        refine iv_callIf (As := [.int (zi v1), .int (zi v3)]) (rest := []) ⟨hx, hb, hml, hown, hts⟩ (k_X8_firstAlike l E a H.size N v1 v3 s4 u7 q8) (cwV 2 hts gX8_mostAlike_X8_firstAlike rfl rfl rfl (by decide +kernel) ⟨Nat.le_of_ble_eq_true rfl, Nat.le_of_ble_eq_true rfl⟩) hK hP hD hS hA 0 8 rfl rfl rfl hl.1 (Nat.le_of_ble_eq_true rfl) ⟨Nat.zero_le _, Nat.zero_le _⟩ dX8_mostAlike_13 (fun H locs hP hD hS => ?_)
        refine iv_bipush hx hb dX8_mostAlike_16 (by decide +kernel) ?_
        obtain ⟨g9, h⟩ := gd_t h
        refine iv_ieq (tgt := 25) hx hb g9 (by decide +kernel) dX8_mostAlike_18 (by decide) (fun c10 => ?_) (fun c10 => ?_)
        · have h := it_t c10 h
          refine lv_iload_n hx hb dX8_mostAlike_25 rfl (lv_at hl 2 rfl) ?_
          refine lv_istore_n (lv' := [(2, .int (zi v2)), (0, .ref (a 0)), (1, .int (zi v1)), (3, .int (zi v3))]) hx hb dX8_mostAlike_26 rfl hl (by decide) rfl (fun ls hl => ?_)
          refine lv_iinc (v := zi (v3 + 1)) (lv' := [(3, .int (zi (v3 + 1))), (2, .int (zi v2)), (0, .ref (a 0)), (1, .int (zi v1))]) hx hb dX8_mostAlike_27 hl (k := 3) rfl (by rw [zi_add]; rfl) (by decide) rfl (fun ls hl => ?_)
          refine lv_goto (tgt := 4) hx hb dX8_mostAlike_30 (by decide) ?_
          exact ih v1 v2 (v3 + 1) u7.2 _ _ _ h hP hD hS (lv_sub hl [2, 3, 1, 0] rfl)
        · have h := it_f c10 h
          refine lv_iload_n hx hb dX8_mostAlike_21 rfl (lv_at hl 3 rfl) ?_
          refine lv_goto (tgt := 26) hx hb dX8_mostAlike_22 (by decide) ?_
          refine lv_istore_n (lv' := [(2, .int (zi v3)), (0, .ref (a 0)), (1, .int (zi v1)), (3, .int (zi v3))]) hx hb dX8_mostAlike_26 rfl hl (by decide) rfl (fun ls hl => ?_)
          refine lv_iinc (v := zi (v3 + 1)) (lv' := [(3, .int (zi (v3 + 1))), (2, .int (zi v3)), (0, .ref (a 0)), (1, .int (zi v1))]) hx hb dX8_mostAlike_27 hl (k := 3) rfl (by rw [zi_add]; rfl) (by decide) rfl (fun ls hl => ?_)
          refine lv_goto (tgt := 4) hx hb dX8_mostAlike_30 (by decide) ?_
          exact ih v1 v3 (v3 + 1) u7.2 _ _ _ h hP hD hS (lv_sub hl [2, 3, 1, 0] rfl)
  have h := hf
  rw [f_X8_mostAlike] at h
  refine iv_iconst hx hb dX8_mostAlike_0 ?_
  refine lv_istore_n (lv' := [(2, .int (zi 0)), (0, .ref (a 0)), (1, .int (zi x1))]) hx hb dX8_mostAlike_1 rfl hl (by decide) rfl (fun ls hl => ?_)
  refine iv_iconst hx hb dX8_mostAlike_2 ?_
  refine lv_istore_n (lv' := [(3, .int (zi 1)), (2, .int (zi 0)), (0, .ref (a 0)), (1, .int (zi x1))]) hx hb dX8_mostAlike_3 rfl hl (by decide) rfl (fun ls hl => ?_)
  exact loop4 N x1 0 1 z _ _ _ h hP hD hS (lv_sub hl [2, 3, 1, 0] rfl)
set_option maxRecDepth 20000 in
theorem wd_X8_spreadOf_f93 : Cond.fieldLink RX8 93 "ShirtButtonsModel" "lineMany" "I" ∈ wsX8_spreadOf := by decide +kernel
set_option maxRecDepth 20000 in
theorem in_X8_spreadOf_X8 : ∀ w ∈ u_ws RX8 TX8 13, w ∈ wsX8_spreadOf := by decide +kernel
set_option maxHeartbeats 4000000 in
set_option maxRecDepth 100000 in
theorem k_X8_spreadOf (l : Launch) (E : wE) (a : Nat → Nat) (sz : Nat) (N : Nat) (x1 : Int) (z : bM) (u : (Int × bM)) (hf : f_X8_spreadOf N x1 z = some u) : cI l yX8_spreadOf wsX8_spreadOf { frames := 3, cells := 0, slots := 0, locals := 67 } E sz [.ref (a 0), .int (zi x1)] (wM a E z) (wM a E u.2) u.1 := by
  refine met_go (cc := cX8_spreadOf) (maxL := 2) (ret := (some .int)) (Q0 := mQi E (wM a E u.2) u.1) (by decide +kernel) rfl (Nat.le_of_ble_eq_true rfl) ?_
  intro A p e s m below meth c hx hb hr hml hts hown hlocks hP hK hD hA hS ls hl
  have hl : lv_has ls 2 [(0, .ref (a 0)), (1, .int (zi x1))] := hl
  generalize hH : s.heap = H at hP
  have hS : va_S A s.heap H [] := by rw [← hH]; exact hS
  have hown : s.vm.findClass RX8 = some m.cls := hown
  have h := hf
  rw [f_X8_spreadOf] at h
  refine lv_aload_n hx hb dX8_spreadOf_0 rfl (lv_at hl 0 rfl) ?_
  refine lv_iload_n hx hb dX8_spreadOf_1 rfl (lv_at hl 1 rfl) ?_
  obtain ⟨u1, q2, h⟩ := bd_t h
  refine iv_callVf (As := [.int (zi x1)]) (rest := []) ⟨hx, hb, hml, hown, hts⟩ (k_X8_order l E a H.size N x1 z u1 q2) (cwV 1 hts gX8_spreadOf_X8_order rfl rfl rfl (by decide +kernel) ⟨Nat.le_of_ble_eq_true rfl, Nat.le_of_ble_eq_true rfl⟩) hK hP hD hS hA 0 8 rfl rfl rfl hl.1 (Nat.le_of_ble_eq_true rfl) ⟨Nat.zero_le _, Nat.zero_le _⟩ dX8_spreadOf_2 (fun H locs hP hD hS => ?_)
  refine lv_aload_n hx hb dX8_spreadOf_5 rfl (lv_at hl 0 rfl) ?_
  refine va_get (D := E.1) (ci := 8) (v := .int (zi u1.2.2.2.2.2.2.2.1)) (C := RX8) (T := TX8) (N := 13) hx hb hts in_X8_spreadOf_X8 hown hK.1 hP 0 rfl rfl 7 (by decide) (hts _ wd_X8_spreadOf_f93) (fun _ h9 => h9) rfl dX8_spreadOf_6 ?_
  obtain ⟨g3, h⟩ := gd_t h
  refine iv_ne (tgt := 16) hx hb g3 dX8_spreadOf_9 (by decide) (fun c4 => ?_) (fun c4 => ?_)
  · have h := it_f c4 h
    refine lv_aload_n hx hb dX8_spreadOf_16 rfl (lv_at hl 0 rfl) ?_
    refine iv_iconst hx hb dX8_spreadOf_17 ?_
    refine lv_aload_n hx hb dX8_spreadOf_18 rfl (lv_at hl 0 rfl) ?_
    refine va_get (D := E.1) (ci := 8) (v := .int (zi u1.2.2.2.2.2.2.2.1)) (C := RX8) (T := TX8) (N := 13) hx hb hts in_X8_spreadOf_X8 hown hK.1 hP 0 rfl rfl 7 (by decide) (hts _ wd_X8_spreadOf_f93) (fun _ h9 => h9) rfl dX8_spreadOf_19 ?_
    obtain ⟨u5, q6, h⟩ := bd_t h
    refine iv_callIf (As := [.int (zi 0), .int (zi u1.2.2.2.2.2.2.2.1)]) (rest := []) ⟨hx, hb, hml, hown, hts⟩ (k_X8_spread l E a H.size 0 u1.2.2.2.2.2.2.2.1 u1 u5 q6) (cwV 2 hts gX8_spreadOf_X8_spread rfl rfl rfl (by decide +kernel) ⟨Nat.le_of_ble_eq_true rfl, Nat.le_of_ble_eq_true rfl⟩) hK hP hD hS hA 0 8 rfl rfl rfl hl.1 (Nat.le_of_ble_eq_true rfl) ⟨Nat.zero_le _, Nat.zero_le _⟩ dX8_spreadOf_22 (fun H locs hP hD hS => ?_)
    cases h
    exact iv_iret hx hb hr hlocks hK hP hD hS dX8_spreadOf_25
  · have h := it_t c4 h
    refine iv_iconst hx hb dX8_spreadOf_12 ?_
    refine lv_goto (tgt := 25) hx hb dX8_spreadOf_13 (by decide) ?_
    cases h
    exact iv_iret hx hb hr hlocks hK hP hD hS dX8_spreadOf_25
set_option maxRecDepth 20000 in
theorem wd_X8_bin_f7 : Cond.fieldLink RX8 7 "ShirtButtonsModel" "row" "[I" ∈ wsX8_bin := by decide +kernel
set_option maxRecDepth 20000 in
theorem in_X8_bin_X8 : ∀ w ∈ u_ws RX8 TX8 13, w ∈ wsX8_bin := by decide +kernel
set_option maxHeartbeats 4000000 in
set_option maxRecDepth 100000 in
theorem k_X8_bin (l : Launch) (E : wE) (a : Nat → Nat) (sz : Nat) (N : Nat) (x1 x2 : Int) (z : bM) (u : (Int × bM)) (hf : f_X8_bin N x1 x2 z = some u) : cI l yX8_bin wsX8_bin { frames := 5, cells := 0, slots := 0, locals := 113 } E sz [.ref (a 0), .int (zi x1), .int (zi x2)] (wM a E z) (wM a E u.2) u.1 := by
  refine met_go (cc := cX8_bin) (maxL := 4) (ret := (some .int)) (Q0 := mQi E (wM a E u.2) u.1) (by decide +kernel) rfl (Nat.le_of_ble_eq_true rfl) ?_
  intro A p e s m below meth c hx hb hr hml hts hown hlocks hP hK hD hA hS ls hl
  have hl : lv_has ls 4 [(0, .ref (a 0)), (1, .int (zi x1)), (2, .int (zi x2))] := hl
  generalize hH : s.heap = H at hP
  have hS : va_S A s.heap H [] := by rw [← hH]; exact hS
  have hown : s.vm.findClass RX8 = some m.cls := hown
  have h := hf
  rw [f_X8_bin] at h
  refine lv_iload_n hx hb dX8_bin_0 rfl (lv_at hl 1 rfl) ?_
  obtain ⟨u1, q2, h⟩ := bd_t h
  refine iv_callS (As := [.int (zi x1)]) (rest := []) ⟨hx, hb, hml, hown, hts⟩ (k_X8_isBin l E H.size x1 u1 q2) (va_cwS 1 hts gX8_bin_X8_isBin rfl rfl rfl (by decide +kernel) ⟨Nat.le_of_ble_eq_true rfl, Nat.le_of_ble_eq_true rfl⟩) hK hP hS hA rfl hl.1 (Nat.le_of_ble_eq_true rfl) ⟨Nat.zero_le _, Nat.zero_le _⟩ dX8_bin_1 (fun H locs hP hS => ?_)
  obtain ⟨g3, h⟩ := gd_t h
  refine iv_ne (tgt := 9) hx hb g3 dX8_bin_4 (by decide) (fun c4 => ?_) (fun c4 => ?_)
  · have h := it_f c4 h
    refine lv_aload_n hx hb dX8_bin_9 rfl (lv_at hl 0 rfl) ?_
    refine lv_iload_n hx hb dX8_bin_10 rfl (lv_at hl 1 rfl) ?_
    obtain ⟨u5, q6, h⟩ := bd_t h
    refine iv_callIf (As := [.int (zi x1)]) (rest := []) ⟨hx, hb, hml, hown, hts⟩ (k_X8_manyIn l E a H.size N x1 z u5 q6) (cwV 1 hts gX8_bin_X8_manyIn rfl rfl rfl (by decide +kernel) ⟨Nat.le_of_ble_eq_true rfl, Nat.le_of_ble_eq_true rfl⟩) hK hP hD hS hA 0 8 rfl rfl rfl hl.1 (Nat.le_of_ble_eq_true rfl) ⟨Nat.zero_le _, Nat.zero_le _⟩ dX8_bin_11 (fun H locs hP hD hS => ?_)
    refine lv_istore_n (lv' := [(3, .int (zi u5.1)), (0, .ref (a 0)), (1, .int (zi x1)), (2, .int (zi x2))]) hx hb dX8_bin_14 rfl hl (by decide) rfl (fun ls hl => ?_)
    refine lv_iload_n hx hb dX8_bin_15 rfl (lv_at hl 3 rfl) ?_
    obtain ⟨g7, h⟩ := gd_t h
    by_cases c8 : x2 = 0
    · have h := it_t c8 h
      refine iv_tabIn (tgt := 52) (off := 36) hx hb dX8_bin_16 g7 c8 (by decide) (by decide) rfl (by decide) ?_
      refine lv_iload_n hx hb dX8_bin_52 rfl (lv_at hl 0 rfl) ?_
      cases h
      exact iv_iret hx hb hr hlocks hK hP hD hS dX8_bin_53
    have h := it_f c8 h
    by_cases c9 : x2 = 1
    · have h := it_t c9 h
      refine iv_tabIn (tgt := 54) (off := 38) hx hb dX8_bin_16 g7 c9 (by decide) (by decide) rfl (by decide) ?_
      refine lv_aload_n hx hb dX8_bin_54 rfl (lv_at hl 1 rfl) ?_
      refine va_get (D := E.1) (ci := 8) (v := .ref (a 1)) (C := RX8) (T := TX8) (N := 13) hx hb hts in_X8_bin_X8 hown hK.1 hP 0 rfl rfl 0 (by decide) (hts _ wd_X8_bin_f7) (fun _ h9 => h9) rfl dX8_bin_55 ?_
      refine iv_bipush hx hb dX8_bin_58 (by decide +kernel) ?_
      refine iv_iald (f := u5.2.1) (j := 6) hx hb hK.1 hP 1 0 rfl rfl (by decide) (by decide +kernel) rfl dX8_bin_60 ?_
      refine lv_iload_n hx hb dX8_bin_61 rfl (lv_at hl 0 rfl) ?_
      obtain ⟨g10, h⟩ := gd_t h
      obtain ⟨g11, h⟩ := gd_t h
      refine iv_ile (tgt := 77) hx hb g10 g11 dX8_bin_62 (by decide) (fun c12 => ?_) (fun c12 => ?_)
      · have h := it_t c12 h
        refine iv_iconst hx hb dX8_bin_77 ?_
        cases h
        exact iv_iret hx hb hr hlocks hK hP hD hS dX8_bin_78
      · have h := it_f c12 h
        refine lv_aload_n hx hb dX8_bin_65 rfl (lv_at hl 1 rfl) ?_
        refine va_get (D := E.1) (ci := 8) (v := .ref (a 1)) (C := RX8) (T := TX8) (N := 13) hx hb hts in_X8_bin_X8 hown hK.1 hP 0 rfl rfl 0 (by decide) (hts _ wd_X8_bin_f7) (fun _ h9 => h9) rfl dX8_bin_66 ?_
        refine iv_bipush hx hb dX8_bin_69 (by decide +kernel) ?_
        refine iv_iald (f := u5.2.1) (j := 6) hx hb hK.1 hP 1 0 rfl rfl (by decide) (by decide +kernel) rfl dX8_bin_71 ?_
        refine lv_iload_n hx hb dX8_bin_72 rfl (lv_at hl 0 rfl) ?_
        refine iv_isub hx hb dX8_bin_73 ?_
        refine lv_goto (tgt := 78) hx hb dX8_bin_74 (by decide) ?_
        cases h
        exact iv_iret hx hb hr hlocks hK hP hD hS dX8_bin_78
    have h := it_f c9 h
    by_cases c13 : x2 = 2
    · have h := it_t c13 h
      refine iv_tabIn (tgt := 79) (off := 63) hx hb dX8_bin_16 g7 c13 (by decide) (by decide) rfl (by decide) ?_
      refine lv_aload_n hx hb dX8_bin_79 rfl (lv_at hl 1 rfl) ?_
      refine lv_iload_n hx hb dX8_bin_80 rfl (lv_at hl 2 rfl) ?_
      obtain ⟨u14, q15, h⟩ := bd_t h
      refine iv_callIf (As := [.int (zi x1)]) (rest := []) ⟨hx, hb, hml, hown, hts⟩ (k_X8_sumOf l E a H.size N x1 u5.2 u14 q15) (cwV 1 hts gX8_bin_X8_sumOf rfl rfl rfl (by decide +kernel) ⟨Nat.le_of_ble_eq_true rfl, Nat.le_of_ble_eq_true rfl⟩) hK hP hD hS hA 0 8 rfl rfl rfl hl.1 (Nat.le_of_ble_eq_true rfl) ⟨Nat.zero_le _, Nat.zero_le _⟩ dX8_bin_81 (fun H locs hP hD hS => ?_)
      cases h
      exact iv_iret hx hb hr hlocks hK hP hD hS dX8_bin_84
    have h := it_f c13 h
    by_cases c16 : x2 = 3
    · have h := it_t c16 h
      refine iv_tabIn (tgt := 85) (off := 69) hx hb dX8_bin_16 g7 c16 (by decide) (by decide) rfl (by decide) ?_
      refine lv_aload_n hx hb dX8_bin_85 rfl (lv_at hl 1 rfl) ?_
      refine lv_iload_n hx hb dX8_bin_86 rfl (lv_at hl 2 rfl) ?_
      obtain ⟨u17, q18, h⟩ := bd_t h
      refine iv_callIf (As := [.int (zi x1)]) (rest := []) ⟨hx, hb, hml, hown, hts⟩ (k_X8_mostAlike l E a H.size N x1 u5.2 u17 q18) (cwV 1 hts gX8_bin_X8_mostAlike rfl rfl rfl (by decide +kernel) ⟨Nat.le_of_ble_eq_true rfl, Nat.le_of_ble_eq_true rfl⟩) hK hP hD hS hA 0 8 rfl rfl rfl hl.1 (Nat.le_of_ble_eq_true rfl) ⟨Nat.zero_le _, Nat.zero_le _⟩ dX8_bin_87 (fun H locs hP hD hS => ?_)
      cases h
      exact iv_iret hx hb hr hlocks hK hP hD hS dX8_bin_90
    have h := it_f c16 h
    by_cases c19 : x2 = 4
    · have h := it_t c19 h
      refine iv_tabIn (tgt := 91) (off := 75) hx hb dX8_bin_16 g7 c19 (by decide) (by decide) rfl (by decide) ?_
      refine lv_aload_n hx hb dX8_bin_91 rfl (lv_at hl 1 rfl) ?_
      refine lv_iload_n hx hb dX8_bin_92 rfl (lv_at hl 2 rfl) ?_
      obtain ⟨u20, q21, h⟩ := bd_t h
      refine iv_callIf (As := [.int (zi x1)]) (rest := []) ⟨hx, hb, hml, hown, hts⟩ (k_X8_spreadOf l E a H.size N x1 u5.2 u20 q21) (cwV 1 hts gX8_bin_X8_spreadOf rfl rfl rfl (by decide +kernel) ⟨Nat.le_of_ble_eq_true rfl, Nat.le_of_ble_eq_true rfl⟩) hK hP hD hS hA 0 8 rfl rfl rfl hl.1 (Nat.le_of_ble_eq_true rfl) ⟨Nat.zero_le _, Nat.zero_le _⟩ dX8_bin_93 (fun H locs hP hD hS => ?_)
      cases h
      exact iv_iret hx hb hr hlocks hK hP hD hS dX8_bin_96
    have h := it_f c19 h
    refine iv_tabOut (tgt := 97) hx hb dX8_bin_16 g7 (by omega) (by decide) ?_
    refine iv_bipush hx hb dX8_bin_97 (by decide +kernel) ?_
    cases h
    exact iv_iret hx hb hr hlocks hK hP hD hS dX8_bin_99
  · have h := it_t c4 h
    refine iv_iconst hx hb dX8_bin_7 ?_
    cases h
    exact iv_iret hx hb hr hlocks hK hP hD hS dX8_bin_8
set_option maxRecDepth 20000 in
theorem wd_X8_chips_f7 : Cond.fieldLink RX8 7 "ShirtButtonsModel" "row" "[I" ∈ wsX8_chips := by decide +kernel
set_option maxRecDepth 20000 in
theorem in_X8_chips_X8 : ∀ w ∈ u_ws RX8 TX8 13, w ∈ wsX8_chips := by decide +kernel
set_option maxHeartbeats 4000000 in
set_option maxRecDepth 100000 in
theorem k_X8_chips (l : Launch) (E : wE) (a : Nat → Nat) (sz : Nat) (N : Nat) (z : bM) (u : (Int × bM)) (hf : f_X8_chips N z = some u) : cI l yX8_chips wsX8_chips { frames := 1, cells := 0, slots := 0, locals := 22 } E sz [.ref (a 0)] (wM a E z) (wM a E u.2) u.1 := by
  refine met_go (cc := cX8_chips) (maxL := 3) (ret := (some .int)) (Q0 := mQi E (wM a E u.2) u.1) (by decide +kernel) rfl (Nat.le_of_ble_eq_true rfl) ?_
  intro A p e s m below meth c hx hb hr hml hts hown hlocks hP hK hD hA hS ls hl
  have hl : lv_has ls 3 [(0, .ref (a 0))] := hl
  generalize hH : s.heap = H at hP
  have hS : va_S A s.heap H [] := by rw [← hH]; exact hS
  have hown : s.vm.findClass RX8 = some m.cls := hown
  have loop4 : ∀ (n : Nat) (v1 v2 : Int) (s3 : bM) (H : Heap) (locs : List Loc) (ls : Array Slot), f_X8_chips_L4 N n v1 v2 s3 = some u → va_P E.1 vwCl (wM a E s3) H → va_D A (wM a E s3) → va_S A s.heap H locs → lv_has ls 3 [(0, .ref (a 0)), (1, .int (zi v1)), (2, .int (zi v2))] → W p l e ({ frames := 1, cells := 0, slots := 0, locals := 22 }) s m ([.ref (a 0)] : List Value).toArray below meth c H locs 0 0 (MQ below (mQi E (wM a E u.2) u.1 A) ([.ref (a 0)] : List Value).toArray s 0 0 A) (F0 m 4 ls []) := by
    intro n
    induction n with
    | zero =>
      intro v1 v2 s3 H locs ls h
      exact absurd (show (none : Option (Int × bM)) = some u from h) (by simp)
    | succ n ih =>
      intro v1 v2 s3 H locs ls h hP hD hS hl
      rw [f_X8_chips_L4] at h
      refine lv_iload_n hx hb dX8_chips_4 rfl (lv_at hl 2 rfl) ?_
      refine lv_aload_n hx hb dX8_chips_5 rfl (lv_at hl 0 rfl) ?_
      refine va_get (D := E.1) (ci := 8) (v := .ref (a 1)) (C := RX8) (T := TX8) (N := 13) hx hb hts in_X8_chips_X8 hown hK.1 hP 0 rfl rfl 0 (by decide) (hts _ wd_X8_chips_f7) (fun _ h9 => h9) rfl dX8_chips_6 ?_
      refine iv_bipush hx hb dX8_chips_9 (by decide +kernel) ?_
      refine iv_iald (f := s3.1) (j := 13) hx hb hK.1 hP 1 0 rfl rfl (by decide) (by decide +kernel) rfl dX8_chips_11 ?_
      obtain ⟨g4, h⟩ := gd_t h
      obtain ⟨g5, h⟩ := gd_t h
      refine iv_ige (tgt := 30) hx hb g4 g5 dX8_chips_12 (by decide) (fun c6 => ?_) (fun c6 => ?_)
      · have h := it_t c6 h
        refine lv_iload_n hx hb dX8_chips_30 rfl (lv_at hl 1 rfl) ?_
        cases h
        exact iv_iret hx hb hr hlocks hK hP hD hS dX8_chips_31
      · have h := it_f c6 h
        refine lv_iload_n hx hb dX8_chips_15 rfl (lv_at hl 1 rfl) ?_
        refine lv_aload_n hx hb dX8_chips_16 rfl (lv_at hl 0 rfl) ?_
        refine lv_iload_n hx hb dX8_chips_17 rfl (lv_at hl 2 rfl) ?_
        refine iv_iconst hx hb dX8_chips_18 ?_
        obtain ⟨u7, q8, h⟩ := bd_t h
        refine iv_callIf (As := [.int (zi v2), .int (zi 3)]) (rest := [.int (zi v1)]) ⟨hx, hb, hml, hown, hts⟩ (k_X8_of l E a H.size v2 3 s3 u7 q8) (cwV 2 hts gX8_chips_X8_of rfl rfl rfl (by decide +kernel) ⟨Nat.le_of_ble_eq_true rfl, Nat.le_of_ble_eq_true rfl⟩) hK hP hD hS hA 0 8 rfl rfl rfl hl.1 (Nat.le_of_ble_eq_true rfl) ⟨Nat.zero_le _, Nat.zero_le _⟩ dX8_chips_19 (fun H locs hP hD hS => ?_)
        refine iv_iadd hx hb dX8_chips_22 ?_
        obtain ⟨v9, e10, h⟩ := nm_t h
        refine iv_nm e10 ?_
        refine lv_istore_n (lv' := [(1, .int (zi v9)), (0, .ref (a 0)), (2, .int (zi v2))]) hx hb dX8_chips_23 rfl hl (by decide) rfl (fun ls hl => ?_)
        refine lv_iinc (v := zi (v2 + 1)) (lv' := [(2, .int (zi (v2 + 1))), (1, .int (zi v9)), (0, .ref (a 0))]) hx hb dX8_chips_24 hl (k := 2) rfl (by rw [zi_add]; rfl) (by decide) rfl (fun ls hl => ?_)
        refine lv_goto (tgt := 4) hx hb dX8_chips_27 (by decide) ?_
        exact ih v9 (v2 + 1) u7.2 _ _ _ h hP hD hS (lv_sub hl [2, 1, 0] rfl)
  have h := hf
  rw [f_X8_chips] at h
  refine iv_iconst hx hb dX8_chips_0 ?_
  refine lv_istore_n (lv' := [(1, .int (zi 0)), (0, .ref (a 0))]) hx hb dX8_chips_1 rfl hl (by decide) rfl (fun ls hl => ?_)
  refine iv_iconst hx hb dX8_chips_2 ?_
  refine lv_istore_n (lv' := [(2, .int (zi 0)), (1, .int (zi 0)), (0, .ref (a 0))]) hx hb dX8_chips_3 rfl hl (by decide) rfl (fun ls hl => ?_)
  exact loop4 N 0 0 z _ _ _ h hP hD hS (lv_sub hl [2, 1, 0] rfl)
set_option maxRecDepth 20000 in
theorem wd_X8_total_f7 : Cond.fieldLink RX8 7 "ShirtButtonsModel" "row" "[I" ∈ wsX8_total := by decide +kernel
set_option maxRecDepth 20000 in
theorem in_X8_total_X8 : ∀ w ∈ u_ws RX8 TX8 13, w ∈ wsX8_total := by decide +kernel
set_option maxRecDepth 20000 in
theorem wd_X8_total_f35 : Cond.fieldLink RX8 35 "ShirtButtonsModel" "states" "I" ∈ wsX8_total := by decide +kernel
set_option maxRecDepth 20000 in
theorem wd_X8_total_f120 : Cond.fieldLink RX8 120 "ShirtButtonsModel" "length" "I" ∈ wsX8_total := by decide +kernel
set_option maxHeartbeats 4000000 in
set_option maxRecDepth 100000 in
theorem k_X8_total (l : Launch) (E : wE) (a : Nat → Nat) (sz : Nat) (N : Nat) (x1 : Int) (z : bM) (u : (Int × bM)) (hf : f_X8_total N x1 z = some u) : cI l yX8_total wsX8_total { frames := 2, cells := 0, slots := 0, locals := 45 } E sz [.ref (a 0), .int (zi x1)] (wM a E z) (wM a E u.2) u.1 := by
  refine met_go (cc := cX8_total) (maxL := 2) (ret := (some .int)) (Q0 := mQi E (wM a E u.2) u.1) (by decide +kernel) rfl (Nat.le_of_ble_eq_true rfl) ?_
  intro A p e s m below meth c hx hb hr hml hts hown hlocks hP hK hD hA hS ls hl
  have hl : lv_has ls 2 [(0, .ref (a 0)), (1, .int (zi x1))] := hl
  generalize hH : s.heap = H at hP
  have hS : va_S A s.heap H [] := by rw [← hH]; exact hS
  have hown : s.vm.findClass RX8 = some m.cls := hown
  have h := hf
  rw [f_X8_total] at h
  refine lv_iload_n hx hb dX8_total_0 rfl (lv_at hl 1 rfl) ?_
  refine iv_iconst hx hb dX8_total_1 ?_
  refine iv_bipush hx hb dX8_total_2 (by decide +kernel) ?_
  obtain ⟨u1, q2, h⟩ := bd_t h
  refine iv_callS (As := [.int (zi x1), .int (zi 0), .int (zi 23)]) (rest := []) ⟨hx, hb, hml, hown, hts⟩ (k_X8_in l E H.size x1 0 23 u1 q2) (va_cwS 3 hts gX8_total_X8_in rfl rfl rfl (by decide +kernel) ⟨Nat.le_of_ble_eq_true rfl, Nat.le_of_ble_eq_true rfl⟩) hK hP hS hA rfl hl.1 (Nat.le_of_ble_eq_true rfl) ⟨Nat.zero_le _, Nat.zero_le _⟩ dX8_total_4 (fun H locs hP hS => ?_)
  obtain ⟨g3, h⟩ := gd_t h
  refine iv_ne (tgt := 13) hx hb g3 dX8_total_7 (by decide) (fun c4 => ?_) (fun c4 => ?_)
  · have h := it_f c4 h
    refine lv_iload_n hx hb dX8_total_13 rfl (lv_at hl 1 rfl) ?_
    refine iv_bipush hx hb dX8_total_14 (by decide +kernel) ?_
    obtain ⟨g5, h⟩ := gd_t h
    refine iv_ige (tgt := 26) hx hb g5 (by decide +kernel) dX8_total_16 (by decide) (fun c6 => ?_) (fun c6 => ?_)
    · have h := it_t c6 h
      refine lv_iload_n hx hb dX8_total_26 rfl (lv_at hl 1 rfl) ?_
      refine iv_bipush hx hb dX8_total_27 (by decide +kernel) ?_
      refine iv_ile (tgt := 47) hx hb g5 (by decide +kernel) dX8_total_29 (by decide) (fun c7 => ?_) (fun c7 => ?_)
      · have h := it_t c7 h
        refine lv_iload_n hx hb dX8_total_47 rfl (lv_at hl 1 rfl) ?_
        by_cases c8 : x1 = 8
        · have h := it_t c8 h
          refine lv_lookup (tgt := 92) (off := 44) hx hb dX8_total_48 (by decide +kernel) (by rw [zi_toInt g5, c8]; decide +kernel) (by decide) ?_
          refine lv_aload_n hx hb dX8_total_92 rfl (lv_at hl 0 rfl) ?_
          refine va_get (D := E.1) (ci := 8) (v := .ref (a 1)) (C := RX8) (T := TX8) (N := 13) hx hb hts in_X8_total_X8 hown hK.1 hP 0 rfl rfl 0 (by decide) (hts _ wd_X8_total_f7) (fun _ h9 => h9) rfl dX8_total_93 ?_
          refine iv_bipush hx hb dX8_total_96 (by decide +kernel) ?_
          refine iv_iald (f := z.1) (j := 13) hx hb hK.1 hP 1 0 rfl rfl (by decide) (by decide +kernel) rfl dX8_total_98 ?_
          cases h
          exact iv_iret hx hb hr hlocks hK hP hD hS dX8_total_99
        have h := it_f c8 h
        by_cases c9 : x1 = 21
        · have h := it_t c9 h
          refine lv_lookup (tgt := 100) (off := 52) hx hb dX8_total_48 (by decide +kernel) (by rw [zi_toInt g5, c9]; decide +kernel) (by decide) ?_
          refine lv_aload_n hx hb dX8_total_100 rfl (lv_at hl 0 rfl) ?_
          obtain ⟨u10, q11, h⟩ := bd_t h
          refine iv_callIf (As := []) (rest := []) ⟨hx, hb, hml, hown, hts⟩ (k_X8_chips l E a H.size N  z u10 q11) (cwV 0 hts gX8_total_X8_chips rfl rfl rfl (by decide +kernel) ⟨Nat.le_of_ble_eq_true rfl, Nat.le_of_ble_eq_true rfl⟩) hK hP hD hS hA 0 8 rfl rfl rfl hl.1 (Nat.le_of_ble_eq_true rfl) ⟨Nat.zero_le _, Nat.zero_le _⟩ dX8_total_101 (fun H locs hP hD hS => ?_)
          cases h
          exact iv_iret hx hb hr hlocks hK hP hD hS dX8_total_104
        have h := it_f c9 h
        by_cases c12 : x1 = 22
        · have h := it_t c12 h
          refine lv_lookup (tgt := 105) (off := 57) hx hb dX8_total_48 (by decide +kernel) (by rw [zi_toInt g5, c12]; decide +kernel) (by decide) ?_
          refine lv_aload_n hx hb dX8_total_105 rfl (lv_at hl 0 rfl) ?_
          refine va_get (D := E.1) (ci := 8) (v := .int (zi z.2.2.1)) (C := RX8) (T := TX8) (N := 13) hx hb hts in_X8_total_X8 hown hK.1 hP 0 rfl rfl 2 (by decide) (hts _ wd_X8_total_f35) (fun _ h9 => h9) rfl dX8_total_106 ?_
          cases h
          exact iv_iret hx hb hr hlocks hK hP hD hS dX8_total_109
        have h := it_f c12 h
        by_cases c13 : x1 = 23
        · have h := it_t c13 h
          refine lv_lookup (tgt := 110) (off := 62) hx hb dX8_total_48 (by decide +kernel) (by rw [zi_toInt g5, c13]; decide +kernel) (by decide) ?_
          refine lv_aload_n hx hb dX8_total_110 rfl (lv_at hl 0 rfl) ?_
          refine va_get (D := E.1) (ci := 8) (v := .int (zi z.2.2.2.2.2.2.2.2.2.1)) (C := RX8) (T := TX8) (N := 13) hx hb hts in_X8_total_X8 hown hK.1 hP 0 rfl rfl 9 (by decide) (hts _ wd_X8_total_f120) (fun _ h9 => h9) rfl dX8_total_111 ?_
          cases h
          exact iv_iret hx hb hr hlocks hK hP hD hS dX8_total_114
        have h := it_f c13 h
        refine lv_lookup (tgt := 115) (off := 67) hx hb dX8_total_48 (by decide +kernel) (by rw [zi_toInt g5]; simp only [Op.lookupswitch.offset_cons, if_neg (show ¬ (8 = x1) from fun q => c8 q.symm), if_neg (show ¬ (21 = x1) from fun q => c9 q.symm), if_neg (show ¬ (22 = x1) from fun q => c12 q.symm), if_neg (show ¬ (23 = x1) from fun q => c13 q.symm)]; rfl) (by decide) ?_
        refine lv_aload_n hx hb dX8_total_115 rfl (lv_at hl 0 rfl) ?_
        refine va_get (D := E.1) (ci := 8) (v := .ref (a 1)) (C := RX8) (T := TX8) (N := 13) hx hb hts in_X8_total_X8 hown hK.1 hP 0 rfl rfl 0 (by decide) (hts _ wd_X8_total_f7) (fun _ h9 => h9) rfl dX8_total_116 ?_
        refine iv_bipush hx hb dX8_total_119 (by decide +kernel) ?_
        refine lv_iload_n hx hb dX8_total_121 rfl (lv_at hl 1 rfl) ?_
        refine iv_iadd hx hb dX8_total_122 ?_
        refine iv_bipush hx hb dX8_total_123 (by decide +kernel) ?_
        refine iv_isub hx hb dX8_total_125 ?_
        obtain ⟨g14, h⟩ := gd_t h
        refine iv_iald (f := z.1) (j := ((8 + x1) - 16).toNat) hx hb hK.1 hP 1 0 rfl rfl (by decide) g14 rfl dX8_total_126 ?_
        cases h
        exact iv_iret hx hb hr hlocks hK hP hD hS dX8_total_127
      · have h := it_f c7 h
        refine lv_iload_n hx hb dX8_total_32 rfl (lv_at hl 1 rfl) ?_
        refine iv_bipush hx hb dX8_total_33 (by decide +kernel) ?_
        refine iv_ige (tgt := 47) hx hb g5 (by decide +kernel) dX8_total_35 (by decide) (fun c15 => ?_) (fun c15 => ?_)
        · have h := it_t c15 h
          refine lv_iload_n hx hb dX8_total_47 rfl (lv_at hl 1 rfl) ?_
          by_cases c16 : x1 = 8
          · have h := it_t c16 h
            refine lv_lookup (tgt := 92) (off := 44) hx hb dX8_total_48 (by decide +kernel) (by rw [zi_toInt g5, c16]; decide +kernel) (by decide) ?_
            refine lv_aload_n hx hb dX8_total_92 rfl (lv_at hl 0 rfl) ?_
            refine va_get (D := E.1) (ci := 8) (v := .ref (a 1)) (C := RX8) (T := TX8) (N := 13) hx hb hts in_X8_total_X8 hown hK.1 hP 0 rfl rfl 0 (by decide) (hts _ wd_X8_total_f7) (fun _ h9 => h9) rfl dX8_total_93 ?_
            refine iv_bipush hx hb dX8_total_96 (by decide +kernel) ?_
            refine iv_iald (f := z.1) (j := 13) hx hb hK.1 hP 1 0 rfl rfl (by decide) (by decide +kernel) rfl dX8_total_98 ?_
            cases h
            exact iv_iret hx hb hr hlocks hK hP hD hS dX8_total_99
          have h := it_f c16 h
          by_cases c17 : x1 = 21
          · have h := it_t c17 h
            refine lv_lookup (tgt := 100) (off := 52) hx hb dX8_total_48 (by decide +kernel) (by rw [zi_toInt g5, c17]; decide +kernel) (by decide) ?_
            refine lv_aload_n hx hb dX8_total_100 rfl (lv_at hl 0 rfl) ?_
            obtain ⟨u18, q19, h⟩ := bd_t h
            refine iv_callIf (As := []) (rest := []) ⟨hx, hb, hml, hown, hts⟩ (k_X8_chips l E a H.size N  z u18 q19) (cwV 0 hts gX8_total_X8_chips rfl rfl rfl (by decide +kernel) ⟨Nat.le_of_ble_eq_true rfl, Nat.le_of_ble_eq_true rfl⟩) hK hP hD hS hA 0 8 rfl rfl rfl hl.1 (Nat.le_of_ble_eq_true rfl) ⟨Nat.zero_le _, Nat.zero_le _⟩ dX8_total_101 (fun H locs hP hD hS => ?_)
            cases h
            exact iv_iret hx hb hr hlocks hK hP hD hS dX8_total_104
          have h := it_f c17 h
          by_cases c20 : x1 = 22
          · have h := it_t c20 h
            refine lv_lookup (tgt := 105) (off := 57) hx hb dX8_total_48 (by decide +kernel) (by rw [zi_toInt g5, c20]; decide +kernel) (by decide) ?_
            refine lv_aload_n hx hb dX8_total_105 rfl (lv_at hl 0 rfl) ?_
            refine va_get (D := E.1) (ci := 8) (v := .int (zi z.2.2.1)) (C := RX8) (T := TX8) (N := 13) hx hb hts in_X8_total_X8 hown hK.1 hP 0 rfl rfl 2 (by decide) (hts _ wd_X8_total_f35) (fun _ h9 => h9) rfl dX8_total_106 ?_
            cases h
            exact iv_iret hx hb hr hlocks hK hP hD hS dX8_total_109
          have h := it_f c20 h
          by_cases c21 : x1 = 23
          · have h := it_t c21 h
            refine lv_lookup (tgt := 110) (off := 62) hx hb dX8_total_48 (by decide +kernel) (by rw [zi_toInt g5, c21]; decide +kernel) (by decide) ?_
            refine lv_aload_n hx hb dX8_total_110 rfl (lv_at hl 0 rfl) ?_
            refine va_get (D := E.1) (ci := 8) (v := .int (zi z.2.2.2.2.2.2.2.2.2.1)) (C := RX8) (T := TX8) (N := 13) hx hb hts in_X8_total_X8 hown hK.1 hP 0 rfl rfl 9 (by decide) (hts _ wd_X8_total_f120) (fun _ h9 => h9) rfl dX8_total_111 ?_
            cases h
            exact iv_iret hx hb hr hlocks hK hP hD hS dX8_total_114
          have h := it_f c21 h
          refine lv_lookup (tgt := 115) (off := 67) hx hb dX8_total_48 (by decide +kernel) (by rw [zi_toInt g5]; simp only [Op.lookupswitch.offset_cons, if_neg (show ¬ (8 = x1) from fun q => c16 q.symm), if_neg (show ¬ (21 = x1) from fun q => c17 q.symm), if_neg (show ¬ (22 = x1) from fun q => c20 q.symm), if_neg (show ¬ (23 = x1) from fun q => c21 q.symm)]; rfl) (by decide) ?_
          refine lv_aload_n hx hb dX8_total_115 rfl (lv_at hl 0 rfl) ?_
          refine va_get (D := E.1) (ci := 8) (v := .ref (a 1)) (C := RX8) (T := TX8) (N := 13) hx hb hts in_X8_total_X8 hown hK.1 hP 0 rfl rfl 0 (by decide) (hts _ wd_X8_total_f7) (fun _ h9 => h9) rfl dX8_total_116 ?_
          refine iv_bipush hx hb dX8_total_119 (by decide +kernel) ?_
          refine lv_iload_n hx hb dX8_total_121 rfl (lv_at hl 1 rfl) ?_
          refine iv_iadd hx hb dX8_total_122 ?_
          refine iv_bipush hx hb dX8_total_123 (by decide +kernel) ?_
          refine iv_isub hx hb dX8_total_125 ?_
          obtain ⟨g22, h⟩ := gd_t h
          refine iv_iald (f := z.1) (j := ((8 + x1) - 16).toNat) hx hb hK.1 hP 1 0 rfl rfl (by decide) g22 rfl dX8_total_126 ?_
          cases h
          exact iv_iret hx hb hr hlocks hK hP hD hS dX8_total_127
        · have h := it_f c15 h
          refine lv_aload_n hx hb dX8_total_38 rfl (lv_at hl 0 rfl) ?_
          refine lv_iload_n hx hb dX8_total_39 rfl (lv_at hl 1 rfl) ?_
          refine iv_bipush hx hb dX8_total_40 (by decide +kernel) ?_
          refine iv_isub hx hb dX8_total_42 ?_
          obtain ⟨u23, q24, h⟩ := bd_t h
          refine iv_callIf (As := [.int (zi (x1 - 9))]) (rest := []) ⟨hx, hb, hml, hown, hts⟩ (k_X8_at l E a H.size N (x1 - 9) z u23 q24) (cwV 1 hts gX8_total_X8_at rfl rfl rfl (by decide +kernel) ⟨Nat.le_of_ble_eq_true rfl, Nat.le_of_ble_eq_true rfl⟩) hK hP hD hS hA 0 8 rfl rfl rfl hl.1 (Nat.le_of_ble_eq_true rfl) ⟨Nat.zero_le _, Nat.zero_le _⟩ dX8_total_43 (fun H locs hP hD hS => ?_)
          cases h
          exact iv_iret hx hb hr hlocks hK hP hD hS dX8_total_46
    · have h := it_f c6 h
      refine lv_aload_n hx hb dX8_total_19 rfl (lv_at hl 0 rfl) ?_
      refine va_get (D := E.1) (ci := 8) (v := .ref (a 1)) (C := RX8) (T := TX8) (N := 13) hx hb hts in_X8_total_X8 hown hK.1 hP 0 rfl rfl 0 (by decide) (hts _ wd_X8_total_f7) (fun _ h9 => h9) rfl dX8_total_20 ?_
      refine lv_iload_n hx hb dX8_total_23 rfl (lv_at hl 1 rfl) ?_
      obtain ⟨g25, h⟩ := gd_t h
      refine iv_iald (f := z.1) (j := x1.toNat) hx hb hK.1 hP 1 0 rfl rfl (by decide) g25 rfl dX8_total_24 ?_
      cases h
      exact iv_iret hx hb hr hlocks hK hP hD hS dX8_total_25
  · have h := it_t c4 h
    refine iv_bipush hx hb dX8_total_10 (by decide +kernel) ?_
    cases h
    exact iv_iret hx hb hr hlocks hK hP hD hS dX8_total_12
set_option maxRecDepth 20000 in
theorem wd_X8_goesTo_f7 : Cond.fieldLink RX8 7 "ShirtButtonsModel" "row" "[I" ∈ wsX8_goesTo := by decide +kernel
set_option maxRecDepth 20000 in
theorem in_X8_goesTo_X8 : ∀ w ∈ u_ws RX8 TX8 13, w ∈ wsX8_goesTo := by decide +kernel
set_option maxHeartbeats 4000000 in
set_option maxRecDepth 100000 in
theorem k_X8_goesTo (l : Launch) (E : wE) (a : Nat → Nat) (sz : Nat) (N : Nat) (x1 : Int) (z : bM) (u : (Int × bM)) (hf : f_X8_goesTo N x1 z = some u) : cI l yX8_goesTo wsX8_goesTo { frames := 3, cells := 0, slots := 0, locals := 67 } E sz [.ref (a 0), .int (zi x1)] (wM a E z) (wM a E u.2) u.1 := by
  refine met_go (cc := cX8_goesTo) (maxL := 3) (ret := (some .int)) (Q0 := mQi E (wM a E u.2) u.1) (by decide +kernel) rfl (Nat.le_of_ble_eq_true rfl) ?_
  intro A p e s m below meth c hx hb hr hml hts hown hlocks hP hK hD hA hS ls hl
  have hl : lv_has ls 3 [(0, .ref (a 0)), (1, .int (zi x1))] := hl
  generalize hH : s.heap = H at hP
  have hS : va_S A s.heap H [] := by rw [← hH]; exact hS
  have hown : s.vm.findClass RX8 = some m.cls := hown
  have h := hf
  rw [f_X8_goesTo] at h
  refine lv_aload_n hx hb dX8_goesTo_0 rfl (lv_at hl 0 rfl) ?_
  refine lv_iload_n hx hb dX8_goesTo_1 rfl (lv_at hl 1 rfl) ?_
  obtain ⟨u1, q2, h⟩ := bd_t h
  refine iv_callIf (As := [.int (zi x1)]) (rest := []) ⟨hx, hb, hml, hown, hts⟩ (k_X8_isButton l E a H.size x1 z u1 q2) (cwV 1 hts gX8_goesTo_X8_isButton rfl rfl rfl (by decide +kernel) ⟨Nat.le_of_ble_eq_true rfl, Nat.le_of_ble_eq_true rfl⟩) hK hP hD hS hA 0 8 rfl rfl rfl hl.1 (Nat.le_of_ble_eq_true rfl) ⟨Nat.zero_le _, Nat.zero_le _⟩ dX8_goesTo_2 (fun H locs hP hD hS => ?_)
  obtain ⟨g3, h⟩ := gd_t h
  refine iv_ne (tgt := 10) hx hb g3 dX8_goesTo_5 (by decide) (fun c4 => ?_) (fun c4 => ?_)
  · have h := it_f c4 h
    refine lv_aload_n hx hb dX8_goesTo_10 rfl (lv_at hl 0 rfl) ?_
    refine lv_iload_n hx hb dX8_goesTo_11 rfl (lv_at hl 1 rfl) ?_
    refine iv_iconst hx hb dX8_goesTo_12 ?_
    obtain ⟨u5, q6, h⟩ := bd_t h
    refine iv_callIf (As := [.int (zi x1), .int (zi 5)]) (rest := []) ⟨hx, hb, hml, hown, hts⟩ (k_X8_of l E a H.size x1 5 u1.2 u5 q6) (cwV 2 hts gX8_goesTo_X8_of rfl rfl rfl (by decide +kernel) ⟨Nat.le_of_ble_eq_true rfl, Nat.le_of_ble_eq_true rfl⟩) hK hP hD hS hA 0 8 rfl rfl rfl hl.1 (Nat.le_of_ble_eq_true rfl) ⟨Nat.zero_le _, Nat.zero_le _⟩ dX8_goesTo_13 (fun H locs hP hD hS => ?_)
    obtain ⟨g7, h⟩ := gd_t h
    refine iv_eq (tgt := 22) hx hb g7 dX8_goesTo_16 (by decide) (fun c8 => ?_) (fun c8 => ?_)
    · have h := it_t c8 h
      refine lv_aload_n hx hb dX8_goesTo_22 rfl (lv_at hl 0 rfl) ?_
      refine lv_iload_n hx hb dX8_goesTo_23 rfl (lv_at hl 1 rfl) ?_
      obtain ⟨u9, q10, h⟩ := bd_t h
      refine iv_callIf (As := [.int (zi x1)]) (rest := []) ⟨hx, hb, hml, hown, hts⟩ (k_X8_placeFor l E a H.size x1 u5.2 u9 q10) (cwV 1 hts gX8_goesTo_X8_placeFor rfl rfl rfl (by decide +kernel) ⟨Nat.le_of_ble_eq_true rfl, Nat.le_of_ble_eq_true rfl⟩) hK hP hD hS hA 0 8 rfl rfl rfl hl.1 (Nat.le_of_ble_eq_true rfl) ⟨Nat.zero_le _, Nat.zero_le _⟩ dX8_goesTo_24 (fun H locs hP hD hS => ?_)
      refine lv_istore_n (lv' := [(2, .int (zi u9.1)), (0, .ref (a 0)), (1, .int (zi x1))]) hx hb dX8_goesTo_27 rfl hl (by decide) rfl (fun ls hl => ?_)
      refine lv_iload_n hx hb dX8_goesTo_28 rfl (lv_at hl 0 rfl) ?_
      refine iv_iconst hx hb dX8_goesTo_29 ?_
      obtain ⟨g11, h⟩ := gd_t h
      refine iv_ine (tgt := 55) hx hb g11 (by decide +kernel) dX8_goesTo_30 (by decide) (fun c12 => ?_) (fun c12 => ?_)
      · have h := it_f c12 h
        refine lv_iload_n hx hb dX8_goesTo_55 rfl (lv_at hl 0 rfl) ?_
        refine iv_iconst hx hb dX8_goesTo_56 ?_
        refine iv_ine (tgt := 83) hx hb g11 (by decide +kernel) dX8_goesTo_57 (by decide) (fun c13 => ?_) (fun c13 => ?_)
        · have h := it_f c13 h
          refine lv_iload_n hx hb dX8_goesTo_83 rfl (lv_at hl 0 rfl) ?_
          cases h
          exact iv_iret hx hb hr hlocks hK hP hD hS dX8_goesTo_84
        · have h := it_t c13 h
          refine lv_aload_n hx hb dX8_goesTo_60 rfl (lv_at hl 1 rfl) ?_
          refine lv_aload_n hx hb dX8_goesTo_61 rfl (lv_at hl 1 rfl) ?_
          refine lv_iload_n hx hb dX8_goesTo_62 rfl (lv_at hl 2 rfl) ?_
          obtain ⟨u14, q15, h⟩ := bd_t h
          refine iv_callIf (As := [.int (zi x1)]) (rest := [.ref (a 0)]) ⟨hx, hb, hml, hown, hts⟩ (k_X8_binOf l E a H.size x1 u9.2 u14 q15) (cwV 1 hts gX8_goesTo_X8_binOf rfl rfl rfl (by decide +kernel) ⟨Nat.le_of_ble_eq_true rfl, Nat.le_of_ble_eq_true rfl⟩) hK hP hD hS hA 0 8 rfl rfl rfl hl.1 (Nat.le_of_ble_eq_true rfl) ⟨Nat.zero_le _, Nat.zero_le _⟩ dX8_goesTo_63 (fun H locs hP hD hS => ?_)
          obtain ⟨u16, q17, h⟩ := bd_t h
          refine iv_callIf (As := [.int (zi u14.1)]) (rest := []) ⟨hx, hb, hml, hown, hts⟩ (k_X8_manyIn l E a H.size N u14.1 u14.2 u16 q17) (cwV 1 hts gX8_goesTo_X8_manyIn rfl rfl rfl (by decide +kernel) ⟨Nat.le_of_ble_eq_true rfl, Nat.le_of_ble_eq_true rfl⟩) hK hP hD hS hA 0 8 rfl rfl rfl hl.1 (Nat.le_of_ble_eq_true rfl) ⟨Nat.zero_le _, Nat.zero_le _⟩ dX8_goesTo_66 (fun H locs hP hD hS => ?_)
          refine lv_aload_n hx hb dX8_goesTo_69 rfl (lv_at hl 1 rfl) ?_
          refine va_get (D := E.1) (ci := 8) (v := .ref (a 1)) (C := RX8) (T := TX8) (N := 13) hx hb hts in_X8_goesTo_X8 hown hK.1 hP 0 rfl rfl 0 (by decide) (hts _ wd_X8_goesTo_f7) (fun _ h9 => h9) rfl dX8_goesTo_70 ?_
          refine iv_bipush hx hb dX8_goesTo_73 (by decide +kernel) ?_
          refine iv_iald (f := u16.2.1) (j := 6) hx hb hK.1 hP 1 0 rfl rfl (by decide) (by decide +kernel) rfl dX8_goesTo_75 ?_
          obtain ⟨g18, h⟩ := gd_t h
          obtain ⟨g19, h⟩ := gd_t h
          refine iv_ilt (tgt := 83) hx hb g18 g19 dX8_goesTo_76 (by decide) (fun c20 => ?_) (fun c20 => ?_)
          · have h := it_t c20 h
            refine lv_iload_n hx hb dX8_goesTo_83 rfl (lv_at hl 0 rfl) ?_
            cases h
            exact iv_iret hx hb hr hlocks hK hP hD hS dX8_goesTo_84
          · have h := it_f c20 h
            refine iv_iconst hx hb dX8_goesTo_79 ?_
            refine lv_goto (tgt := 84) hx hb dX8_goesTo_80 (by decide) ?_
            cases h
            exact iv_iret hx hb hr hlocks hK hP hD hS dX8_goesTo_84
      · have h := it_t c12 h
        refine lv_aload_n hx hb dX8_goesTo_33 rfl (lv_at hl 1 rfl) ?_
        refine iv_iconst hx hb dX8_goesTo_34 ?_
        obtain ⟨u21, q22, h⟩ := bd_t h
        refine iv_callIf (As := [.int (zi 2)]) (rest := []) ⟨hx, hb, hml, hown, hts⟩ (k_X8_at l E a H.size N 2 u9.2 u21 q22) (cwV 1 hts gX8_goesTo_X8_at rfl rfl rfl (by decide +kernel) ⟨Nat.le_of_ble_eq_true rfl, Nat.le_of_ble_eq_true rfl⟩) hK hP hD hS hA 0 8 rfl rfl rfl hl.1 (Nat.le_of_ble_eq_true rfl) ⟨Nat.zero_le _, Nat.zero_le _⟩ dX8_goesTo_35 (fun H locs hP hD hS => ?_)
        refine iv_iconst hx hb dX8_goesTo_38 ?_
        refine iv_iadd hx hb dX8_goesTo_39 ?_
        refine lv_aload_n hx hb dX8_goesTo_40 rfl (lv_at hl 1 rfl) ?_
        refine va_get (D := E.1) (ci := 8) (v := .ref (a 1)) (C := RX8) (T := TX8) (N := 13) hx hb hts in_X8_goesTo_X8 hown hK.1 hP 0 rfl rfl 0 (by decide) (hts _ wd_X8_goesTo_f7) (fun _ h9 => h9) rfl dX8_goesTo_41 ?_
        refine iv_iconst hx hb dX8_goesTo_44 ?_
        refine iv_iald (f := u21.2.1) (j := 5) hx hb hK.1 hP 1 0 rfl rfl (by decide) (by decide +kernel) rfl dX8_goesTo_45 ?_
        obtain ⟨g23, h⟩ := gd_t h
        obtain ⟨g24, h⟩ := gd_t h
        refine iv_ilt (tgt := 53) hx hb g23 g24 dX8_goesTo_46 (by decide) (fun c25 => ?_) (fun c25 => ?_)
        · have h := it_t c25 h
          refine iv_iconst hx hb dX8_goesTo_53 ?_
          cases h
          exact iv_iret hx hb hr hlocks hK hP hD hS dX8_goesTo_54
        · have h := it_f c25 h
          refine iv_iconst hx hb dX8_goesTo_49 ?_
          refine lv_goto (tgt := 54) hx hb dX8_goesTo_50 (by decide) ?_
          cases h
          exact iv_iret hx hb hr hlocks hK hP hD hS dX8_goesTo_54
    · have h := it_f c8 h
      refine iv_bipush hx hb dX8_goesTo_19 (by decide +kernel) ?_
      cases h
      exact iv_iret hx hb hr hlocks hK hP hD hS dX8_goesTo_21
  · have h := it_t c4 h
    refine iv_iconst hx hb dX8_goesTo_8 ?_
    cases h
    exact iv_iret hx hb hr hlocks hK hP hD hS dX8_goesTo_9
set_option maxHeartbeats 4000000 in
set_option maxRecDepth 100000 in
theorem k_X8_reason (l : Launch) (E : wE) (a : Nat → Nat) (sz : Nat) (N : Nat) (x1 x2 : Int) (z : bM) (u : (Int × bM)) (hf : f_X8_reason N x1 x2 z = some u) : cI l yX8_reason wsX8_reason { frames := 5, cells := 0, slots := 0, locals := 112 } E sz [.ref (a 0), .int (zi x1), .int (zi x2)] (wM a E z) (wM a E u.2) u.1 := by
  refine met_go (cc := cX8_reason) (maxL := 3) (ret := (some .int)) (Q0 := mQi E (wM a E u.2) u.1) (by decide +kernel) rfl (Nat.le_of_ble_eq_true rfl) ?_
  intro A p e s m below meth c hx hb hr hml hts hown hlocks hP hK hD hA hS ls hl
  have hl : lv_has ls 3 [(0, .ref (a 0)), (1, .int (zi x1)), (2, .int (zi x2))] := hl
  generalize hH : s.heap = H at hP
  have hS : va_S A s.heap H [] := by rw [← hH]; exact hS
  have hown : s.vm.findClass RX8 = some m.cls := hown
  have h := hf
  rw [f_X8_reason] at h
  refine lv_iload_n hx hb dX8_reason_0 rfl (lv_at hl 1 rfl) ?_
  obtain ⟨u1, q2, h⟩ := bd_t h
  refine iv_callS (As := [.int (zi x1)]) (rest := []) ⟨hx, hb, hml, hown, hts⟩ (k_X8_isBin l E H.size x1 u1 q2) (va_cwS 1 hts gX8_reason_X8_isBin rfl rfl rfl (by decide +kernel) ⟨Nat.le_of_ble_eq_true rfl, Nat.le_of_ble_eq_true rfl⟩) hK hP hS hA rfl hl.1 (Nat.le_of_ble_eq_true rfl) ⟨Nat.zero_le _, Nat.zero_le _⟩ dX8_reason_1 (fun H locs hP hS => ?_)
  obtain ⟨g3, h⟩ := gd_t h
  refine iv_ne (tgt := 9) hx hb g3 dX8_reason_4 (by decide) (fun c4 => ?_) (fun c4 => ?_)
  · have h := it_f c4 h
    refine lv_iload_n hx hb dX8_reason_9 rfl (lv_at hl 2 rfl) ?_
    refine iv_iconst hx hb dX8_reason_10 ?_
    refine iv_bipush hx hb dX8_reason_11 (by decide +kernel) ?_
    obtain ⟨u5, q6, h⟩ := bd_t h
    refine iv_callS (As := [.int (zi x2), .int (zi 1), .int (zi 9)]) (rest := []) ⟨hx, hb, hml, hown, hts⟩ (k_X8_in l E H.size x2 1 9 u5 q6) (va_cwS 3 hts gX8_reason_X8_in rfl rfl rfl (by decide +kernel) ⟨Nat.le_of_ble_eq_true rfl, Nat.le_of_ble_eq_true rfl⟩) hK hP hS hA rfl hl.1 (Nat.le_of_ble_eq_true rfl) ⟨Nat.zero_le _, Nat.zero_le _⟩ dX8_reason_13 (fun H locs hP hS => ?_)
    obtain ⟨g7, h⟩ := gd_t h
    refine iv_eq (tgt := 28) hx hb g7 dX8_reason_16 (by decide) (fun c8 => ?_) (fun c8 => ?_)
    · have h := it_t c8 h
      refine iv_bipush hx hb dX8_reason_28 (by decide +kernel) ?_
      cases h
      exact iv_iret hx hb hr hlocks hK hP hD hS dX8_reason_30
    · have h := it_f c8 h
      refine lv_aload_n hx hb dX8_reason_19 rfl (lv_at hl 0 rfl) ?_
      refine lv_iload_n hx hb dX8_reason_20 rfl (lv_at hl 1 rfl) ?_
      refine lv_iload_n hx hb dX8_reason_21 rfl (lv_at hl 2 rfl) ?_
      obtain ⟨u9, q10, h⟩ := bd_t h
      refine iv_callIf (As := [.int (zi x1), .int (zi x2)]) (rest := []) ⟨hx, hb, hml, hown, hts⟩ (k_X8_reasonFor l E a H.size N x1 x2 z u9 q10) (cwV 2 hts gX8_reason_X8_reasonFor rfl rfl rfl (by decide +kernel) ⟨Nat.le_of_ble_eq_true rfl, Nat.le_of_ble_eq_true rfl⟩) hK hP hD hS hA 0 8 rfl rfl rfl hl.1 (Nat.le_of_ble_eq_true rfl) ⟨Nat.zero_le _, Nat.zero_le _⟩ dX8_reason_22 (fun H locs hP hD hS => ?_)
      refine lv_goto (tgt := 30) hx hb dX8_reason_25 (by decide) ?_
      cases h
      exact iv_iret hx hb hr hlocks hK hP hD hS dX8_reason_30
  · have h := it_t c4 h
    refine iv_iconst hx hb dX8_reason_7 ?_
    cases h
    exact iv_iret hx hb hr hlocks hK hP hD hS dX8_reason_8
set_option maxRecDepth 20000 in
theorem wd_X8_leastSpread_f93 : Cond.fieldLink RX8 93 "ShirtButtonsModel" "lineMany" "I" ∈ wsX8_leastSpread := by decide +kernel
set_option maxRecDepth 20000 in
theorem in_X8_leastSpread_X8 : ∀ w ∈ u_ws RX8 TX8 13, w ∈ wsX8_leastSpread := by decide +kernel
set_option maxHeartbeats 4000000 in
set_option maxRecDepth 100000 in
theorem k_X8_leastSpread (l : Launch) (E : wE) (a : Nat → Nat) (sz : Nat) (N : Nat) (x1 x2 : Int) (z : bM) (u : (Int × bM)) (hf : f_X8_leastSpread N x1 x2 z = some u) : cI l yX8_leastSpread wsX8_leastSpread { frames := 3, cells := 0, slots := 0, locals := 67 } E sz [.ref (a 0), .int (zi x1), .int (zi x2)] (wM a E z) (wM a E u.2) u.1 := by
  refine met_go (cc := cX8_leastSpread) (maxL := 5) (ret := (some .int)) (Q0 := mQi E (wM a E u.2) u.1) (by decide +kernel) rfl (Nat.le_of_ble_eq_true rfl) ?_
  intro A p e s m below meth c hx hb hr hml hts hown hlocks hP hK hD hA hS ls hl
  have hl : lv_has ls 5 [(0, .ref (a 0)), (1, .int (zi x1)), (2, .int (zi x2))] := hl
  generalize hH : s.heap = H at hP
  have hS : va_S A s.heap H [] := by rw [← hH]; exact hS
  have hown : s.vm.findClass RX8 = some m.cls := hown
  have loop33 : ∀ (n : Nat) (v11 v12 v13 v14 : Int) (s15 : bM) (H : Heap) (locs : List Loc) (ls : Array Slot), f_X8_leastSpread_L33 N n v11 v12 v13 v14 s15 = some u → va_P E.1 vwCl (wM a E s15) H → va_D A (wM a E s15) → va_S A s.heap H locs → lv_has ls 5 [(0, .ref (a 0)), (1, .int (zi v11)), (2, .int (zi v12)), (3, .int (zi v13)), (4, .int (zi v14))] → W p l e ({ frames := 3, cells := 0, slots := 0, locals := 67 }) s m ([.ref (a 0), .int (zi x1), .int (zi x2)] : List Value).toArray below meth c H locs 0 0 (MQ below (mQi E (wM a E u.2) u.1 A) ([.ref (a 0), .int (zi x1), .int (zi x2)] : List Value).toArray s 0 0 A) (F0 m 33 ls []) := by
    intro n
    induction n with
    | zero =>
      intro v11 v12 v13 v14 s15 H locs ls h
      exact absurd (show (none : Option (Int × bM)) = some u from h) (by simp)
    | succ n ih =>
      intro v11 v12 v13 v14 s15 H locs ls h hP hD hS hl
      rw [f_X8_leastSpread_L33] at h
      refine lv_iload hx hb dX8_leastSpread_33 (lv_at hl 4 rfl) ?_
      refine lv_iload_n hx hb dX8_leastSpread_35 rfl (lv_at hl 2 rfl) ?_
      refine iv_iadd hx hb dX8_leastSpread_36 ?_
      refine lv_aload_n hx hb dX8_leastSpread_37 rfl (lv_at hl 0 rfl) ?_
      refine va_get (D := E.1) (ci := 8) (v := .int (zi s15.2.2.2.2.2.2.2.1)) (C := RX8) (T := TX8) (N := 13) hx hb hts in_X8_leastSpread_X8 hown hK.1 hP 0 rfl rfl 7 (by decide) (hts _ wd_X8_leastSpread_f93) (fun _ h9 => h9) rfl dX8_leastSpread_38 ?_
      obtain ⟨g16, h⟩ := gd_t h
      obtain ⟨g17, h⟩ := gd_t h
      refine iv_igt (tgt := 79) hx hb g16 g17 dX8_leastSpread_41 (by decide) (fun c18 => ?_) (fun c18 => ?_)
      · have h := it_t c18 h
        refine lv_iload_n hx hb dX8_leastSpread_79 rfl (lv_at hl 3 rfl) ?_
        cases h
        exact iv_iret hx hb hr hlocks hK hP hD hS dX8_leastSpread_80
      · have h := it_f c18 h
        refine lv_iload_n hx hb dX8_leastSpread_44 rfl (lv_at hl 3 rfl) ?_
        refine iv_bipush hx hb dX8_leastSpread_45 (by decide +kernel) ?_
        obtain ⟨g19, h⟩ := gd_t h
        refine iv_ieq (tgt := 61) hx hb g19 (by decide +kernel) dX8_leastSpread_47 (by decide) (fun c20 => ?_) (fun c20 => ?_)
        · have h := it_t c20 h
          refine lv_aload_n hx hb dX8_leastSpread_61 rfl (lv_at hl 0 rfl) ?_
          refine lv_iload hx hb dX8_leastSpread_62 (lv_at hl 4 rfl) ?_
          refine lv_iload_n hx hb dX8_leastSpread_64 rfl (lv_at hl 2 rfl) ?_
          obtain ⟨u21, q22, h⟩ := bd_t h
          refine iv_callIf (As := [.int (zi v14), .int (zi v12)]) (rest := []) ⟨hx, hb, hml, hown, hts⟩ (k_X8_spread l E a H.size v14 v12 s15 u21 q22) (cwV 2 hts gX8_leastSpread_X8_spread rfl rfl rfl (by decide +kernel) ⟨Nat.le_of_ble_eq_true rfl, Nat.le_of_ble_eq_true rfl⟩) hK hP hD hS hA 0 8 rfl rfl rfl hl.1 (Nat.le_of_ble_eq_true rfl) ⟨Nat.zero_le _, Nat.zero_le _⟩ dX8_leastSpread_65 (fun H locs hP hD hS => ?_)
          refine lv_goto (tgt := 72) hx hb dX8_leastSpread_68 (by decide) ?_
          refine lv_istore_n (lv' := [(3, .int (zi u21.1)), (0, .ref (a 0)), (1, .int (zi v11)), (2, .int (zi v12)), (4, .int (zi v14))]) hx hb dX8_leastSpread_72 rfl hl (by decide) rfl (fun ls hl => ?_)
          refine lv_iinc (v := zi (v14 + 1)) (lv' := [(4, .int (zi (v14 + 1))), (3, .int (zi u21.1)), (0, .ref (a 0)), (1, .int (zi v11)), (2, .int (zi v12))]) hx hb dX8_leastSpread_73 hl (k := 4) rfl (by rw [zi_add]; rfl) (by decide) rfl (fun ls hl => ?_)
          refine lv_goto (tgt := 33) hx hb dX8_leastSpread_76 (by decide) ?_
          exact ih v11 v12 u21.1 (v14 + 1) u21.2 _ _ _ h hP hD hS (lv_sub hl [2, 3, 4, 1, 0] rfl)
        · have h := it_f c20 h
          refine lv_aload_n hx hb dX8_leastSpread_50 rfl (lv_at hl 0 rfl) ?_
          refine lv_iload hx hb dX8_leastSpread_51 (lv_at hl 4 rfl) ?_
          refine lv_iload_n hx hb dX8_leastSpread_53 rfl (lv_at hl 2 rfl) ?_
          obtain ⟨u23, q24, h⟩ := bd_t h
          refine iv_callIf (As := [.int (zi v14), .int (zi v12)]) (rest := []) ⟨hx, hb, hml, hown, hts⟩ (k_X8_spread l E a H.size v14 v12 s15 u23 q24) (cwV 2 hts gX8_leastSpread_X8_spread rfl rfl rfl (by decide +kernel) ⟨Nat.le_of_ble_eq_true rfl, Nat.le_of_ble_eq_true rfl⟩) hK hP hD hS hA 0 8 rfl rfl rfl hl.1 (Nat.le_of_ble_eq_true rfl) ⟨Nat.zero_le _, Nat.zero_le _⟩ dX8_leastSpread_54 (fun H locs hP hD hS => ?_)
          refine lv_iload_n hx hb dX8_leastSpread_57 rfl (lv_at hl 3 rfl) ?_
          obtain ⟨g25, h⟩ := gd_t h
          refine iv_ige (tgt := 71) hx hb g25 g19 dX8_leastSpread_58 (by decide) (fun c26 => ?_) (fun c26 => ?_)
          · have h := it_t c26 h
            refine lv_iload_n hx hb dX8_leastSpread_71 rfl (lv_at hl 3 rfl) ?_
            refine lv_istore_n (lv' := [(3, .int (zi v13)), (0, .ref (a 0)), (1, .int (zi v11)), (2, .int (zi v12)), (4, .int (zi v14))]) hx hb dX8_leastSpread_72 rfl hl (by decide) rfl (fun ls hl => ?_)
            refine lv_iinc (v := zi (v14 + 1)) (lv' := [(4, .int (zi (v14 + 1))), (3, .int (zi v13)), (0, .ref (a 0)), (1, .int (zi v11)), (2, .int (zi v12))]) hx hb dX8_leastSpread_73 hl (k := 4) rfl (by rw [zi_add]; rfl) (by decide) rfl (fun ls hl => ?_)
            refine lv_goto (tgt := 33) hx hb dX8_leastSpread_76 (by decide) ?_
            exact ih v11 v12 v13 (v14 + 1) u23.2 _ _ _ h hP hD hS (lv_sub hl [2, 3, 4, 1, 0] rfl)
          · have h := it_f c26 h
            refine lv_aload_n hx hb dX8_leastSpread_61 rfl (lv_at hl 0 rfl) ?_
            refine lv_iload hx hb dX8_leastSpread_62 (lv_at hl 4 rfl) ?_
            refine lv_iload_n hx hb dX8_leastSpread_64 rfl (lv_at hl 2 rfl) ?_
            obtain ⟨u27, q28, h⟩ := bd_t h
            refine iv_callIf (As := [.int (zi v14), .int (zi v12)]) (rest := []) ⟨hx, hb, hml, hown, hts⟩ (k_X8_spread l E a H.size v14 v12 u23.2 u27 q28) (cwV 2 hts gX8_leastSpread_X8_spread rfl rfl rfl (by decide +kernel) ⟨Nat.le_of_ble_eq_true rfl, Nat.le_of_ble_eq_true rfl⟩) hK hP hD hS hA 0 8 rfl rfl rfl hl.1 (Nat.le_of_ble_eq_true rfl) ⟨Nat.zero_le _, Nat.zero_le _⟩ dX8_leastSpread_65 (fun H locs hP hD hS => ?_)
            refine lv_goto (tgt := 72) hx hb dX8_leastSpread_68 (by decide) ?_
            refine lv_istore_n (lv' := [(3, .int (zi u27.1)), (0, .ref (a 0)), (1, .int (zi v11)), (2, .int (zi v12)), (4, .int (zi v14))]) hx hb dX8_leastSpread_72 rfl hl (by decide) rfl (fun ls hl => ?_)
            refine lv_iinc (v := zi (v14 + 1)) (lv' := [(4, .int (zi (v14 + 1))), (3, .int (zi u27.1)), (0, .ref (a 0)), (1, .int (zi v11)), (2, .int (zi v12))]) hx hb dX8_leastSpread_73 hl (k := 4) rfl (by rw [zi_add]; rfl) (by decide) rfl (fun ls hl => ?_)
            refine lv_goto (tgt := 33) hx hb dX8_leastSpread_76 (by decide) ?_
            exact ih v11 v12 u27.1 (v14 + 1) u27.2 _ _ _ h hP hD hS (lv_sub hl [2, 3, 4, 1, 0] rfl)
  have h := hf
  rw [f_X8_leastSpread] at h
  refine lv_iload_n hx hb dX8_leastSpread_0 rfl (lv_at hl 1 rfl) ?_
  obtain ⟨u1, q2, h⟩ := bd_t h
  refine iv_callS (As := [.int (zi x1)]) (rest := []) ⟨hx, hb, hml, hown, hts⟩ (k_X8_isBin l E H.size x1 u1 q2) (va_cwS 1 hts gX8_leastSpread_X8_isBin rfl rfl rfl (by decide +kernel) ⟨Nat.le_of_ble_eq_true rfl, Nat.le_of_ble_eq_true rfl⟩) hK hP hS hA rfl hl.1 (Nat.le_of_ble_eq_true rfl) ⟨Nat.zero_le _, Nat.zero_le _⟩ dX8_leastSpread_1 (fun H locs hP hS => ?_)
  obtain ⟨g3, h⟩ := gd_t h
  refine iv_ne (tgt := 9) hx hb g3 dX8_leastSpread_4 (by decide) (fun c4 => ?_) (fun c4 => ?_)
  · have h := it_f c4 h
    refine lv_iload_n hx hb dX8_leastSpread_9 rfl (lv_at hl 2 rfl) ?_
    refine iv_iconst hx hb dX8_leastSpread_10 ?_
    refine iv_bipush hx hb dX8_leastSpread_11 (by decide +kernel) ?_
    obtain ⟨u5, q6, h⟩ := bd_t h
    refine iv_callS (As := [.int (zi x2), .int (zi 1), .int (zi 9)]) (rest := []) ⟨hx, hb, hml, hown, hts⟩ (k_X8_in l E H.size x2 1 9 u5 q6) (va_cwS 3 hts gX8_leastSpread_X8_in rfl rfl rfl (by decide +kernel) ⟨Nat.le_of_ble_eq_true rfl, Nat.le_of_ble_eq_true rfl⟩) hK hP hS hA rfl hl.1 (Nat.le_of_ble_eq_true rfl) ⟨Nat.zero_le _, Nat.zero_le _⟩ dX8_leastSpread_13 (fun H locs hP hS => ?_)
    obtain ⟨g7, h⟩ := gd_t h
    refine iv_ne (tgt := 22) hx hb g7 dX8_leastSpread_16 (by decide) (fun c8 => ?_) (fun c8 => ?_)
    · have h := it_f c8 h
      refine lv_aload_n hx hb dX8_leastSpread_22 rfl (lv_at hl 0 rfl) ?_
      refine lv_iload_n hx hb dX8_leastSpread_23 rfl (lv_at hl 1 rfl) ?_
      obtain ⟨u9, q10, h⟩ := bd_t h
      refine iv_callVf (As := [.int (zi x1)]) (rest := []) ⟨hx, hb, hml, hown, hts⟩ (k_X8_order l E a H.size N x1 z u9 q10) (cwV 1 hts gX8_leastSpread_X8_order rfl rfl rfl (by decide +kernel) ⟨Nat.le_of_ble_eq_true rfl, Nat.le_of_ble_eq_true rfl⟩) hK hP hD hS hA 0 8 rfl rfl rfl hl.1 (Nat.le_of_ble_eq_true rfl) ⟨Nat.zero_le _, Nat.zero_le _⟩ dX8_leastSpread_24 (fun H locs hP hD hS => ?_)
      refine iv_bipush hx hb dX8_leastSpread_27 (by decide +kernel) ?_
      refine lv_istore_n (lv' := [(3, .int (zi (-5))), (0, .ref (a 0)), (1, .int (zi x1)), (2, .int (zi x2))]) hx hb dX8_leastSpread_29 rfl hl (by decide) rfl (fun ls hl => ?_)
      refine iv_iconst hx hb dX8_leastSpread_30 ?_
      refine lv_istore (lv' := [(4, .int (zi 0)), (3, .int (zi (-5))), (0, .ref (a 0)), (1, .int (zi x1)), (2, .int (zi x2))]) hx hb dX8_leastSpread_31 hl (by decide) rfl (fun ls hl => ?_)
      exact loop33 N x1 x2 (-5) 0 u9 _ _ _ h hP hD hS (lv_sub hl [2, 3, 4, 1, 0] rfl)
    · have h := it_t c8 h
      refine iv_bipush hx hb dX8_leastSpread_19 (by decide +kernel) ?_
      cases h
      exact iv_iret hx hb hr hlocks hK hP hD hS dX8_leastSpread_21
  · have h := it_t c4 h
    refine iv_iconst hx hb dX8_leastSpread_7 ?_
    cases h
    exact iv_iret hx hb hr hlocks hK hP hD hS dX8_leastSpread_8
set_option maxRecDepth 20000 in
theorem wd_X8_shirts_f7 : Cond.fieldLink RX8 7 "ShirtButtonsModel" "row" "[I" ∈ wsX8_shirts := by decide +kernel
set_option maxRecDepth 20000 in
theorem in_X8_shirts_X8 : ∀ w ∈ u_ws RX8 TX8 13, w ∈ wsX8_shirts := by decide +kernel
set_option maxRecDepth 20000 in
theorem wd_X8_shirts_f19 : Cond.fieldLink RX8 19 "ShirtButtonsModel" "aside" "[I" ∈ wsX8_shirts := by decide +kernel
set_option maxHeartbeats 4000000 in
set_option maxRecDepth 100000 in
theorem k_X8_shirts (l : Launch) (E : wE) (a : Nat → Nat) (sz : Nat) (N : Nat) (x1 : Int) (z : bM) (u : (Int × bM)) (hf : f_X8_shirts N x1 z = some u) : cI l yX8_shirts wsX8_shirts { frames := 5, cells := 0, slots := 0, locals := 115 } E sz [.ref (a 0), .int (zi x1)] (wM a E z) (wM a E u.2) u.1 := by
  refine met_go (cc := cX8_shirts) (maxL := 4) (ret := (some .int)) (Q0 := mQi E (wM a E u.2) u.1) (by decide +kernel) rfl (Nat.le_of_ble_eq_true rfl) ?_
  intro A p e s m below meth c hx hb hr hml hts hown hlocks hP hK hD hA hS ls hl
  have hl : lv_has ls 4 [(0, .ref (a 0)), (1, .int (zi x1))] := hl
  generalize hH : s.heap = H at hP
  have hS : va_S A s.heap H [] := by rw [← hH]; exact hS
  have hown : s.vm.findClass RX8 = some m.cls := hown
  have loop25 : ∀ (kt : Int → Int → bM → Option (Int × bM)) (n : Nat), (∀ (v16 v17 : Int) (s18 : bM) (H : Heap) (locs : List Loc) (ls : Array Slot), kt v16 v17 s18 = some u → va_P E.1 vwCl (wM a E s18) H → va_D A (wM a E s18) → va_S A s.heap H locs → lv_has ls 4 [(0, .ref (a 0)), (1, .int (zi v16)), (2, .int (zi v17))] → W p l e ({ frames := 5, cells := 0, slots := 0, locals := 115 }) s m ([.ref (a 0), .int (zi x1)] : List Value).toArray below meth c H locs 0 0 (MQ below (mQi E (wM a E u.2) u.1 A) ([.ref (a 0), .int (zi x1)] : List Value).toArray s 0 0 A) (F0 m 46 ls [])) → ∀ (v16 v17 : Int) (s18 : bM) (H : Heap) (locs : List Loc) (ls : Array Slot), f_X8_shirts_L25 N kt n v16 v17 s18 = some u → va_P E.1 vwCl (wM a E s18) H → va_D A (wM a E s18) → va_S A s.heap H locs → lv_has ls 4 [(0, .ref (a 0)), (1, .int (zi v16)), (2, .int (zi v17))] → W p l e ({ frames := 5, cells := 0, slots := 0, locals := 115 }) s m ([.ref (a 0), .int (zi x1)] : List Value).toArray below meth c H locs 0 0 (MQ below (mQi E (wM a E u.2) u.1 A) ([.ref (a 0), .int (zi x1)] : List Value).toArray s 0 0 A) (F0 m 25 ls []) := by
    intro kt n hk
    induction n with
    | zero =>
      intro v16 v17 s18 H locs ls h
      exact absurd (show (none : Option (Int × bM)) = some u from h) (by simp)
    | succ n ih =>
      intro v16 v17 s18 H locs ls h hP hD hS hl
      rw [f_X8_shirts_L25] at h
      refine lv_aload_n hx hb dX8_shirts_25 rfl (lv_at hl 0 rfl) ?_
      refine lv_iload_n hx hb dX8_shirts_26 rfl (lv_at hl 2 rfl) ?_
      refine lv_iload_n hx hb dX8_shirts_27 rfl (lv_at hl 1 rfl) ?_
      obtain ⟨u19, q20, h⟩ := bd_t h
      refine iv_callIf (As := [.int (zi v17), .int (zi v16)]) (rest := []) ⟨hx, hb, hml, hown, hts⟩ (k_X8_firstAlike l E a H.size N v17 v16 s18 u19 q20) (cwV 2 hts gX8_shirts_X8_firstAlike rfl rfl rfl (by decide +kernel) ⟨Nat.le_of_ble_eq_true rfl, Nat.le_of_ble_eq_true rfl⟩) hK hP hD hS hA 0 8 rfl rfl rfl hl.1 (Nat.le_of_ble_eq_true rfl) ⟨Nat.zero_le _, Nat.zero_le _⟩ dX8_shirts_28 (fun H locs hP hD hS => ?_)
      refine iv_bipush hx hb dX8_shirts_31 (by decide +kernel) ?_
      obtain ⟨g21, h⟩ := gd_t h
      refine iv_ieq (tgt := 46) hx hb g21 (by decide +kernel) dX8_shirts_33 (by decide) (fun c22 => ?_) (fun c22 => ?_)
      · have h := it_t c22 h
        exact hk v16 v17 u19.2 _ _ _ h hP hD hS (lv_sub hl [0, 1, 2] rfl)
      · have h := it_f c22 h
        refine lv_aload_n hx hb dX8_shirts_36 rfl (lv_at hl 0 rfl) ?_
        refine lv_iload_n hx hb dX8_shirts_37 rfl (lv_at hl 2 rfl) ?_
        refine lv_iload_n hx hb dX8_shirts_38 rfl (lv_at hl 1 rfl) ?_
        obtain ⟨u23, q24, h⟩ := bd_t h
        refine iv_callIf (As := [.int (zi v17), .int (zi v16)]) (rest := []) ⟨hx, hb, hml, hown, hts⟩ (k_X8_shirtNow l E a H.size N v17 v16 u19.2 u23 q24) (cwV 2 hts gX8_shirts_X8_shirtNow rfl rfl rfl (by decide +kernel) ⟨Nat.le_of_ble_eq_true rfl, Nat.le_of_ble_eq_true rfl⟩) hK hP hD hS hA 0 8 rfl rfl rfl hl.1 (Nat.le_of_ble_eq_true rfl) ⟨Nat.zero_le _, Nat.zero_le _⟩ dX8_shirts_39 (fun H locs hP hD hS => ?_)
        refine lv_istore_n (lv' := [(3, .int (zi u23.1)), (0, .ref (a 0)), (1, .int (zi v16)), (2, .int (zi v17))]) hx hb dX8_shirts_42 rfl hl (by decide) rfl (fun ls hl => ?_)
        refine lv_goto (tgt := 25) hx hb dX8_shirts_43 (by decide) ?_
        exact ih v16 v17 u23.2 _ _ _ h hP hD hS (lv_sub hl [1, 2, 3] rfl)
  have loop19 : ∀ (n : Nat) (v7 v8 : Int) (s9 : bM) (H : Heap) (locs : List Loc) (ls : Array Slot), f_X8_shirts_L19 N n v7 v8 s9 = some u → va_P E.1 vwCl (wM a E s9) H → va_D A (wM a E s9) → va_S A s.heap H locs → lv_has ls 4 [(0, .ref (a 0)), (1, .int (zi v7)), (2, .int (zi v8))] → W p l e ({ frames := 5, cells := 0, slots := 0, locals := 115 }) s m ([.ref (a 0), .int (zi x1)] : List Value).toArray below meth c H locs 0 0 (MQ below (mQi E (wM a E u.2) u.1 A) ([.ref (a 0), .int (zi x1)] : List Value).toArray s 0 0 A) (F0 m 19 ls []) := by
    intro n
    induction n with
    | zero =>
      intro v7 v8 s9 H locs ls h
      exact absurd (show (none : Option (Int × bM)) = some u from h) (by simp)
    | succ n ih =>
      intro v7 v8 s9 H locs ls h hP hD hS hl
      rw [f_X8_shirts_L19] at h
      refine lv_iload_n hx hb dX8_shirts_19 rfl (lv_at hl 2 rfl) ?_
      refine iv_bipush hx hb dX8_shirts_20 (by decide +kernel) ?_
      obtain ⟨g10, h⟩ := gd_t h
      refine iv_ige (tgt := 52) hx hb g10 (by decide +kernel) dX8_shirts_22 (by decide) (fun c11 => ?_) (fun c11 => ?_)
      · have h := it_t c11 h
        refine lv_aload_n hx hb dX8_shirts_52 rfl (lv_at hl 0 rfl) ?_
        refine va_get (D := E.1) (ci := 8) (v := .ref (a 1)) (C := RX8) (T := TX8) (N := 13) hx hb hts in_X8_shirts_X8 hown hK.1 hP 0 rfl rfl 0 (by decide) (hts _ wd_X8_shirts_f7) (fun _ h9 => h9) rfl dX8_shirts_53 ?_
        refine iv_bipush hx hb dX8_shirts_56 (by decide +kernel) ?_
        refine iv_iald (f := s9.1) (j := 8) hx hb hK.1 hP 1 0 rfl rfl (by decide) (by decide +kernel) rfl dX8_shirts_58 ?_
        refine lv_aload_n hx hb dX8_shirts_59 rfl (lv_at hl 0 rfl) ?_
        refine va_get (D := E.1) (ci := 8) (v := .ref (a 4)) (C := RX8) (T := TX8) (N := 13) hx hb hts in_X8_shirts_X8 hown hK.1 hP 0 rfl rfl 5 (by decide) (hts _ wd_X8_shirts_f19) (fun _ h9 => h9) rfl dX8_shirts_60 ?_
        refine iv_bipush hx hb dX8_shirts_63 (by decide +kernel) ?_
        refine iv_iald (f := s9.2.2.2.2.2.1) (j := 8) hx hb hK.1 hP 4 0 rfl rfl (by decide) (by decide +kernel) rfl dX8_shirts_65 ?_
        refine iv_isub hx hb dX8_shirts_66 ?_
        obtain ⟨v12, e13, h⟩ := nm_t h
        refine iv_nm e13 ?_
        refine lv_istore_n (lv' := [(2, .int (zi v12)), (0, .ref (a 0)), (1, .int (zi v7))]) hx hb dX8_shirts_67 rfl hl (by decide) rfl (fun ls hl => ?_)
        refine lv_aload_n hx hb dX8_shirts_68 rfl (lv_at hl 1 rfl) ?_
        obtain ⟨u14, q15, h⟩ := bd_t h
        refine iv_callVf (As := []) (rest := []) ⟨hx, hb, hml, hown, hts⟩ (k_X8_putBack l E a H.size N  s9 u14 q15) (cwV 0 hts gX8_shirts_X8_putBack rfl rfl rfl (by decide +kernel) ⟨Nat.le_of_ble_eq_true rfl, Nat.le_of_ble_eq_true rfl⟩) hK hP hD hS hA 0 8 rfl rfl rfl hl.1 (Nat.le_of_ble_eq_true rfl) ⟨Nat.zero_le _, Nat.zero_le _⟩ dX8_shirts_69 (fun H locs hP hD hS => ?_)
        refine lv_iload_n hx hb dX8_shirts_72 rfl (lv_at hl 0 rfl) ?_
        cases h
        exact iv_iret hx hb hr hlocks hK hP hD hS dX8_shirts_73
      · have h := it_f c11 h
        refine loop25 (fun v25 v26 s27 => f_X8_shirts_L19 N n v25 (v26 + 1) s27) N (fun v25 v26 s27 H locs ls h hP hD hS hl => ?_) v7 v8 s9 _ _ _ h hP hD hS (lv_sub hl [0, 1, 2] rfl)
        refine lv_iinc (v := zi (v26 + 1)) (lv' := [(2, .int (zi (v26 + 1))), (0, .ref (a 0)), (1, .int (zi v25))]) hx hb dX8_shirts_46 hl (k := 2) rfl (by rw [zi_add]; rfl) (by decide) rfl (fun ls hl => ?_)
        refine lv_goto (tgt := 19) hx hb dX8_shirts_49 (by decide) ?_
        exact ih v25 (v26 + 1) s27 _ _ _ h hP hD hS (lv_sub hl [1, 2, 0] rfl)
  have h := hf
  rw [f_X8_shirts] at h
  refine lv_iload_n hx hb dX8_shirts_0 rfl (lv_at hl 1 rfl) ?_
  refine iv_iconst hx hb dX8_shirts_1 ?_
  refine iv_bipush hx hb dX8_shirts_2 (by decide +kernel) ?_
  obtain ⟨u1, q2, h⟩ := bd_t h
  refine iv_callS (As := [.int (zi x1), .int (zi 1), .int (zi 9)]) (rest := []) ⟨hx, hb, hml, hown, hts⟩ (k_X8_in l E H.size x1 1 9 u1 q2) (va_cwS 3 hts gX8_shirts_X8_in rfl rfl rfl (by decide +kernel) ⟨Nat.le_of_ble_eq_true rfl, Nat.le_of_ble_eq_true rfl⟩) hK hP hS hA rfl hl.1 (Nat.le_of_ble_eq_true rfl) ⟨Nat.zero_le _, Nat.zero_le _⟩ dX8_shirts_4 (fun H locs hP hS => ?_)
  obtain ⟨g3, h⟩ := gd_t h
  refine iv_ne (tgt := 13) hx hb g3 dX8_shirts_7 (by decide) (fun c4 => ?_) (fun c4 => ?_)
  · have h := it_f c4 h
    refine lv_aload_n hx hb dX8_shirts_13 rfl (lv_at hl 0 rfl) ?_
    obtain ⟨u5, q6, h⟩ := bd_t h
    refine iv_callVf (As := []) (rest := []) ⟨hx, hb, hml, hown, hts⟩ (k_X8_putAside l E a H.size N  z u5 q6) (cwV 0 hts gX8_shirts_X8_putAside rfl rfl rfl (by decide +kernel) ⟨Nat.le_of_ble_eq_true rfl, Nat.le_of_ble_eq_true rfl⟩) hK hP hD hS hA 0 8 rfl rfl rfl hl.1 (Nat.le_of_ble_eq_true rfl) ⟨Nat.zero_le _, Nat.zero_le _⟩ dX8_shirts_14 (fun H locs hP hD hS => ?_)
    refine iv_iconst hx hb dX8_shirts_17 ?_
    refine lv_istore_n (lv' := [(2, .int (zi 0)), (0, .ref (a 0)), (1, .int (zi x1))]) hx hb dX8_shirts_18 rfl hl (by decide) rfl (fun ls hl => ?_)
    exact loop19 N x1 0 u5 _ _ _ h hP hD hS (lv_sub hl [1, 2, 0] rfl)
  · have h := it_t c4 h
    refine iv_bipush hx hb dX8_shirts_10 (by decide +kernel) ?_
    cases h
    exact iv_iret hx hb hr hlocks hK hP hD hS dX8_shirts_12
set_option maxRecDepth 20000 in
theorem wd_X8_ifMesh_f7 : Cond.fieldLink RX8 7 "ShirtButtonsModel" "row" "[I" ∈ wsX8_ifMesh := by decide +kernel
set_option maxRecDepth 20000 in
theorem in_X8_ifMesh_X8 : ∀ w ∈ u_ws RX8 TX8 13, w ∈ wsX8_ifMesh := by decide +kernel
set_option maxHeartbeats 4000000 in
set_option maxRecDepth 100000 in
theorem k_X8_ifMesh (l : Launch) (E : wE) (a : Nat → Nat) (sz : Nat) (N : Nat) (x1 x2 x3 : Int) (z : bM) (u : (Int × bM)) (hf : f_X8_ifMesh N x1 x2 x3 z = some u) : cI l yX8_ifMesh wsX8_ifMesh { frames := 4, cells := 0, slots := 0, locals := 90 } E sz [.ref (a 0), .int (zi x1), .int (zi x2), .int (zi x3)] (wM a E z) (wM a E u.2) u.1 := by
  refine met_go (cc := cX8_ifMesh) (maxL := 5) (ret := (some .int)) (Q0 := mQi E (wM a E u.2) u.1) (by decide +kernel) rfl (Nat.le_of_ble_eq_true rfl) ?_
  intro A p e s m below meth c hx hb hr hml hts hown hlocks hP hK hD hA hS ls hl
  have hl : lv_has ls 5 [(0, .ref (a 0)), (1, .int (zi x1)), (2, .int (zi x2)), (3, .int (zi x3))] := hl
  generalize hH : s.heap = H at hP
  have hS : va_S A s.heap H [] := by rw [← hH]; exact hS
  have hown : s.vm.findClass RX8 = some m.cls := hown
  have loop66 : ∀ (n : Nat) (v24 v25 v26 v27 : Int) (s28 : bM) (H : Heap) (locs : List Loc) (ls : Array Slot), f_X8_ifMesh_L66 N n v24 v25 v26 v27 s28 = some u → va_P E.1 vwCl (wM a E s28) H → va_D A (wM a E s28) → va_S A s.heap H locs → lv_has ls 5 [(0, .ref (a 0)), (1, .int (zi v24)), (2, .int (zi v25)), (3, .int (zi v26)), (4, .int (zi v27))] → W p l e ({ frames := 4, cells := 0, slots := 0, locals := 90 }) s m ([.ref (a 0), .int (zi x1), .int (zi x2), .int (zi x3)] : List Value).toArray below meth c H locs 0 0 (MQ below (mQi E (wM a E u.2) u.1 A) ([.ref (a 0), .int (zi x1), .int (zi x2), .int (zi x3)] : List Value).toArray s 0 0 A) (F0 m 66 ls []) := by
    intro n
    induction n with
    | zero =>
      intro v24 v25 v26 v27 s28 H locs ls h
      exact absurd (show (none : Option (Int × bM)) = some u from h) (by simp)
    | succ n ih =>
      intro v24 v25 v26 v27 s28 H locs ls h hP hD hS hl
      rw [f_X8_ifMesh_L66] at h
      refine lv_iload hx hb dX8_ifMesh_66 (lv_at hl 4 rfl) ?_
      obtain ⟨g29, h⟩ := gd_t h
      refine iv_le (tgt := 81) hx hb g29 dX8_ifMesh_68 (by decide) (fun c30 => ?_) (fun c30 => ?_)
      · have h := it_t c30 h
        refine lv_aload_n hx hb dX8_ifMesh_81 rfl (lv_at hl 0 rfl) ?_
        refine lv_iload_n hx hb dX8_ifMesh_82 rfl (lv_at hl 3 rfl) ?_
        obtain ⟨u31, q32, h⟩ := bd_t h
        refine iv_callIf (As := [.int (zi v26)]) (rest := []) ⟨hx, hb, hml, hown, hts⟩ (k_X8_at l E a H.size N v26 s28 u31 q32) (cwV 1 hts gX8_ifMesh_X8_at rfl rfl rfl (by decide +kernel) ⟨Nat.le_of_ble_eq_true rfl, Nat.le_of_ble_eq_true rfl⟩) hK hP hD hS hA 0 8 rfl rfl rfl hl.1 (Nat.le_of_ble_eq_true rfl) ⟨Nat.zero_le _, Nat.zero_le _⟩ dX8_ifMesh_83 (fun H locs hP hD hS => ?_)
        refine lv_istore (lv' := [(4, .int (zi u31.1)), (0, .ref (a 0)), (1, .int (zi v24)), (2, .int (zi v25)), (3, .int (zi v26))]) hx hb dX8_ifMesh_86 hl (by decide) rfl (fun ls hl => ?_)
        refine lv_aload_n hx hb dX8_ifMesh_88 rfl (lv_at hl 1 rfl) ?_
        obtain ⟨u33, q34, h⟩ := bd_t h
        refine iv_callVf (As := []) (rest := []) ⟨hx, hb, hml, hown, hts⟩ (k_X8_putBack l E a H.size N  u31.2 u33 q34) (cwV 0 hts gX8_ifMesh_X8_putBack rfl rfl rfl (by decide +kernel) ⟨Nat.le_of_ble_eq_true rfl, Nat.le_of_ble_eq_true rfl⟩) hK hP hD hS hA 0 8 rfl rfl rfl hl.1 (Nat.le_of_ble_eq_true rfl) ⟨Nat.zero_le _, Nat.zero_le _⟩ dX8_ifMesh_89 (fun H locs hP hD hS => ?_)
        refine lv_iload hx hb dX8_ifMesh_92 (lv_at hl 0 rfl) ?_
        cases h
        exact iv_iret hx hb hr hlocks hK hP hD hS dX8_ifMesh_94
      · have h := it_f c30 h
        refine lv_aload_n hx hb dX8_ifMesh_71 rfl (lv_at hl 0 rfl) ?_
        obtain ⟨u35, q36, h⟩ := bd_t h
        refine iv_callVf (As := []) (rest := []) ⟨hx, hb, hml, hown, hts⟩ (k_X8_sortOne l E a H.size N  s28 u35 q36) (cwV 0 hts gX8_ifMesh_X8_sortOne rfl rfl rfl (by decide +kernel) ⟨Nat.le_of_ble_eq_true rfl, Nat.le_of_ble_eq_true rfl⟩) hK hP hD hS hA 0 8 rfl rfl rfl hl.1 (Nat.le_of_ble_eq_true rfl) ⟨Nat.zero_le _, Nat.zero_le _⟩ dX8_ifMesh_72 (fun H locs hP hD hS => ?_)
        refine lv_iinc (v := zi (v27 + (-1))) (lv' := [(4, .int (zi (v27 + (-1)))), (0, .ref (a 0)), (1, .int (zi v24)), (2, .int (zi v25)), (3, .int (zi v26))]) hx hb dX8_ifMesh_75 hl (k := 4) rfl (by rw [zi_add]; rfl) (by decide) rfl (fun ls hl => ?_)
        refine lv_goto (tgt := 66) hx hb dX8_ifMesh_78 (by decide) ?_
        exact ih v24 v25 v26 (v27 + (-1)) u35 _ _ _ h hP hD hS (lv_sub hl [1, 2, 3, 4, 0] rfl)
  have h := hf
  rw [f_X8_ifMesh] at h
  refine lv_iload_n hx hb dX8_ifMesh_0 rfl (lv_at hl 1 rfl) ?_
  refine iv_iconst hx hb dX8_ifMesh_1 ?_
  refine iv_iconst hx hb dX8_ifMesh_2 ?_
  obtain ⟨u1, q2, h⟩ := bd_t h
  refine iv_callS (As := [.int (zi x1), .int (zi 0), .int (zi 2)]) (rest := []) ⟨hx, hb, hml, hown, hts⟩ (k_X8_in l E H.size x1 0 2 u1 q2) (va_cwS 3 hts gX8_ifMesh_X8_in rfl rfl rfl (by decide +kernel) ⟨Nat.le_of_ble_eq_true rfl, Nat.le_of_ble_eq_true rfl⟩) hK hP hS hA rfl hl.1 (Nat.le_of_ble_eq_true rfl) ⟨Nat.zero_le _, Nat.zero_le _⟩ dX8_ifMesh_3 (fun H locs hP hS => ?_)
  obtain ⟨g3, h⟩ := gd_t h
  refine iv_ne (tgt := 11) hx hb g3 dX8_ifMesh_6 (by decide) (fun c4 => ?_) (fun c4 => ?_)
  · have h := it_f c4 h
    refine lv_iload_n hx hb dX8_ifMesh_11 rfl (lv_at hl 2 rfl) ?_
    refine iv_iconst hx hb dX8_ifMesh_12 ?_
    refine iv_bipush hx hb dX8_ifMesh_13 (by decide +kernel) ?_
    obtain ⟨u5, q6, h⟩ := bd_t h
    refine iv_callS (As := [.int (zi x2), .int (zi 1), .int (zi 30)]) (rest := []) ⟨hx, hb, hml, hown, hts⟩ (k_X8_in l E H.size x2 1 30 u5 q6) (va_cwS 3 hts gX8_ifMesh_X8_in rfl rfl rfl (by decide +kernel) ⟨Nat.le_of_ble_eq_true rfl, Nat.le_of_ble_eq_true rfl⟩) hK hP hS hA rfl hl.1 (Nat.le_of_ble_eq_true rfl) ⟨Nat.zero_le _, Nat.zero_le _⟩ dX8_ifMesh_15 (fun H locs hP hS => ?_)
    obtain ⟨g7, h⟩ := gd_t h
    refine iv_eq (tgt := 31) hx hb g7 dX8_ifMesh_18 (by decide) (fun c8 => ?_) (fun c8 => ?_)
    · have h := it_t c8 h
      refine iv_bipush hx hb dX8_ifMesh_31 (by decide +kernel) ?_
      cases h
      exact iv_iret hx hb hr hlocks hK hP hD hS dX8_ifMesh_33
    · have h := it_f c8 h
      refine lv_iload_n hx hb dX8_ifMesh_21 rfl (lv_at hl 3 rfl) ?_
      refine iv_iconst hx hb dX8_ifMesh_22 ?_
      refine iv_bipush hx hb dX8_ifMesh_23 (by decide +kernel) ?_
      obtain ⟨u9, q10, h⟩ := bd_t h
      refine iv_callS (As := [.int (zi x3), .int (zi 0), .int (zi 6)]) (rest := []) ⟨hx, hb, hml, hown, hts⟩ (k_X8_in l E H.size x3 0 6 u9 q10) (va_cwS 3 hts gX8_ifMesh_X8_in rfl rfl rfl (by decide +kernel) ⟨Nat.le_of_ble_eq_true rfl, Nat.le_of_ble_eq_true rfl⟩) hK hP hS hA rfl hl.1 (Nat.le_of_ble_eq_true rfl) ⟨Nat.zero_le _, Nat.zero_le _⟩ dX8_ifMesh_25 (fun H locs hP hS => ?_)
      obtain ⟨g11, h⟩ := gd_t h
      refine iv_ne (tgt := 34) hx hb g11 dX8_ifMesh_28 (by decide) (fun c12 => ?_) (fun c12 => ?_)
      · have h := it_f c12 h
        refine lv_aload_n hx hb dX8_ifMesh_34 rfl (lv_at hl 0 rfl) ?_
        refine lv_iload_n hx hb dX8_ifMesh_35 rfl (lv_at hl 1 rfl) ?_
        refine lv_iload_n hx hb dX8_ifMesh_36 rfl (lv_at hl 2 rfl) ?_
        obtain ⟨u13, q14, h⟩ := bd_t h
        refine iv_callIf (As := [.int (zi x1), .int (zi x2)]) (rest := []) ⟨hx, hb, hml, hown, hts⟩ (k_X8_areMeshes l E a H.size x1 x2 z u13 q14) (cwV 2 hts gX8_ifMesh_X8_areMeshes rfl rfl rfl (by decide +kernel) ⟨Nat.le_of_ble_eq_true rfl, Nat.le_of_ble_eq_true rfl⟩) hK hP hD hS hA 0 8 rfl rfl rfl hl.1 (Nat.le_of_ble_eq_true rfl) ⟨Nat.zero_le _, Nat.zero_le _⟩ dX8_ifMesh_37 (fun H locs hP hD hS => ?_)
        obtain ⟨g15, h⟩ := gd_t h
        refine iv_ne (tgt := 46) hx hb g15 dX8_ifMesh_40 (by decide) (fun c16 => ?_) (fun c16 => ?_)
        · have h := it_f c16 h
          refine lv_aload_n hx hb dX8_ifMesh_46 rfl (lv_at hl 0 rfl) ?_
          obtain ⟨u17, q18, h⟩ := bd_t h
          refine iv_callVf (As := []) (rest := []) ⟨hx, hb, hml, hown, hts⟩ (k_X8_putAside l E a H.size N  u13.2 u17 q18) (cwV 0 hts gX8_ifMesh_X8_putAside rfl rfl rfl (by decide +kernel) ⟨Nat.le_of_ble_eq_true rfl, Nat.le_of_ble_eq_true rfl⟩) hK hP hD hS hA 0 8 rfl rfl rfl hl.1 (Nat.le_of_ble_eq_true rfl) ⟨Nat.zero_le _, Nat.zero_le _⟩ dX8_ifMesh_47 (fun H locs hP hD hS => ?_)
          refine lv_aload_n hx hb dX8_ifMesh_50 rfl (lv_at hl 0 rfl) ?_
          refine va_get (D := E.1) (ci := 8) (v := .ref (a 1)) (C := RX8) (T := TX8) (N := 13) hx hb hts in_X8_ifMesh_X8 hown hK.1 hP 0 rfl rfl 0 (by decide) (hts _ wd_X8_ifMesh_f7) (fun _ h9 => h9) rfl dX8_ifMesh_51 ?_
          refine lv_iload_n hx hb dX8_ifMesh_54 rfl (lv_at hl 1 rfl) ?_
          refine lv_iload_n hx hb dX8_ifMesh_55 rfl (lv_at hl 2 rfl) ?_
          obtain ⟨g19, h⟩ := gd_t h
          obtain ⟨s20, e21, h⟩ := nm_t h
          refine iv_iast (f := u17.1) (j := x1.toNat) (ws1 := wM a E s20) hx hb hK.1 hP hD hS 1 0 rfl rfl (by decide) g19 rfl (by rw [e21]; rfl) dX8_ifMesh_56 (fun H locs hP hD hS => ?_)
          refine lv_aload_n hx hb dX8_ifMesh_57 rfl (lv_at hl 0 rfl) ?_
          refine va_get (D := E.1) (ci := 8) (v := .ref (a 1)) (C := RX8) (T := TX8) (N := 13) hx hb hts in_X8_ifMesh_X8 hown hK.1 hP 0 rfl rfl 0 (by decide) (hts _ wd_X8_ifMesh_f7) (fun _ h9 => h9) rfl dX8_ifMesh_58 ?_
          refine iv_bipush hx hb dX8_ifMesh_61 (by decide +kernel) ?_
          refine iv_iald (f := s20.1) (j := 14) hx hb hK.1 hP 1 0 rfl rfl (by decide) (by decide +kernel) rfl dX8_ifMesh_63 ?_
          obtain ⟨v22, e23, h⟩ := nm_t h
          refine iv_nm e23 ?_
          refine lv_istore (lv' := [(4, .int (zi v22)), (0, .ref (a 0)), (1, .int (zi x1)), (2, .int (zi x2)), (3, .int (zi x3))]) hx hb dX8_ifMesh_64 hl (by decide) rfl (fun ls hl => ?_)
          exact loop66 N x1 x2 x3 v22 s20 _ _ _ h hP hD hS (lv_sub hl [1, 2, 3, 4, 0] rfl)
        · have h := it_t c16 h
          refine iv_bipush hx hb dX8_ifMesh_43 (by decide +kernel) ?_
          cases h
          exact iv_iret hx hb hr hlocks hK hP hD hS dX8_ifMesh_45
      · have h := it_t c12 h
        refine iv_bipush hx hb dX8_ifMesh_31 (by decide +kernel) ?_
        cases h
        exact iv_iret hx hb hr hlocks hK hP hD hS dX8_ifMesh_33
  · have h := it_t c4 h
    refine iv_iconst hx hb dX8_ifMesh_9 ?_
    cases h
    exact iv_iret hx hb hr hlocks hK hP hD hS dX8_ifMesh_10
