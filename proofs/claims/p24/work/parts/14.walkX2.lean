set_option maxRecDepth 20000 in
theorem wd_X2_remember_f17 : Cond.fieldLink RX2 17 "ShirtButtons$History" "count" "I" ∈ wsX2_remember := by decide +kernel
set_option maxRecDepth 20000 in
theorem in_X2_remember_X2 : ∀ w ∈ u_ws RX2 TX2 2, w ∈ wsX2_remember := by decide +kernel
set_option maxRecDepth 20000 in
theorem wd_X2_remember_f11 : Cond.fieldLink RX2 11 "ShirtButtons$History" "states" "[LShirtButtons$State;" ∈ wsX2_remember := by decide +kernel
set_option maxHeartbeats 4000000 in
set_option maxRecDepth 100000 in
theorem k_X2_remember (l : Launch) (E : wE) (a hs b : Nat → Nat) (sz : Nat) (z : bHS) (u : bHS) (hf : f_X2_remember z = some u) : cVx l yX2_remember wsX2_remember { frames := 3, cells := 0, slots := 0, locals := 68 } E sz [.ref (a 0), .ref (b 0)] (wHS a hs b E z) (fun h1 => wHS a h1 b E u) := by
  refine met_go (cc := cX2_remember) (maxL := 2) (ret := none) (Q0 := mQvx E (fun h1 => wHS a h1 b E u)) (by decide +kernel) rfl (Nat.le_of_ble_eq_true rfl) ?_
  intro A p e s m below meth c hx hb hr hml hts hown hlocks hP hK hD hA hS ls hl
  have hl : lv_has ls 2 [(0, .ref (a 0)), (1, .ref (b 0))] := hl
  generalize hH : s.heap = H at hP
  have hS : va_S A s.heap H [] := by rw [← hH]; exact hS
  have hown : s.vm.findClass RX2 = some m.cls := hown
  have h := hf
  rw [f_X2_remember] at h
  refine lv_aload_n hx hb dX2_remember_0 rfl (lv_at hl 0 rfl) ?_
  refine va_get (D := E.1) (ci := 2) (v := .int (zi z.1.1)) (C := RX2) (T := TX2) (N := 2) hx hb hts in_X2_remember_X2 hown hK.1 hP 0 rfl rfl 1 (by decide) (hts _ wd_X2_remember_f17) (fun _ h9 => h9) rfl dX2_remember_1 ?_
  refine iv_iconst hx hb dX2_remember_4 ?_
  obtain ⟨g1, h⟩ := gd_t h
  refine iv_ilt (tgt := 12) hx hb g1 (by decide +kernel) dX2_remember_5 (by decide) (fun c2 => ?_) (fun c2 => ?_)
  · have h := it_t c2 h
    refine lv_aload_n hx hb dX2_remember_12 rfl (lv_at hl 0 rfl) ?_
    refine va_get (D := E.1) (ci := 2) (v := .ref (a 1)) (C := RX2) (T := TX2) (N := 2) hx hb hts in_X2_remember_X2 hown hK.1 hP 0 rfl rfl 0 (by decide) (hts _ wd_X2_remember_f11) (fun _ h9 => h9) rfl dX2_remember_13 ?_
    refine lv_aload_n hx hb dX2_remember_16 rfl (lv_at hl 0 rfl) ?_
    refine va_get (D := E.1) (ci := 2) (v := .int (zi z.1.1)) (C := RX2) (T := TX2) (N := 2) hx hb hts in_X2_remember_X2 hown hK.1 hP 0 rfl rfl 1 (by decide) (hts _ wd_X2_remember_f17) (fun _ h9 => h9) rfl dX2_remember_17 ?_
    by_cases c11 : z.1.1 = 0
    · have h := it_t c11 h
      refine iv_aald (f := h4 (hs 2) (hs 18) (hs 34) (hs 50)) (j := 0) (q := hs 2) hx hb hK.1 hP 1 2 rfl rfl (by rw [c11]; rfl) (by decide) (by decide) rfl dX2_remember_20 ?_
      refine lv_aload_n hx hb dX2_remember_21 rfl (lv_at hl 1 rfl) ?_
      obtain ⟨u3, q4, h⟩ := bd_t h
      obtain ⟨s5, e6, h⟩ := nm_t h
      obtain ⟨s7, e8, h⟩ := nm_t h
      refine iv_callVp (As := [.ref (b 0)]) (rest := []) (ws1 := wHS a hs b E s7) ⟨hx, hb, hml, hown, hts⟩ (k_X5_copyFrom l E (fun i => hs (2 + i)) b H.size  (z.1.2.1, z.2) u3 q4) (cwV 1 hts gX2_remember_X5_copyFrom rfl rfl rfl (by decide +kernel) ⟨Nat.le_of_ble_eq_true rfl, Nat.le_of_ble_eq_true rfl⟩) hK hP hD hS hA 2 5 rfl rfl (pm_in (pm_skip (pm_in (pm_take (pm_skip (pm_end)))))) (by rw [e8, e6]; exact pm_in (pm_skip (pm_in (pm_take (pm_skip (pm_end)))))) rfl hl.1 (Nat.le_of_ble_eq_true rfl) ⟨Nat.zero_le _, Nat.zero_le _⟩ dX2_remember_22 (fun H locs hP hD hS => ?_)
      refine lv_aload_n hx hb dX2_remember_25 rfl (lv_at hl 0 rfl) ?_
      refine lv_dup hx hb dX2_remember_26 rfl ?_
      refine va_get (D := E.1) (ci := 2) (v := .int (zi s7.1.1)) (C := RX2) (T := TX2) (N := 2) hx hb hts in_X2_remember_X2 hown hK.1 hP 0 rfl rfl 1 (by decide) (hts _ wd_X2_remember_f17) (fun _ h9 => h9) rfl dX2_remember_27 ?_
      refine iv_iconst hx hb dX2_remember_30 ?_
      refine iv_iadd hx hb dX2_remember_31 ?_
      obtain ⟨s9, e10, h⟩ := nm_t h
      refine iv_put (D := E.1) (ci := 2) (v := .int (zi (s7.1.1 + 1))) (ty := .int) (ws1 := wHS a hs b E s9) (C := RX2) (T := TX2) (N := 2) hx hb hts in_X2_remember_X2 tyX2 tyX2_ok nmX2 hown hK.1 hP hD hS 0 rfl rfl 1 (by decide) (hts _ wd_X2_remember_f17) (fun _ h9 => h9) rfl (by decide +kernel) rfl rfl (Nat.le_of_ble_eq_true rfl) (by rw [e10]; rfl) dX2_remember_32 (fun H locs hP hD hS => ?_)
      cases h
      exact iv_vretx hs rfl hx hb hr hlocks hK hP hD hS dX2_remember_35
    have h := it_f c11 h
    by_cases c20 : z.1.1 = 1
    · have h := it_t c20 h
      refine iv_aald (f := h4 (hs 2) (hs 18) (hs 34) (hs 50)) (j := 1) (q := hs 18) hx hb hK.1 hP 1 2 rfl rfl (by rw [c20]; rfl) (by decide) (by decide) rfl dX2_remember_20 ?_
      refine lv_aload_n hx hb dX2_remember_21 rfl (lv_at hl 1 rfl) ?_
      obtain ⟨u12, q13, h⟩ := bd_t h
      obtain ⟨s14, e15, h⟩ := nm_t h
      obtain ⟨s16, e17, h⟩ := nm_t h
      refine iv_callVp (As := [.ref (b 0)]) (rest := []) (ws1 := wHS a hs b E s16) ⟨hx, hb, hml, hown, hts⟩ (k_X5_copyFrom l E (fun i => hs (18 + i)) b H.size  (z.1.2.2.1, z.2) u12 q13) (cwV 1 hts gX2_remember_X5_copyFrom rfl rfl rfl (by decide +kernel) ⟨Nat.le_of_ble_eq_true rfl, Nat.le_of_ble_eq_true rfl⟩) hK hP hD hS hA 18 5 rfl rfl (pm_in (pm_skip (pm_in (pm_skip (pm_in (pm_take (pm_skip (pm_end)))))))) (by rw [e17, e15]; exact pm_in (pm_skip (pm_in (pm_skip (pm_in (pm_take (pm_skip (pm_end)))))))) rfl hl.1 (Nat.le_of_ble_eq_true rfl) ⟨Nat.zero_le _, Nat.zero_le _⟩ dX2_remember_22 (fun H locs hP hD hS => ?_)
      refine lv_aload_n hx hb dX2_remember_25 rfl (lv_at hl 0 rfl) ?_
      refine lv_dup hx hb dX2_remember_26 rfl ?_
      refine va_get (D := E.1) (ci := 2) (v := .int (zi s16.1.1)) (C := RX2) (T := TX2) (N := 2) hx hb hts in_X2_remember_X2 hown hK.1 hP 0 rfl rfl 1 (by decide) (hts _ wd_X2_remember_f17) (fun _ h9 => h9) rfl dX2_remember_27 ?_
      refine iv_iconst hx hb dX2_remember_30 ?_
      refine iv_iadd hx hb dX2_remember_31 ?_
      obtain ⟨s18, e19, h⟩ := nm_t h
      refine iv_put (D := E.1) (ci := 2) (v := .int (zi (s16.1.1 + 1))) (ty := .int) (ws1 := wHS a hs b E s18) (C := RX2) (T := TX2) (N := 2) hx hb hts in_X2_remember_X2 tyX2 tyX2_ok nmX2 hown hK.1 hP hD hS 0 rfl rfl 1 (by decide) (hts _ wd_X2_remember_f17) (fun _ h9 => h9) rfl (by decide +kernel) rfl rfl (Nat.le_of_ble_eq_true rfl) (by rw [e19]; rfl) dX2_remember_32 (fun H locs hP hD hS => ?_)
      cases h
      exact iv_vretx hs rfl hx hb hr hlocks hK hP hD hS dX2_remember_35
    have h := it_f c20 h
    by_cases c29 : z.1.1 = 2
    · have h := it_t c29 h
      refine iv_aald (f := h4 (hs 2) (hs 18) (hs 34) (hs 50)) (j := 2) (q := hs 34) hx hb hK.1 hP 1 2 rfl rfl (by rw [c29]; rfl) (by decide) (by decide) rfl dX2_remember_20 ?_
      refine lv_aload_n hx hb dX2_remember_21 rfl (lv_at hl 1 rfl) ?_
      obtain ⟨u21, q22, h⟩ := bd_t h
      obtain ⟨s23, e24, h⟩ := nm_t h
      obtain ⟨s25, e26, h⟩ := nm_t h
      refine iv_callVp (As := [.ref (b 0)]) (rest := []) (ws1 := wHS a hs b E s25) ⟨hx, hb, hml, hown, hts⟩ (k_X5_copyFrom l E (fun i => hs (34 + i)) b H.size  (z.1.2.2.2.1, z.2) u21 q22) (cwV 1 hts gX2_remember_X5_copyFrom rfl rfl rfl (by decide +kernel) ⟨Nat.le_of_ble_eq_true rfl, Nat.le_of_ble_eq_true rfl⟩) hK hP hD hS hA 34 5 rfl rfl (pm_in (pm_skip (pm_in (pm_skip (pm_in (pm_skip (pm_in (pm_take (pm_skip (pm_end)))))))))) (by rw [e26, e24]; exact pm_in (pm_skip (pm_in (pm_skip (pm_in (pm_skip (pm_in (pm_take (pm_skip (pm_end)))))))))) rfl hl.1 (Nat.le_of_ble_eq_true rfl) ⟨Nat.zero_le _, Nat.zero_le _⟩ dX2_remember_22 (fun H locs hP hD hS => ?_)
      refine lv_aload_n hx hb dX2_remember_25 rfl (lv_at hl 0 rfl) ?_
      refine lv_dup hx hb dX2_remember_26 rfl ?_
      refine va_get (D := E.1) (ci := 2) (v := .int (zi s25.1.1)) (C := RX2) (T := TX2) (N := 2) hx hb hts in_X2_remember_X2 hown hK.1 hP 0 rfl rfl 1 (by decide) (hts _ wd_X2_remember_f17) (fun _ h9 => h9) rfl dX2_remember_27 ?_
      refine iv_iconst hx hb dX2_remember_30 ?_
      refine iv_iadd hx hb dX2_remember_31 ?_
      obtain ⟨s27, e28, h⟩ := nm_t h
      refine iv_put (D := E.1) (ci := 2) (v := .int (zi (s25.1.1 + 1))) (ty := .int) (ws1 := wHS a hs b E s27) (C := RX2) (T := TX2) (N := 2) hx hb hts in_X2_remember_X2 tyX2 tyX2_ok nmX2 hown hK.1 hP hD hS 0 rfl rfl 1 (by decide) (hts _ wd_X2_remember_f17) (fun _ h9 => h9) rfl (by decide +kernel) rfl rfl (Nat.le_of_ble_eq_true rfl) (by rw [e28]; rfl) dX2_remember_32 (fun H locs hP hD hS => ?_)
      cases h
      exact iv_vretx hs rfl hx hb hr hlocks hK hP hD hS dX2_remember_35
    have h := it_f c29 h
    by_cases c38 : z.1.1 = 3
    · have h := it_t c38 h
      refine iv_aald (f := h4 (hs 2) (hs 18) (hs 34) (hs 50)) (j := 3) (q := hs 50) hx hb hK.1 hP 1 2 rfl rfl (by rw [c38]; rfl) (by decide) (by decide) rfl dX2_remember_20 ?_
      refine lv_aload_n hx hb dX2_remember_21 rfl (lv_at hl 1 rfl) ?_
      obtain ⟨u30, q31, h⟩ := bd_t h
      obtain ⟨s32, e33, h⟩ := nm_t h
      obtain ⟨s34, e35, h⟩ := nm_t h
      refine iv_callVp (As := [.ref (b 0)]) (rest := []) (ws1 := wHS a hs b E s34) ⟨hx, hb, hml, hown, hts⟩ (k_X5_copyFrom l E (fun i => hs (50 + i)) b H.size  (z.1.2.2.2.2, z.2) u30 q31) (cwV 1 hts gX2_remember_X5_copyFrom rfl rfl rfl (by decide +kernel) ⟨Nat.le_of_ble_eq_true rfl, Nat.le_of_ble_eq_true rfl⟩) hK hP hD hS hA 50 5 rfl rfl (pm_in (pm_skip (pm_in (pm_skip (pm_in (pm_skip (pm_in (pm_skip (pm_take (pm_end)))))))))) (by rw [e35, e33]; exact pm_in (pm_skip (pm_in (pm_skip (pm_in (pm_skip (pm_in (pm_skip (pm_take (pm_end)))))))))) rfl hl.1 (Nat.le_of_ble_eq_true rfl) ⟨Nat.zero_le _, Nat.zero_le _⟩ dX2_remember_22 (fun H locs hP hD hS => ?_)
      refine lv_aload_n hx hb dX2_remember_25 rfl (lv_at hl 0 rfl) ?_
      refine lv_dup hx hb dX2_remember_26 rfl ?_
      refine va_get (D := E.1) (ci := 2) (v := .int (zi s34.1.1)) (C := RX2) (T := TX2) (N := 2) hx hb hts in_X2_remember_X2 hown hK.1 hP 0 rfl rfl 1 (by decide) (hts _ wd_X2_remember_f17) (fun _ h9 => h9) rfl dX2_remember_27 ?_
      refine iv_iconst hx hb dX2_remember_30 ?_
      refine iv_iadd hx hb dX2_remember_31 ?_
      obtain ⟨s36, e37, h⟩ := nm_t h
      refine iv_put (D := E.1) (ci := 2) (v := .int (zi (s34.1.1 + 1))) (ty := .int) (ws1 := wHS a hs b E s36) (C := RX2) (T := TX2) (N := 2) hx hb hts in_X2_remember_X2 tyX2 tyX2_ok nmX2 hown hK.1 hP hD hS 0 rfl rfl 1 (by decide) (hts _ wd_X2_remember_f17) (fun _ h9 => h9) rfl (by decide +kernel) rfl rfl (Nat.le_of_ble_eq_true rfl) (by rw [e37]; rfl) dX2_remember_32 (fun H locs hP hD hS => ?_)
      cases h
      exact iv_vretx hs rfl hx hb hr hlocks hK hP hD hS dX2_remember_35
    have h := it_f c38 h
    cases h
  · have h := it_f c2 h
    refine lv_aload_n hx hb dX2_remember_8 rfl (lv_at hl 0 rfl) ?_
    obtain ⟨u39, q40, h⟩ := bd_t h
    obtain ⟨s41, e42, h⟩ := nm_t h
    obtain ⟨h43, e44⟩ : ∃ f : Nat → Nat, f = fun i => hs (rot i) := ⟨_, rfl⟩
    refine iv_callVp (As := []) (rest := []) (ws1 := wHS a h43 b E s41) ⟨hx, hb, hml, hown, hts⟩ (k_X2_dropOldest l E a hs H.size z.1 u39 q40) (cwV 0 hts gX2_remember_X2_dropOldest rfl rfl rfl (by decide +kernel) ⟨Nat.le_of_ble_eq_true rfl, Nat.le_of_ble_eq_true rfl⟩) hK hP hD hS hA 0 2 rfl rfl (pm_last) (by rw [e44, e42]; exact pm_last) rfl hl.1 (Nat.le_of_ble_eq_true rfl) ⟨Nat.zero_le _, Nat.zero_le _⟩ dX2_remember_9 (fun H locs hP hD hS => ?_)
    refine lv_aload_n hx hb dX2_remember_12 rfl (lv_at hl 0 rfl) ?_
    refine va_get (D := E.1) (ci := 2) (v := .ref (a 1)) (C := RX2) (T := TX2) (N := 2) hx hb hts in_X2_remember_X2 hown hK.1 hP 0 rfl rfl 0 (by decide) (hts _ wd_X2_remember_f11) (fun _ h9 => h9) rfl dX2_remember_13 ?_
    refine lv_aload_n hx hb dX2_remember_16 rfl (lv_at hl 0 rfl) ?_
    refine va_get (D := E.1) (ci := 2) (v := .int (zi s41.1.1)) (C := RX2) (T := TX2) (N := 2) hx hb hts in_X2_remember_X2 hown hK.1 hP 0 rfl rfl 1 (by decide) (hts _ wd_X2_remember_f17) (fun _ h9 => h9) rfl dX2_remember_17 ?_
    by_cases c53 : s41.1.1 = 0
    · have h := it_t c53 h
      refine iv_aald (f := h4 (h43 2) (h43 18) (h43 34) (h43 50)) (j := 0) (q := h43 2) hx hb hK.1 hP 1 2 rfl rfl (by rw [c53]; rfl) (by decide) (by decide) rfl dX2_remember_20 ?_
      refine lv_aload_n hx hb dX2_remember_21 rfl (lv_at hl 1 rfl) ?_
      obtain ⟨u45, q46, h⟩ := bd_t h
      obtain ⟨s47, e48, h⟩ := nm_t h
      obtain ⟨s49, e50, h⟩ := nm_t h
      refine iv_callVp (As := [.ref (b 0)]) (rest := []) (ws1 := wHS a h43 b E s49) ⟨hx, hb, hml, hown, hts⟩ (k_X5_copyFrom l E (fun i => h43 (2 + i)) b H.size  (s41.1.2.1, s41.2) u45 q46) (cwV 1 hts gX2_remember_X5_copyFrom rfl rfl rfl (by decide +kernel) ⟨Nat.le_of_ble_eq_true rfl, Nat.le_of_ble_eq_true rfl⟩) hK hP hD hS hA 2 5 rfl rfl (pm_in (pm_skip (pm_in (pm_take (pm_skip (pm_end)))))) (by rw [e50, e48]; exact pm_in (pm_skip (pm_in (pm_take (pm_skip (pm_end)))))) rfl hl.1 (Nat.le_of_ble_eq_true rfl) ⟨Nat.zero_le _, Nat.zero_le _⟩ dX2_remember_22 (fun H locs hP hD hS => ?_)
      refine lv_aload_n hx hb dX2_remember_25 rfl (lv_at hl 0 rfl) ?_
      refine lv_dup hx hb dX2_remember_26 rfl ?_
      refine va_get (D := E.1) (ci := 2) (v := .int (zi s49.1.1)) (C := RX2) (T := TX2) (N := 2) hx hb hts in_X2_remember_X2 hown hK.1 hP 0 rfl rfl 1 (by decide) (hts _ wd_X2_remember_f17) (fun _ h9 => h9) rfl dX2_remember_27 ?_
      refine iv_iconst hx hb dX2_remember_30 ?_
      refine iv_iadd hx hb dX2_remember_31 ?_
      obtain ⟨s51, e52, h⟩ := nm_t h
      refine iv_put (D := E.1) (ci := 2) (v := .int (zi (s49.1.1 + 1))) (ty := .int) (ws1 := wHS a h43 b E s51) (C := RX2) (T := TX2) (N := 2) hx hb hts in_X2_remember_X2 tyX2 tyX2_ok nmX2 hown hK.1 hP hD hS 0 rfl rfl 1 (by decide) (hts _ wd_X2_remember_f17) (fun _ h9 => h9) rfl (by decide +kernel) rfl rfl (Nat.le_of_ble_eq_true rfl) (by rw [e52]; rfl) dX2_remember_32 (fun H locs hP hD hS => ?_)
      cases h
      exact iv_vretx h43 rfl hx hb hr hlocks hK hP hD hS dX2_remember_35
    have h := it_f c53 h
    by_cases c62 : s41.1.1 = 1
    · have h := it_t c62 h
      refine iv_aald (f := h4 (h43 2) (h43 18) (h43 34) (h43 50)) (j := 1) (q := h43 18) hx hb hK.1 hP 1 2 rfl rfl (by rw [c62]; rfl) (by decide) (by decide) rfl dX2_remember_20 ?_
      refine lv_aload_n hx hb dX2_remember_21 rfl (lv_at hl 1 rfl) ?_
      obtain ⟨u54, q55, h⟩ := bd_t h
      obtain ⟨s56, e57, h⟩ := nm_t h
      obtain ⟨s58, e59, h⟩ := nm_t h
      refine iv_callVp (As := [.ref (b 0)]) (rest := []) (ws1 := wHS a h43 b E s58) ⟨hx, hb, hml, hown, hts⟩ (k_X5_copyFrom l E (fun i => h43 (18 + i)) b H.size  (s41.1.2.2.1, s41.2) u54 q55) (cwV 1 hts gX2_remember_X5_copyFrom rfl rfl rfl (by decide +kernel) ⟨Nat.le_of_ble_eq_true rfl, Nat.le_of_ble_eq_true rfl⟩) hK hP hD hS hA 18 5 rfl rfl (pm_in (pm_skip (pm_in (pm_skip (pm_in (pm_take (pm_skip (pm_end)))))))) (by rw [e59, e57]; exact pm_in (pm_skip (pm_in (pm_skip (pm_in (pm_take (pm_skip (pm_end)))))))) rfl hl.1 (Nat.le_of_ble_eq_true rfl) ⟨Nat.zero_le _, Nat.zero_le _⟩ dX2_remember_22 (fun H locs hP hD hS => ?_)
      refine lv_aload_n hx hb dX2_remember_25 rfl (lv_at hl 0 rfl) ?_
      refine lv_dup hx hb dX2_remember_26 rfl ?_
      refine va_get (D := E.1) (ci := 2) (v := .int (zi s58.1.1)) (C := RX2) (T := TX2) (N := 2) hx hb hts in_X2_remember_X2 hown hK.1 hP 0 rfl rfl 1 (by decide) (hts _ wd_X2_remember_f17) (fun _ h9 => h9) rfl dX2_remember_27 ?_
      refine iv_iconst hx hb dX2_remember_30 ?_
      refine iv_iadd hx hb dX2_remember_31 ?_
      obtain ⟨s60, e61, h⟩ := nm_t h
      refine iv_put (D := E.1) (ci := 2) (v := .int (zi (s58.1.1 + 1))) (ty := .int) (ws1 := wHS a h43 b E s60) (C := RX2) (T := TX2) (N := 2) hx hb hts in_X2_remember_X2 tyX2 tyX2_ok nmX2 hown hK.1 hP hD hS 0 rfl rfl 1 (by decide) (hts _ wd_X2_remember_f17) (fun _ h9 => h9) rfl (by decide +kernel) rfl rfl (Nat.le_of_ble_eq_true rfl) (by rw [e61]; rfl) dX2_remember_32 (fun H locs hP hD hS => ?_)
      cases h
      exact iv_vretx h43 rfl hx hb hr hlocks hK hP hD hS dX2_remember_35
    have h := it_f c62 h
    by_cases c71 : s41.1.1 = 2
    · have h := it_t c71 h
      refine iv_aald (f := h4 (h43 2) (h43 18) (h43 34) (h43 50)) (j := 2) (q := h43 34) hx hb hK.1 hP 1 2 rfl rfl (by rw [c71]; rfl) (by decide) (by decide) rfl dX2_remember_20 ?_
      refine lv_aload_n hx hb dX2_remember_21 rfl (lv_at hl 1 rfl) ?_
      obtain ⟨u63, q64, h⟩ := bd_t h
      obtain ⟨s65, e66, h⟩ := nm_t h
      obtain ⟨s67, e68, h⟩ := nm_t h
      refine iv_callVp (As := [.ref (b 0)]) (rest := []) (ws1 := wHS a h43 b E s67) ⟨hx, hb, hml, hown, hts⟩ (k_X5_copyFrom l E (fun i => h43 (34 + i)) b H.size  (s41.1.2.2.2.1, s41.2) u63 q64) (cwV 1 hts gX2_remember_X5_copyFrom rfl rfl rfl (by decide +kernel) ⟨Nat.le_of_ble_eq_true rfl, Nat.le_of_ble_eq_true rfl⟩) hK hP hD hS hA 34 5 rfl rfl (pm_in (pm_skip (pm_in (pm_skip (pm_in (pm_skip (pm_in (pm_take (pm_skip (pm_end)))))))))) (by rw [e68, e66]; exact pm_in (pm_skip (pm_in (pm_skip (pm_in (pm_skip (pm_in (pm_take (pm_skip (pm_end)))))))))) rfl hl.1 (Nat.le_of_ble_eq_true rfl) ⟨Nat.zero_le _, Nat.zero_le _⟩ dX2_remember_22 (fun H locs hP hD hS => ?_)
      refine lv_aload_n hx hb dX2_remember_25 rfl (lv_at hl 0 rfl) ?_
      refine lv_dup hx hb dX2_remember_26 rfl ?_
      refine va_get (D := E.1) (ci := 2) (v := .int (zi s67.1.1)) (C := RX2) (T := TX2) (N := 2) hx hb hts in_X2_remember_X2 hown hK.1 hP 0 rfl rfl 1 (by decide) (hts _ wd_X2_remember_f17) (fun _ h9 => h9) rfl dX2_remember_27 ?_
      refine iv_iconst hx hb dX2_remember_30 ?_
      refine iv_iadd hx hb dX2_remember_31 ?_
      obtain ⟨s69, e70, h⟩ := nm_t h
      refine iv_put (D := E.1) (ci := 2) (v := .int (zi (s67.1.1 + 1))) (ty := .int) (ws1 := wHS a h43 b E s69) (C := RX2) (T := TX2) (N := 2) hx hb hts in_X2_remember_X2 tyX2 tyX2_ok nmX2 hown hK.1 hP hD hS 0 rfl rfl 1 (by decide) (hts _ wd_X2_remember_f17) (fun _ h9 => h9) rfl (by decide +kernel) rfl rfl (Nat.le_of_ble_eq_true rfl) (by rw [e70]; rfl) dX2_remember_32 (fun H locs hP hD hS => ?_)
      cases h
      exact iv_vretx h43 rfl hx hb hr hlocks hK hP hD hS dX2_remember_35
    have h := it_f c71 h
    by_cases c80 : s41.1.1 = 3
    · have h := it_t c80 h
      refine iv_aald (f := h4 (h43 2) (h43 18) (h43 34) (h43 50)) (j := 3) (q := h43 50) hx hb hK.1 hP 1 2 rfl rfl (by rw [c80]; rfl) (by decide) (by decide) rfl dX2_remember_20 ?_
      refine lv_aload_n hx hb dX2_remember_21 rfl (lv_at hl 1 rfl) ?_
      obtain ⟨u72, q73, h⟩ := bd_t h
      obtain ⟨s74, e75, h⟩ := nm_t h
      obtain ⟨s76, e77, h⟩ := nm_t h
      refine iv_callVp (As := [.ref (b 0)]) (rest := []) (ws1 := wHS a h43 b E s76) ⟨hx, hb, hml, hown, hts⟩ (k_X5_copyFrom l E (fun i => h43 (50 + i)) b H.size  (s41.1.2.2.2.2, s41.2) u72 q73) (cwV 1 hts gX2_remember_X5_copyFrom rfl rfl rfl (by decide +kernel) ⟨Nat.le_of_ble_eq_true rfl, Nat.le_of_ble_eq_true rfl⟩) hK hP hD hS hA 50 5 rfl rfl (pm_in (pm_skip (pm_in (pm_skip (pm_in (pm_skip (pm_in (pm_skip (pm_take (pm_end)))))))))) (by rw [e77, e75]; exact pm_in (pm_skip (pm_in (pm_skip (pm_in (pm_skip (pm_in (pm_skip (pm_take (pm_end)))))))))) rfl hl.1 (Nat.le_of_ble_eq_true rfl) ⟨Nat.zero_le _, Nat.zero_le _⟩ dX2_remember_22 (fun H locs hP hD hS => ?_)
      refine lv_aload_n hx hb dX2_remember_25 rfl (lv_at hl 0 rfl) ?_
      refine lv_dup hx hb dX2_remember_26 rfl ?_
      refine va_get (D := E.1) (ci := 2) (v := .int (zi s76.1.1)) (C := RX2) (T := TX2) (N := 2) hx hb hts in_X2_remember_X2 hown hK.1 hP 0 rfl rfl 1 (by decide) (hts _ wd_X2_remember_f17) (fun _ h9 => h9) rfl dX2_remember_27 ?_
      refine iv_iconst hx hb dX2_remember_30 ?_
      refine iv_iadd hx hb dX2_remember_31 ?_
      obtain ⟨s78, e79, h⟩ := nm_t h
      refine iv_put (D := E.1) (ci := 2) (v := .int (zi (s76.1.1 + 1))) (ty := .int) (ws1 := wHS a h43 b E s78) (C := RX2) (T := TX2) (N := 2) hx hb hts in_X2_remember_X2 tyX2 tyX2_ok nmX2 hown hK.1 hP hD hS 0 rfl rfl 1 (by decide) (hts _ wd_X2_remember_f17) (fun _ h9 => h9) rfl (by decide +kernel) rfl rfl (Nat.le_of_ble_eq_true rfl) (by rw [e79]; rfl) dX2_remember_32 (fun H locs hP hD hS => ?_)
      cases h
      exact iv_vretx h43 rfl hx hb hr hlocks hK hP hD hS dX2_remember_35
    have h := it_f c80 h
    cases h
