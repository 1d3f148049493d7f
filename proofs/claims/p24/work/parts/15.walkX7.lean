set_option maxRecDepth 20000 in
theorem wd_X7_read_f21 : Cond.fieldLink RX7 21 "ShirtButtons" "batch" "LShirtButtons$Batch;" ∈ wsX7_read := by decide +kernel
set_option maxRecDepth 20000 in
theorem in_X7_read_X7 : ∀ w ∈ u_ws RX7 TX7 8, w ∈ wsX7_read := by decide +kernel
set_option maxRecDepth 20000 in
theorem wd_X7_read_f42 : Cond.fieldLink RX7 42 "ShirtButtons" "now" "LShirtButtons$State;" ∈ wsX7_read := by decide +kernel
set_option maxRecDepth 20000 in
theorem wd_X7_read_f60 : Cond.fieldLink RX7 60 "ShirtButtons$State" "buttons" "LShirtButtons$Buttons;" ∈ wsX7_read := by decide +kernel
set_option maxRecDepth 20000 in
theorem in_X7_read_X5 : ∀ w ∈ u_ws RX5 TX5 8, w ∈ wsX7_read := by decide +kernel
set_option maxRecDepth 20000 in
theorem wd_X7_read_f64 : Cond.fieldLink RX7 64 "ShirtButtons$Buttons" "count" "I" ∈ wsX7_read := by decide +kernel
set_option maxRecDepth 20000 in
theorem in_X7_read_X1 : ∀ w ∈ u_ws RX1 TX1 7, w ∈ wsX7_read := by decide +kernel
set_option maxRecDepth 20000 in
theorem wd_X7_read_f70 : Cond.fieldLink RX7 70 "ShirtButtons$Batch" "count" "I" ∈ wsX7_read := by decide +kernel
set_option maxRecDepth 20000 in
theorem in_X7_read_X0 : ∀ w ∈ u_ws RX0 TX0 8, w ∈ wsX7_read := by decide +kernel
set_option maxRecDepth 20000 in
theorem wd_X7_read_f35 : Cond.fieldLink RX7 35 "ShirtButtons" "history" "LShirtButtons$History;" ∈ wsX7_read := by decide +kernel
set_option maxHeartbeats 4000000 in
set_option maxRecDepth 100000 in
theorem k_X7_read (l : Launch) (E : wE) (a hs : Nat → Nat) (sz : Nat) (N : Nat) (z : bX) (u : (Int × bX)) (hf : f_X7_read N z = some u) : cIx l yX7_read wsX7_read { frames := 5, cells := 0, slots := 0, locals := 111 } E sz [.ref (a 0)] (wX a hs E z) (fun h1 => wX a h1 E u.2) u.1 := by
  refine met_go (cc := cX7_read) (maxL := 3) (ret := (some .int)) (Q0 := mQix E (fun h1 => wX a h1 E u.2) u.1) (by decide +kernel) rfl (Nat.le_of_ble_eq_true rfl) ?_
  intro A p e s m below meth c hx hb hr hml hts hown hlocks hP hK hD hA hS ls hl
  have hl : lv_has ls 3 [(0, .ref (a 0))] := hl
  generalize hH : s.heap = H at hP
  have hS : va_S A s.heap H [] := by rw [← hH]; exact hS
  have hown : s.vm.findClass RX7 = some m.cls := hown
  have h := hf
  rw [f_X7_read] at h
  refine lv_aload_n hx hb dX7_read_0 rfl (lv_at hl 0 rfl) ?_
  refine va_get (D := E.1) (ci := 7) (v := .ref (a 1)) (C := RX7) (T := TX7) (N := 8) hx hb hts in_X7_read_X7 hown hK.1 hP 0 rfl rfl 1 (by decide) (hts _ wd_X7_read_f21) (fun _ h9 => h9) rfl dX7_read_1 ?_
  obtain ⟨u1, q2, h⟩ := bd_t h
  obtain ⟨s3, e4, h⟩ := nm_t h
  refine iv_callIp (As := []) (rest := []) (ws1 := wX a hs E s3) ⟨hx, hb, hml, hown, hts⟩ (k_X0_parse l E (fun i => a (1 + i)) H.size N  z.1 u1 q2) (cwV 0 hts gX7_read_X0_parse rfl rfl rfl (by decide +kernel) ⟨Nat.le_of_ble_eq_true rfl, Nat.le_of_ble_eq_true rfl⟩) hK hP hD hS hA 1 0 rfl rfl (pm_skip (pm_last)) (by rw [e4]; exact pm_skip (pm_last)) rfl hl.1 (Nat.le_of_ble_eq_true rfl) ⟨Nat.zero_le _, Nat.zero_le _⟩ dX7_read_4 (fun H locs hP hD hS => ?_)
  refine lv_istore_n (lv' := [(1, .int (zi u1.1)), (0, .ref (a 0))]) hx hb dX7_read_7 rfl hl (by decide) rfl (fun ls hl => ?_)
  refine lv_iload_n hx hb dX7_read_8 rfl (lv_at hl 0 rfl) ?_
  refine iv_iconst hx hb dX7_read_9 ?_
  obtain ⟨g5, h⟩ := gd_t h
  refine iv_ieq (tgt := 18) hx hb g5 (by decide +kernel) dX7_read_10 (by decide) (fun c6 => ?_) (fun c6 => ?_)
  · have h := it_t c6 h
    refine lv_aload_n hx hb dX7_read_18 rfl (lv_at hl 1 rfl) ?_
    refine va_get (D := E.1) (ci := 7) (v := .ref (a 78)) (C := RX7) (T := TX7) (N := 8) hx hb hts in_X7_read_X7 hown hK.1 hP 0 rfl rfl 4 (by decide) (hts _ wd_X7_read_f42) (fun _ h9 => h9) rfl dX7_read_19 ?_
    refine va_get (D := E.1) (ci := 5) (v := .ref (a 79)) (C := RX5) (T := TX5) (N := 8) hx hb hts in_X7_read_X5 hown hK.1 hP 78 rfl rfl 0 (by decide) (hts _ wd_X7_read_f60) (fun _ h9 => h9) rfl dX7_read_22 ?_
    refine va_get (D := E.1) (ci := 1) (v := .int (zi s3.2.2.2.1.1.2.2.2.2.2.2)) (C := RX1) (T := TX1) (N := 7) hx hb hts in_X7_read_X1 hown hK.1 hP 79 rfl rfl 6 (by decide) (hts _ wd_X7_read_f64) (fun _ h9 => h9) rfl dX7_read_25 ?_
    refine lv_aload_n hx hb dX7_read_28 rfl (lv_at hl 1 rfl) ?_
    refine va_get (D := E.1) (ci := 7) (v := .ref (a 1)) (C := RX7) (T := TX7) (N := 8) hx hb hts in_X7_read_X7 hown hK.1 hP 0 rfl rfl 1 (by decide) (hts _ wd_X7_read_f21) (fun _ h9 => h9) rfl dX7_read_29 ?_
    refine va_get (D := E.1) (ci := 0) (v := .int (zi s3.1.1.2.2.2.2.2.1)) (C := RX0) (T := TX0) (N := 8) hx hb hts in_X7_read_X0 hown hK.1 hP 1 rfl rfl 5 (by decide) (hts _ wd_X7_read_f70) (fun _ h9 => h9) rfl dX7_read_32 ?_
    refine iv_iadd hx hb dX7_read_35 ?_
    refine iv_bipush hx hb dX7_read_36 (by decide +kernel) ?_
    obtain ⟨g7, h⟩ := gd_t h
    refine iv_ile (tgt := 44) hx hb g7 (by decide +kernel) dX7_read_38 (by decide) (fun c8 => ?_) (fun c8 => ?_)
    · have h := it_t c8 h
      refine lv_aload_n hx hb dX7_read_44 rfl (lv_at hl 1 rfl) ?_
      refine va_get (D := E.1) (ci := 7) (v := .ref (a 12)) (C := RX7) (T := TX7) (N := 8) hx hb hts in_X7_read_X7 hown hK.1 hP 0 rfl rfl 3 (by decide) (hts _ wd_X7_read_f35) (fun _ h9 => h9) rfl dX7_read_45 ?_
      refine lv_aload_n hx hb dX7_read_48 rfl (lv_at hl 1 rfl) ?_
      refine va_get (D := E.1) (ci := 7) (v := .ref (a 78)) (C := RX7) (T := TX7) (N := 8) hx hb hts in_X7_read_X7 hown hK.1 hP 0 rfl rfl 4 (by decide) (hts _ wd_X7_read_f42) (fun _ h9 => h9) rfl dX7_read_49 ?_
      obtain ⟨u9, q10, h⟩ := bd_t h
      obtain ⟨s11, e12, h⟩ := nm_t h
      obtain ⟨s13, e14, h⟩ := nm_t h
      refine iv_callVx (As := [.ref (a 78)]) (rest := []) (ws1 := fun h15 => wX a h15 E s13) ⟨hx, hb, hml, hown, hts⟩ (k_X2_remember l E (fun i => a (12 + i)) hs (fun i => a (78 + i)) H.size (s3.2.2.1, s3.2.2.2.1) u9 q10) (cwV 1 hts gX7_read_X2_remember rfl rfl rfl (by decide +kernel) ⟨Nat.le_of_ble_eq_true rfl, Nat.le_of_ble_eq_true rfl⟩) hK hP hD hS hA 12 2 rfl rfl (pm_skip (pm_skip (pm_skip (pm_take (pm_last))))) (fun h15 => by rw [e14, e12]; exact pm_skip (pm_skip (pm_skip (pm_take (pm_last))))) rfl hl.1 (Nat.le_of_ble_eq_true rfl) ⟨Nat.zero_le _, Nat.zero_le _⟩ dX7_read_52 (fun h15 H locs hP hD hS => ?_)
      refine iv_iconst hx hb dX7_read_55 ?_
      refine lv_istore_n (lv' := [(2, .int (zi 0)), (1, .int (zi u1.1)), (0, .ref (a 0))]) hx hb dX7_read_56 rfl hl (by decide) rfl (fun ls hl => ?_)
      have loop57 : ∀ (n : Nat) (v16 v17 : Int) (s18 : bX) (H : Heap) (locs : List Loc) (ls : Array Slot), f_X7_read_L57 N n v16 v17 s18 = some u → va_P E.1 vwCl (wX a h15 E s18) H → va_D A (wX a h15 E s18) → va_S A s.heap H locs → lv_has ls 3 [(0, .ref (a 0)), (1, .int (zi v16)), (2, .int (zi v17))] → W p l e ({ frames := 5, cells := 0, slots := 0, locals := 111 }) s m ([.ref (a 0)] : List Value).toArray below meth c H locs 0 0 (MQ below (mQix E (fun h1 => wX a h1 E u.2) u.1 A) ([.ref (a 0)] : List Value).toArray s 0 0 A) (F0 m 57 ls []) := by
        intro n
        induction n with
        | zero =>
          intro v16 v17 s18 H locs ls h
          exact absurd (show (none : Option (Int × bX)) = some u from h) (by simp)
        | succ n ih =>
          intro v16 v17 s18 H locs ls h hP hD hS hl
          rw [f_X7_read_L57] at h
          refine lv_iload_n hx hb dX7_read_57 rfl (lv_at hl 2 rfl) ?_
          refine lv_aload_n hx hb dX7_read_58 rfl (lv_at hl 0 rfl) ?_
          refine va_get (D := E.1) (ci := 7) (v := .ref (a 1)) (C := RX7) (T := TX7) (N := 8) hx hb hts in_X7_read_X7 hown hK.1 hP 0 rfl rfl 1 (by decide) (hts _ wd_X7_read_f21) (fun _ h9 => h9) rfl dX7_read_59 ?_
          refine va_get (D := E.1) (ci := 0) (v := .int (zi s18.1.1.2.2.2.2.2.1)) (C := RX0) (T := TX0) (N := 8) hx hb hts in_X7_read_X0 hown hK.1 hP 1 rfl rfl 5 (by decide) (hts _ wd_X7_read_f70) (fun _ h9 => h9) rfl dX7_read_62 ?_
          obtain ⟨g19, h⟩ := gd_t h
          obtain ⟨g20, h⟩ := gd_t h
          refine iv_ige (tgt := 86) hx hb g19 g20 dX7_read_65 (by decide) (fun c21 => ?_) (fun c21 => ?_)
          · have h := it_t c21 h
            refine lv_aload_n hx hb dX7_read_86 rfl (lv_at hl 0 rfl) ?_
            refine va_get (D := E.1) (ci := 7) (v := .ref (a 1)) (C := RX7) (T := TX7) (N := 8) hx hb hts in_X7_read_X7 hown hK.1 hP 0 rfl rfl 1 (by decide) (hts _ wd_X7_read_f21) (fun _ h9 => h9) rfl dX7_read_87 ?_
            refine va_get (D := E.1) (ci := 0) (v := .int (zi s18.1.1.2.2.2.2.2.1)) (C := RX0) (T := TX0) (N := 8) hx hb hts in_X7_read_X0 hown hK.1 hP 1 rfl rfl 5 (by decide) (hts _ wd_X7_read_f70) (fun _ h9 => h9) rfl dX7_read_90 ?_
            cases h
            exact iv_iretx h15 rfl hx hb hr hlocks hK hP hD hS dX7_read_93
          · have h := it_f c21 h
            refine lv_aload_n hx hb dX7_read_68 rfl (lv_at hl 0 rfl) ?_
            refine va_get (D := E.1) (ci := 7) (v := .ref (a 78)) (C := RX7) (T := TX7) (N := 8) hx hb hts in_X7_read_X7 hown hK.1 hP 0 rfl rfl 4 (by decide) (hts _ wd_X7_read_f42) (fun _ h9 => h9) rfl dX7_read_69 ?_
            refine lv_aload_n hx hb dX7_read_72 rfl (lv_at hl 0 rfl) ?_
            refine va_get (D := E.1) (ci := 7) (v := .ref (a 1)) (C := RX7) (T := TX7) (N := 8) hx hb hts in_X7_read_X7 hown hK.1 hP 0 rfl rfl 1 (by decide) (hts _ wd_X7_read_f21) (fun _ h9 => h9) rfl dX7_read_73 ?_
            refine lv_iload_n hx hb dX7_read_76 rfl (lv_at hl 2 rfl) ?_
            obtain ⟨u22, q23, h⟩ := bd_t h
            obtain ⟨s24, e25, h⟩ := nm_t h
            obtain ⟨s26, e27, h⟩ := nm_t h
            refine iv_callVp (As := [.ref (a 1), .int (zi v17)]) (rest := []) (ws1 := wX a h15 E s26) ⟨hx, hb, hml, hown, hts⟩ (k_X5_takeIn l E (fun i => a (78 + i)) (fun i => a (1 + i)) H.size v17 (s18.2.2.2.1, s18.1.1) u22 q23) (cwV 2 hts gX7_read_X5_takeIn rfl rfl rfl (by decide +kernel) ⟨Nat.le_of_ble_eq_true rfl, Nat.le_of_ble_eq_true rfl⟩) hK hP hD hS hA 78 5 rfl rfl (pm_skip (pm_in (pm_takeR (pm_skip (pm_skip (pm_skip (pm_last))))))) (by rw [e27, e25]; exact pm_skip (pm_in (pm_takeR (pm_skip (pm_skip (pm_skip (pm_last))))))) rfl hl.1 (Nat.le_of_ble_eq_true rfl) ⟨Nat.zero_le _, Nat.zero_le _⟩ dX7_read_77 (fun H locs hP hD hS => ?_)
            refine lv_iinc (v := zi (v17 + 1)) (lv' := [(2, .int (zi (v17 + 1))), (0, .ref (a 0)), (1, .int (zi v16))]) hx hb dX7_read_80 hl (k := 2) rfl (by rw [zi_add]; rfl) (by decide) rfl (fun ls hl => ?_)
            refine lv_goto (tgt := 57) hx hb dX7_read_83 (by decide) ?_
            exact ih v16 (v17 + 1) s26 _ _ _ h hP hD hS (lv_sub hl [1, 2, 0] rfl)
      exact loop57 N u1.1 0 s13 _ _ _ h hP hD hS (lv_sub hl [2, 1, 0] rfl)
    · have h := it_f c8 h
      refine iv_bipush hx hb dX7_read_41 (by decide +kernel) ?_
      cases h
      exact iv_iretx hs rfl hx hb hr hlocks hK hP hD hS dX7_read_43
  · have h := it_f c6 h
    refine iv_bipush hx hb dX7_read_13 (by decide +kernel) ?_
    refine lv_iload_n hx hb dX7_read_15 rfl (lv_at hl 0 rfl) ?_
    refine iv_isub hx hb dX7_read_16 ?_
    cases h
    exact iv_iretx hs rfl hx hb hr hlocks hK hP hD hS dX7_read_17
set_option maxRecDepth 20000 in
theorem wd_X7_sort_f42 : Cond.fieldLink RX7 42 "ShirtButtons" "now" "LShirtButtons$State;" ∈ wsX7_sort := by decide +kernel
set_option maxRecDepth 20000 in
theorem in_X7_sort_X7 : ∀ w ∈ u_ws RX7 TX7 8, w ∈ wsX7_sort := by decide +kernel
set_option maxRecDepth 20000 in
theorem wd_X7_sort_f79 : Cond.fieldLink RX7 79 "ShirtButtons$State" "places" "LShirtButtons$Places;" ∈ wsX7_sort := by decide +kernel
set_option maxRecDepth 20000 in
theorem in_X7_sort_X5 : ∀ w ∈ u_ws RX5 TX5 8, w ∈ wsX7_sort := by decide +kernel
set_option maxRecDepth 20000 in
theorem wd_X7_sort_f83 : Cond.fieldLink RX7 83 "ShirtButtons$Places" "at" "[I" ∈ wsX7_sort := by decide +kernel
set_option maxRecDepth 20000 in
theorem in_X7_sort_X4 : ∀ w ∈ u_ws RX4 TX4 6, w ∈ wsX7_sort := by decide +kernel
set_option maxRecDepth 20000 in
theorem wd_X7_sort_f35 : Cond.fieldLink RX7 35 "ShirtButtons" "history" "LShirtButtons$History;" ∈ wsX7_sort := by decide +kernel
set_option maxHeartbeats 4000000 in
set_option maxRecDepth 100000 in
theorem k_X7_sort (l : Launch) (E : wE) (a hs : Nat → Nat) (sz : Nat) (N : Nat) (x1 : Int) (z : bX) (u : (Int × bX)) (hf : f_X7_sort N x1 z = some u) : cIx l yX7_sort wsX7_sort { frames := 5, cells := 0, slots := 0, locals := 110 } E sz [.ref (a 0), .int (zi x1)] (wX a hs E z) (fun h1 => wX a h1 E u.2) u.1 := by
  refine met_go (cc := cX7_sort) (maxL := 3) (ret := (some .int)) (Q0 := mQix E (fun h1 => wX a h1 E u.2) u.1) (by decide +kernel) rfl (Nat.le_of_ble_eq_true rfl) ?_
  intro A p e s m below meth c hx hb hr hml hts hown hlocks hP hK hD hA hS ls hl
  have hl : lv_has ls 3 [(0, .ref (a 0)), (1, .int (zi x1))] := hl
  generalize hH : s.heap = H at hP
  have hS : va_S A s.heap H [] := by rw [← hH]; exact hS
  have hown : s.vm.findClass RX7 = some m.cls := hown
  have h := hf
  rw [f_X7_sort] at h
  refine lv_iload_n hx hb dX7_sort_0 rfl (lv_at hl 1 rfl) ?_
  refine iv_iconst hx hb dX7_sort_1 ?_
  obtain ⟨g1, h⟩ := gd_t h
  refine iv_ilt (tgt := 11) hx hb g1 (by decide +kernel) dX7_sort_2 (by decide) (fun c2 => ?_) (fun c2 => ?_)
  · have h := it_t c2 h
    refine iv_bipush hx hb dX7_sort_11 (by decide +kernel) ?_
    cases h
    exact iv_iretx hs rfl hx hb hr hlocks hK hP hD hS dX7_sort_13
  · have h := it_f c2 h
    refine lv_iload_n hx hb dX7_sort_5 rfl (lv_at hl 1 rfl) ?_
    refine iv_bipush hx hb dX7_sort_6 (by decide +kernel) ?_
    refine iv_ile (tgt := 14) hx hb g1 (by decide +kernel) dX7_sort_8 (by decide) (fun c3 => ?_) (fun c3 => ?_)
    · have h := it_t c3 h
      refine lv_aload_n hx hb dX7_sort_14 rfl (lv_at hl 0 rfl) ?_
      refine va_get (D := E.1) (ci := 7) (v := .ref (a 78)) (C := RX7) (T := TX7) (N := 8) hx hb hts in_X7_sort_X7 hown hK.1 hP 0 rfl rfl 4 (by decide) (hts _ wd_X7_sort_f42) (fun _ h9 => h9) rfl dX7_sort_15 ?_
      refine va_get (D := E.1) (ci := 5) (v := .ref (a 86)) (C := RX5) (T := TX5) (N := 8) hx hb hts in_X7_sort_X5 hown hK.1 hP 78 rfl rfl 1 (by decide) (hts _ wd_X7_sort_f79) (fun _ h9 => h9) rfl dX7_sort_18 ?_
      refine va_get (D := E.1) (ci := 4) (v := .ref (a 91)) (C := RX4) (T := TX4) (N := 6) hx hb hts in_X7_sort_X4 hown hK.1 hP 86 rfl rfl 4 (by decide) (hts _ wd_X7_sort_f83) (fun _ h9 => h9) rfl dX7_sort_21 ?_
      refine iv_iconst hx hb dX7_sort_24 ?_
      refine iv_iald (f := z.2.2.2.1.2.1.2.2.2.2.1) (j := 0) hx hb hK.1 hP 91 0 rfl rfl (by decide) (by decide +kernel) rfl dX7_sort_25 ?_
      obtain ⟨g4, h⟩ := gd_t h
      refine iv_ne (tgt := 32) hx hb g4 dX7_sort_26 (by decide) (fun c5 => ?_) (fun c5 => ?_)
      · have h := it_f c5 h
        refine lv_aload_n hx hb dX7_sort_32 rfl (lv_at hl 0 rfl) ?_
        refine va_get (D := E.1) (ci := 7) (v := .ref (a 12)) (C := RX7) (T := TX7) (N := 8) hx hb hts in_X7_sort_X7 hown hK.1 hP 0 rfl rfl 3 (by decide) (hts _ wd_X7_sort_f35) (fun _ h9 => h9) rfl dX7_sort_33 ?_
        refine lv_aload_n hx hb dX7_sort_36 rfl (lv_at hl 0 rfl) ?_
        refine va_get (D := E.1) (ci := 7) (v := .ref (a 78)) (C := RX7) (T := TX7) (N := 8) hx hb hts in_X7_sort_X7 hown hK.1 hP 0 rfl rfl 4 (by decide) (hts _ wd_X7_sort_f42) (fun _ h9 => h9) rfl dX7_sort_37 ?_
        obtain ⟨u6, q7, h⟩ := bd_t h
        obtain ⟨s8, e9, h⟩ := nm_t h
        obtain ⟨s10, e11, h⟩ := nm_t h
        refine iv_callVx (As := [.ref (a 78)]) (rest := []) (ws1 := fun h12 => wX a h12 E s10) ⟨hx, hb, hml, hown, hts⟩ (k_X2_remember l E (fun i => a (12 + i)) hs (fun i => a (78 + i)) H.size (z.2.2.1, z.2.2.2.1) u6 q7) (cwV 1 hts gX7_sort_X2_remember rfl rfl rfl (by decide +kernel) ⟨Nat.le_of_ble_eq_true rfl, Nat.le_of_ble_eq_true rfl⟩) hK hP hD hS hA 12 2 rfl rfl (pm_skip (pm_skip (pm_skip (pm_take (pm_last))))) (fun h12 => by rw [e11, e9]; exact pm_skip (pm_skip (pm_skip (pm_take (pm_last))))) rfl hl.1 (Nat.le_of_ble_eq_true rfl) ⟨Nat.zero_le _, Nat.zero_le _⟩ dX7_sort_40 (fun h12 H locs hP hD hS => ?_)
        refine iv_iconst hx hb dX7_sort_43 ?_
        refine lv_istore_n (lv' := [(2, .int (zi 0)), (0, .ref (a 0)), (1, .int (zi x1))]) hx hb dX7_sort_44 rfl hl (by decide) rfl (fun ls hl => ?_)
        have loop45 : ∀ (n : Nat) (v13 v14 : Int) (s15 : bX) (H : Heap) (locs : List Loc) (ls : Array Slot), f_X7_sort_L45 N n v13 v14 s15 = some u → va_P E.1 vwCl (wX a h12 E s15) H → va_D A (wX a h12 E s15) → va_S A s.heap H locs → lv_has ls 3 [(0, .ref (a 0)), (1, .int (zi v13)), (2, .int (zi v14))] → W p l e ({ frames := 5, cells := 0, slots := 0, locals := 110 }) s m ([.ref (a 0), .int (zi x1)] : List Value).toArray below meth c H locs 0 0 (MQ below (mQix E (fun h1 => wX a h1 E u.2) u.1 A) ([.ref (a 0), .int (zi x1)] : List Value).toArray s 0 0 A) (F0 m 45 ls []) := by
          intro n
          induction n with
          | zero =>
            intro v13 v14 s15 H locs ls h
            exact absurd (show (none : Option (Int × bX)) = some u from h) (by simp)
          | succ n ih =>
            intro v13 v14 s15 H locs ls h hP hD hS hl
            rw [f_X7_sort_L45] at h
            refine lv_iload_n hx hb dX7_sort_45 rfl (lv_at hl 2 rfl) ?_
            refine lv_iload_n hx hb dX7_sort_46 rfl (lv_at hl 1 rfl) ?_
            obtain ⟨g16, h⟩ := gd_t h
            obtain ⟨g17, h⟩ := gd_t h
            refine iv_ige (tgt := 78) hx hb g16 g17 dX7_sort_47 (by decide) (fun c18 => ?_) (fun c18 => ?_)
            · have h := it_t c18 h
              refine lv_iload_n hx hb dX7_sort_78 rfl (lv_at hl 2 rfl) ?_
              cases h
              exact iv_iretx h12 rfl hx hb hr hlocks hK hP hD hS dX7_sort_79
            · have h := it_f c18 h
              refine lv_aload_n hx hb dX7_sort_50 rfl (lv_at hl 0 rfl) ?_
              refine va_get (D := E.1) (ci := 7) (v := .ref (a 78)) (C := RX7) (T := TX7) (N := 8) hx hb hts in_X7_sort_X7 hown hK.1 hP 0 rfl rfl 4 (by decide) (hts _ wd_X7_sort_f42) (fun _ h9 => h9) rfl dX7_sort_51 ?_
              refine va_get (D := E.1) (ci := 5) (v := .ref (a 86)) (C := RX5) (T := TX5) (N := 8) hx hb hts in_X7_sort_X5 hown hK.1 hP 78 rfl rfl 1 (by decide) (hts _ wd_X7_sort_f79) (fun _ h9 => h9) rfl dX7_sort_54 ?_
              refine va_get (D := E.1) (ci := 4) (v := .ref (a 91)) (C := RX4) (T := TX4) (N := 6) hx hb hts in_X7_sort_X4 hown hK.1 hP 86 rfl rfl 4 (by decide) (hts _ wd_X7_sort_f83) (fun _ h9 => h9) rfl dX7_sort_57 ?_
              refine iv_iconst hx hb dX7_sort_60 ?_
              refine iv_iald (f := s15.2.2.2.1.2.1.2.2.2.2.1) (j := 0) hx hb hK.1 hP 91 0 rfl rfl (by decide) (by decide +kernel) rfl dX7_sort_61 ?_
              obtain ⟨g19, h⟩ := gd_t h
              refine iv_le (tgt := 78) hx hb g19 dX7_sort_62 (by decide) (fun c20 => ?_) (fun c20 => ?_)
              · have h := it_t c20 h
                refine lv_iload_n hx hb dX7_sort_78 rfl (lv_at hl 2 rfl) ?_
                cases h
                exact iv_iretx h12 rfl hx hb hr hlocks hK hP hD hS dX7_sort_79
              · have h := it_f c20 h
                refine lv_aload_n hx hb dX7_sort_65 rfl (lv_at hl 0 rfl) ?_
                refine va_get (D := E.1) (ci := 7) (v := .ref (a 78)) (C := RX7) (T := TX7) (N := 8) hx hb hts in_X7_sort_X7 hown hK.1 hP 0 rfl rfl 4 (by decide) (hts _ wd_X7_sort_f42) (fun _ h9 => h9) rfl dX7_sort_66 ?_
                obtain ⟨u21, q22, h⟩ := bd_t h
                obtain ⟨s23, e24, h⟩ := nm_t h
                refine iv_callVp (As := []) (rest := []) (ws1 := wX a h12 E s23) ⟨hx, hb, hml, hown, hts⟩ (k_X5_sortFirst l E (fun i => a (78 + i)) H.size N  s15.2.2.2.1 u21 q22) (cwV 0 hts gX7_sort_X5_sortFirst rfl rfl rfl (by decide +kernel) ⟨Nat.le_of_ble_eq_true rfl, Nat.le_of_ble_eq_true rfl⟩) hK hP hD hS hA 78 5 rfl rfl (pm_skip (pm_skip (pm_skip (pm_skip (pm_last))))) (by rw [e24]; exact pm_skip (pm_skip (pm_skip (pm_skip (pm_last))))) rfl hl.1 (Nat.le_of_ble_eq_true rfl) ⟨Nat.zero_le _, Nat.zero_le _⟩ dX7_sort_69 (fun H locs hP hD hS => ?_)
                refine lv_iinc (v := zi (v14 + 1)) (lv' := [(2, .int (zi (v14 + 1))), (0, .ref (a 0)), (1, .int (zi v13))]) hx hb dX7_sort_72 hl (k := 2) rfl (by rw [zi_add]; rfl) (by decide) rfl (fun ls hl => ?_)
                refine lv_goto (tgt := 45) hx hb dX7_sort_75 (by decide) ?_
                exact ih v13 (v14 + 1) s23 _ _ _ h hP hD hS (lv_sub hl [1, 2, 0] rfl)
        exact loop45 N x1 0 s10 _ _ _ h hP hD hS (lv_sub hl [1, 2, 0] rfl)
      · have h := it_t c5 h
        refine iv_bipush hx hb dX7_sort_29 (by decide +kernel) ?_
        cases h
        exact iv_iretx hs rfl hx hb hr hlocks hK hP hD hS dX7_sort_31
    · have h := it_f c3 h
      refine iv_bipush hx hb dX7_sort_11 (by decide +kernel) ?_
      cases h
      exact iv_iretx hs rfl hx hb hr hlocks hK hP hD hS dX7_sort_13
set_option maxRecDepth 20000 in
theorem wd_X7_letGo_f42 : Cond.fieldLink RX7 42 "ShirtButtons" "now" "LShirtButtons$State;" ∈ wsX7_letGo := by decide +kernel
set_option maxRecDepth 20000 in
theorem in_X7_letGo_X7 : ∀ w ∈ u_ws RX7 TX7 8, w ∈ wsX7_letGo := by decide +kernel
set_option maxRecDepth 20000 in
theorem wd_X7_letGo_f79 : Cond.fieldLink RX7 79 "ShirtButtons$State" "places" "LShirtButtons$Places;" ∈ wsX7_letGo := by decide +kernel
set_option maxRecDepth 20000 in
theorem in_X7_letGo_X5 : ∀ w ∈ u_ws RX5 TX5 8, w ∈ wsX7_letGo := by decide +kernel
set_option maxRecDepth 20000 in
theorem wd_X7_letGo_f83 : Cond.fieldLink RX7 83 "ShirtButtons$Places" "at" "[I" ∈ wsX7_letGo := by decide +kernel
set_option maxRecDepth 20000 in
theorem in_X7_letGo_X4 : ∀ w ∈ u_ws RX4 TX4 6, w ∈ wsX7_letGo := by decide +kernel
set_option maxRecDepth 20000 in
theorem wd_X7_letGo_f35 : Cond.fieldLink RX7 35 "ShirtButtons" "history" "LShirtButtons$History;" ∈ wsX7_letGo := by decide +kernel
set_option maxHeartbeats 4000000 in
set_option maxRecDepth 100000 in
theorem k_X7_letGo (l : Launch) (E : wE) (a hs : Nat → Nat) (sz : Nat) (N : Nat) (z : bX) (u : (Int × bX)) (hf : f_X7_letGo N z = some u) : cIx l yX7_letGo wsX7_letGo { frames := 4, cells := 0, slots := 0, locals := 89 } E sz [.ref (a 0)] (wX a hs E z) (fun h1 => wX a h1 E u.2) u.1 := by
  refine met_go (cc := cX7_letGo) (maxL := 2) (ret := (some .int)) (Q0 := mQix E (fun h1 => wX a h1 E u.2) u.1) (by decide +kernel) rfl (Nat.le_of_ble_eq_true rfl) ?_
  intro A p e s m below meth c hx hb hr hml hts hown hlocks hP hK hD hA hS ls hl
  have hl : lv_has ls 2 [(0, .ref (a 0))] := hl
  generalize hH : s.heap = H at hP
  have hS : va_S A s.heap H [] := by rw [← hH]; exact hS
  have hown : s.vm.findClass RX7 = some m.cls := hown
  have h := hf
  rw [f_X7_letGo] at h
  refine lv_aload_n hx hb dX7_letGo_0 rfl (lv_at hl 0 rfl) ?_
  refine va_get (D := E.1) (ci := 7) (v := .ref (a 78)) (C := RX7) (T := TX7) (N := 8) hx hb hts in_X7_letGo_X7 hown hK.1 hP 0 rfl rfl 4 (by decide) (hts _ wd_X7_letGo_f42) (fun _ h9 => h9) rfl dX7_letGo_1 ?_
  refine va_get (D := E.1) (ci := 5) (v := .ref (a 86)) (C := RX5) (T := TX5) (N := 8) hx hb hts in_X7_letGo_X5 hown hK.1 hP 78 rfl rfl 1 (by decide) (hts _ wd_X7_letGo_f79) (fun _ h9 => h9) rfl dX7_letGo_4 ?_
  refine va_get (D := E.1) (ci := 4) (v := .ref (a 91)) (C := RX4) (T := TX4) (N := 6) hx hb hts in_X7_letGo_X4 hown hK.1 hP 86 rfl rfl 4 (by decide) (hts _ wd_X7_letGo_f83) (fun _ h9 => h9) rfl dX7_letGo_7 ?_
  refine iv_iconst hx hb dX7_letGo_10 ?_
  refine iv_iald (f := z.2.2.2.1.2.1.2.2.2.2.1) (j := 2) hx hb hK.1 hP 91 0 rfl rfl (by decide) (by decide +kernel) rfl dX7_letGo_11 ?_
  obtain ⟨v1, e2, h⟩ := nm_t h
  refine iv_nm e2 ?_
  refine lv_istore_n (lv' := [(1, .int (zi v1)), (0, .ref (a 0))]) hx hb dX7_letGo_12 rfl hl (by decide) rfl (fun ls hl => ?_)
  refine lv_iload_n hx hb dX7_letGo_13 rfl (lv_at hl 0 rfl) ?_
  obtain ⟨g3, h⟩ := gd_t h
  refine iv_ne (tgt := 20) hx hb g3 dX7_letGo_14 (by decide) (fun c4 => ?_) (fun c4 => ?_)
  · have h := it_f c4 h
    refine lv_aload_n hx hb dX7_letGo_20 rfl (lv_at hl 1 rfl) ?_
    refine va_get (D := E.1) (ci := 7) (v := .ref (a 12)) (C := RX7) (T := TX7) (N := 8) hx hb hts in_X7_letGo_X7 hown hK.1 hP 0 rfl rfl 3 (by decide) (hts _ wd_X7_letGo_f35) (fun _ h9 => h9) rfl dX7_letGo_21 ?_
    refine lv_aload_n hx hb dX7_letGo_24 rfl (lv_at hl 1 rfl) ?_
    refine va_get (D := E.1) (ci := 7) (v := .ref (a 78)) (C := RX7) (T := TX7) (N := 8) hx hb hts in_X7_letGo_X7 hown hK.1 hP 0 rfl rfl 4 (by decide) (hts _ wd_X7_letGo_f42) (fun _ h9 => h9) rfl dX7_letGo_25 ?_
    obtain ⟨u5, q6, h⟩ := bd_t h
    obtain ⟨s7, e8, h⟩ := nm_t h
    obtain ⟨s9, e10, h⟩ := nm_t h
    refine iv_callVx (As := [.ref (a 78)]) (rest := []) (ws1 := fun h11 => wX a h11 E s9) ⟨hx, hb, hml, hown, hts⟩ (k_X2_remember l E (fun i => a (12 + i)) hs (fun i => a (78 + i)) H.size (z.2.2.1, z.2.2.2.1) u5 q6) (cwV 1 hts gX7_letGo_X2_remember rfl rfl rfl (by decide +kernel) ⟨Nat.le_of_ble_eq_true rfl, Nat.le_of_ble_eq_true rfl⟩) hK hP hD hS hA 12 2 rfl rfl (pm_skip (pm_skip (pm_skip (pm_take (pm_last))))) (fun h11 => by rw [e10, e8]; exact pm_skip (pm_skip (pm_skip (pm_take (pm_last))))) rfl hl.1 (Nat.le_of_ble_eq_true rfl) ⟨Nat.zero_le _, Nat.zero_le _⟩ dX7_letGo_28 (fun h11 H locs hP hD hS => ?_)
    refine lv_aload_n hx hb dX7_letGo_31 rfl (lv_at hl 1 rfl) ?_
    refine va_get (D := E.1) (ci := 7) (v := .ref (a 78)) (C := RX7) (T := TX7) (N := 8) hx hb hts in_X7_letGo_X7 hown hK.1 hP 0 rfl rfl 4 (by decide) (hts _ wd_X7_letGo_f42) (fun _ h9 => h9) rfl dX7_letGo_32 ?_
    obtain ⟨u12, q13, h⟩ := bd_t h
    obtain ⟨s14, e15, h⟩ := nm_t h
    refine iv_callVp (As := []) (rest := []) (ws1 := wX a h11 E s14) ⟨hx, hb, hml, hown, hts⟩ (k_X5_emptyMagnet l E (fun i => a (78 + i)) H.size N  s9.2.2.2.1 u12 q13) (cwV 0 hts gX7_letGo_X5_emptyMagnet rfl rfl rfl (by decide +kernel) ⟨Nat.le_of_ble_eq_true rfl, Nat.le_of_ble_eq_true rfl⟩) hK hP hD hS hA 78 5 rfl rfl (pm_skip (pm_skip (pm_skip (pm_skip (pm_last))))) (by rw [e15]; exact pm_skip (pm_skip (pm_skip (pm_skip (pm_last))))) rfl hl.1 (Nat.le_of_ble_eq_true rfl) ⟨Nat.zero_le _, Nat.zero_le _⟩ dX7_letGo_35 (fun H locs hP hD hS => ?_)
    refine lv_iload_n hx hb dX7_letGo_38 rfl (lv_at hl 0 rfl) ?_
    cases h
    exact iv_iretx h11 rfl hx hb hr hlocks hK hP hD hS dX7_letGo_39
  · have h := it_t c4 h
    refine iv_bipush hx hb dX7_letGo_17 (by decide +kernel) ?_
    cases h
    exact iv_iretx hs rfl hx hb hr hlocks hK hP hD hS dX7_letGo_19
set_option maxRecDepth 20000 in
theorem wd_X7_pour_f42 : Cond.fieldLink RX7 42 "ShirtButtons" "now" "LShirtButtons$State;" ∈ wsX7_pour := by decide +kernel
set_option maxRecDepth 20000 in
theorem in_X7_pour_X7 : ∀ w ∈ u_ws RX7 TX7 8, w ∈ wsX7_pour := by decide +kernel
set_option maxRecDepth 20000 in
theorem wd_X7_pour_f79 : Cond.fieldLink RX7 79 "ShirtButtons$State" "places" "LShirtButtons$Places;" ∈ wsX7_pour := by decide +kernel
set_option maxRecDepth 20000 in
theorem in_X7_pour_X5 : ∀ w ∈ u_ws RX5 TX5 8, w ∈ wsX7_pour := by decide +kernel
set_option maxRecDepth 20000 in
theorem wd_X7_pour_f99 : Cond.fieldLink RX7 99 "ShirtButtons$Places" "inBin" "[I" ∈ wsX7_pour := by decide +kernel
set_option maxRecDepth 20000 in
theorem in_X7_pour_X4 : ∀ w ∈ u_ws RX4 TX4 6, w ∈ wsX7_pour := by decide +kernel
set_option maxRecDepth 20000 in
theorem wd_X7_pour_f35 : Cond.fieldLink RX7 35 "ShirtButtons" "history" "LShirtButtons$History;" ∈ wsX7_pour := by decide +kernel
set_option maxHeartbeats 4000000 in
set_option maxRecDepth 100000 in
theorem k_X7_pour (l : Launch) (E : wE) (a hs : Nat → Nat) (sz : Nat) (N : Nat) (x1 : Int) (z : bX) (u : (Int × bX)) (hf : f_X7_pour N x1 z = some u) : cIx l yX7_pour wsX7_pour { frames := 5, cells := 0, slots := 0, locals := 110 } E sz [.ref (a 0), .int (zi x1)] (wX a hs E z) (fun h1 => wX a h1 E u.2) u.1 := by
  refine met_go (cc := cX7_pour) (maxL := 3) (ret := (some .int)) (Q0 := mQix E (fun h1 => wX a h1 E u.2) u.1) (by decide +kernel) rfl (Nat.le_of_ble_eq_true rfl) ?_
  intro A p e s m below meth c hx hb hr hml hts hown hlocks hP hK hD hA hS ls hl
  have hl : lv_has ls 3 [(0, .ref (a 0)), (1, .int (zi x1))] := hl
  generalize hH : s.heap = H at hP
  have hS : va_S A s.heap H [] := by rw [← hH]; exact hS
  have hown : s.vm.findClass RX7 = some m.cls := hown
  have h := hf
  rw [f_X7_pour] at h
  refine lv_iload_n hx hb dX7_pour_0 rfl (lv_at hl 1 rfl) ?_
  obtain ⟨u1, q2, h⟩ := bd_t h
  refine iv_callS (As := [.int (zi x1)]) (rest := []) ⟨hx, hb, hml, hown, hts⟩ (k_X7_isBin l E H.size x1 u1 q2) (va_cwS 1 hts gX7_pour_X7_isBin rfl rfl rfl (by decide +kernel) ⟨Nat.le_of_ble_eq_true rfl, Nat.le_of_ble_eq_true rfl⟩) hK hP hS hA rfl hl.1 (Nat.le_of_ble_eq_true rfl) ⟨Nat.zero_le _, Nat.zero_le _⟩ dX7_pour_1 (fun H locs hP hS => ?_)
  obtain ⟨g3, h⟩ := gd_t h
  refine iv_ne (tgt := 9) hx hb g3 dX7_pour_4 (by decide) (fun c4 => ?_) (fun c4 => ?_)
  · have h := it_f c4 h
    refine lv_aload_n hx hb dX7_pour_9 rfl (lv_at hl 0 rfl) ?_
    refine va_get (D := E.1) (ci := 7) (v := .ref (a 78)) (C := RX7) (T := TX7) (N := 8) hx hb hts in_X7_pour_X7 hown hK.1 hP 0 rfl rfl 4 (by decide) (hts _ wd_X7_pour_f42) (fun _ h9 => h9) rfl dX7_pour_10 ?_
    refine va_get (D := E.1) (ci := 5) (v := .ref (a 86)) (C := RX5) (T := TX5) (N := 8) hx hb hts in_X7_pour_X5 hown hK.1 hP 78 rfl rfl 1 (by decide) (hts _ wd_X7_pour_f79) (fun _ h9 => h9) rfl dX7_pour_13 ?_
    refine va_get (D := E.1) (ci := 4) (v := .ref (a 92)) (C := RX4) (T := TX4) (N := 6) hx hb hts in_X7_pour_X4 hown hK.1 hP 86 rfl rfl 5 (by decide) (hts _ wd_X7_pour_f99) (fun _ h9 => h9) rfl dX7_pour_16 ?_
    refine lv_iload_n hx hb dX7_pour_19 rfl (lv_at hl 1 rfl) ?_
    obtain ⟨g5, h⟩ := gd_t h
    refine iv_iald (f := z.2.2.2.1.2.1.2.2.2.2.2) (j := x1.toNat) hx hb hK.1 hP 92 0 rfl rfl (by decide) g5 rfl dX7_pour_20 ?_
    obtain ⟨v6, e7, h⟩ := nm_t h
    refine iv_nm e7 ?_
    refine lv_istore_n (lv' := [(2, .int (zi v6)), (0, .ref (a 0)), (1, .int (zi x1))]) hx hb dX7_pour_21 rfl hl (by decide) rfl (fun ls hl => ?_)
    refine lv_iload_n hx hb dX7_pour_22 rfl (lv_at hl 0 rfl) ?_
    obtain ⟨g8, h⟩ := gd_t h
    refine iv_ne (tgt := 29) hx hb g8 dX7_pour_23 (by decide) (fun c9 => ?_) (fun c9 => ?_)
    · have h := it_f c9 h
      refine lv_aload_n hx hb dX7_pour_29 rfl (lv_at hl 1 rfl) ?_
      refine va_get (D := E.1) (ci := 7) (v := .ref (a 12)) (C := RX7) (T := TX7) (N := 8) hx hb hts in_X7_pour_X7 hown hK.1 hP 0 rfl rfl 3 (by decide) (hts _ wd_X7_pour_f35) (fun _ h9 => h9) rfl dX7_pour_30 ?_
      refine lv_aload_n hx hb dX7_pour_33 rfl (lv_at hl 1 rfl) ?_
      refine va_get (D := E.1) (ci := 7) (v := .ref (a 78)) (C := RX7) (T := TX7) (N := 8) hx hb hts in_X7_pour_X7 hown hK.1 hP 0 rfl rfl 4 (by decide) (hts _ wd_X7_pour_f42) (fun _ h9 => h9) rfl dX7_pour_34 ?_
      obtain ⟨u10, q11, h⟩ := bd_t h
      obtain ⟨s12, e13, h⟩ := nm_t h
      obtain ⟨s14, e15, h⟩ := nm_t h
      refine iv_callVx (As := [.ref (a 78)]) (rest := []) (ws1 := fun h16 => wX a h16 E s14) ⟨hx, hb, hml, hown, hts⟩ (k_X2_remember l E (fun i => a (12 + i)) hs (fun i => a (78 + i)) H.size (z.2.2.1, z.2.2.2.1) u10 q11) (cwV 1 hts gX7_pour_X2_remember rfl rfl rfl (by decide +kernel) ⟨Nat.le_of_ble_eq_true rfl, Nat.le_of_ble_eq_true rfl⟩) hK hP hD hS hA 12 2 rfl rfl (pm_skip (pm_skip (pm_skip (pm_take (pm_last))))) (fun h16 => by rw [e15, e13]; exact pm_skip (pm_skip (pm_skip (pm_take (pm_last))))) rfl hl.1 (Nat.le_of_ble_eq_true rfl) ⟨Nat.zero_le _, Nat.zero_le _⟩ dX7_pour_37 (fun h16 H locs hP hD hS => ?_)
      refine lv_aload_n hx hb dX7_pour_40 rfl (lv_at hl 1 rfl) ?_
      refine va_get (D := E.1) (ci := 7) (v := .ref (a 78)) (C := RX7) (T := TX7) (N := 8) hx hb hts in_X7_pour_X7 hown hK.1 hP 0 rfl rfl 4 (by decide) (hts _ wd_X7_pour_f42) (fun _ h9 => h9) rfl dX7_pour_41 ?_
      refine lv_iload_n hx hb dX7_pour_44 rfl (lv_at hl 2 rfl) ?_
      obtain ⟨u17, q18, h⟩ := bd_t h
      obtain ⟨s19, e20, h⟩ := nm_t h
      refine iv_callVp (As := [.int (zi x1)]) (rest := []) (ws1 := wX a h16 E s19) ⟨hx, hb, hml, hown, hts⟩ (k_X5_emptyBin l E (fun i => a (78 + i)) H.size N x1 s14.2.2.2.1 u17 q18) (cwV 1 hts gX7_pour_X5_emptyBin rfl rfl rfl (by decide +kernel) ⟨Nat.le_of_ble_eq_true rfl, Nat.le_of_ble_eq_true rfl⟩) hK hP hD hS hA 78 5 rfl rfl (pm_skip (pm_skip (pm_skip (pm_skip (pm_last))))) (by rw [e20]; exact pm_skip (pm_skip (pm_skip (pm_skip (pm_last))))) rfl hl.1 (Nat.le_of_ble_eq_true rfl) ⟨Nat.zero_le _, Nat.zero_le _⟩ dX7_pour_45 (fun H locs hP hD hS => ?_)
      refine lv_iload_n hx hb dX7_pour_48 rfl (lv_at hl 0 rfl) ?_
      cases h
      exact iv_iretx h16 rfl hx hb hr hlocks hK hP hD hS dX7_pour_49
    · have h := it_t c9 h
      refine iv_bipush hx hb dX7_pour_26 (by decide +kernel) ?_
      cases h
      exact iv_iretx hs rfl hx hb hr hlocks hK hP hD hS dX7_pour_28
  · have h := it_t c4 h
    refine iv_iconst hx hb dX7_pour_7 ?_
    cases h
    exact iv_iretx hs rfl hx hb hr hlocks hK hP hD hS dX7_pour_8
set_option maxHeartbeats 4000000 in
set_option maxRecDepth 100000 in
theorem k_X7_isWanted (l : Launch) (E : wE) (sz : Nat) (x0 : Int) (u : Int) (hf : f_X7_isWanted x0  = some u) : cI l yX7_isWanted wsX7_isWanted { frames := 0, cells := 0, slots := 0, locals := 0 } E sz [.int (zi x0)] ([]) ([]) u := by
  refine met_go (cc := cX7_isWanted) (maxL := 1) (ret := (some .boolean)) (Q0 := mQi E ([]) u) (by decide +kernel) rfl (Nat.le_of_ble_eq_true rfl) ?_
  intro A p e s m below meth c hx hb hr hml hts hown hlocks hP hK hD hA hS ls hl
  have hl : lv_has ls 1 [(0, .int (zi x0))] := hl
  generalize hH : s.heap = H at hP
  have hS : va_S A s.heap H [] := by rw [← hH]; exact hS
  have hown : s.vm.findClass RX7 = some m.cls := hown
  have h := hf
  rw [f_X7_isWanted] at h
  refine lv_iload_n hx hb dX7_isWanted_0 rfl (lv_at hl 0 rfl) ?_
  refine iv_iconst hx hb dX7_isWanted_1 ?_
  obtain ⟨g1, h⟩ := gd_t h
  refine iv_ilt (tgt := 15) hx hb g1 (by decide +kernel) dX7_isWanted_2 (by decide) (fun c2 => ?_) (fun c2 => ?_)
  · have h := it_t c2 h
    refine iv_iconst hx hb dX7_isWanted_15 ?_
    cases h
    exact iv_zret (r := 0) hx hb hr hlocks (by decide +kernel) hK hP hD hS dX7_isWanted_16
  · have h := it_f c2 h
    refine lv_iload_n hx hb dX7_isWanted_5 rfl (lv_at hl 0 rfl) ?_
    refine iv_bipush hx hb dX7_isWanted_6 (by decide +kernel) ?_
    refine iv_igt (tgt := 15) hx hb g1 (by decide +kernel) dX7_isWanted_8 (by decide) (fun c3 => ?_) (fun c3 => ?_)
    · have h := it_t c3 h
      refine iv_iconst hx hb dX7_isWanted_15 ?_
      cases h
      exact iv_zret (r := 0) hx hb hr hlocks (by decide +kernel) hK hP hD hS dX7_isWanted_16
    · have h := it_f c3 h
      refine iv_iconst hx hb dX7_isWanted_11 ?_
      refine lv_goto (tgt := 16) hx hb dX7_isWanted_12 (by decide) ?_
      cases h
      exact iv_zret (r := 1) hx hb hr hlocks (by decide +kernel) hK hP hD hS dX7_isWanted_16
set_option maxRecDepth 20000 in
theorem wd_X7_refusalOf_f28 : Cond.fieldLink RX7 28 "ShirtButtons" "order" "LShirtButtons$Order;" ∈ wsX7_refusalOf := by decide +kernel
set_option maxRecDepth 20000 in
theorem in_X7_refusalOf_X7 : ∀ w ∈ u_ws RX7 TX7 8, w ∈ wsX7_refusalOf := by decide +kernel
set_option maxRecDepth 20000 in
theorem wd_X7_refusalOf_f189 : Cond.fieldLink RX7 189 "ShirtButtons$Order" "count" "I" ∈ wsX7_refusalOf := by decide +kernel
set_option maxRecDepth 20000 in
theorem in_X7_refusalOf_X3 : ∀ w ∈ u_ws RX3 TX3 3, w ∈ wsX7_refusalOf := by decide +kernel
set_option maxRecDepth 20000 in
theorem wd_X7_refusalOf_f42 : Cond.fieldLink RX7 42 "ShirtButtons" "now" "LShirtButtons$State;" ∈ wsX7_refusalOf := by decide +kernel
set_option maxRecDepth 20000 in
theorem wd_X7_refusalOf_f113 : Cond.fieldLink RX7 113 "ShirtButtons$State" "settings" "[I" ∈ wsX7_refusalOf := by decide +kernel
set_option maxRecDepth 20000 in
theorem in_X7_refusalOf_X5 : ∀ w ∈ u_ws RX5 TX5 8, w ∈ wsX7_refusalOf := by decide +kernel
set_option maxHeartbeats 4000000 in
set_option maxRecDepth 100000 in
theorem k_X7_refusalOf (l : Launch) (E : wE) (a hs : Nat → Nat) (sz : Nat) (N : Nat) (x1 : Int) (z : bX) (u : (Int × bX)) (hf : f_X7_refusalOf N x1 z = some u) : cI l yX7_refusalOf wsX7_refusalOf { frames := 2, cells := 0, slots := 0, locals := 45 } E sz [.ref (a 0), .int (zi x1)] (wX a hs E z) (wX a hs E u.2) u.1 := by
  refine met_go (cc := cX7_refusalOf) (maxL := 2) (ret := (some .int)) (Q0 := mQi E (wX a hs E u.2) u.1) (by decide +kernel) rfl (Nat.le_of_ble_eq_true rfl) ?_
  intro A p e s m below meth c hx hb hr hml hts hown hlocks hP hK hD hA hS ls hl
  have hl : lv_has ls 2 [(0, .ref (a 0)), (1, .int (zi x1))] := hl
  generalize hH : s.heap = H at hP
  have hS : va_S A s.heap H [] := by rw [← hH]; exact hS
  have hown : s.vm.findClass RX7 = some m.cls := hown
  have h := hf
  rw [f_X7_refusalOf] at h
  refine lv_aload_n hx hb dX7_refusalOf_0 rfl (lv_at hl 0 rfl) ?_
  refine va_get (D := E.1) (ci := 7) (v := .ref (a 9)) (C := RX7) (T := TX7) (N := 8) hx hb hts in_X7_refusalOf_X7 hown hK.1 hP 0 rfl rfl 2 (by decide) (hts _ wd_X7_refusalOf_f28) (fun _ h9 => h9) rfl dX7_refusalOf_1 ?_
  refine va_get (D := E.1) (ci := 3) (v := .int (zi z.2.1.2.2)) (C := RX3) (T := TX3) (N := 3) hx hb hts in_X7_refusalOf_X3 hown hK.1 hP 9 rfl rfl 2 (by decide) (hts _ wd_X7_refusalOf_f189) (fun _ h9 => h9) rfl dX7_refusalOf_4 ?_
  refine lv_iload_n hx hb dX7_refusalOf_7 rfl (lv_at hl 1 rfl) ?_
  obtain ⟨g1, h⟩ := gd_t h
  obtain ⟨g2, h⟩ := gd_t h
  refine iv_ige (tgt := 13) hx hb g1 g2 dX7_refusalOf_8 (by decide) (fun c3 => ?_) (fun c3 => ?_)
  · have h := it_t c3 h
    refine lv_aload_n hx hb dX7_refusalOf_13 rfl (lv_at hl 0 rfl) ?_
    refine va_get (D := E.1) (ci := 7) (v := .ref (a 9)) (C := RX7) (T := TX7) (N := 8) hx hb hts in_X7_refusalOf_X7 hown hK.1 hP 0 rfl rfl 2 (by decide) (hts _ wd_X7_refusalOf_f28) (fun _ h9 => h9) rfl dX7_refusalOf_14 ?_
    refine lv_iload_n hx hb dX7_refusalOf_17 rfl (lv_at hl 1 rfl) ?_
    refine lv_aload_n hx hb dX7_refusalOf_18 rfl (lv_at hl 0 rfl) ?_
    refine va_get (D := E.1) (ci := 7) (v := .ref (a 78)) (C := RX7) (T := TX7) (N := 8) hx hb hts in_X7_refusalOf_X7 hown hK.1 hP 0 rfl rfl 4 (by decide) (hts _ wd_X7_refusalOf_f42) (fun _ h9 => h9) rfl dX7_refusalOf_19 ?_
    refine va_get (D := E.1) (ci := 5) (v := .ref (a 93)) (C := RX5) (T := TX5) (N := 8) hx hb hts in_X7_refusalOf_X5 hown hK.1 hP 78 rfl rfl 2 (by decide) (hts _ wd_X7_refusalOf_f113) (fun _ h9 => h9) rfl dX7_refusalOf_22 ?_
    refine iv_bipush hx hb dX7_refusalOf_25 (by decide +kernel) ?_
    refine iv_iald (f := z.2.2.2.1.2.2.1) (j := 7) hx hb hK.1 hP 93 0 rfl rfl (by decide) (by decide +kernel) rfl dX7_refusalOf_27 ?_
    obtain ⟨u4, q5, h⟩ := bd_t h
    obtain ⟨s6, e7, h⟩ := nm_t h
    refine iv_callIp (As := [.int (zi x1), .int (zi (z.2.2.2.1.2.2.1 7))]) (rest := []) (ws1 := wX a hs E s6) ⟨hx, hb, hml, hown, hts⟩ (k_X3_firstAlike l E (fun i => a (9 + i)) H.size N x1 (z.2.2.2.1.2.2.1 7) z.2.1 u4 q5) (cwV 2 hts gX7_refusalOf_X3_firstAlike rfl rfl rfl (by decide +kernel) ⟨Nat.le_of_ble_eq_true rfl, Nat.le_of_ble_eq_true rfl⟩) hK hP hD hS hA 9 3 rfl rfl (pm_skip (pm_skip (pm_last))) (by rw [e7]; exact pm_skip (pm_skip (pm_last))) rfl hl.1 (Nat.le_of_ble_eq_true rfl) ⟨Nat.zero_le _, Nat.zero_le _⟩ dX7_refusalOf_28 (fun H locs hP hD hS => ?_)
    obtain ⟨g8, h⟩ := gd_t h
    refine iv_lt (tgt := 38) hx hb g8 dX7_refusalOf_31 (by decide) (fun c9 => ?_) (fun c9 => ?_)
    · have h := it_t c9 h
      refine iv_iconst hx hb dX7_refusalOf_38 ?_
      cases h
      exact iv_iret hx hb hr hlocks hK hP hD hS dX7_refusalOf_39
    · have h := it_f c9 h
      refine iv_iconst hx hb dX7_refusalOf_34 ?_
      refine lv_goto (tgt := 39) hx hb dX7_refusalOf_35 (by decide) ?_
      cases h
      exact iv_iret hx hb hr hlocks hK hP hD hS dX7_refusalOf_39
  · have h := it_f c3 h
    refine iv_iconst hx hb dX7_refusalOf_11 ?_
    cases h
    exact iv_iret hx hb hr hlocks hK hP hD hS dX7_refusalOf_12
set_option maxRecDepth 20000 in
theorem wd_X7_shirt_f28 : Cond.fieldLink RX7 28 "ShirtButtons" "order" "LShirtButtons$Order;" ∈ wsX7_shirt := by decide +kernel
set_option maxRecDepth 20000 in
theorem in_X7_shirt_X7 : ∀ w ∈ u_ws RX7 TX7 8, w ∈ wsX7_shirt := by decide +kernel
set_option maxRecDepth 20000 in
theorem wd_X7_shirt_f42 : Cond.fieldLink RX7 42 "ShirtButtons" "now" "LShirtButtons$State;" ∈ wsX7_shirt := by decide +kernel
set_option maxRecDepth 20000 in
theorem wd_X7_shirt_f113 : Cond.fieldLink RX7 113 "ShirtButtons$State" "settings" "[I" ∈ wsX7_shirt := by decide +kernel
set_option maxRecDepth 20000 in
theorem in_X7_shirt_X5 : ∀ w ∈ u_ws RX5 TX5 8, w ∈ wsX7_shirt := by decide +kernel
set_option maxRecDepth 20000 in
theorem wd_X7_shirt_f35 : Cond.fieldLink RX7 35 "ShirtButtons" "history" "LShirtButtons$History;" ∈ wsX7_shirt := by decide +kernel
set_option maxHeartbeats 4000000 in
set_option maxRecDepth 100000 in
theorem k_X7_shirt (l : Launch) (E : wE) (a hs : Nat → Nat) (sz : Nat) (N : Nat) (x1 x2 : Int) (z : bX) (u : (Int × bX)) (hf : f_X7_shirt N x1 x2 z = some u) : cIx l yX7_shirt wsX7_shirt { frames := 4, cells := 0, slots := 0, locals := 92 } E sz [.ref (a 0), .int (zi x1), .int (zi x2)] (wX a hs E z) (fun h1 => wX a h1 E u.2) u.1 := by
  refine met_go (cc := cX7_shirt) (maxL := 4) (ret := (some .int)) (Q0 := mQix E (fun h1 => wX a h1 E u.2) u.1) (by decide +kernel) rfl (Nat.le_of_ble_eq_true rfl) ?_
  intro A p e s m below meth c hx hb hr hml hts hown hlocks hP hK hD hA hS ls hl
  have hl : lv_has ls 4 [(0, .ref (a 0)), (1, .int (zi x1)), (2, .int (zi x2))] := hl
  generalize hH : s.heap = H at hP
  have hS : va_S A s.heap H [] := by rw [← hH]; exact hS
  have hown : s.vm.findClass RX7 = some m.cls := hown
  have h := hf
  rw [f_X7_shirt] at h
  refine lv_iload_n hx hb dX7_shirt_0 rfl (lv_at hl 1 rfl) ?_
  obtain ⟨u1, q2, h⟩ := bd_t h
  refine iv_callS (As := [.int (zi x1)]) (rest := []) ⟨hx, hb, hml, hown, hts⟩ (k_X7_isBin l E H.size x1 u1 q2) (va_cwS 1 hts gX7_shirt_X7_isBin rfl rfl rfl (by decide +kernel) ⟨Nat.le_of_ble_eq_true rfl, Nat.le_of_ble_eq_true rfl⟩) hK hP hS hA rfl hl.1 (Nat.le_of_ble_eq_true rfl) ⟨Nat.zero_le _, Nat.zero_le _⟩ dX7_shirt_1 (fun H locs hP hS => ?_)
  obtain ⟨g3, h⟩ := gd_t h
  refine iv_ne (tgt := 9) hx hb g3 dX7_shirt_4 (by decide) (fun c4 => ?_) (fun c4 => ?_)
  · have h := it_f c4 h
    refine lv_iload_n hx hb dX7_shirt_9 rfl (lv_at hl 2 rfl) ?_
    obtain ⟨u5, q6, h⟩ := bd_t h
    refine iv_callS (As := [.int (zi x2)]) (rest := []) ⟨hx, hb, hml, hown, hts⟩ (k_X7_isWanted l E H.size x2 u5 q6) (va_cwS 1 hts gX7_shirt_X7_isWanted rfl rfl rfl (by decide +kernel) ⟨Nat.le_of_ble_eq_true rfl, Nat.le_of_ble_eq_true rfl⟩) hK hP hS hA rfl hl.1 (Nat.le_of_ble_eq_true rfl) ⟨Nat.zero_le _, Nat.zero_le _⟩ dX7_shirt_10 (fun H locs hP hS => ?_)
    obtain ⟨g7, h⟩ := gd_t h
    refine iv_ne (tgt := 19) hx hb g7 dX7_shirt_13 (by decide) (fun c8 => ?_) (fun c8 => ?_)
    · have h := it_f c8 h
      refine lv_aload_n hx hb dX7_shirt_19 rfl (lv_at hl 0 rfl) ?_
      refine va_get (D := E.1) (ci := 7) (v := .ref (a 9)) (C := RX7) (T := TX7) (N := 8) hx hb hts in_X7_shirt_X7 hown hK.1 hP 0 rfl rfl 2 (by decide) (hts _ wd_X7_shirt_f28) (fun _ h9 => h9) rfl dX7_shirt_20 ?_
      refine lv_aload_n hx hb dX7_shirt_23 rfl (lv_at hl 0 rfl) ?_
      refine va_get (D := E.1) (ci := 7) (v := .ref (a 78)) (C := RX7) (T := TX7) (N := 8) hx hb hts in_X7_shirt_X7 hown hK.1 hP 0 rfl rfl 4 (by decide) (hts _ wd_X7_shirt_f42) (fun _ h9 => h9) rfl dX7_shirt_24 ?_
      refine lv_iload_n hx hb dX7_shirt_27 rfl (lv_at hl 1 rfl) ?_
      obtain ⟨u9, q10, h⟩ := bd_t h
      obtain ⟨s11, e12, h⟩ := nm_t h
      obtain ⟨s13, e14, h⟩ := nm_t h
      refine iv_callVp (As := [.ref (a 78), .int (zi x1)]) (rest := []) (ws1 := wX a hs E s13) ⟨hx, hb, hml, hown, hts⟩ (k_X3_fill l E (fun i => a (9 + i)) (fun i => a (78 + i)) H.size N x1 (z.2.1, z.2.2.2.1) u9 q10) (cwV 2 hts gX7_shirt_X3_fill rfl rfl rfl (by decide +kernel) ⟨Nat.le_of_ble_eq_true rfl, Nat.le_of_ble_eq_true rfl⟩) hK hP hD hS hA 9 3 rfl rfl (pm_skip (pm_skip (pm_take (pm_skip (pm_last))))) (by rw [e14, e12]; exact pm_skip (pm_skip (pm_take (pm_skip (pm_last))))) rfl hl.1 (Nat.le_of_ble_eq_true rfl) ⟨Nat.zero_le _, Nat.zero_le _⟩ dX7_shirt_28 (fun H locs hP hD hS => ?_)
      refine lv_aload_n hx hb dX7_shirt_31 rfl (lv_at hl 0 rfl) ?_
      refine va_get (D := E.1) (ci := 7) (v := .ref (a 9)) (C := RX7) (T := TX7) (N := 8) hx hb hts in_X7_shirt_X7 hown hK.1 hP 0 rfl rfl 2 (by decide) (hts _ wd_X7_shirt_f28) (fun _ h9 => h9) rfl dX7_shirt_32 ?_
      refine lv_iload_n hx hb dX7_shirt_35 rfl (lv_at hl 2 rfl) ?_
      refine lv_aload_n hx hb dX7_shirt_36 rfl (lv_at hl 0 rfl) ?_
      refine va_get (D := E.1) (ci := 7) (v := .ref (a 78)) (C := RX7) (T := TX7) (N := 8) hx hb hts in_X7_shirt_X7 hown hK.1 hP 0 rfl rfl 4 (by decide) (hts _ wd_X7_shirt_f42) (fun _ h9 => h9) rfl dX7_shirt_37 ?_
      refine va_get (D := E.1) (ci := 5) (v := .ref (a 93)) (C := RX5) (T := TX5) (N := 8) hx hb hts in_X7_shirt_X5 hown hK.1 hP 78 rfl rfl 2 (by decide) (hts _ wd_X7_shirt_f113) (fun _ h9 => h9) rfl dX7_shirt_40 ?_
      refine iv_bipush hx hb dX7_shirt_43 (by decide +kernel) ?_
      refine iv_iald (f := s13.2.2.2.1.2.2.1) (j := 7) hx hb hK.1 hP 93 0 rfl rfl (by decide) (by decide +kernel) rfl dX7_shirt_45 ?_
      obtain ⟨u15, q16, h⟩ := bd_t h
      obtain ⟨s17, e18, h⟩ := nm_t h
      refine iv_callIp (As := [.int (zi x2), .int (zi (s13.2.2.2.1.2.2.1 7))]) (rest := []) (ws1 := wX a hs E s17) ⟨hx, hb, hml, hown, hts⟩ (k_X3_firstAlike l E (fun i => a (9 + i)) H.size N x2 (s13.2.2.2.1.2.2.1 7) s13.2.1 u15 q16) (cwV 2 hts gX7_shirt_X3_firstAlike rfl rfl rfl (by decide +kernel) ⟨Nat.le_of_ble_eq_true rfl, Nat.le_of_ble_eq_true rfl⟩) hK hP hD hS hA 9 3 rfl rfl (pm_skip (pm_skip (pm_last))) (by rw [e18]; exact pm_skip (pm_skip (pm_last))) rfl hl.1 (Nat.le_of_ble_eq_true rfl) ⟨Nat.zero_le _, Nat.zero_le _⟩ dX7_shirt_46 (fun H locs hP hD hS => ?_)
      refine lv_istore_n (lv' := [(3, .int (zi u15.1)), (0, .ref (a 0)), (1, .int (zi x1)), (2, .int (zi x2))]) hx hb dX7_shirt_49 rfl hl (by decide) rfl (fun ls hl => ?_)
      refine lv_iload_n hx hb dX7_shirt_50 rfl (lv_at hl 0 rfl) ?_
      obtain ⟨g19, h⟩ := gd_t h
      refine iv_ge (tgt := 63) hx hb g19 dX7_shirt_51 (by decide) (fun c20 => ?_) (fun c20 => ?_)
      · have h := it_t c20 h
        refine lv_aload_n hx hb dX7_shirt_63 rfl (lv_at hl 1 rfl) ?_
        refine va_get (D := E.1) (ci := 7) (v := .ref (a 12)) (C := RX7) (T := TX7) (N := 8) hx hb hts in_X7_shirt_X7 hown hK.1 hP 0 rfl rfl 3 (by decide) (hts _ wd_X7_shirt_f35) (fun _ h9 => h9) rfl dX7_shirt_64 ?_
        refine lv_aload_n hx hb dX7_shirt_67 rfl (lv_at hl 1 rfl) ?_
        refine va_get (D := E.1) (ci := 7) (v := .ref (a 78)) (C := RX7) (T := TX7) (N := 8) hx hb hts in_X7_shirt_X7 hown hK.1 hP 0 rfl rfl 4 (by decide) (hts _ wd_X7_shirt_f42) (fun _ h9 => h9) rfl dX7_shirt_68 ?_
        obtain ⟨u21, q22, h⟩ := bd_t h
        obtain ⟨s23, e24, h⟩ := nm_t h
        obtain ⟨s25, e26, h⟩ := nm_t h
        refine iv_callVx (As := [.ref (a 78)]) (rest := []) (ws1 := fun h27 => wX a h27 E s25) ⟨hx, hb, hml, hown, hts⟩ (k_X2_remember l E (fun i => a (12 + i)) hs (fun i => a (78 + i)) H.size (s17.2.2.1, s17.2.2.2.1) u21 q22) (cwV 1 hts gX7_shirt_X2_remember rfl rfl rfl (by decide +kernel) ⟨Nat.le_of_ble_eq_true rfl, Nat.le_of_ble_eq_true rfl⟩) hK hP hD hS hA 12 2 rfl rfl (pm_skip (pm_skip (pm_skip (pm_take (pm_last))))) (fun h27 => by rw [e26, e24]; exact pm_skip (pm_skip (pm_skip (pm_take (pm_last))))) rfl hl.1 (Nat.le_of_ble_eq_true rfl) ⟨Nat.zero_le _, Nat.zero_le _⟩ dX7_shirt_71 (fun h27 H locs hP hD hS => ?_)
        refine lv_aload_n hx hb dX7_shirt_74 rfl (lv_at hl 1 rfl) ?_
        refine va_get (D := E.1) (ci := 7) (v := .ref (a 78)) (C := RX7) (T := TX7) (N := 8) hx hb hts in_X7_shirt_X7 hown hK.1 hP 0 rfl rfl 4 (by decide) (hts _ wd_X7_shirt_f42) (fun _ h9 => h9) rfl dX7_shirt_75 ?_
        refine lv_aload_n hx hb dX7_shirt_78 rfl (lv_at hl 1 rfl) ?_
        refine va_get (D := E.1) (ci := 7) (v := .ref (a 9)) (C := RX7) (T := TX7) (N := 8) hx hb hts in_X7_shirt_X7 hown hK.1 hP 0 rfl rfl 2 (by decide) (hts _ wd_X7_shirt_f28) (fun _ h9 => h9) rfl dX7_shirt_79 ?_
        refine lv_iload_n hx hb dX7_shirt_82 rfl (lv_at hl 0 rfl) ?_
        refine lv_iload_n hx hb dX7_shirt_83 rfl (lv_at hl 3 rfl) ?_
        obtain ⟨u28, q29, h⟩ := bd_t h
        obtain ⟨s30, e31, h⟩ := nm_t h
        obtain ⟨s32, e33, h⟩ := nm_t h
        refine iv_callIp (As := [.ref (a 9), .int (zi u15.1), .int (zi x2)]) (rest := []) (ws1 := wX a h27 E s32) ⟨hx, hb, hml, hown, hts⟩ (k_X5_makeShirt l E (fun i => a (78 + i)) (fun i => a (9 + i)) H.size N u15.1 x2 (s25.2.2.2.1, s25.2.1) u28 q29) (cwV 3 hts gX7_shirt_X5_makeShirt rfl rfl rfl (by decide +kernel) ⟨Nat.le_of_ble_eq_true rfl, Nat.le_of_ble_eq_true rfl⟩) hK hP hD hS hA 78 5 rfl rfl (pm_skip (pm_skip (pm_takeR (pm_skip (pm_last))))) (by rw [e33, e31]; exact pm_skip (pm_skip (pm_takeR (pm_skip (pm_last))))) rfl hl.1 (Nat.le_of_ble_eq_true rfl) ⟨Nat.zero_le _, Nat.zero_le _⟩ dX7_shirt_84 (fun H locs hP hD hS => ?_)
        cases h
        exact iv_iretx h27 rfl hx hb hr hlocks hK hP hD hS dX7_shirt_87
      · have h := it_f c20 h
        refine iv_bipush hx hb dX7_shirt_54 (by decide +kernel) ?_
        refine lv_aload_n hx hb dX7_shirt_56 rfl (lv_at hl 1 rfl) ?_
        refine lv_iload_n hx hb dX7_shirt_57 rfl (lv_at hl 3 rfl) ?_
        obtain ⟨u34, q35, h⟩ := bd_t h
        refine iv_callIf (As := [.int (zi x2)]) (rest := [.int (zi (-10))]) ⟨hx, hb, hml, hown, hts⟩ (k_X7_refusalOf l E a hs H.size N x2 s17 u34 q35) (cwV 1 hts gX7_shirt_X7_refusalOf rfl rfl rfl (by decide +kernel) ⟨Nat.le_of_ble_eq_true rfl, Nat.le_of_ble_eq_true rfl⟩) hK hP hD hS hA 0 7 rfl rfl rfl hl.1 (Nat.le_of_ble_eq_true rfl) ⟨Nat.zero_le _, Nat.zero_le _⟩ dX7_shirt_58 (fun H locs hP hD hS => ?_)
        refine iv_isub hx hb dX7_shirt_61 ?_
        cases h
        exact iv_iretx hs rfl hx hb hr hlocks hK hP hD hS dX7_shirt_62
    · have h := it_t c8 h
      refine iv_bipush hx hb dX7_shirt_16 (by decide +kernel) ?_
      cases h
      exact iv_iretx hs rfl hx hb hr hlocks hK hP hD hS dX7_shirt_18
  · have h := it_t c4 h
    refine iv_iconst hx hb dX7_shirt_7 ?_
    cases h
    exact iv_iretx hs rfl hx hb hr hlocks hK hP hD hS dX7_shirt_8
set_option maxRecDepth 20000 in
theorem wd_X7_polish_f42 : Cond.fieldLink RX7 42 "ShirtButtons" "now" "LShirtButtons$State;" ∈ wsX7_polish := by decide +kernel
set_option maxRecDepth 20000 in
theorem in_X7_polish_X7 : ∀ w ∈ u_ws RX7 TX7 8, w ∈ wsX7_polish := by decide +kernel
set_option maxRecDepth 20000 in
theorem wd_X7_polish_f60 : Cond.fieldLink RX7 60 "ShirtButtons$State" "buttons" "LShirtButtons$Buttons;" ∈ wsX7_polish := by decide +kernel
set_option maxRecDepth 20000 in
theorem in_X7_polish_X5 : ∀ w ∈ u_ws RX5 TX5 8, w ∈ wsX7_polish := by decide +kernel
set_option maxRecDepth 20000 in
theorem wd_X7_polish_f79 : Cond.fieldLink RX7 79 "ShirtButtons$State" "places" "LShirtButtons$Places;" ∈ wsX7_polish := by decide +kernel
set_option maxRecDepth 20000 in
theorem wd_X7_polish_f131 : Cond.fieldLink RX7 131 "ShirtButtons$Places" "place" "[I" ∈ wsX7_polish := by decide +kernel
set_option maxRecDepth 20000 in
theorem in_X7_polish_X4 : ∀ w ∈ u_ws RX4 TX4 6, w ∈ wsX7_polish := by decide +kernel
set_option maxRecDepth 20000 in
theorem wd_X7_polish_f134 : Cond.fieldLink RX7 134 "ShirtButtons$Buttons" "shine" "[I" ∈ wsX7_polish := by decide +kernel
set_option maxRecDepth 20000 in
theorem in_X7_polish_X1 : ∀ w ∈ u_ws RX1 TX1 7, w ∈ wsX7_polish := by decide +kernel
set_option maxRecDepth 20000 in
theorem wd_X7_polish_f35 : Cond.fieldLink RX7 35 "ShirtButtons" "history" "LShirtButtons$History;" ∈ wsX7_polish := by decide +kernel
set_option maxHeartbeats 4000000 in
set_option maxRecDepth 100000 in
theorem k_X7_polish (l : Launch) (E : wE) (a hs : Nat → Nat) (sz : Nat) (x1 : Int) (z : bX) (u : (Int × bX)) (hf : f_X7_polish x1 z = some u) : cIx l yX7_polish wsX7_polish { frames := 4, cells := 0, slots := 0, locals := 89 } E sz [.ref (a 0), .int (zi x1)] (wX a hs E z) (fun h1 => wX a h1 E u.2) u.1 := by
  refine met_go (cc := cX7_polish) (maxL := 2) (ret := (some .int)) (Q0 := mQix E (fun h1 => wX a h1 E u.2) u.1) (by decide +kernel) rfl (Nat.le_of_ble_eq_true rfl) ?_
  intro A p e s m below meth c hx hb hr hml hts hown hlocks hP hK hD hA hS ls hl
  have hl : lv_has ls 2 [(0, .ref (a 0)), (1, .int (zi x1))] := hl
  generalize hH : s.heap = H at hP
  have hS : va_S A s.heap H [] := by rw [← hH]; exact hS
  have hown : s.vm.findClass RX7 = some m.cls := hown
  have h := hf
  rw [f_X7_polish] at h
  refine lv_aload_n hx hb dX7_polish_0 rfl (lv_at hl 0 rfl) ?_
  refine va_get (D := E.1) (ci := 7) (v := .ref (a 78)) (C := RX7) (T := TX7) (N := 8) hx hb hts in_X7_polish_X7 hown hK.1 hP 0 rfl rfl 4 (by decide) (hts _ wd_X7_polish_f42) (fun _ h9 => h9) rfl dX7_polish_1 ?_
  refine va_get (D := E.1) (ci := 5) (v := .ref (a 79)) (C := RX5) (T := TX5) (N := 8) hx hb hts in_X7_polish_X5 hown hK.1 hP 78 rfl rfl 0 (by decide) (hts _ wd_X7_polish_f60) (fun _ h9 => h9) rfl dX7_polish_4 ?_
  refine lv_iload_n hx hb dX7_polish_7 rfl (lv_at hl 1 rfl) ?_
  obtain ⟨u1, q2, h⟩ := bd_t h
  obtain ⟨s3, e4, h⟩ := nm_t h
  refine iv_callIp (As := [.int (zi x1)]) (rest := []) (ws1 := wX a hs E s3) ⟨hx, hb, hml, hown, hts⟩ (k_X1_has l E (fun i => a (78 + (1 + i))) H.size x1 z.2.2.2.1.1 u1 q2) (cwV 1 hts gX7_polish_X1_has rfl rfl rfl (by decide +kernel) ⟨Nat.le_of_ble_eq_true rfl, Nat.le_of_ble_eq_true rfl⟩) hK hP hD hS hA 79 1 rfl rfl (pm_skip (pm_skip (pm_skip (pm_skip (pm_in (pm_skip (pm_in (pm_last)))))))) (by rw [e4]; exact pm_skip (pm_skip (pm_skip (pm_skip (pm_in (pm_skip (pm_in (pm_last)))))))) rfl hl.1 (Nat.le_of_ble_eq_true rfl) ⟨Nat.zero_le _, Nat.zero_le _⟩ dX7_polish_8 (fun H locs hP hD hS => ?_)
  obtain ⟨g5, h⟩ := gd_t h
  refine iv_ne (tgt := 16) hx hb g5 dX7_polish_11 (by decide) (fun c6 => ?_) (fun c6 => ?_)
  · have h := it_f c6 h
    refine lv_aload_n hx hb dX7_polish_16 rfl (lv_at hl 0 rfl) ?_
    refine va_get (D := E.1) (ci := 7) (v := .ref (a 78)) (C := RX7) (T := TX7) (N := 8) hx hb hts in_X7_polish_X7 hown hK.1 hP 0 rfl rfl 4 (by decide) (hts _ wd_X7_polish_f42) (fun _ h9 => h9) rfl dX7_polish_17 ?_
    refine va_get (D := E.1) (ci := 5) (v := .ref (a 86)) (C := RX5) (T := TX5) (N := 8) hx hb hts in_X7_polish_X5 hown hK.1 hP 78 rfl rfl 1 (by decide) (hts _ wd_X7_polish_f79) (fun _ h9 => h9) rfl dX7_polish_20 ?_
    refine va_get (D := E.1) (ci := 4) (v := .ref (a 87)) (C := RX4) (T := TX4) (N := 6) hx hb hts in_X7_polish_X4 hown hK.1 hP 86 rfl rfl 0 (by decide) (hts _ wd_X7_polish_f131) (fun _ h9 => h9) rfl dX7_polish_23 ?_
    refine lv_iload_n hx hb dX7_polish_26 rfl (lv_at hl 1 rfl) ?_
    obtain ⟨g7, h⟩ := gd_t h
    refine iv_iald (f := s3.2.2.2.1.2.1.1) (j := x1.toNat) hx hb hK.1 hP 87 0 rfl rfl (by decide) g7 rfl dX7_polish_27 ?_
    refine iv_bipush hx hb dX7_polish_28 (by decide +kernel) ?_
    obtain ⟨g8, h⟩ := gd_t h
    refine iv_ieq (tgt := 50) hx hb g8 (by decide +kernel) dX7_polish_30 (by decide) (fun c9 => ?_) (fun c9 => ?_)
    · have h := it_t c9 h
      refine iv_bipush hx hb dX7_polish_50 (by decide +kernel) ?_
      cases h
      exact iv_iretx hs rfl hx hb hr hlocks hK hP hD hS dX7_polish_52
    · have h := it_f c9 h
      refine lv_aload_n hx hb dX7_polish_33 rfl (lv_at hl 0 rfl) ?_
      refine va_get (D := E.1) (ci := 7) (v := .ref (a 78)) (C := RX7) (T := TX7) (N := 8) hx hb hts in_X7_polish_X7 hown hK.1 hP 0 rfl rfl 4 (by decide) (hts _ wd_X7_polish_f42) (fun _ h9 => h9) rfl dX7_polish_34 ?_
      refine va_get (D := E.1) (ci := 5) (v := .ref (a 79)) (C := RX5) (T := TX5) (N := 8) hx hb hts in_X7_polish_X5 hown hK.1 hP 78 rfl rfl 0 (by decide) (hts _ wd_X7_polish_f60) (fun _ h9 => h9) rfl dX7_polish_37 ?_
      refine va_get (D := E.1) (ci := 1) (v := .ref (a 84)) (C := RX1) (T := TX1) (N := 7) hx hb hts in_X7_polish_X1 hown hK.1 hP 79 rfl rfl 4 (by decide) (hts _ wd_X7_polish_f134) (fun _ h9 => h9) rfl dX7_polish_40 ?_
      refine lv_iload_n hx hb dX7_polish_43 rfl (lv_at hl 1 rfl) ?_
      refine iv_iald (f := s3.2.2.2.1.1.2.2.2.2.1) (j := x1.toNat) hx hb hK.1 hP 84 0 rfl rfl (by decide) g7 rfl dX7_polish_44 ?_
      refine iv_bipush hx hb dX7_polish_45 (by decide +kernel) ?_
      obtain ⟨g10, h⟩ := gd_t h
      refine iv_ilt (tgt := 53) hx hb g10 (by decide +kernel) dX7_polish_47 (by decide) (fun c11 => ?_) (fun c11 => ?_)
      · have h := it_t c11 h
        refine lv_aload_n hx hb dX7_polish_53 rfl (lv_at hl 0 rfl) ?_
        refine va_get (D := E.1) (ci := 7) (v := .ref (a 12)) (C := RX7) (T := TX7) (N := 8) hx hb hts in_X7_polish_X7 hown hK.1 hP 0 rfl rfl 3 (by decide) (hts _ wd_X7_polish_f35) (fun _ h9 => h9) rfl dX7_polish_54 ?_
        refine lv_aload_n hx hb dX7_polish_57 rfl (lv_at hl 0 rfl) ?_
        refine va_get (D := E.1) (ci := 7) (v := .ref (a 78)) (C := RX7) (T := TX7) (N := 8) hx hb hts in_X7_polish_X7 hown hK.1 hP 0 rfl rfl 4 (by decide) (hts _ wd_X7_polish_f42) (fun _ h9 => h9) rfl dX7_polish_58 ?_
        obtain ⟨u12, q13, h⟩ := bd_t h
        obtain ⟨s14, e15, h⟩ := nm_t h
        obtain ⟨s16, e17, h⟩ := nm_t h
        refine iv_callVx (As := [.ref (a 78)]) (rest := []) (ws1 := fun h18 => wX a h18 E s16) ⟨hx, hb, hml, hown, hts⟩ (k_X2_remember l E (fun i => a (12 + i)) hs (fun i => a (78 + i)) H.size (s3.2.2.1, s3.2.2.2.1) u12 q13) (cwV 1 hts gX7_polish_X2_remember rfl rfl rfl (by decide +kernel) ⟨Nat.le_of_ble_eq_true rfl, Nat.le_of_ble_eq_true rfl⟩) hK hP hD hS hA 12 2 rfl rfl (pm_skip (pm_skip (pm_skip (pm_take (pm_last))))) (fun h18 => by rw [e17, e15]; exact pm_skip (pm_skip (pm_skip (pm_take (pm_last))))) rfl hl.1 (Nat.le_of_ble_eq_true rfl) ⟨Nat.zero_le _, Nat.zero_le _⟩ dX7_polish_61 (fun h18 H locs hP hD hS => ?_)
        refine lv_aload_n hx hb dX7_polish_64 rfl (lv_at hl 0 rfl) ?_
        refine va_get (D := E.1) (ci := 7) (v := .ref (a 78)) (C := RX7) (T := TX7) (N := 8) hx hb hts in_X7_polish_X7 hown hK.1 hP 0 rfl rfl 4 (by decide) (hts _ wd_X7_polish_f42) (fun _ h9 => h9) rfl dX7_polish_65 ?_
        refine va_get (D := E.1) (ci := 5) (v := .ref (a 79)) (C := RX5) (T := TX5) (N := 8) hx hb hts in_X7_polish_X5 hown hK.1 hP 78 rfl rfl 0 (by decide) (hts _ wd_X7_polish_f60) (fun _ h9 => h9) rfl dX7_polish_68 ?_
        refine lv_iload_n hx hb dX7_polish_71 rfl (lv_at hl 1 rfl) ?_
        obtain ⟨u19, q20, h⟩ := bd_t h
        obtain ⟨s21, e22, h⟩ := nm_t h
        refine iv_callVp (As := [.int (zi x1)]) (rest := []) (ws1 := wX a h18 E s21) ⟨hx, hb, hml, hown, hts⟩ (k_X1_brighten l E (fun i => a (78 + (1 + i))) H.size x1 s16.2.2.2.1.1 u19 q20) (cwV 1 hts gX7_polish_X1_brighten rfl rfl rfl (by decide +kernel) ⟨Nat.le_of_ble_eq_true rfl, Nat.le_of_ble_eq_true rfl⟩) hK hP hD hS hA 79 1 rfl rfl (pm_skip (pm_skip (pm_skip (pm_skip (pm_in (pm_skip (pm_in (pm_last)))))))) (by rw [e22]; exact pm_skip (pm_skip (pm_skip (pm_skip (pm_in (pm_skip (pm_in (pm_last)))))))) rfl hl.1 (Nat.le_of_ble_eq_true rfl) ⟨Nat.zero_le _, Nat.zero_le _⟩ dX7_polish_72 (fun H locs hP hD hS => ?_)
        refine lv_aload_n hx hb dX7_polish_75 rfl (lv_at hl 0 rfl) ?_
        refine va_get (D := E.1) (ci := 7) (v := .ref (a 78)) (C := RX7) (T := TX7) (N := 8) hx hb hts in_X7_polish_X7 hown hK.1 hP 0 rfl rfl 4 (by decide) (hts _ wd_X7_polish_f42) (fun _ h9 => h9) rfl dX7_polish_76 ?_
        refine va_get (D := E.1) (ci := 5) (v := .ref (a 79)) (C := RX5) (T := TX5) (N := 8) hx hb hts in_X7_polish_X5 hown hK.1 hP 78 rfl rfl 0 (by decide) (hts _ wd_X7_polish_f60) (fun _ h9 => h9) rfl dX7_polish_79 ?_
        refine va_get (D := E.1) (ci := 1) (v := .ref (a 84)) (C := RX1) (T := TX1) (N := 7) hx hb hts in_X7_polish_X1 hown hK.1 hP 79 rfl rfl 4 (by decide) (hts _ wd_X7_polish_f134) (fun _ h9 => h9) rfl dX7_polish_82 ?_
        refine lv_iload_n hx hb dX7_polish_85 rfl (lv_at hl 1 rfl) ?_
        refine iv_iald (f := s21.2.2.2.1.1.2.2.2.2.1) (j := x1.toNat) hx hb hK.1 hP 84 0 rfl rfl (by decide) g7 rfl dX7_polish_86 ?_
        cases h
        exact iv_iretx h18 rfl hx hb hr hlocks hK hP hD hS dX7_polish_87
      · have h := it_f c11 h
        refine iv_bipush hx hb dX7_polish_50 (by decide +kernel) ?_
        cases h
        exact iv_iretx hs rfl hx hb hr hlocks hK hP hD hS dX7_polish_52
  · have h := it_t c6 h
    refine iv_iconst hx hb dX7_polish_14 ?_
    cases h
    exact iv_iretx hs rfl hx hb hr hlocks hK hP hD hS dX7_polish_15
set_option maxRecDepth 20000 in
theorem wd_X7_isValue_f231 : Cond.fieldLink RX7 231 "ShirtButtons" "LOWEST" "[I" ∈ wsX7_isValue := by decide +kernel
set_option maxRecDepth 20000 in
theorem wd_X7_isValue_f234 : Cond.fieldLink RX7 234 "ShirtButtons" "HIGHEST" "[I" ∈ wsX7_isValue := by decide +kernel
set_option maxHeartbeats 4000000 in
set_option maxRecDepth 100000 in
theorem k_X7_isValue (l : Launch) (E : wE) (sz : Nat) (x0 x1 : Int) (u : Int) (hf : f_X7_isValue x0 x1  = some u) : cIs l yX7_isValue wsX7_isValue { frames := 0, cells := 0, slots := 0, locals := 0 } E sz [.int (zi x0), .int (zi x1)] ([]) ([]) u := by
  refine met_goS (cc := cX7_isValue) (maxL := 2) (ret := (some .boolean)) (Q0 := mQi E ([]) u) (by decide +kernel) rfl (Nat.le_of_ble_eq_true rfl) ?_
  intro A p e s m below meth c hx hb hr hml hts hown hlocks hZ hP hK hD hA hS ls hl
  obtain ⟨⟨tl, hlowTZ, hlowTT⟩, ⟨th, hhighTZ, hhighTT⟩⟩ := id hZ
  have hl : lv_has ls 2 [(0, .int (zi x0)), (1, .int (zi x1))] := hl
  generalize hH : s.heap = H at hP
  have hS : va_S A s.heap H [] := by rw [← hH]; exact hS
  have hown : s.vm.findClass RX7 = some m.cls := hown
  have h := hf
  rw [f_X7_isValue] at h
  refine lv_iload_n hx hb dX7_isValue_0 rfl (lv_at hl 1 rfl) ?_
  refine va_gets hx hb hlowTZ hS hown (hts _ wd_X7_isValue_f231) (fun _ h9 => h9) dX7_isValue_1 ?_
  refine lv_iload_n hx hb dX7_isValue_4 rfl (lv_at hl 0 rfl) ?_
  obtain ⟨g1, h⟩ := gd_t h
  refine iv_tald (f := lowT) (j := x0.toNat) hx hb hlowTT hS (by decide) g1 rfl dX7_isValue_5 ?_
  obtain ⟨g2, h⟩ := gd_t h
  obtain ⟨g3, h⟩ := gd_t h
  refine iv_ilt (tgt := 22) hx hb g2 g3 dX7_isValue_6 (by decide) (fun c4 => ?_) (fun c4 => ?_)
  · have h := it_t c4 h
    refine iv_iconst hx hb dX7_isValue_22 ?_
    cases h
    exact iv_zret (r := 0) hx hb hr hlocks (by decide +kernel) hK hP hD hS dX7_isValue_23
  · have h := it_f c4 h
    refine lv_iload_n hx hb dX7_isValue_9 rfl (lv_at hl 1 rfl) ?_
    refine va_gets hx hb hhighTZ hS hown (hts _ wd_X7_isValue_f234) (fun _ h9 => h9) dX7_isValue_10 ?_
    refine lv_iload_n hx hb dX7_isValue_13 rfl (lv_at hl 0 rfl) ?_
    refine iv_tald (f := highT) (j := x0.toNat) hx hb hhighTT hS (by decide) g1 rfl dX7_isValue_14 ?_
    obtain ⟨g5, h⟩ := gd_t h
    refine iv_igt (tgt := 22) hx hb g2 g5 dX7_isValue_15 (by decide) (fun c6 => ?_) (fun c6 => ?_)
    · have h := it_t c6 h
      refine iv_iconst hx hb dX7_isValue_22 ?_
      cases h
      exact iv_zret (r := 0) hx hb hr hlocks (by decide +kernel) hK hP hD hS dX7_isValue_23
    · have h := it_f c6 h
      refine iv_iconst hx hb dX7_isValue_18 ?_
      refine lv_goto (tgt := 23) hx hb dX7_isValue_19 (by decide) ?_
      cases h
      exact iv_zret (r := 1) hx hb hr hlocks (by decide +kernel) hK hP hD hS dX7_isValue_23
set_option maxRecDepth 20000 in
theorem wd_X7_set_f42 : Cond.fieldLink RX7 42 "ShirtButtons" "now" "LShirtButtons$State;" ∈ wsX7_set := by decide +kernel
set_option maxRecDepth 20000 in
theorem in_X7_set_X7 : ∀ w ∈ u_ws RX7 TX7 8, w ∈ wsX7_set := by decide +kernel
set_option maxRecDepth 20000 in
theorem wd_X7_set_f113 : Cond.fieldLink RX7 113 "ShirtButtons$State" "settings" "[I" ∈ wsX7_set := by decide +kernel
set_option maxRecDepth 20000 in
theorem in_X7_set_X5 : ∀ w ∈ u_ws RX5 TX5 8, w ∈ wsX7_set := by decide +kernel
set_option maxRecDepth 20000 in
theorem wd_X7_set_f35 : Cond.fieldLink RX7 35 "ShirtButtons" "history" "LShirtButtons$History;" ∈ wsX7_set := by decide +kernel
set_option maxHeartbeats 4000000 in
set_option maxRecDepth 100000 in
theorem k_X7_set (l : Launch) (E : wE) (a hs : Nat → Nat) (sz : Nat) (x1 x2 : Int) (z : bX) (u : (Int × bX)) (hf : f_X7_set x1 x2 z = some u) : cIxs l yX7_set wsX7_set { frames := 4, cells := 0, slots := 0, locals := 89 } E sz [.ref (a 0), .int (zi x1), .int (zi x2)] (wX a hs E z) (fun h1 => wX a h1 E u.2) u.1 := by
  refine met_goS (cc := cX7_set) (maxL := 4) (ret := (some .int)) (Q0 := mQix E (fun h1 => wX a h1 E u.2) u.1) (by decide +kernel) rfl (Nat.le_of_ble_eq_true rfl) ?_
  intro A p e s m below meth c hx hb hr hml hts hown hlocks hZ hP hK hD hA hS ls hl
  have hl : lv_has ls 4 [(0, .ref (a 0)), (1, .int (zi x1)), (2, .int (zi x2))] := hl
  generalize hH : s.heap = H at hP
  have hS : va_S A s.heap H [] := by rw [← hH]; exact hS
  have hown : s.vm.findClass RX7 = some m.cls := hown
  have h := hf
  rw [f_X7_set] at h
  refine lv_iload_n hx hb dX7_set_0 rfl (lv_at hl 1 rfl) ?_
  obtain ⟨g1, h⟩ := gd_t h
  refine iv_lt (tgt := 10) hx hb g1 dX7_set_1 (by decide) (fun c2 => ?_) (fun c2 => ?_)
  · have h := it_t c2 h
    refine iv_iconst hx hb dX7_set_10 ?_
    cases h
    exact iv_iretx hs rfl hx hb hr hlocks hK hP hD hS dX7_set_11
  · have h := it_f c2 h
    refine lv_iload_n hx hb dX7_set_4 rfl (lv_at hl 1 rfl) ?_
    refine iv_bipush hx hb dX7_set_5 (by decide +kernel) ?_
    refine iv_ilt (tgt := 12) hx hb g1 (by decide +kernel) dX7_set_7 (by decide) (fun c3 => ?_) (fun c3 => ?_)
    · have h := it_t c3 h
      refine lv_iload_n hx hb dX7_set_12 rfl (lv_at hl 1 rfl) ?_
      refine lv_iload_n hx hb dX7_set_13 rfl (lv_at hl 2 rfl) ?_
      obtain ⟨u4, q5, h⟩ := bd_t h
      refine iv_callSs (As := [.int (zi x1), .int (zi x2)]) (rest := []) ⟨hx, hb, hml, hown, hts⟩ (k_X7_isValue l E H.size x1 x2 u4 q5) (va_cwS 2 hts gX7_set_X7_isValue rfl rfl rfl (by decide +kernel) ⟨Nat.le_of_ble_eq_true rfl, Nat.le_of_ble_eq_true rfl⟩) hZ hK hP hS hA rfl hl.1 (Nat.le_of_ble_eq_true rfl) ⟨Nat.zero_le _, Nat.zero_le _⟩ dX7_set_14 (fun H locs hP hS => ?_)
      obtain ⟨g6, h⟩ := gd_t h
      refine iv_ne (tgt := 23) hx hb g6 dX7_set_17 (by decide) (fun c7 => ?_) (fun c7 => ?_)
      · have h := it_f c7 h
        refine lv_aload_n hx hb dX7_set_23 rfl (lv_at hl 0 rfl) ?_
        refine va_get (D := E.1) (ci := 7) (v := .ref (a 78)) (C := RX7) (T := TX7) (N := 8) hx hb hts in_X7_set_X7 hown hK.1 hP 0 rfl rfl 4 (by decide) (hts _ wd_X7_set_f42) (fun _ h9 => h9) rfl dX7_set_24 ?_
        refine lv_iload_n hx hb dX7_set_27 rfl (lv_at hl 1 rfl) ?_
        refine lv_iload_n hx hb dX7_set_28 rfl (lv_at hl 2 rfl) ?_
        obtain ⟨u8, q9, h⟩ := bd_t h
        obtain ⟨s10, e11, h⟩ := nm_t h
        refine iv_callIp (As := [.int (zi x1), .int (zi x2)]) (rest := []) (ws1 := wX a hs E s10) ⟨hx, hb, hml, hown, hts⟩ (k_X5_meshesAllow l E (fun i => a (78 + i)) H.size x1 x2 z.2.2.2.1 u8 q9) (cwV 2 hts gX7_set_X5_meshesAllow rfl rfl rfl (by decide +kernel) ⟨Nat.le_of_ble_eq_true rfl, Nat.le_of_ble_eq_true rfl⟩) hK hP hD hS hA 78 5 rfl rfl (pm_skip (pm_skip (pm_skip (pm_skip (pm_last))))) (by rw [e11]; exact pm_skip (pm_skip (pm_skip (pm_skip (pm_last))))) rfl hl.1 (Nat.le_of_ble_eq_true rfl) ⟨Nat.zero_le _, Nat.zero_le _⟩ dX7_set_29 (fun H locs hP hD hS => ?_)
        obtain ⟨g12, h⟩ := gd_t h
        refine iv_ne (tgt := 38) hx hb g12 dX7_set_32 (by decide) (fun c13 => ?_) (fun c13 => ?_)
        · have h := it_f c13 h
          refine lv_aload_n hx hb dX7_set_38 rfl (lv_at hl 0 rfl) ?_
          refine va_get (D := E.1) (ci := 7) (v := .ref (a 78)) (C := RX7) (T := TX7) (N := 8) hx hb hts in_X7_set_X7 hown hK.1 hP 0 rfl rfl 4 (by decide) (hts _ wd_X7_set_f42) (fun _ h9 => h9) rfl dX7_set_39 ?_
          refine va_get (D := E.1) (ci := 5) (v := .ref (a 93)) (C := RX5) (T := TX5) (N := 8) hx hb hts in_X7_set_X5 hown hK.1 hP 78 rfl rfl 2 (by decide) (hts _ wd_X7_set_f113) (fun _ h9 => h9) rfl dX7_set_42 ?_
          refine lv_iload_n hx hb dX7_set_45 rfl (lv_at hl 1 rfl) ?_
          obtain ⟨g14, h⟩ := gd_t h
          refine iv_iald (f := s10.2.2.2.1.2.2.1) (j := x1.toNat) hx hb hK.1 hP 93 0 rfl rfl (by decide) g14 rfl dX7_set_46 ?_
          obtain ⟨v15, e16, h⟩ := nm_t h
          refine iv_nm e16 ?_
          refine lv_istore_n (lv' := [(3, .int (zi v15)), (0, .ref (a 0)), (1, .int (zi x1)), (2, .int (zi x2))]) hx hb dX7_set_47 rfl hl (by decide) rfl (fun ls hl => ?_)
          refine lv_iload_n hx hb dX7_set_48 rfl (lv_at hl 0 rfl) ?_
          refine lv_iload_n hx hb dX7_set_49 rfl (lv_at hl 3 rfl) ?_
          obtain ⟨g17, h⟩ := gd_t h
          obtain ⟨g18, h⟩ := gd_t h
          refine iv_ine (tgt := 56) hx hb g17 g18 dX7_set_50 (by decide) (fun c19 => ?_) (fun c19 => ?_)
          · have h := it_f c19 h
            refine lv_aload_n hx hb dX7_set_56 rfl (lv_at hl 1 rfl) ?_
            refine va_get (D := E.1) (ci := 7) (v := .ref (a 12)) (C := RX7) (T := TX7) (N := 8) hx hb hts in_X7_set_X7 hown hK.1 hP 0 rfl rfl 3 (by decide) (hts _ wd_X7_set_f35) (fun _ h9 => h9) rfl dX7_set_57 ?_
            refine lv_aload_n hx hb dX7_set_60 rfl (lv_at hl 1 rfl) ?_
            refine va_get (D := E.1) (ci := 7) (v := .ref (a 78)) (C := RX7) (T := TX7) (N := 8) hx hb hts in_X7_set_X7 hown hK.1 hP 0 rfl rfl 4 (by decide) (hts _ wd_X7_set_f42) (fun _ h9 => h9) rfl dX7_set_61 ?_
            obtain ⟨u20, q21, h⟩ := bd_t h
            obtain ⟨s22, e23, h⟩ := nm_t h
            obtain ⟨s24, e25, h⟩ := nm_t h
            refine iv_callVx (As := [.ref (a 78)]) (rest := []) (ws1 := fun h26 => wX a h26 E s24) ⟨hx, hb, hml, hown, hts⟩ (k_X2_remember l E (fun i => a (12 + i)) hs (fun i => a (78 + i)) H.size (s10.2.2.1, s10.2.2.2.1) u20 q21) (cwV 1 hts gX7_set_X2_remember rfl rfl rfl (by decide +kernel) ⟨Nat.le_of_ble_eq_true rfl, Nat.le_of_ble_eq_true rfl⟩) hK hP hD hS hA 12 2 rfl rfl (pm_skip (pm_skip (pm_skip (pm_take (pm_last))))) (fun h26 => by rw [e25, e23]; exact pm_skip (pm_skip (pm_skip (pm_take (pm_last))))) rfl hl.1 (Nat.le_of_ble_eq_true rfl) ⟨Nat.zero_le _, Nat.zero_le _⟩ dX7_set_64 (fun h26 H locs hP hD hS => ?_)
            refine lv_aload_n hx hb dX7_set_67 rfl (lv_at hl 1 rfl) ?_
            refine va_get (D := E.1) (ci := 7) (v := .ref (a 78)) (C := RX7) (T := TX7) (N := 8) hx hb hts in_X7_set_X7 hown hK.1 hP 0 rfl rfl 4 (by decide) (hts _ wd_X7_set_f42) (fun _ h9 => h9) rfl dX7_set_68 ?_
            refine va_get (D := E.1) (ci := 5) (v := .ref (a 93)) (C := RX5) (T := TX5) (N := 8) hx hb hts in_X7_set_X5 hown hK.1 hP 78 rfl rfl 2 (by decide) (hts _ wd_X7_set_f113) (fun _ h9 => h9) rfl dX7_set_71 ?_
            refine lv_iload_n hx hb dX7_set_74 rfl (lv_at hl 2 rfl) ?_
            refine lv_iload_n hx hb dX7_set_75 rfl (lv_at hl 3 rfl) ?_
            obtain ⟨s27, e28, h⟩ := nm_t h
            refine iv_iast (f := s24.2.2.2.1.2.2.1) (j := x1.toNat) (ws1 := wX a h26 E s27) hx hb hK.1 hP hD hS 93 0 rfl rfl (by decide) g14 rfl (by rw [e28]; rfl) dX7_set_76 (fun H locs hP hD hS => ?_)
            refine lv_iload_n hx hb dX7_set_77 rfl (lv_at hl 0 rfl) ?_
            cases h
            exact iv_iretx h26 rfl hx hb hr hlocks hK hP hD hS dX7_set_78
          · have h := it_t c19 h
            refine iv_bipush hx hb dX7_set_53 (by decide +kernel) ?_
            cases h
            exact iv_iretx hs rfl hx hb hr hlocks hK hP hD hS dX7_set_55
        · have h := it_t c13 h
          refine iv_bipush hx hb dX7_set_35 (by decide +kernel) ?_
          cases h
          exact iv_iretx hs rfl hx hb hr hlocks hK hP hD hS dX7_set_37
      · have h := it_t c7 h
        refine iv_bipush hx hb dX7_set_20 (by decide +kernel) ?_
        cases h
        exact iv_iretx hs rfl hx hb hr hlocks hK hP hD hS dX7_set_22
    · have h := it_f c3 h
      refine iv_iconst hx hb dX7_set_10 ?_
      cases h
      exact iv_iretx hs rfl hx hb hr hlocks hK hP hD hS dX7_set_11
set_option maxRecDepth 20000 in
theorem wd_X7_type_f10 : Cond.fieldLink RX7 10 "ShirtButtons" "text" "LShirtButtons$Text;" ∈ wsX7_type := by decide +kernel
set_option maxRecDepth 20000 in
theorem in_X7_type_X7 : ∀ w ∈ u_ws RX7 TX7 8, w ∈ wsX7_type := by decide +kernel
set_option maxRecDepth 20000 in
theorem wd_X7_type_f151 : Cond.fieldLink RX7 151 "ShirtButtons$Text" "length" "I" ∈ wsX7_type := by decide +kernel
set_option maxRecDepth 20000 in
theorem in_X7_type_X6 : ∀ w ∈ u_ws RX6 TX6 2, w ∈ wsX7_type := by decide +kernel
set_option maxHeartbeats 4000000 in
set_option maxRecDepth 100000 in
theorem k_X7_type (l : Launch) (E : wE) (a hs : Nat → Nat) (sz : Nat) (x1 : Int) (z : bX) (u : (Int × bX)) (hf : f_X7_type x1 z = some u) : cI l yX7_type wsX7_type { frames := 1, cells := 0, slots := 0, locals := 21 } E sz [.ref (a 0), .int (zi x1)] (wX a hs E z) (wX a hs E u.2) u.1 := by
  refine met_go (cc := cX7_type) (maxL := 2) (ret := (some .int)) (Q0 := mQi E (wX a hs E u.2) u.1) (by decide +kernel) rfl (Nat.le_of_ble_eq_true rfl) ?_
  intro A p e s m below meth c hx hb hr hml hts hown hlocks hP hK hD hA hS ls hl
  have hl : lv_has ls 2 [(0, .ref (a 0)), (1, .int (zi x1))] := hl
  generalize hH : s.heap = H at hP
  have hS : va_S A s.heap H [] := by rw [← hH]; exact hS
  have hown : s.vm.findClass RX7 = some m.cls := hown
  have h := hf
  rw [f_X7_type] at h
  refine lv_aload_n hx hb dX7_type_0 rfl (lv_at hl 0 rfl) ?_
  refine va_get (D := E.1) (ci := 7) (v := .ref (a 7)) (C := RX7) (T := TX7) (N := 8) hx hb hts in_X7_type_X7 hown hK.1 hP 0 rfl rfl 0 (by decide) (hts _ wd_X7_type_f10) (fun _ h9 => h9) rfl dX7_type_1 ?_
  refine lv_iload_n hx hb dX7_type_4 rfl (lv_at hl 1 rfl) ?_
  obtain ⟨u1, q2, h⟩ := bd_t h
  obtain ⟨s3, e4, h⟩ := nm_t h
  refine iv_callIp (As := [.int (zi x1)]) (rest := []) (ws1 := wX a hs E s3) ⟨hx, hb, hml, hown, hts⟩ (k_X6_append l E (fun i => a (1 + (6 + i))) H.size x1 z.1.2 u1 q2) (cwV 1 hts gX7_type_X6_append rfl rfl rfl (by decide +kernel) ⟨Nat.le_of_ble_eq_true rfl, Nat.le_of_ble_eq_true rfl⟩) hK hP hD hS hA 7 6 rfl rfl (pm_skip (pm_in (pm_skip (pm_last)))) (by rw [e4]; exact pm_skip (pm_in (pm_skip (pm_last)))) rfl hl.1 (Nat.le_of_ble_eq_true rfl) ⟨Nat.zero_le _, Nat.zero_le _⟩ dX7_type_5 (fun H locs hP hD hS => ?_)
  obtain ⟨g5, h⟩ := gd_t h
  refine iv_eq (tgt := 21) hx hb g5 dX7_type_8 (by decide) (fun c6 => ?_) (fun c6 => ?_)
  · have h := it_t c6 h
    refine iv_bipush hx hb dX7_type_21 (by decide +kernel) ?_
    cases h
    exact iv_iret hx hb hr hlocks hK hP hD hS dX7_type_23
  · have h := it_f c6 h
    refine lv_aload_n hx hb dX7_type_11 rfl (lv_at hl 0 rfl) ?_
    refine va_get (D := E.1) (ci := 7) (v := .ref (a 7)) (C := RX7) (T := TX7) (N := 8) hx hb hts in_X7_type_X7 hown hK.1 hP 0 rfl rfl 0 (by decide) (hts _ wd_X7_type_f10) (fun _ h9 => h9) rfl dX7_type_12 ?_
    refine va_get (D := E.1) (ci := 6) (v := .int (zi s3.1.2.2)) (C := RX6) (T := TX6) (N := 2) hx hb hts in_X7_type_X6 hown hK.1 hP 7 rfl rfl 1 (by decide) (hts _ wd_X7_type_f151) (fun _ h9 => h9) rfl dX7_type_15 ?_
    refine lv_goto (tgt := 23) hx hb dX7_type_18 (by decide) ?_
    cases h
    exact iv_iret hx hb hr hlocks hK hP hD hS dX7_type_23
set_option maxRecDepth 20000 in
theorem wd_X7_clearText_f10 : Cond.fieldLink RX7 10 "ShirtButtons" "text" "LShirtButtons$Text;" ∈ wsX7_clearText := by decide +kernel
set_option maxRecDepth 20000 in
theorem in_X7_clearText_X7 : ∀ w ∈ u_ws RX7 TX7 8, w ∈ wsX7_clearText := by decide +kernel
set_option maxRecDepth 20000 in
theorem wd_X7_clearText_f151 : Cond.fieldLink RX7 151 "ShirtButtons$Text" "length" "I" ∈ wsX7_clearText := by decide +kernel
set_option maxRecDepth 20000 in
theorem in_X7_clearText_X6 : ∀ w ∈ u_ws RX6 TX6 2, w ∈ wsX7_clearText := by decide +kernel
set_option maxHeartbeats 4000000 in
set_option maxRecDepth 100000 in
theorem k_X7_clearText (l : Launch) (E : wE) (a hs : Nat → Nat) (sz : Nat) (z : bX) (u : (Int × bX)) (hf : f_X7_clearText z = some u) : cI l yX7_clearText wsX7_clearText { frames := 0, cells := 0, slots := 0, locals := 0 } E sz [.ref (a 0)] (wX a hs E z) (wX a hs E u.2) u.1 := by
  refine met_go (cc := cX7_clearText) (maxL := 2) (ret := (some .int)) (Q0 := mQi E (wX a hs E u.2) u.1) (by decide +kernel) rfl (Nat.le_of_ble_eq_true rfl) ?_
  intro A p e s m below meth c hx hb hr hml hts hown hlocks hP hK hD hA hS ls hl
  have hl : lv_has ls 2 [(0, .ref (a 0))] := hl
  generalize hH : s.heap = H at hP
  have hS : va_S A s.heap H [] := by rw [← hH]; exact hS
  have hown : s.vm.findClass RX7 = some m.cls := hown
  have h := hf
  rw [f_X7_clearText] at h
  refine lv_aload_n hx hb dX7_clearText_0 rfl (lv_at hl 0 rfl) ?_
  refine va_get (D := E.1) (ci := 7) (v := .ref (a 7)) (C := RX7) (T := TX7) (N := 8) hx hb hts in_X7_clearText_X7 hown hK.1 hP 0 rfl rfl 0 (by decide) (hts _ wd_X7_clearText_f10) (fun _ h9 => h9) rfl dX7_clearText_1 ?_
  refine va_get (D := E.1) (ci := 6) (v := .int (zi z.1.2.2)) (C := RX6) (T := TX6) (N := 2) hx hb hts in_X7_clearText_X6 hown hK.1 hP 7 rfl rfl 1 (by decide) (hts _ wd_X7_clearText_f151) (fun _ h9 => h9) rfl dX7_clearText_4 ?_
  refine lv_istore_n (lv' := [(1, .int (zi z.1.2.2)), (0, .ref (a 0))]) hx hb dX7_clearText_7 rfl hl (by decide) rfl (fun ls hl => ?_)
  refine lv_aload_n hx hb dX7_clearText_8 rfl (lv_at hl 1 rfl) ?_
  refine va_get (D := E.1) (ci := 7) (v := .ref (a 7)) (C := RX7) (T := TX7) (N := 8) hx hb hts in_X7_clearText_X7 hown hK.1 hP 0 rfl rfl 0 (by decide) (hts _ wd_X7_clearText_f10) (fun _ h9 => h9) rfl dX7_clearText_9 ?_
  refine iv_iconst hx hb dX7_clearText_12 ?_
  obtain ⟨s1, e2, h⟩ := nm_t h
  refine iv_put (D := E.1) (ci := 6) (v := .int (zi 0)) (ty := .int) (ws1 := wX a hs E s1) (C := RX6) (T := TX6) (N := 2) hx hb hts in_X7_clearText_X6 tyX6 tyX6_ok nmX6 hown hK.1 hP hD hS 7 rfl rfl 1 (by decide) (hts _ wd_X7_clearText_f151) (fun _ h9 => h9) rfl (by decide +kernel) rfl rfl (Nat.le_of_ble_eq_true rfl) (by rw [e2]; rfl) dX7_clearText_13 (fun H locs hP hD hS => ?_)
  refine lv_iload_n hx hb dX7_clearText_16 rfl (lv_at hl 0 rfl) ?_
  cases h
  exact iv_iret hx hb hr hlocks hK hP hD hS dX7_clearText_17
set_option maxRecDepth 20000 in
theorem wd_X7_button_f42 : Cond.fieldLink RX7 42 "ShirtButtons" "now" "LShirtButtons$State;" ∈ wsX7_button := by decide +kernel
set_option maxRecDepth 20000 in
theorem in_X7_button_X7 : ∀ w ∈ u_ws RX7 TX7 8, w ∈ wsX7_button := by decide +kernel
set_option maxRecDepth 20000 in
theorem wd_X7_button_f60 : Cond.fieldLink RX7 60 "ShirtButtons$State" "buttons" "LShirtButtons$Buttons;" ∈ wsX7_button := by decide +kernel
set_option maxRecDepth 20000 in
theorem in_X7_button_X5 : ∀ w ∈ u_ws RX5 TX5 8, w ∈ wsX7_button := by decide +kernel
set_option maxRecDepth 20000 in
theorem wd_X7_button_f162 : Cond.fieldLink RX7 162 "ShirtButtons$Buttons" "holes" "[I" ∈ wsX7_button := by decide +kernel
set_option maxRecDepth 20000 in
theorem in_X7_button_X1 : ∀ w ∈ u_ws RX1 TX1 7, w ∈ wsX7_button := by decide +kernel
set_option maxRecDepth 20000 in
theorem wd_X7_button_f165 : Cond.fieldLink RX7 165 "ShirtButtons$Buttons" "size" "[I" ∈ wsX7_button := by decide +kernel
set_option maxRecDepth 20000 in
theorem wd_X7_button_f168 : Cond.fieldLink RX7 168 "ShirtButtons$Buttons" "iron" "[I" ∈ wsX7_button := by decide +kernel
set_option maxRecDepth 20000 in
theorem wd_X7_button_f171 : Cond.fieldLink RX7 171 "ShirtButtons$Buttons" "chips" "[I" ∈ wsX7_button := by decide +kernel
set_option maxRecDepth 20000 in
theorem wd_X7_button_f134 : Cond.fieldLink RX7 134 "ShirtButtons$Buttons" "shine" "[I" ∈ wsX7_button := by decide +kernel
set_option maxRecDepth 20000 in
theorem wd_X7_button_f79 : Cond.fieldLink RX7 79 "ShirtButtons$State" "places" "LShirtButtons$Places;" ∈ wsX7_button := by decide +kernel
set_option maxRecDepth 20000 in
theorem wd_X7_button_f131 : Cond.fieldLink RX7 131 "ShirtButtons$Places" "place" "[I" ∈ wsX7_button := by decide +kernel
set_option maxRecDepth 20000 in
theorem in_X7_button_X4 : ∀ w ∈ u_ws RX4 TX4 6, w ∈ wsX7_button := by decide +kernel
set_option maxRecDepth 20000 in
theorem wd_X7_button_f174 : Cond.fieldLink RX7 174 "ShirtButtons$Places" "binOf" "[I" ∈ wsX7_button := by decide +kernel
set_option maxRecDepth 20000 in
theorem wd_X7_button_f180 : Cond.fieldLink RX7 180 "ShirtButtons$Places" "shirtOf" "[I" ∈ wsX7_button := by decide +kernel
set_option maxRecDepth 20000 in
theorem wd_X7_button_f183 : Cond.fieldLink RX7 183 "ShirtButtons$Buttons" "sortings" "[I" ∈ wsX7_button := by decide +kernel
set_option maxHeartbeats 4000000 in
set_option maxRecDepth 100000 in
theorem k_X7_button (l : Launch) (E : wE) (a hs : Nat → Nat) (sz : Nat) (N : Nat) (x1 x2 : Int) (z : bX) (u : (Int × bX)) (hf : f_X7_button N x1 x2 z = some u) : cI l yX7_button wsX7_button { frames := 1, cells := 0, slots := 0, locals := 22 } E sz [.ref (a 0), .int (zi x1), .int (zi x2)] (wX a hs E z) (wX a hs E u.2) u.1 := by
  refine met_go (cc := cX7_button) (maxL := 3) (ret := (some .int)) (Q0 := mQi E (wX a hs E u.2) u.1) (by decide +kernel) rfl (Nat.le_of_ble_eq_true rfl) ?_
  intro A p e s m below meth c hx hb hr hml hts hown hlocks hP hK hD hA hS ls hl
  have hl : lv_has ls 3 [(0, .ref (a 0)), (1, .int (zi x1)), (2, .int (zi x2))] := hl
  generalize hH : s.heap = H at hP
  have hS : va_S A s.heap H [] := by rw [← hH]; exact hS
  have hown : s.vm.findClass RX7 = some m.cls := hown
  have h := hf
  rw [f_X7_button] at h
  refine lv_aload_n hx hb dX7_button_0 rfl (lv_at hl 0 rfl) ?_
  refine va_get (D := E.1) (ci := 7) (v := .ref (a 78)) (C := RX7) (T := TX7) (N := 8) hx hb hts in_X7_button_X7 hown hK.1 hP 0 rfl rfl 4 (by decide) (hts _ wd_X7_button_f42) (fun _ h9 => h9) rfl dX7_button_1 ?_
  refine va_get (D := E.1) (ci := 5) (v := .ref (a 79)) (C := RX5) (T := TX5) (N := 8) hx hb hts in_X7_button_X5 hown hK.1 hP 78 rfl rfl 0 (by decide) (hts _ wd_X7_button_f60) (fun _ h9 => h9) rfl dX7_button_4 ?_
  refine lv_iload_n hx hb dX7_button_7 rfl (lv_at hl 1 rfl) ?_
  obtain ⟨u1, q2, h⟩ := bd_t h
  obtain ⟨s3, e4, h⟩ := nm_t h
  refine iv_callIp (As := [.int (zi x1)]) (rest := []) (ws1 := wX a hs E s3) ⟨hx, hb, hml, hown, hts⟩ (k_X1_has l E (fun i => a (78 + (1 + i))) H.size x1 z.2.2.2.1.1 u1 q2) (cwV 1 hts gX7_button_X1_has rfl rfl rfl (by decide +kernel) ⟨Nat.le_of_ble_eq_true rfl, Nat.le_of_ble_eq_true rfl⟩) hK hP hD hS hA 79 1 rfl rfl (pm_skip (pm_skip (pm_skip (pm_skip (pm_in (pm_skip (pm_in (pm_last)))))))) (by rw [e4]; exact pm_skip (pm_skip (pm_skip (pm_skip (pm_in (pm_skip (pm_in (pm_last)))))))) rfl hl.1 (Nat.le_of_ble_eq_true rfl) ⟨Nat.zero_le _, Nat.zero_le _⟩ dX7_button_8 (fun H locs hP hD hS => ?_)
  obtain ⟨g5, h⟩ := gd_t h
  refine iv_ne (tgt := 16) hx hb g5 dX7_button_11 (by decide) (fun c6 => ?_) (fun c6 => ?_)
  · have h := it_f c6 h
    refine lv_iload_n hx hb dX7_button_16 rfl (lv_at hl 2 rfl) ?_
    obtain ⟨g7, h⟩ := gd_t h
    refine iv_lt (tgt := 26) hx hb g7 dX7_button_17 (by decide) (fun c8 => ?_) (fun c8 => ?_)
    · have h := it_t c8 h
      refine iv_bipush hx hb dX7_button_26 (by decide +kernel) ?_
      cases h
      exact iv_iret hx hb hr hlocks hK hP hD hS dX7_button_28
    · have h := it_f c8 h
      refine lv_iload_n hx hb dX7_button_20 rfl (lv_at hl 2 rfl) ?_
      refine iv_bipush hx hb dX7_button_21 (by decide +kernel) ?_
      refine iv_ile (tgt := 29) hx hb g7 (by decide +kernel) dX7_button_23 (by decide) (fun c9 => ?_) (fun c9 => ?_)
      · have h := it_t c9 h
        refine lv_iload_n hx hb dX7_button_29 rfl (lv_at hl 2 rfl) ?_
        by_cases c10 : x2 = 0
        · have h := it_t c10 h
          refine iv_tabIn (tgt := 80) (off := 50) hx hb dX7_button_30 g7 c10 (by decide) (by decide) rfl (by decide) ?_
          refine lv_aload_n hx hb dX7_button_80 rfl (lv_at hl 0 rfl) ?_
          refine va_get (D := E.1) (ci := 7) (v := .ref (a 78)) (C := RX7) (T := TX7) (N := 8) hx hb hts in_X7_button_X7 hown hK.1 hP 0 rfl rfl 4 (by decide) (hts _ wd_X7_button_f42) (fun _ h9 => h9) rfl dX7_button_81 ?_
          refine va_get (D := E.1) (ci := 5) (v := .ref (a 79)) (C := RX5) (T := TX5) (N := 8) hx hb hts in_X7_button_X5 hown hK.1 hP 78 rfl rfl 0 (by decide) (hts _ wd_X7_button_f60) (fun _ h9 => h9) rfl dX7_button_84 ?_
          refine va_get (D := E.1) (ci := 1) (v := .ref (a 80)) (C := RX1) (T := TX1) (N := 7) hx hb hts in_X7_button_X1 hown hK.1 hP 79 rfl rfl 0 (by decide) (hts _ wd_X7_button_f162) (fun _ h9 => h9) rfl dX7_button_87 ?_
          refine lv_iload_n hx hb dX7_button_90 rfl (lv_at hl 1 rfl) ?_
          obtain ⟨g11, h⟩ := gd_t h
          refine iv_iald (f := s3.2.2.2.1.1.1) (j := x1.toNat) hx hb hK.1 hP 80 0 rfl rfl (by decide) g11 rfl dX7_button_91 ?_
          cases h
          exact iv_iret hx hb hr hlocks hK hP hD hS dX7_button_92
        have h := it_f c10 h
        by_cases c12 : x2 = 1
        · have h := it_t c12 h
          refine iv_tabIn (tgt := 93) (off := 63) hx hb dX7_button_30 g7 c12 (by decide) (by decide) rfl (by decide) ?_
          refine lv_aload_n hx hb dX7_button_93 rfl (lv_at hl 0 rfl) ?_
          refine va_get (D := E.1) (ci := 7) (v := .ref (a 78)) (C := RX7) (T := TX7) (N := 8) hx hb hts in_X7_button_X7 hown hK.1 hP 0 rfl rfl 4 (by decide) (hts _ wd_X7_button_f42) (fun _ h9 => h9) rfl dX7_button_94 ?_
          refine va_get (D := E.1) (ci := 5) (v := .ref (a 79)) (C := RX5) (T := TX5) (N := 8) hx hb hts in_X7_button_X5 hown hK.1 hP 78 rfl rfl 0 (by decide) (hts _ wd_X7_button_f60) (fun _ h9 => h9) rfl dX7_button_97 ?_
          refine va_get (D := E.1) (ci := 1) (v := .ref (a 81)) (C := RX1) (T := TX1) (N := 7) hx hb hts in_X7_button_X1 hown hK.1 hP 79 rfl rfl 1 (by decide) (hts _ wd_X7_button_f165) (fun _ h9 => h9) rfl dX7_button_100 ?_
          refine lv_iload_n hx hb dX7_button_103 rfl (lv_at hl 1 rfl) ?_
          obtain ⟨g13, h⟩ := gd_t h
          refine iv_iald (f := s3.2.2.2.1.1.2.1) (j := x1.toNat) hx hb hK.1 hP 81 0 rfl rfl (by decide) g13 rfl dX7_button_104 ?_
          cases h
          exact iv_iret hx hb hr hlocks hK hP hD hS dX7_button_105
        have h := it_f c12 h
        by_cases c14 : x2 = 2
        · have h := it_t c14 h
          refine iv_tabIn (tgt := 106) (off := 76) hx hb dX7_button_30 g7 c14 (by decide) (by decide) rfl (by decide) ?_
          refine lv_aload_n hx hb dX7_button_106 rfl (lv_at hl 0 rfl) ?_
          refine va_get (D := E.1) (ci := 7) (v := .ref (a 78)) (C := RX7) (T := TX7) (N := 8) hx hb hts in_X7_button_X7 hown hK.1 hP 0 rfl rfl 4 (by decide) (hts _ wd_X7_button_f42) (fun _ h9 => h9) rfl dX7_button_107 ?_
          refine va_get (D := E.1) (ci := 5) (v := .ref (a 79)) (C := RX5) (T := TX5) (N := 8) hx hb hts in_X7_button_X5 hown hK.1 hP 78 rfl rfl 0 (by decide) (hts _ wd_X7_button_f60) (fun _ h9 => h9) rfl dX7_button_110 ?_
          refine va_get (D := E.1) (ci := 1) (v := .ref (a 82)) (C := RX1) (T := TX1) (N := 7) hx hb hts in_X7_button_X1 hown hK.1 hP 79 rfl rfl 2 (by decide) (hts _ wd_X7_button_f168) (fun _ h9 => h9) rfl dX7_button_113 ?_
          refine lv_iload_n hx hb dX7_button_116 rfl (lv_at hl 1 rfl) ?_
          obtain ⟨g15, h⟩ := gd_t h
          refine iv_iald (f := s3.2.2.2.1.1.2.2.1) (j := x1.toNat) hx hb hK.1 hP 82 0 rfl rfl (by decide) g15 rfl dX7_button_117 ?_
          cases h
          exact iv_iret hx hb hr hlocks hK hP hD hS dX7_button_118
        have h := it_f c14 h
        by_cases c16 : x2 = 3
        · have h := it_t c16 h
          refine iv_tabIn (tgt := 119) (off := 89) hx hb dX7_button_30 g7 c16 (by decide) (by decide) rfl (by decide) ?_
          refine lv_aload_n hx hb dX7_button_119 rfl (lv_at hl 0 rfl) ?_
          refine va_get (D := E.1) (ci := 7) (v := .ref (a 78)) (C := RX7) (T := TX7) (N := 8) hx hb hts in_X7_button_X7 hown hK.1 hP 0 rfl rfl 4 (by decide) (hts _ wd_X7_button_f42) (fun _ h9 => h9) rfl dX7_button_120 ?_
          refine va_get (D := E.1) (ci := 5) (v := .ref (a 79)) (C := RX5) (T := TX5) (N := 8) hx hb hts in_X7_button_X5 hown hK.1 hP 78 rfl rfl 0 (by decide) (hts _ wd_X7_button_f60) (fun _ h9 => h9) rfl dX7_button_123 ?_
          refine va_get (D := E.1) (ci := 1) (v := .ref (a 83)) (C := RX1) (T := TX1) (N := 7) hx hb hts in_X7_button_X1 hown hK.1 hP 79 rfl rfl 3 (by decide) (hts _ wd_X7_button_f171) (fun _ h9 => h9) rfl dX7_button_126 ?_
          refine lv_iload_n hx hb dX7_button_129 rfl (lv_at hl 1 rfl) ?_
          obtain ⟨g17, h⟩ := gd_t h
          refine iv_iald (f := s3.2.2.2.1.1.2.2.2.1) (j := x1.toNat) hx hb hK.1 hP 83 0 rfl rfl (by decide) g17 rfl dX7_button_130 ?_
          cases h
          exact iv_iret hx hb hr hlocks hK hP hD hS dX7_button_131
        have h := it_f c16 h
        by_cases c18 : x2 = 4
        · have h := it_t c18 h
          refine iv_tabIn (tgt := 132) (off := 102) hx hb dX7_button_30 g7 c18 (by decide) (by decide) rfl (by decide) ?_
          refine lv_aload_n hx hb dX7_button_132 rfl (lv_at hl 0 rfl) ?_
          refine va_get (D := E.1) (ci := 7) (v := .ref (a 78)) (C := RX7) (T := TX7) (N := 8) hx hb hts in_X7_button_X7 hown hK.1 hP 0 rfl rfl 4 (by decide) (hts _ wd_X7_button_f42) (fun _ h9 => h9) rfl dX7_button_133 ?_
          refine va_get (D := E.1) (ci := 5) (v := .ref (a 79)) (C := RX5) (T := TX5) (N := 8) hx hb hts in_X7_button_X5 hown hK.1 hP 78 rfl rfl 0 (by decide) (hts _ wd_X7_button_f60) (fun _ h9 => h9) rfl dX7_button_136 ?_
          refine va_get (D := E.1) (ci := 1) (v := .ref (a 84)) (C := RX1) (T := TX1) (N := 7) hx hb hts in_X7_button_X1 hown hK.1 hP 79 rfl rfl 4 (by decide) (hts _ wd_X7_button_f134) (fun _ h9 => h9) rfl dX7_button_139 ?_
          refine lv_iload_n hx hb dX7_button_142 rfl (lv_at hl 1 rfl) ?_
          obtain ⟨g19, h⟩ := gd_t h
          refine iv_iald (f := s3.2.2.2.1.1.2.2.2.2.1) (j := x1.toNat) hx hb hK.1 hP 84 0 rfl rfl (by decide) g19 rfl dX7_button_143 ?_
          cases h
          exact iv_iret hx hb hr hlocks hK hP hD hS dX7_button_144
        have h := it_f c18 h
        by_cases c20 : x2 = 5
        · have h := it_t c20 h
          refine iv_tabIn (tgt := 145) (off := 115) hx hb dX7_button_30 g7 c20 (by decide) (by decide) rfl (by decide) ?_
          refine lv_aload_n hx hb dX7_button_145 rfl (lv_at hl 0 rfl) ?_
          refine va_get (D := E.1) (ci := 7) (v := .ref (a 78)) (C := RX7) (T := TX7) (N := 8) hx hb hts in_X7_button_X7 hown hK.1 hP 0 rfl rfl 4 (by decide) (hts _ wd_X7_button_f42) (fun _ h9 => h9) rfl dX7_button_146 ?_
          refine va_get (D := E.1) (ci := 5) (v := .ref (a 86)) (C := RX5) (T := TX5) (N := 8) hx hb hts in_X7_button_X5 hown hK.1 hP 78 rfl rfl 1 (by decide) (hts _ wd_X7_button_f79) (fun _ h9 => h9) rfl dX7_button_149 ?_
          refine va_get (D := E.1) (ci := 4) (v := .ref (a 87)) (C := RX4) (T := TX4) (N := 6) hx hb hts in_X7_button_X4 hown hK.1 hP 86 rfl rfl 0 (by decide) (hts _ wd_X7_button_f131) (fun _ h9 => h9) rfl dX7_button_152 ?_
          refine lv_iload_n hx hb dX7_button_155 rfl (lv_at hl 1 rfl) ?_
          obtain ⟨g21, h⟩ := gd_t h
          refine iv_iald (f := s3.2.2.2.1.2.1.1) (j := x1.toNat) hx hb hK.1 hP 87 0 rfl rfl (by decide) g21 rfl dX7_button_156 ?_
          cases h
          exact iv_iret hx hb hr hlocks hK hP hD hS dX7_button_157
        have h := it_f c20 h
        by_cases c22 : x2 = 6
        · have h := it_t c22 h
          refine iv_tabIn (tgt := 158) (off := 128) hx hb dX7_button_30 g7 c22 (by decide) (by decide) rfl (by decide) ?_
          refine lv_aload_n hx hb dX7_button_158 rfl (lv_at hl 0 rfl) ?_
          refine va_get (D := E.1) (ci := 7) (v := .ref (a 78)) (C := RX7) (T := TX7) (N := 8) hx hb hts in_X7_button_X7 hown hK.1 hP 0 rfl rfl 4 (by decide) (hts _ wd_X7_button_f42) (fun _ h9 => h9) rfl dX7_button_159 ?_
          refine va_get (D := E.1) (ci := 5) (v := .ref (a 86)) (C := RX5) (T := TX5) (N := 8) hx hb hts in_X7_button_X5 hown hK.1 hP 78 rfl rfl 1 (by decide) (hts _ wd_X7_button_f79) (fun _ h9 => h9) rfl dX7_button_162 ?_
          refine va_get (D := E.1) (ci := 4) (v := .ref (a 88)) (C := RX4) (T := TX4) (N := 6) hx hb hts in_X7_button_X4 hown hK.1 hP 86 rfl rfl 1 (by decide) (hts _ wd_X7_button_f174) (fun _ h9 => h9) rfl dX7_button_165 ?_
          refine lv_iload_n hx hb dX7_button_168 rfl (lv_at hl 1 rfl) ?_
          obtain ⟨g23, h⟩ := gd_t h
          refine iv_iald (f := s3.2.2.2.1.2.1.2.1) (j := x1.toNat) hx hb hK.1 hP 88 0 rfl rfl (by decide) g23 rfl dX7_button_169 ?_
          cases h
          exact iv_iret hx hb hr hlocks hK hP hD hS dX7_button_170
        have h := it_f c22 h
        by_cases c24 : x2 = 7
        · have h := it_t c24 h
          refine iv_tabIn (tgt := 171) (off := 141) hx hb dX7_button_30 g7 c24 (by decide) (by decide) rfl (by decide) ?_
          refine lv_aload_n hx hb dX7_button_171 rfl (lv_at hl 0 rfl) ?_
          refine va_get (D := E.1) (ci := 7) (v := .ref (a 78)) (C := RX7) (T := TX7) (N := 8) hx hb hts in_X7_button_X7 hown hK.1 hP 0 rfl rfl 4 (by decide) (hts _ wd_X7_button_f42) (fun _ h9 => h9) rfl dX7_button_172 ?_
          refine va_get (D := E.1) (ci := 5) (v := .ref (a 86)) (C := RX5) (T := TX5) (N := 8) hx hb hts in_X7_button_X5 hown hK.1 hP 78 rfl rfl 1 (by decide) (hts _ wd_X7_button_f79) (fun _ h9 => h9) rfl dX7_button_175 ?_
          refine lv_iload_n hx hb dX7_button_178 rfl (lv_at hl 1 rfl) ?_
          obtain ⟨u25, q26, h⟩ := bd_t h
          obtain ⟨s27, e28, h⟩ := nm_t h
          refine iv_callIp (As := [.int (zi x1)]) (rest := []) (ws1 := wX a hs E s27) ⟨hx, hb, hml, hown, hts⟩ (k_X4_rankInHopper l E (fun i => a (78 + (8 + i))) H.size N x1 s3.2.2.2.1.2.1 u25 q26) (cwV 1 hts gX7_button_X4_rankInHopper rfl rfl rfl (by decide +kernel) ⟨Nat.le_of_ble_eq_true rfl, Nat.le_of_ble_eq_true rfl⟩) hK hP hD hS hA 86 4 rfl rfl (pm_skip (pm_skip (pm_skip (pm_skip (pm_in (pm_skip (pm_in (pm_skip (pm_in (pm_last)))))))))) (by rw [e28]; exact pm_skip (pm_skip (pm_skip (pm_skip (pm_in (pm_skip (pm_in (pm_skip (pm_in (pm_last)))))))))) rfl hl.1 (Nat.le_of_ble_eq_true rfl) ⟨Nat.zero_le _, Nat.zero_le _⟩ dX7_button_179 (fun H locs hP hD hS => ?_)
          cases h
          exact iv_iret hx hb hr hlocks hK hP hD hS dX7_button_182
        have h := it_f c24 h
        by_cases c29 : x2 = 8
        · have h := it_t c29 h
          refine iv_tabIn (tgt := 183) (off := 153) hx hb dX7_button_30 g7 c29 (by decide) (by decide) rfl (by decide) ?_
          refine lv_aload_n hx hb dX7_button_183 rfl (lv_at hl 0 rfl) ?_
          refine va_get (D := E.1) (ci := 7) (v := .ref (a 78)) (C := RX7) (T := TX7) (N := 8) hx hb hts in_X7_button_X7 hown hK.1 hP 0 rfl rfl 4 (by decide) (hts _ wd_X7_button_f42) (fun _ h9 => h9) rfl dX7_button_184 ?_
          refine va_get (D := E.1) (ci := 5) (v := .ref (a 86)) (C := RX5) (T := TX5) (N := 8) hx hb hts in_X7_button_X5 hown hK.1 hP 78 rfl rfl 1 (by decide) (hts _ wd_X7_button_f79) (fun _ h9 => h9) rfl dX7_button_187 ?_
          refine va_get (D := E.1) (ci := 4) (v := .ref (a 89)) (C := RX4) (T := TX4) (N := 6) hx hb hts in_X7_button_X4 hown hK.1 hP 86 rfl rfl 2 (by decide) (hts _ wd_X7_button_f180) (fun _ h9 => h9) rfl dX7_button_190 ?_
          refine lv_iload_n hx hb dX7_button_193 rfl (lv_at hl 1 rfl) ?_
          obtain ⟨g30, h⟩ := gd_t h
          refine iv_iald (f := s3.2.2.2.1.2.1.2.2.1) (j := x1.toNat) hx hb hK.1 hP 89 0 rfl rfl (by decide) g30 rfl dX7_button_194 ?_
          cases h
          exact iv_iret hx hb hr hlocks hK hP hD hS dX7_button_195
        have h := it_f c29 h
        refine iv_tabOut (tgt := 196) hx hb dX7_button_30 g7 (by omega) (by decide) ?_
        refine lv_aload_n hx hb dX7_button_196 rfl (lv_at hl 0 rfl) ?_
        refine va_get (D := E.1) (ci := 7) (v := .ref (a 78)) (C := RX7) (T := TX7) (N := 8) hx hb hts in_X7_button_X7 hown hK.1 hP 0 rfl rfl 4 (by decide) (hts _ wd_X7_button_f42) (fun _ h9 => h9) rfl dX7_button_197 ?_
        refine va_get (D := E.1) (ci := 5) (v := .ref (a 79)) (C := RX5) (T := TX5) (N := 8) hx hb hts in_X7_button_X5 hown hK.1 hP 78 rfl rfl 0 (by decide) (hts _ wd_X7_button_f60) (fun _ h9 => h9) rfl dX7_button_200 ?_
        refine va_get (D := E.1) (ci := 1) (v := .ref (a 85)) (C := RX1) (T := TX1) (N := 7) hx hb hts in_X7_button_X1 hown hK.1 hP 79 rfl rfl 5 (by decide) (hts _ wd_X7_button_f183) (fun _ h9 => h9) rfl dX7_button_203 ?_
        refine lv_iload_n hx hb dX7_button_206 rfl (lv_at hl 1 rfl) ?_
        obtain ⟨g31, h⟩ := gd_t h
        refine iv_iald (f := s3.2.2.2.1.1.2.2.2.2.2.1) (j := x1.toNat) hx hb hK.1 hP 85 0 rfl rfl (by decide) g31 rfl dX7_button_207 ?_
        cases h
        exact iv_iret hx hb hr hlocks hK hP hD hS dX7_button_208
      · have h := it_f c9 h
        refine iv_bipush hx hb dX7_button_26 (by decide +kernel) ?_
        cases h
        exact iv_iret hx hb hr hlocks hK hP hD hS dX7_button_28
  · have h := it_t c6 h
    refine iv_iconst hx hb dX7_button_14 ?_
    cases h
    exact iv_iret hx hb hr hlocks hK hP hD hS dX7_button_15
set_option maxRecDepth 20000 in
theorem wd_X7_inBin_f28 : Cond.fieldLink RX7 28 "ShirtButtons" "order" "LShirtButtons$Order;" ∈ wsX7_inBin := by decide +kernel
set_option maxRecDepth 20000 in
theorem in_X7_inBin_X7 : ∀ w ∈ u_ws RX7 TX7 8, w ∈ wsX7_inBin := by decide +kernel
set_option maxRecDepth 20000 in
theorem wd_X7_inBin_f42 : Cond.fieldLink RX7 42 "ShirtButtons" "now" "LShirtButtons$State;" ∈ wsX7_inBin := by decide +kernel
set_option maxHeartbeats 4000000 in
set_option maxRecDepth 100000 in
theorem k_X7_inBin (l : Launch) (E : wE) (a hs : Nat → Nat) (sz : Nat) (N : Nat) (x1 x2 : Int) (z : bX) (u : (Int × bX)) (hf : f_X7_inBin N x1 x2 z = some u) : cI l yX7_inBin wsX7_inBin { frames := 2, cells := 0, slots := 0, locals := 46 } E sz [.ref (a 0), .int (zi x1), .int (zi x2)] (wX a hs E z) (wX a hs E u.2) u.1 := by
  refine met_go (cc := cX7_inBin) (maxL := 3) (ret := (some .int)) (Q0 := mQi E (wX a hs E u.2) u.1) (by decide +kernel) rfl (Nat.le_of_ble_eq_true rfl) ?_
  intro A p e s m below meth c hx hb hr hml hts hown hlocks hP hK hD hA hS ls hl
  have hl : lv_has ls 3 [(0, .ref (a 0)), (1, .int (zi x1)), (2, .int (zi x2))] := hl
  generalize hH : s.heap = H at hP
  have hS : va_S A s.heap H [] := by rw [← hH]; exact hS
  have hown : s.vm.findClass RX7 = some m.cls := hown
  have h := hf
  rw [f_X7_inBin] at h
  refine lv_iload_n hx hb dX7_inBin_0 rfl (lv_at hl 1 rfl) ?_
  obtain ⟨u1, q2, h⟩ := bd_t h
  refine iv_callS (As := [.int (zi x1)]) (rest := []) ⟨hx, hb, hml, hown, hts⟩ (k_X7_isBin l E H.size x1 u1 q2) (va_cwS 1 hts gX7_inBin_X7_isBin rfl rfl rfl (by decide +kernel) ⟨Nat.le_of_ble_eq_true rfl, Nat.le_of_ble_eq_true rfl⟩) hK hP hS hA rfl hl.1 (Nat.le_of_ble_eq_true rfl) ⟨Nat.zero_le _, Nat.zero_le _⟩ dX7_inBin_1 (fun H locs hP hS => ?_)
  obtain ⟨g3, h⟩ := gd_t h
  refine iv_ne (tgt := 9) hx hb g3 dX7_inBin_4 (by decide) (fun c4 => ?_) (fun c4 => ?_)
  · have h := it_f c4 h
    refine lv_iload_n hx hb dX7_inBin_9 rfl (lv_at hl 2 rfl) ?_
    obtain ⟨g5, h⟩ := gd_t h
    refine iv_ge (tgt := 16) hx hb g5 dX7_inBin_10 (by decide) (fun c6 => ?_) (fun c6 => ?_)
    · have h := it_t c6 h
      refine lv_aload_n hx hb dX7_inBin_16 rfl (lv_at hl 0 rfl) ?_
      refine va_get (D := E.1) (ci := 7) (v := .ref (a 9)) (C := RX7) (T := TX7) (N := 8) hx hb hts in_X7_inBin_X7 hown hK.1 hP 0 rfl rfl 2 (by decide) (hts _ wd_X7_inBin_f28) (fun _ h9 => h9) rfl dX7_inBin_17 ?_
      refine lv_aload_n hx hb dX7_inBin_20 rfl (lv_at hl 0 rfl) ?_
      refine va_get (D := E.1) (ci := 7) (v := .ref (a 78)) (C := RX7) (T := TX7) (N := 8) hx hb hts in_X7_inBin_X7 hown hK.1 hP 0 rfl rfl 4 (by decide) (hts _ wd_X7_inBin_f42) (fun _ h9 => h9) rfl dX7_inBin_21 ?_
      refine lv_iload_n hx hb dX7_inBin_24 rfl (lv_at hl 1 rfl) ?_
      obtain ⟨u7, q8, h⟩ := bd_t h
      obtain ⟨s9, e10, h⟩ := nm_t h
      obtain ⟨s11, e12, h⟩ := nm_t h
      refine iv_callVp (As := [.ref (a 78), .int (zi x1)]) (rest := []) (ws1 := wX a hs E s11) ⟨hx, hb, hml, hown, hts⟩ (k_X3_fill l E (fun i => a (9 + i)) (fun i => a (78 + i)) H.size N x1 (z.2.1, z.2.2.2.1) u7 q8) (cwV 2 hts gX7_inBin_X3_fill rfl rfl rfl (by decide +kernel) ⟨Nat.le_of_ble_eq_true rfl, Nat.le_of_ble_eq_true rfl⟩) hK hP hD hS hA 9 3 rfl rfl (pm_skip (pm_skip (pm_take (pm_skip (pm_last))))) (by rw [e12, e10]; exact pm_skip (pm_skip (pm_take (pm_skip (pm_last))))) rfl hl.1 (Nat.le_of_ble_eq_true rfl) ⟨Nat.zero_le _, Nat.zero_le _⟩ dX7_inBin_25 (fun H locs hP hD hS => ?_)
      refine lv_aload_n hx hb dX7_inBin_28 rfl (lv_at hl 0 rfl) ?_
      refine va_get (D := E.1) (ci := 7) (v := .ref (a 9)) (C := RX7) (T := TX7) (N := 8) hx hb hts in_X7_inBin_X7 hown hK.1 hP 0 rfl rfl 2 (by decide) (hts _ wd_X7_inBin_f28) (fun _ h9 => h9) rfl dX7_inBin_29 ?_
      refine lv_iload_n hx hb dX7_inBin_32 rfl (lv_at hl 2 rfl) ?_
      obtain ⟨u13, q14, h⟩ := bd_t h
      obtain ⟨s15, e16, h⟩ := nm_t h
      refine iv_callIp (As := [.int (zi x2)]) (rest := []) (ws1 := wX a hs E s15) ⟨hx, hb, hml, hown, hts⟩ (k_X3_numberAt l E (fun i => a (9 + i)) H.size x2 s11.2.1 u13 q14) (cwV 1 hts gX7_inBin_X3_numberAt rfl rfl rfl (by decide +kernel) ⟨Nat.le_of_ble_eq_true rfl, Nat.le_of_ble_eq_true rfl⟩) hK hP hD hS hA 9 3 rfl rfl (pm_skip (pm_skip (pm_last))) (by rw [e16]; exact pm_skip (pm_skip (pm_last))) rfl hl.1 (Nat.le_of_ble_eq_true rfl) ⟨Nat.zero_le _, Nat.zero_le _⟩ dX7_inBin_33 (fun H locs hP hD hS => ?_)
      cases h
      exact iv_iret hx hb hr hlocks hK hP hD hS dX7_inBin_36
    · have h := it_f c6 h
      refine iv_bipush hx hb dX7_inBin_13 (by decide +kernel) ?_
      cases h
      exact iv_iret hx hb hr hlocks hK hP hD hS dX7_inBin_15
  · have h := it_t c4 h
    refine iv_iconst hx hb dX7_inBin_7 ?_
    cases h
    exact iv_iret hx hb hr hlocks hK hP hD hS dX7_inBin_8
set_option maxRecDepth 20000 in
theorem wd_X7_bin_f28 : Cond.fieldLink RX7 28 "ShirtButtons" "order" "LShirtButtons$Order;" ∈ wsX7_bin := by decide +kernel
set_option maxRecDepth 20000 in
theorem in_X7_bin_X7 : ∀ w ∈ u_ws RX7 TX7 8, w ∈ wsX7_bin := by decide +kernel
set_option maxRecDepth 20000 in
theorem wd_X7_bin_f42 : Cond.fieldLink RX7 42 "ShirtButtons" "now" "LShirtButtons$State;" ∈ wsX7_bin := by decide +kernel
set_option maxRecDepth 20000 in
theorem wd_X7_bin_f189 : Cond.fieldLink RX7 189 "ShirtButtons$Order" "count" "I" ∈ wsX7_bin := by decide +kernel
set_option maxRecDepth 20000 in
theorem in_X7_bin_X3 : ∀ w ∈ u_ws RX3 TX3 3, w ∈ wsX7_bin := by decide +kernel
set_option maxRecDepth 20000 in
theorem wd_X7_bin_f113 : Cond.fieldLink RX7 113 "ShirtButtons$State" "settings" "[I" ∈ wsX7_bin := by decide +kernel
set_option maxRecDepth 20000 in
theorem in_X7_bin_X5 : ∀ w ∈ u_ws RX5 TX5 8, w ∈ wsX7_bin := by decide +kernel
set_option maxRecDepth 20000 in
theorem wd_X7_bin_m190 : Cond.methodLink RX7 190 Lib.Math.max.name ∈ wsX7_bin := by decide +kernel
set_option maxRecDepth 20000 in
theorem wd_X7_bin_maxs : Cond.static Lib.Math.max.name ∈ wsX7_bin := by decide +kernel
set_option maxRecDepth 20000 in
theorem wd_X7_bin_maxi : Cond.initialized "java/lang/Math" ∈ wsX7_bin := by decide +kernel
set_option maxRecDepth 20000 in
theorem wd_X7_bin_maxc : Cond.code Lib.Math.max.name Lib.Math.max.code 2 (some .int) ∈ wsX7_bin := by decide +kernel
set_option maxHeartbeats 4000000 in
set_option maxRecDepth 100000 in
theorem k_X7_bin (l : Launch) (E : wE) (a hs : Nat → Nat) (sz : Nat) (N : Nat) (x1 x2 : Int) (z : bX) (u : (Int × bX)) (hf : f_X7_bin N x1 x2 z = some u) : cI l yX7_bin wsX7_bin { frames := 3, cells := 0, slots := 0, locals := 67 } E sz [.ref (a 0), .int (zi x1), .int (zi x2)] (wX a hs E z) (wX a hs E u.2) u.1 := by
  refine met_go (cc := cX7_bin) (maxL := 3) (ret := (some .int)) (Q0 := mQi E (wX a hs E u.2) u.1) (by decide +kernel) rfl (Nat.le_of_ble_eq_true rfl) ?_
  intro A p e s m below meth c hx hb hr hml hts hown hlocks hP hK hD hA hS ls hl
  have hl : lv_has ls 3 [(0, .ref (a 0)), (1, .int (zi x1)), (2, .int (zi x2))] := hl
  generalize hH : s.heap = H at hP
  have hS : va_S A s.heap H [] := by rw [← hH]; exact hS
  have hown : s.vm.findClass RX7 = some m.cls := hown
  have h := hf
  rw [f_X7_bin] at h
  refine lv_iload_n hx hb dX7_bin_0 rfl (lv_at hl 1 rfl) ?_
  obtain ⟨u1, q2, h⟩ := bd_t h
  refine iv_callS (As := [.int (zi x1)]) (rest := []) ⟨hx, hb, hml, hown, hts⟩ (k_X7_isBin l E H.size x1 u1 q2) (va_cwS 1 hts gX7_bin_X7_isBin rfl rfl rfl (by decide +kernel) ⟨Nat.le_of_ble_eq_true rfl, Nat.le_of_ble_eq_true rfl⟩) hK hP hS hA rfl hl.1 (Nat.le_of_ble_eq_true rfl) ⟨Nat.zero_le _, Nat.zero_le _⟩ dX7_bin_1 (fun H locs hP hS => ?_)
  obtain ⟨g3, h⟩ := gd_t h
  refine iv_ne (tgt := 9) hx hb g3 dX7_bin_4 (by decide) (fun c4 => ?_) (fun c4 => ?_)
  · have h := it_f c4 h
    refine lv_iload_n hx hb dX7_bin_9 rfl (lv_at hl 2 rfl) ?_
    obtain ⟨g5, h⟩ := gd_t h
    refine iv_lt (tgt := 18) hx hb g5 dX7_bin_10 (by decide) (fun c6 => ?_) (fun c6 => ?_)
    · have h := it_t c6 h
      refine iv_bipush hx hb dX7_bin_18 (by decide +kernel) ?_
      cases h
      exact iv_iret hx hb hr hlocks hK hP hD hS dX7_bin_20
    · have h := it_f c6 h
      refine lv_iload_n hx hb dX7_bin_13 rfl (lv_at hl 2 rfl) ?_
      refine iv_iconst hx hb dX7_bin_14 ?_
      refine iv_ile (tgt := 21) hx hb g5 (by decide +kernel) dX7_bin_15 (by decide) (fun c7 => ?_) (fun c7 => ?_)
      · have h := it_t c7 h
        refine lv_aload_n hx hb dX7_bin_21 rfl (lv_at hl 0 rfl) ?_
        refine va_get (D := E.1) (ci := 7) (v := .ref (a 9)) (C := RX7) (T := TX7) (N := 8) hx hb hts in_X7_bin_X7 hown hK.1 hP 0 rfl rfl 2 (by decide) (hts _ wd_X7_bin_f28) (fun _ h9 => h9) rfl dX7_bin_22 ?_
        refine lv_aload_n hx hb dX7_bin_25 rfl (lv_at hl 0 rfl) ?_
        refine va_get (D := E.1) (ci := 7) (v := .ref (a 78)) (C := RX7) (T := TX7) (N := 8) hx hb hts in_X7_bin_X7 hown hK.1 hP 0 rfl rfl 4 (by decide) (hts _ wd_X7_bin_f42) (fun _ h9 => h9) rfl dX7_bin_26 ?_
        refine lv_iload_n hx hb dX7_bin_29 rfl (lv_at hl 1 rfl) ?_
        obtain ⟨u8, q9, h⟩ := bd_t h
        obtain ⟨s10, e11, h⟩ := nm_t h
        obtain ⟨s12, e13, h⟩ := nm_t h
        refine iv_callVp (As := [.ref (a 78), .int (zi x1)]) (rest := []) (ws1 := wX a hs E s12) ⟨hx, hb, hml, hown, hts⟩ (k_X3_fill l E (fun i => a (9 + i)) (fun i => a (78 + i)) H.size N x1 (z.2.1, z.2.2.2.1) u8 q9) (cwV 2 hts gX7_bin_X3_fill rfl rfl rfl (by decide +kernel) ⟨Nat.le_of_ble_eq_true rfl, Nat.le_of_ble_eq_true rfl⟩) hK hP hD hS hA 9 3 rfl rfl (pm_skip (pm_skip (pm_take (pm_skip (pm_last))))) (by rw [e13, e11]; exact pm_skip (pm_skip (pm_take (pm_skip (pm_last))))) rfl hl.1 (Nat.le_of_ble_eq_true rfl) ⟨Nat.zero_le _, Nat.zero_le _⟩ dX7_bin_30 (fun H locs hP hD hS => ?_)
        refine lv_iload_n hx hb dX7_bin_33 rfl (lv_at hl 2 rfl) ?_
        by_cases c14 : x2 = 0
        · have h := it_t c14 h
          refine iv_tabIn (tgt := 64) (off := 30) hx hb dX7_bin_34 g5 c14 (by decide) (by decide) rfl (by decide) ?_
          refine lv_aload_n hx hb dX7_bin_64 rfl (lv_at hl 0 rfl) ?_
          refine va_get (D := E.1) (ci := 7) (v := .ref (a 9)) (C := RX7) (T := TX7) (N := 8) hx hb hts in_X7_bin_X7 hown hK.1 hP 0 rfl rfl 2 (by decide) (hts _ wd_X7_bin_f28) (fun _ h9 => h9) rfl dX7_bin_65 ?_
          refine va_get (D := E.1) (ci := 3) (v := .int (zi s12.2.1.2.2)) (C := RX3) (T := TX3) (N := 3) hx hb hts in_X7_bin_X3 hown hK.1 hP 9 rfl rfl 2 (by decide) (hts _ wd_X7_bin_f189) (fun _ h9 => h9) rfl dX7_bin_68 ?_
          cases h
          exact iv_iret hx hb hr hlocks hK hP hD hS dX7_bin_71
        have h := it_f c14 h
        by_cases c15 : x2 = 1
        · have h := it_t c15 h
          refine iv_tabIn (tgt := 72) (off := 38) hx hb dX7_bin_34 g5 c15 (by decide) (by decide) rfl (by decide) ?_
          refine lv_aload_n hx hb dX7_bin_72 rfl (lv_at hl 0 rfl) ?_
          refine va_get (D := E.1) (ci := 7) (v := .ref (a 78)) (C := RX7) (T := TX7) (N := 8) hx hb hts in_X7_bin_X7 hown hK.1 hP 0 rfl rfl 4 (by decide) (hts _ wd_X7_bin_f42) (fun _ h9 => h9) rfl dX7_bin_73 ?_
          refine va_get (D := E.1) (ci := 5) (v := .ref (a 93)) (C := RX5) (T := TX5) (N := 8) hx hb hts in_X7_bin_X5 hown hK.1 hP 78 rfl rfl 2 (by decide) (hts _ wd_X7_bin_f113) (fun _ h9 => h9) rfl dX7_bin_76 ?_
          refine iv_bipush hx hb dX7_bin_79 (by decide +kernel) ?_
          refine iv_iald (f := s12.2.2.2.1.2.2.1) (j := 6) hx hb hK.1 hP 93 0 rfl rfl (by decide) (by decide +kernel) rfl dX7_bin_81 ?_
          refine lv_aload_n hx hb dX7_bin_82 rfl (lv_at hl 0 rfl) ?_
          refine va_get (D := E.1) (ci := 7) (v := .ref (a 9)) (C := RX7) (T := TX7) (N := 8) hx hb hts in_X7_bin_X7 hown hK.1 hP 0 rfl rfl 2 (by decide) (hts _ wd_X7_bin_f28) (fun _ h9 => h9) rfl dX7_bin_83 ?_
          refine va_get (D := E.1) (ci := 3) (v := .int (zi s12.2.1.2.2)) (C := RX3) (T := TX3) (N := 3) hx hb hts in_X7_bin_X3 hown hK.1 hP 9 rfl rfl 2 (by decide) (hts _ wd_X7_bin_f189) (fun _ h9 => h9) rfl dX7_bin_86 ?_
          refine iv_isub hx hb dX7_bin_89 ?_
          refine iv_iconst hx hb dX7_bin_90 ?_
          obtain ⟨g16, h⟩ := gd_t h
          refine iv_max hx hb (hml.trans hl.1.symm) hown (hts _ wd_X7_bin_m190) (hts _ wd_X7_bin_maxs) (hts _ wd_X7_bin_maxi) (hts _ wd_X7_bin_maxc) (by decide) (Nat.le_of_ble_eq_true rfl) (Nat.zero_le _) (Nat.zero_le _) g16 (by decide +kernel) dX7_bin_91 ?_
          cases h
          exact iv_iret hx hb hr hlocks hK hP hD hS dX7_bin_94
        have h := it_f c15 h
        by_cases c17 : x2 = 2
        · have h := it_t c17 h
          refine iv_tabIn (tgt := 95) (off := 61) hx hb dX7_bin_34 g5 c17 (by decide) (by decide) rfl (by decide) ?_
          refine lv_aload_n hx hb dX7_bin_95 rfl (lv_at hl 0 rfl) ?_
          refine va_get (D := E.1) (ci := 7) (v := .ref (a 9)) (C := RX7) (T := TX7) (N := 8) hx hb hts in_X7_bin_X7 hown hK.1 hP 0 rfl rfl 2 (by decide) (hts _ wd_X7_bin_f28) (fun _ h9 => h9) rfl dX7_bin_96 ?_
          obtain ⟨u18, q19, h⟩ := bd_t h
          obtain ⟨s20, e21, h⟩ := nm_t h
          refine iv_callIp (As := []) (rest := []) (ws1 := wX a hs E s20) ⟨hx, hb, hml, hown, hts⟩ (k_X3_shineSum l E (fun i => a (9 + i)) H.size N  s12.2.1 u18 q19) (cwV 0 hts gX7_bin_X3_shineSum rfl rfl rfl (by decide +kernel) ⟨Nat.le_of_ble_eq_true rfl, Nat.le_of_ble_eq_true rfl⟩) hK hP hD hS hA 9 3 rfl rfl (pm_skip (pm_skip (pm_last))) (by rw [e21]; exact pm_skip (pm_skip (pm_last))) rfl hl.1 (Nat.le_of_ble_eq_true rfl) ⟨Nat.zero_le _, Nat.zero_le _⟩ dX7_bin_99 (fun H locs hP hD hS => ?_)
          cases h
          exact iv_iret hx hb hr hlocks hK hP hD hS dX7_bin_102
        have h := it_f c17 h
        by_cases c22 : x2 = 3
        · have h := it_t c22 h
          refine iv_tabIn (tgt := 103) (off := 69) hx hb dX7_bin_34 g5 c22 (by decide) (by decide) rfl (by decide) ?_
          refine lv_aload_n hx hb dX7_bin_103 rfl (lv_at hl 0 rfl) ?_
          refine va_get (D := E.1) (ci := 7) (v := .ref (a 9)) (C := RX7) (T := TX7) (N := 8) hx hb hts in_X7_bin_X7 hown hK.1 hP 0 rfl rfl 2 (by decide) (hts _ wd_X7_bin_f28) (fun _ h9 => h9) rfl dX7_bin_104 ?_
          refine lv_aload_n hx hb dX7_bin_107 rfl (lv_at hl 0 rfl) ?_
          refine va_get (D := E.1) (ci := 7) (v := .ref (a 78)) (C := RX7) (T := TX7) (N := 8) hx hb hts in_X7_bin_X7 hown hK.1 hP 0 rfl rfl 4 (by decide) (hts _ wd_X7_bin_f42) (fun _ h9 => h9) rfl dX7_bin_108 ?_
          refine va_get (D := E.1) (ci := 5) (v := .ref (a 93)) (C := RX5) (T := TX5) (N := 8) hx hb hts in_X7_bin_X5 hown hK.1 hP 78 rfl rfl 2 (by decide) (hts _ wd_X7_bin_f113) (fun _ h9 => h9) rfl dX7_bin_111 ?_
          refine iv_bipush hx hb dX7_bin_114 (by decide +kernel) ?_
          refine iv_iald (f := s12.2.2.2.1.2.2.1) (j := 7) hx hb hK.1 hP 93 0 rfl rfl (by decide) (by decide +kernel) rfl dX7_bin_116 ?_
          obtain ⟨u23, q24, h⟩ := bd_t h
          obtain ⟨s25, e26, h⟩ := nm_t h
          refine iv_callIp (As := [.int (zi (s12.2.2.2.1.2.2.1 7))]) (rest := []) (ws1 := wX a hs E s25) ⟨hx, hb, hml, hown, hts⟩ (k_X3_mostAlike l E (fun i => a (9 + i)) H.size N (s12.2.2.2.1.2.2.1 7) s12.2.1 u23 q24) (cwV 1 hts gX7_bin_X3_mostAlike rfl rfl rfl (by decide +kernel) ⟨Nat.le_of_ble_eq_true rfl, Nat.le_of_ble_eq_true rfl⟩) hK hP hD hS hA 9 3 rfl rfl (pm_skip (pm_skip (pm_last))) (by rw [e26]; exact pm_skip (pm_skip (pm_last))) rfl hl.1 (Nat.le_of_ble_eq_true rfl) ⟨Nat.zero_le _, Nat.zero_le _⟩ dX7_bin_117 (fun H locs hP hD hS => ?_)
          cases h
          exact iv_iret hx hb hr hlocks hK hP hD hS dX7_bin_120
        have h := it_f c22 h
        refine iv_tabOut (tgt := 121) hx hb dX7_bin_34 g5 (by omega) (by decide) ?_
        refine lv_aload_n hx hb dX7_bin_121 rfl (lv_at hl 0 rfl) ?_
        refine va_get (D := E.1) (ci := 7) (v := .ref (a 9)) (C := RX7) (T := TX7) (N := 8) hx hb hts in_X7_bin_X7 hown hK.1 hP 0 rfl rfl 2 (by decide) (hts _ wd_X7_bin_f28) (fun _ h9 => h9) rfl dX7_bin_122 ?_
        refine va_get (D := E.1) (ci := 3) (v := .int (zi s12.2.1.2.2)) (C := RX3) (T := TX3) (N := 3) hx hb hts in_X7_bin_X3 hown hK.1 hP 9 rfl rfl 2 (by decide) (hts _ wd_X7_bin_f189) (fun _ h9 => h9) rfl dX7_bin_125 ?_
        obtain ⟨g27, h⟩ := gd_t h
        refine iv_ne (tgt := 135) hx hb g27 dX7_bin_128 (by decide) (fun c28 => ?_) (fun c28 => ?_)
        · have h := it_f c28 h
          refine lv_aload_n hx hb dX7_bin_135 rfl (lv_at hl 0 rfl) ?_
          refine va_get (D := E.1) (ci := 7) (v := .ref (a 9)) (C := RX7) (T := TX7) (N := 8) hx hb hts in_X7_bin_X7 hown hK.1 hP 0 rfl rfl 2 (by decide) (hts _ wd_X7_bin_f28) (fun _ h9 => h9) rfl dX7_bin_136 ?_
          refine lv_aload_n hx hb dX7_bin_139 rfl (lv_at hl 0 rfl) ?_
          refine va_get (D := E.1) (ci := 7) (v := .ref (a 9)) (C := RX7) (T := TX7) (N := 8) hx hb hts in_X7_bin_X7 hown hK.1 hP 0 rfl rfl 2 (by decide) (hts _ wd_X7_bin_f28) (fun _ h9 => h9) rfl dX7_bin_140 ?_
          refine va_get (D := E.1) (ci := 3) (v := .int (zi s12.2.1.2.2)) (C := RX3) (T := TX3) (N := 3) hx hb hts in_X7_bin_X3 hown hK.1 hP 9 rfl rfl 2 (by decide) (hts _ wd_X7_bin_f189) (fun _ h9 => h9) rfl dX7_bin_143 ?_
          obtain ⟨u29, q30, h⟩ := bd_t h
          obtain ⟨s31, e32, h⟩ := nm_t h
          refine iv_callIp (As := [.int (zi s12.2.1.2.2)]) (rest := []) (ws1 := wX a hs E s31) ⟨hx, hb, hml, hown, hts⟩ (k_X3_narrowest l E (fun i => a (9 + i)) H.size N s12.2.1.2.2 s12.2.1 u29 q30) (cwV 1 hts gX7_bin_X3_narrowest rfl rfl rfl (by decide +kernel) ⟨Nat.le_of_ble_eq_true rfl, Nat.le_of_ble_eq_true rfl⟩) hK hP hD hS hA 9 3 rfl rfl (pm_skip (pm_skip (pm_last))) (by rw [e32]; exact pm_skip (pm_skip (pm_last))) rfl hl.1 (Nat.le_of_ble_eq_true rfl) ⟨Nat.zero_le _, Nat.zero_le _⟩ dX7_bin_146 (fun H locs hP hD hS => ?_)
          cases h
          exact iv_iret hx hb hr hlocks hK hP hD hS dX7_bin_149
        · have h := it_t c28 h
          refine iv_iconst hx hb dX7_bin_131 ?_
          refine lv_goto (tgt := 149) hx hb dX7_bin_132 (by decide) ?_
          cases h
          exact iv_iret hx hb hr hlocks hK hP hD hS dX7_bin_149
      · have h := it_f c7 h
        refine iv_bipush hx hb dX7_bin_18 (by decide +kernel) ?_
        cases h
        exact iv_iret hx hb hr hlocks hK hP hD hS dX7_bin_20
  · have h := it_t c4 h
    refine iv_iconst hx hb dX7_bin_7 ?_
    cases h
    exact iv_iret hx hb hr hlocks hK hP hD hS dX7_bin_8
set_option maxRecDepth 20000 in
theorem wd_X7_total_f42 : Cond.fieldLink RX7 42 "ShirtButtons" "now" "LShirtButtons$State;" ∈ wsX7_total := by decide +kernel
set_option maxRecDepth 20000 in
theorem in_X7_total_X7 : ∀ w ∈ u_ws RX7 TX7 8, w ∈ wsX7_total := by decide +kernel
set_option maxRecDepth 20000 in
theorem wd_X7_total_f60 : Cond.fieldLink RX7 60 "ShirtButtons$State" "buttons" "LShirtButtons$Buttons;" ∈ wsX7_total := by decide +kernel
set_option maxRecDepth 20000 in
theorem in_X7_total_X5 : ∀ w ∈ u_ws RX5 TX5 8, w ∈ wsX7_total := by decide +kernel
set_option maxRecDepth 20000 in
theorem wd_X7_total_f64 : Cond.fieldLink RX7 64 "ShirtButtons$Buttons" "count" "I" ∈ wsX7_total := by decide +kernel
set_option maxRecDepth 20000 in
theorem in_X7_total_X1 : ∀ w ∈ u_ws RX1 TX1 7, w ∈ wsX7_total := by decide +kernel
set_option maxRecDepth 20000 in
theorem wd_X7_total_f10 : Cond.fieldLink RX7 10 "ShirtButtons" "text" "LShirtButtons$Text;" ∈ wsX7_total := by decide +kernel
set_option maxRecDepth 20000 in
theorem wd_X7_total_f151 : Cond.fieldLink RX7 151 "ShirtButtons$Text" "length" "I" ∈ wsX7_total := by decide +kernel
set_option maxRecDepth 20000 in
theorem in_X7_total_X6 : ∀ w ∈ u_ws RX6 TX6 2, w ∈ wsX7_total := by decide +kernel
set_option maxRecDepth 20000 in
theorem wd_X7_total_f204 : Cond.fieldLink RX7 204 "ShirtButtons$State" "shirtsMade" "I" ∈ wsX7_total := by decide +kernel
set_option maxRecDepth 20000 in
theorem wd_X7_total_f207 : Cond.fieldLink RX7 207 "ShirtButtons$State" "worthMade" "I" ∈ wsX7_total := by decide +kernel
set_option maxRecDepth 20000 in
theorem wd_X7_total_f210 : Cond.fieldLink RX7 210 "ShirtButtons$State" "sortingsDone" "I" ∈ wsX7_total := by decide +kernel
set_option maxRecDepth 20000 in
theorem wd_X7_total_f213 : Cond.fieldLink RX7 213 "ShirtButtons$State" "goneBack" "I" ∈ wsX7_total := by decide +kernel
set_option maxRecDepth 20000 in
theorem wd_X7_total_f216 : Cond.fieldLink RX7 216 "ShirtButtons$State" "rubbed" "I" ∈ wsX7_total := by decide +kernel
set_option maxRecDepth 20000 in
theorem wd_X7_total_f35 : Cond.fieldLink RX7 35 "ShirtButtons" "history" "LShirtButtons$History;" ∈ wsX7_total := by decide +kernel
set_option maxRecDepth 20000 in
theorem wd_X7_total_f158 : Cond.fieldLink RX7 158 "ShirtButtons$History" "count" "I" ∈ wsX7_total := by decide +kernel
set_option maxRecDepth 20000 in
theorem in_X7_total_X2 : ∀ w ∈ u_ws RX2 TX2 2, w ∈ wsX7_total := by decide +kernel
set_option maxRecDepth 20000 in
theorem wd_X7_total_f79 : Cond.fieldLink RX7 79 "ShirtButtons$State" "places" "LShirtButtons$Places;" ∈ wsX7_total := by decide +kernel
set_option maxRecDepth 20000 in
theorem wd_X7_total_f83 : Cond.fieldLink RX7 83 "ShirtButtons$Places" "at" "[I" ∈ wsX7_total := by decide +kernel
set_option maxRecDepth 20000 in
theorem in_X7_total_X4 : ∀ w ∈ u_ws RX4 TX4 6, w ∈ wsX7_total := by decide +kernel
set_option maxRecDepth 20000 in
theorem wd_X7_total_f113 : Cond.fieldLink RX7 113 "ShirtButtons$State" "settings" "[I" ∈ wsX7_total := by decide +kernel
set_option maxHeartbeats 4000000 in
set_option maxRecDepth 100000 in
theorem k_X7_total (l : Launch) (E : wE) (a hs : Nat → Nat) (sz : Nat) (N : Nat) (x1 : Int) (z : bX) (u : (Int × bX)) (hf : f_X7_total N x1 z = some u) : cI l yX7_total wsX7_total { frames := 1, cells := 0, slots := 0, locals := 22 } E sz [.ref (a 0), .int (zi x1)] (wX a hs E z) (wX a hs E u.2) u.1 := by
  refine met_go (cc := cX7_total) (maxL := 2) (ret := (some .int)) (Q0 := mQi E (wX a hs E u.2) u.1) (by decide +kernel) rfl (Nat.le_of_ble_eq_true rfl) ?_
  intro A p e s m below meth c hx hb hr hml hts hown hlocks hP hK hD hA hS ls hl
  have hl : lv_has ls 2 [(0, .ref (a 0)), (1, .int (zi x1))] := hl
  generalize hH : s.heap = H at hP
  have hS : va_S A s.heap H [] := by rw [← hH]; exact hS
  have hown : s.vm.findClass RX7 = some m.cls := hown
  have h := hf
  rw [f_X7_total] at h
  refine lv_iload_n hx hb dX7_total_0 rfl (lv_at hl 1 rfl) ?_
  obtain ⟨g1, h⟩ := gd_t h
  refine iv_lt (tgt := 10) hx hb g1 dX7_total_1 (by decide) (fun c2 => ?_) (fun c2 => ?_)
  · have h := it_t c2 h
    refine iv_bipush hx hb dX7_total_10 (by decide +kernel) ?_
    cases h
    exact iv_iret hx hb hr hlocks hK hP hD hS dX7_total_12
  · have h := it_f c2 h
    refine lv_iload_n hx hb dX7_total_4 rfl (lv_at hl 1 rfl) ?_
    refine iv_bipush hx hb dX7_total_5 (by decide +kernel) ?_
    refine iv_ile (tgt := 13) hx hb g1 (by decide +kernel) dX7_total_7 (by decide) (fun c3 => ?_) (fun c3 => ?_)
    · have h := it_t c3 h
      refine lv_iload_n hx hb dX7_total_13 rfl (lv_at hl 1 rfl) ?_
      refine iv_bipush hx hb dX7_total_14 (by decide +kernel) ?_
      refine iv_ige (tgt := 29) hx hb g1 (by decide +kernel) dX7_total_16 (by decide) (fun c4 => ?_) (fun c4 => ?_)
      · have h := it_t c4 h
        refine lv_iload_n hx hb dX7_total_29 rfl (lv_at hl 1 rfl) ?_
        refine iv_bipush hx hb dX7_total_30 (by decide +kernel) ?_
        refine iv_ilt (tgt := 57) hx hb g1 (by decide +kernel) dX7_total_32 (by decide) (fun c5 => ?_) (fun c5 => ?_)
        · have h := it_t c5 h
          refine lv_iload_n hx hb dX7_total_57 rfl (lv_at hl 1 rfl) ?_
          by_cases c6 : x1 = 8
          · have h := it_t c6 h
            refine iv_tabIn (tgt := 132) (off := 74) hx hb dX7_total_58 g1 c6 (by decide) (by decide) rfl (by decide) ?_
            refine lv_aload_n hx hb dX7_total_132 rfl (lv_at hl 0 rfl) ?_
            refine va_get (D := E.1) (ci := 7) (v := .ref (a 78)) (C := RX7) (T := TX7) (N := 8) hx hb hts in_X7_total_X7 hown hK.1 hP 0 rfl rfl 4 (by decide) (hts _ wd_X7_total_f42) (fun _ h9 => h9) rfl dX7_total_133 ?_
            refine va_get (D := E.1) (ci := 5) (v := .ref (a 79)) (C := RX5) (T := TX5) (N := 8) hx hb hts in_X7_total_X5 hown hK.1 hP 78 rfl rfl 0 (by decide) (hts _ wd_X7_total_f60) (fun _ h9 => h9) rfl dX7_total_136 ?_
            refine va_get (D := E.1) (ci := 1) (v := .int (zi z.2.2.2.1.1.2.2.2.2.2.2)) (C := RX1) (T := TX1) (N := 7) hx hb hts in_X7_total_X1 hown hK.1 hP 79 rfl rfl 6 (by decide) (hts _ wd_X7_total_f64) (fun _ h9 => h9) rfl dX7_total_139 ?_
            cases h
            exact iv_iret hx hb hr hlocks hK hP hD hS dX7_total_142
          have h := it_f c6 h
          by_cases c7 : x1 = 9
          · have h := it_t c7 h
            refine iv_tabIn (tgt := 202) (off := 144) hx hb dX7_total_58 g1 c7 (by decide) (by decide) rfl (by decide) ?_
            refine lv_aload_n hx hb dX7_total_202 rfl (lv_at hl 0 rfl) ?_
            refine va_get (D := E.1) (ci := 7) (v := .ref (a 7)) (C := RX7) (T := TX7) (N := 8) hx hb hts in_X7_total_X7 hown hK.1 hP 0 rfl rfl 0 (by decide) (hts _ wd_X7_total_f10) (fun _ h9 => h9) rfl dX7_total_203 ?_
            refine va_get (D := E.1) (ci := 6) (v := .int (zi z.1.2.2)) (C := RX6) (T := TX6) (N := 2) hx hb hts in_X7_total_X6 hown hK.1 hP 7 rfl rfl 1 (by decide) (hts _ wd_X7_total_f151) (fun _ h9 => h9) rfl dX7_total_206 ?_
            cases h
            exact iv_iret hx hb hr hlocks hK hP hD hS dX7_total_209
          have h := it_f c7 h
          by_cases c8 : x1 = 10
          · have h := it_t c8 h
            refine iv_tabIn (tgt := 202) (off := 144) hx hb dX7_total_58 g1 c8 (by decide) (by decide) rfl (by decide) ?_
            refine lv_aload_n hx hb dX7_total_202 rfl (lv_at hl 0 rfl) ?_
            refine va_get (D := E.1) (ci := 7) (v := .ref (a 7)) (C := RX7) (T := TX7) (N := 8) hx hb hts in_X7_total_X7 hown hK.1 hP 0 rfl rfl 0 (by decide) (hts _ wd_X7_total_f10) (fun _ h9 => h9) rfl dX7_total_203 ?_
            refine va_get (D := E.1) (ci := 6) (v := .int (zi z.1.2.2)) (C := RX6) (T := TX6) (N := 2) hx hb hts in_X7_total_X6 hown hK.1 hP 7 rfl rfl 1 (by decide) (hts _ wd_X7_total_f151) (fun _ h9 => h9) rfl dX7_total_206 ?_
            cases h
            exact iv_iret hx hb hr hlocks hK hP hD hS dX7_total_209
          have h := it_f c8 h
          by_cases c9 : x1 = 11
          · have h := it_t c9 h
            refine iv_tabIn (tgt := 202) (off := 144) hx hb dX7_total_58 g1 c9 (by decide) (by decide) rfl (by decide) ?_
            refine lv_aload_n hx hb dX7_total_202 rfl (lv_at hl 0 rfl) ?_
            refine va_get (D := E.1) (ci := 7) (v := .ref (a 7)) (C := RX7) (T := TX7) (N := 8) hx hb hts in_X7_total_X7 hown hK.1 hP 0 rfl rfl 0 (by decide) (hts _ wd_X7_total_f10) (fun _ h9 => h9) rfl dX7_total_203 ?_
            refine va_get (D := E.1) (ci := 6) (v := .int (zi z.1.2.2)) (C := RX6) (T := TX6) (N := 2) hx hb hts in_X7_total_X6 hown hK.1 hP 7 rfl rfl 1 (by decide) (hts _ wd_X7_total_f151) (fun _ h9 => h9) rfl dX7_total_206 ?_
            cases h
            exact iv_iret hx hb hr hlocks hK hP hD hS dX7_total_209
          have h := it_f c9 h
          by_cases c10 : x1 = 12
          · have h := it_t c10 h
            refine iv_tabIn (tgt := 202) (off := 144) hx hb dX7_total_58 g1 c10 (by decide) (by decide) rfl (by decide) ?_
            refine lv_aload_n hx hb dX7_total_202 rfl (lv_at hl 0 rfl) ?_
            refine va_get (D := E.1) (ci := 7) (v := .ref (a 7)) (C := RX7) (T := TX7) (N := 8) hx hb hts in_X7_total_X7 hown hK.1 hP 0 rfl rfl 0 (by decide) (hts _ wd_X7_total_f10) (fun _ h9 => h9) rfl dX7_total_203 ?_
            refine va_get (D := E.1) (ci := 6) (v := .int (zi z.1.2.2)) (C := RX6) (T := TX6) (N := 2) hx hb hts in_X7_total_X6 hown hK.1 hP 7 rfl rfl 1 (by decide) (hts _ wd_X7_total_f151) (fun _ h9 => h9) rfl dX7_total_206 ?_
            cases h
            exact iv_iret hx hb hr hlocks hK hP hD hS dX7_total_209
          have h := it_f c10 h
          by_cases c11 : x1 = 13
          · have h := it_t c11 h
            refine iv_tabIn (tgt := 202) (off := 144) hx hb dX7_total_58 g1 c11 (by decide) (by decide) rfl (by decide) ?_
            refine lv_aload_n hx hb dX7_total_202 rfl (lv_at hl 0 rfl) ?_
            refine va_get (D := E.1) (ci := 7) (v := .ref (a 7)) (C := RX7) (T := TX7) (N := 8) hx hb hts in_X7_total_X7 hown hK.1 hP 0 rfl rfl 0 (by decide) (hts _ wd_X7_total_f10) (fun _ h9 => h9) rfl dX7_total_203 ?_
            refine va_get (D := E.1) (ci := 6) (v := .int (zi z.1.2.2)) (C := RX6) (T := TX6) (N := 2) hx hb hts in_X7_total_X6 hown hK.1 hP 7 rfl rfl 1 (by decide) (hts _ wd_X7_total_f151) (fun _ h9 => h9) rfl dX7_total_206 ?_
            cases h
            exact iv_iret hx hb hr hlocks hK hP hD hS dX7_total_209
          have h := it_f c11 h
          by_cases c12 : x1 = 14
          · have h := it_t c12 h
            refine iv_tabIn (tgt := 202) (off := 144) hx hb dX7_total_58 g1 c12 (by decide) (by decide) rfl (by decide) ?_
            refine lv_aload_n hx hb dX7_total_202 rfl (lv_at hl 0 rfl) ?_
            refine va_get (D := E.1) (ci := 7) (v := .ref (a 7)) (C := RX7) (T := TX7) (N := 8) hx hb hts in_X7_total_X7 hown hK.1 hP 0 rfl rfl 0 (by decide) (hts _ wd_X7_total_f10) (fun _ h9 => h9) rfl dX7_total_203 ?_
            refine va_get (D := E.1) (ci := 6) (v := .int (zi z.1.2.2)) (C := RX6) (T := TX6) (N := 2) hx hb hts in_X7_total_X6 hown hK.1 hP 7 rfl rfl 1 (by decide) (hts _ wd_X7_total_f151) (fun _ h9 => h9) rfl dX7_total_206 ?_
            cases h
            exact iv_iret hx hb hr hlocks hK hP hD hS dX7_total_209
          have h := it_f c12 h
          by_cases c13 : x1 = 15
          · have h := it_t c13 h
            refine iv_tabIn (tgt := 202) (off := 144) hx hb dX7_total_58 g1 c13 (by decide) (by decide) rfl (by decide) ?_
            refine lv_aload_n hx hb dX7_total_202 rfl (lv_at hl 0 rfl) ?_
            refine va_get (D := E.1) (ci := 7) (v := .ref (a 7)) (C := RX7) (T := TX7) (N := 8) hx hb hts in_X7_total_X7 hown hK.1 hP 0 rfl rfl 0 (by decide) (hts _ wd_X7_total_f10) (fun _ h9 => h9) rfl dX7_total_203 ?_
            refine va_get (D := E.1) (ci := 6) (v := .int (zi z.1.2.2)) (C := RX6) (T := TX6) (N := 2) hx hb hts in_X7_total_X6 hown hK.1 hP 7 rfl rfl 1 (by decide) (hts _ wd_X7_total_f151) (fun _ h9 => h9) rfl dX7_total_206 ?_
            cases h
            exact iv_iret hx hb hr hlocks hK hP hD hS dX7_total_209
          have h := it_f c13 h
          by_cases c14 : x1 = 16
          · have h := it_t c14 h
            refine iv_tabIn (tgt := 143) (off := 85) hx hb dX7_total_58 g1 c14 (by decide) (by decide) rfl (by decide) ?_
            refine lv_aload_n hx hb dX7_total_143 rfl (lv_at hl 0 rfl) ?_
            refine va_get (D := E.1) (ci := 7) (v := .ref (a 78)) (C := RX7) (T := TX7) (N := 8) hx hb hts in_X7_total_X7 hown hK.1 hP 0 rfl rfl 4 (by decide) (hts _ wd_X7_total_f42) (fun _ h9 => h9) rfl dX7_total_144 ?_
            refine va_get (D := E.1) (ci := 5) (v := .int (zi z.2.2.2.1.2.2.2.1)) (C := RX5) (T := TX5) (N := 8) hx hb hts in_X7_total_X5 hown hK.1 hP 78 rfl rfl 3 (by decide) (hts _ wd_X7_total_f204) (fun _ h9 => h9) rfl dX7_total_147 ?_
            cases h
            exact iv_iret hx hb hr hlocks hK hP hD hS dX7_total_150
          have h := it_f c14 h
          by_cases c15 : x1 = 17
          · have h := it_t c15 h
            refine iv_tabIn (tgt := 151) (off := 93) hx hb dX7_total_58 g1 c15 (by decide) (by decide) rfl (by decide) ?_
            refine lv_aload_n hx hb dX7_total_151 rfl (lv_at hl 0 rfl) ?_
            refine va_get (D := E.1) (ci := 7) (v := .ref (a 78)) (C := RX7) (T := TX7) (N := 8) hx hb hts in_X7_total_X7 hown hK.1 hP 0 rfl rfl 4 (by decide) (hts _ wd_X7_total_f42) (fun _ h9 => h9) rfl dX7_total_152 ?_
            refine va_get (D := E.1) (ci := 5) (v := .int (zi z.2.2.2.1.2.2.2.2.1)) (C := RX5) (T := TX5) (N := 8) hx hb hts in_X7_total_X5 hown hK.1 hP 78 rfl rfl 4 (by decide) (hts _ wd_X7_total_f207) (fun _ h9 => h9) rfl dX7_total_155 ?_
            cases h
            exact iv_iret hx hb hr hlocks hK hP hD hS dX7_total_158
          have h := it_f c15 h
          by_cases c16 : x1 = 18
          · have h := it_t c16 h
            refine iv_tabIn (tgt := 159) (off := 101) hx hb dX7_total_58 g1 c16 (by decide) (by decide) rfl (by decide) ?_
            refine lv_aload_n hx hb dX7_total_159 rfl (lv_at hl 0 rfl) ?_
            refine va_get (D := E.1) (ci := 7) (v := .ref (a 78)) (C := RX7) (T := TX7) (N := 8) hx hb hts in_X7_total_X7 hown hK.1 hP 0 rfl rfl 4 (by decide) (hts _ wd_X7_total_f42) (fun _ h9 => h9) rfl dX7_total_160 ?_
            refine va_get (D := E.1) (ci := 5) (v := .int (zi z.2.2.2.1.2.2.2.2.2.1)) (C := RX5) (T := TX5) (N := 8) hx hb hts in_X7_total_X5 hown hK.1 hP 78 rfl rfl 5 (by decide) (hts _ wd_X7_total_f210) (fun _ h9 => h9) rfl dX7_total_163 ?_
            cases h
            exact iv_iret hx hb hr hlocks hK hP hD hS dX7_total_166
          have h := it_f c16 h
          by_cases c17 : x1 = 19
          · have h := it_t c17 h
            refine iv_tabIn (tgt := 167) (off := 109) hx hb dX7_total_58 g1 c17 (by decide) (by decide) rfl (by decide) ?_
            refine lv_aload_n hx hb dX7_total_167 rfl (lv_at hl 0 rfl) ?_
            refine va_get (D := E.1) (ci := 7) (v := .ref (a 78)) (C := RX7) (T := TX7) (N := 8) hx hb hts in_X7_total_X7 hown hK.1 hP 0 rfl rfl 4 (by decide) (hts _ wd_X7_total_f42) (fun _ h9 => h9) rfl dX7_total_168 ?_
            refine va_get (D := E.1) (ci := 5) (v := .int (zi z.2.2.2.1.2.2.2.2.2.2.1)) (C := RX5) (T := TX5) (N := 8) hx hb hts in_X7_total_X5 hown hK.1 hP 78 rfl rfl 6 (by decide) (hts _ wd_X7_total_f213) (fun _ h9 => h9) rfl dX7_total_171 ?_
            cases h
            exact iv_iret hx hb hr hlocks hK hP hD hS dX7_total_174
          have h := it_f c17 h
          by_cases c18 : x1 = 20
          · have h := it_t c18 h
            refine iv_tabIn (tgt := 175) (off := 117) hx hb dX7_total_58 g1 c18 (by decide) (by decide) rfl (by decide) ?_
            refine lv_aload_n hx hb dX7_total_175 rfl (lv_at hl 0 rfl) ?_
            refine va_get (D := E.1) (ci := 7) (v := .ref (a 78)) (C := RX7) (T := TX7) (N := 8) hx hb hts in_X7_total_X7 hown hK.1 hP 0 rfl rfl 4 (by decide) (hts _ wd_X7_total_f42) (fun _ h9 => h9) rfl dX7_total_176 ?_
            refine va_get (D := E.1) (ci := 5) (v := .int (zi z.2.2.2.1.2.2.2.2.2.2.2)) (C := RX5) (T := TX5) (N := 8) hx hb hts in_X7_total_X5 hown hK.1 hP 78 rfl rfl 7 (by decide) (hts _ wd_X7_total_f216) (fun _ h9 => h9) rfl dX7_total_179 ?_
            cases h
            exact iv_iret hx hb hr hlocks hK hP hD hS dX7_total_182
          have h := it_f c18 h
          by_cases c19 : x1 = 21
          · have h := it_t c19 h
            refine iv_tabIn (tgt := 183) (off := 125) hx hb dX7_total_58 g1 c19 (by decide) (by decide) rfl (by decide) ?_
            refine lv_aload_n hx hb dX7_total_183 rfl (lv_at hl 0 rfl) ?_
            refine va_get (D := E.1) (ci := 7) (v := .ref (a 78)) (C := RX7) (T := TX7) (N := 8) hx hb hts in_X7_total_X7 hown hK.1 hP 0 rfl rfl 4 (by decide) (hts _ wd_X7_total_f42) (fun _ h9 => h9) rfl dX7_total_184 ?_
            refine va_get (D := E.1) (ci := 5) (v := .ref (a 79)) (C := RX5) (T := TX5) (N := 8) hx hb hts in_X7_total_X5 hown hK.1 hP 78 rfl rfl 0 (by decide) (hts _ wd_X7_total_f60) (fun _ h9 => h9) rfl dX7_total_187 ?_
            obtain ⟨u20, q21, h⟩ := bd_t h
            obtain ⟨s22, e23, h⟩ := nm_t h
            refine iv_callIp (As := []) (rest := []) (ws1 := wX a hs E s22) ⟨hx, hb, hml, hown, hts⟩ (k_X1_chipSum l E (fun i => a (78 + (1 + i))) H.size N  z.2.2.2.1.1 u20 q21) (cwV 0 hts gX7_total_X1_chipSum rfl rfl rfl (by decide +kernel) ⟨Nat.le_of_ble_eq_true rfl, Nat.le_of_ble_eq_true rfl⟩) hK hP hD hS hA 79 1 rfl rfl (pm_skip (pm_skip (pm_skip (pm_skip (pm_in (pm_skip (pm_in (pm_last)))))))) (by rw [e23]; exact pm_skip (pm_skip (pm_skip (pm_skip (pm_in (pm_skip (pm_in (pm_last)))))))) rfl hl.1 (Nat.le_of_ble_eq_true rfl) ⟨Nat.zero_le _, Nat.zero_le _⟩ dX7_total_190 (fun H locs hP hD hS => ?_)
            cases h
            exact iv_iret hx hb hr hlocks hK hP hD hS dX7_total_193
          have h := it_f c19 h
          by_cases c24 : x1 = 22
          · have h := it_t c24 h
            refine iv_tabIn (tgt := 194) (off := 136) hx hb dX7_total_58 g1 c24 (by decide) (by decide) rfl (by decide) ?_
            refine lv_aload_n hx hb dX7_total_194 rfl (lv_at hl 0 rfl) ?_
            refine va_get (D := E.1) (ci := 7) (v := .ref (a 12)) (C := RX7) (T := TX7) (N := 8) hx hb hts in_X7_total_X7 hown hK.1 hP 0 rfl rfl 3 (by decide) (hts _ wd_X7_total_f35) (fun _ h9 => h9) rfl dX7_total_195 ?_
            refine va_get (D := E.1) (ci := 2) (v := .int (zi z.2.2.1.1)) (C := RX2) (T := TX2) (N := 2) hx hb hts in_X7_total_X2 hown hK.1 hP 12 rfl rfl 1 (by decide) (hts _ wd_X7_total_f158) (fun _ h9 => h9) rfl dX7_total_198 ?_
            cases h
            exact iv_iret hx hb hr hlocks hK hP hD hS dX7_total_201
          have h := it_f c24 h
          refine iv_tabOut (tgt := 202) hx hb dX7_total_58 g1 (by omega) (by decide) ?_
          refine lv_aload_n hx hb dX7_total_202 rfl (lv_at hl 0 rfl) ?_
          refine va_get (D := E.1) (ci := 7) (v := .ref (a 7)) (C := RX7) (T := TX7) (N := 8) hx hb hts in_X7_total_X7 hown hK.1 hP 0 rfl rfl 0 (by decide) (hts _ wd_X7_total_f10) (fun _ h9 => h9) rfl dX7_total_203 ?_
          refine va_get (D := E.1) (ci := 6) (v := .int (zi z.1.2.2)) (C := RX6) (T := TX6) (N := 2) hx hb hts in_X7_total_X6 hown hK.1 hP 7 rfl rfl 1 (by decide) (hts _ wd_X7_total_f151) (fun _ h9 => h9) rfl dX7_total_206 ?_
          cases h
          exact iv_iret hx hb hr hlocks hK hP hD hS dX7_total_209
        · have h := it_f c5 h
          refine lv_iload_n hx hb dX7_total_35 rfl (lv_at hl 1 rfl) ?_
          refine iv_bipush hx hb dX7_total_36 (by decide +kernel) ?_
          refine iv_ige (tgt := 57) hx hb g1 (by decide +kernel) dX7_total_38 (by decide) (fun c25 => ?_) (fun c25 => ?_)
          · have h := it_t c25 h
            refine lv_iload_n hx hb dX7_total_57 rfl (lv_at hl 1 rfl) ?_
            by_cases c26 : x1 = 8
            · have h := it_t c26 h
              refine iv_tabIn (tgt := 132) (off := 74) hx hb dX7_total_58 g1 c26 (by decide) (by decide) rfl (by decide) ?_
              refine lv_aload_n hx hb dX7_total_132 rfl (lv_at hl 0 rfl) ?_
              refine va_get (D := E.1) (ci := 7) (v := .ref (a 78)) (C := RX7) (T := TX7) (N := 8) hx hb hts in_X7_total_X7 hown hK.1 hP 0 rfl rfl 4 (by decide) (hts _ wd_X7_total_f42) (fun _ h9 => h9) rfl dX7_total_133 ?_
              refine va_get (D := E.1) (ci := 5) (v := .ref (a 79)) (C := RX5) (T := TX5) (N := 8) hx hb hts in_X7_total_X5 hown hK.1 hP 78 rfl rfl 0 (by decide) (hts _ wd_X7_total_f60) (fun _ h9 => h9) rfl dX7_total_136 ?_
              refine va_get (D := E.1) (ci := 1) (v := .int (zi z.2.2.2.1.1.2.2.2.2.2.2)) (C := RX1) (T := TX1) (N := 7) hx hb hts in_X7_total_X1 hown hK.1 hP 79 rfl rfl 6 (by decide) (hts _ wd_X7_total_f64) (fun _ h9 => h9) rfl dX7_total_139 ?_
              cases h
              exact iv_iret hx hb hr hlocks hK hP hD hS dX7_total_142
            have h := it_f c26 h
            by_cases c27 : x1 = 9
            · have h := it_t c27 h
              refine iv_tabIn (tgt := 202) (off := 144) hx hb dX7_total_58 g1 c27 (by decide) (by decide) rfl (by decide) ?_
              refine lv_aload_n hx hb dX7_total_202 rfl (lv_at hl 0 rfl) ?_
              refine va_get (D := E.1) (ci := 7) (v := .ref (a 7)) (C := RX7) (T := TX7) (N := 8) hx hb hts in_X7_total_X7 hown hK.1 hP 0 rfl rfl 0 (by decide) (hts _ wd_X7_total_f10) (fun _ h9 => h9) rfl dX7_total_203 ?_
              refine va_get (D := E.1) (ci := 6) (v := .int (zi z.1.2.2)) (C := RX6) (T := TX6) (N := 2) hx hb hts in_X7_total_X6 hown hK.1 hP 7 rfl rfl 1 (by decide) (hts _ wd_X7_total_f151) (fun _ h9 => h9) rfl dX7_total_206 ?_
              cases h
              exact iv_iret hx hb hr hlocks hK hP hD hS dX7_total_209
            have h := it_f c27 h
            by_cases c28 : x1 = 10
            · have h := it_t c28 h
              refine iv_tabIn (tgt := 202) (off := 144) hx hb dX7_total_58 g1 c28 (by decide) (by decide) rfl (by decide) ?_
              refine lv_aload_n hx hb dX7_total_202 rfl (lv_at hl 0 rfl) ?_
              refine va_get (D := E.1) (ci := 7) (v := .ref (a 7)) (C := RX7) (T := TX7) (N := 8) hx hb hts in_X7_total_X7 hown hK.1 hP 0 rfl rfl 0 (by decide) (hts _ wd_X7_total_f10) (fun _ h9 => h9) rfl dX7_total_203 ?_
              refine va_get (D := E.1) (ci := 6) (v := .int (zi z.1.2.2)) (C := RX6) (T := TX6) (N := 2) hx hb hts in_X7_total_X6 hown hK.1 hP 7 rfl rfl 1 (by decide) (hts _ wd_X7_total_f151) (fun _ h9 => h9) rfl dX7_total_206 ?_
              cases h
              exact iv_iret hx hb hr hlocks hK hP hD hS dX7_total_209
            have h := it_f c28 h
            by_cases c29 : x1 = 11
            · have h := it_t c29 h
              refine iv_tabIn (tgt := 202) (off := 144) hx hb dX7_total_58 g1 c29 (by decide) (by decide) rfl (by decide) ?_
              refine lv_aload_n hx hb dX7_total_202 rfl (lv_at hl 0 rfl) ?_
              refine va_get (D := E.1) (ci := 7) (v := .ref (a 7)) (C := RX7) (T := TX7) (N := 8) hx hb hts in_X7_total_X7 hown hK.1 hP 0 rfl rfl 0 (by decide) (hts _ wd_X7_total_f10) (fun _ h9 => h9) rfl dX7_total_203 ?_
              refine va_get (D := E.1) (ci := 6) (v := .int (zi z.1.2.2)) (C := RX6) (T := TX6) (N := 2) hx hb hts in_X7_total_X6 hown hK.1 hP 7 rfl rfl 1 (by decide) (hts _ wd_X7_total_f151) (fun _ h9 => h9) rfl dX7_total_206 ?_
              cases h
              exact iv_iret hx hb hr hlocks hK hP hD hS dX7_total_209
            have h := it_f c29 h
            by_cases c30 : x1 = 12
            · have h := it_t c30 h
              refine iv_tabIn (tgt := 202) (off := 144) hx hb dX7_total_58 g1 c30 (by decide) (by decide) rfl (by decide) ?_
              refine lv_aload_n hx hb dX7_total_202 rfl (lv_at hl 0 rfl) ?_
              refine va_get (D := E.1) (ci := 7) (v := .ref (a 7)) (C := RX7) (T := TX7) (N := 8) hx hb hts in_X7_total_X7 hown hK.1 hP 0 rfl rfl 0 (by decide) (hts _ wd_X7_total_f10) (fun _ h9 => h9) rfl dX7_total_203 ?_
              refine va_get (D := E.1) (ci := 6) (v := .int (zi z.1.2.2)) (C := RX6) (T := TX6) (N := 2) hx hb hts in_X7_total_X6 hown hK.1 hP 7 rfl rfl 1 (by decide) (hts _ wd_X7_total_f151) (fun _ h9 => h9) rfl dX7_total_206 ?_
              cases h
              exact iv_iret hx hb hr hlocks hK hP hD hS dX7_total_209
            have h := it_f c30 h
            by_cases c31 : x1 = 13
            · have h := it_t c31 h
              refine iv_tabIn (tgt := 202) (off := 144) hx hb dX7_total_58 g1 c31 (by decide) (by decide) rfl (by decide) ?_
              refine lv_aload_n hx hb dX7_total_202 rfl (lv_at hl 0 rfl) ?_
              refine va_get (D := E.1) (ci := 7) (v := .ref (a 7)) (C := RX7) (T := TX7) (N := 8) hx hb hts in_X7_total_X7 hown hK.1 hP 0 rfl rfl 0 (by decide) (hts _ wd_X7_total_f10) (fun _ h9 => h9) rfl dX7_total_203 ?_
              refine va_get (D := E.1) (ci := 6) (v := .int (zi z.1.2.2)) (C := RX6) (T := TX6) (N := 2) hx hb hts in_X7_total_X6 hown hK.1 hP 7 rfl rfl 1 (by decide) (hts _ wd_X7_total_f151) (fun _ h9 => h9) rfl dX7_total_206 ?_
              cases h
              exact iv_iret hx hb hr hlocks hK hP hD hS dX7_total_209
            have h := it_f c31 h
            by_cases c32 : x1 = 14
            · have h := it_t c32 h
              refine iv_tabIn (tgt := 202) (off := 144) hx hb dX7_total_58 g1 c32 (by decide) (by decide) rfl (by decide) ?_
              refine lv_aload_n hx hb dX7_total_202 rfl (lv_at hl 0 rfl) ?_
              refine va_get (D := E.1) (ci := 7) (v := .ref (a 7)) (C := RX7) (T := TX7) (N := 8) hx hb hts in_X7_total_X7 hown hK.1 hP 0 rfl rfl 0 (by decide) (hts _ wd_X7_total_f10) (fun _ h9 => h9) rfl dX7_total_203 ?_
              refine va_get (D := E.1) (ci := 6) (v := .int (zi z.1.2.2)) (C := RX6) (T := TX6) (N := 2) hx hb hts in_X7_total_X6 hown hK.1 hP 7 rfl rfl 1 (by decide) (hts _ wd_X7_total_f151) (fun _ h9 => h9) rfl dX7_total_206 ?_
              cases h
              exact iv_iret hx hb hr hlocks hK hP hD hS dX7_total_209
            have h := it_f c32 h
            by_cases c33 : x1 = 15
            · have h := it_t c33 h
              refine iv_tabIn (tgt := 202) (off := 144) hx hb dX7_total_58 g1 c33 (by decide) (by decide) rfl (by decide) ?_
              refine lv_aload_n hx hb dX7_total_202 rfl (lv_at hl 0 rfl) ?_
              refine va_get (D := E.1) (ci := 7) (v := .ref (a 7)) (C := RX7) (T := TX7) (N := 8) hx hb hts in_X7_total_X7 hown hK.1 hP 0 rfl rfl 0 (by decide) (hts _ wd_X7_total_f10) (fun _ h9 => h9) rfl dX7_total_203 ?_
              refine va_get (D := E.1) (ci := 6) (v := .int (zi z.1.2.2)) (C := RX6) (T := TX6) (N := 2) hx hb hts in_X7_total_X6 hown hK.1 hP 7 rfl rfl 1 (by decide) (hts _ wd_X7_total_f151) (fun _ h9 => h9) rfl dX7_total_206 ?_
              cases h
              exact iv_iret hx hb hr hlocks hK hP hD hS dX7_total_209
            have h := it_f c33 h
            by_cases c34 : x1 = 16
            · have h := it_t c34 h
              refine iv_tabIn (tgt := 143) (off := 85) hx hb dX7_total_58 g1 c34 (by decide) (by decide) rfl (by decide) ?_
              refine lv_aload_n hx hb dX7_total_143 rfl (lv_at hl 0 rfl) ?_
              refine va_get (D := E.1) (ci := 7) (v := .ref (a 78)) (C := RX7) (T := TX7) (N := 8) hx hb hts in_X7_total_X7 hown hK.1 hP 0 rfl rfl 4 (by decide) (hts _ wd_X7_total_f42) (fun _ h9 => h9) rfl dX7_total_144 ?_
              refine va_get (D := E.1) (ci := 5) (v := .int (zi z.2.2.2.1.2.2.2.1)) (C := RX5) (T := TX5) (N := 8) hx hb hts in_X7_total_X5 hown hK.1 hP 78 rfl rfl 3 (by decide) (hts _ wd_X7_total_f204) (fun _ h9 => h9) rfl dX7_total_147 ?_
              cases h
              exact iv_iret hx hb hr hlocks hK hP hD hS dX7_total_150
            have h := it_f c34 h
            by_cases c35 : x1 = 17
            · have h := it_t c35 h
              refine iv_tabIn (tgt := 151) (off := 93) hx hb dX7_total_58 g1 c35 (by decide) (by decide) rfl (by decide) ?_
              refine lv_aload_n hx hb dX7_total_151 rfl (lv_at hl 0 rfl) ?_
              refine va_get (D := E.1) (ci := 7) (v := .ref (a 78)) (C := RX7) (T := TX7) (N := 8) hx hb hts in_X7_total_X7 hown hK.1 hP 0 rfl rfl 4 (by decide) (hts _ wd_X7_total_f42) (fun _ h9 => h9) rfl dX7_total_152 ?_
              refine va_get (D := E.1) (ci := 5) (v := .int (zi z.2.2.2.1.2.2.2.2.1)) (C := RX5) (T := TX5) (N := 8) hx hb hts in_X7_total_X5 hown hK.1 hP 78 rfl rfl 4 (by decide) (hts _ wd_X7_total_f207) (fun _ h9 => h9) rfl dX7_total_155 ?_
              cases h
              exact iv_iret hx hb hr hlocks hK hP hD hS dX7_total_158
            have h := it_f c35 h
            by_cases c36 : x1 = 18
            · have h := it_t c36 h
              refine iv_tabIn (tgt := 159) (off := 101) hx hb dX7_total_58 g1 c36 (by decide) (by decide) rfl (by decide) ?_
              refine lv_aload_n hx hb dX7_total_159 rfl (lv_at hl 0 rfl) ?_
              refine va_get (D := E.1) (ci := 7) (v := .ref (a 78)) (C := RX7) (T := TX7) (N := 8) hx hb hts in_X7_total_X7 hown hK.1 hP 0 rfl rfl 4 (by decide) (hts _ wd_X7_total_f42) (fun _ h9 => h9) rfl dX7_total_160 ?_
              refine va_get (D := E.1) (ci := 5) (v := .int (zi z.2.2.2.1.2.2.2.2.2.1)) (C := RX5) (T := TX5) (N := 8) hx hb hts in_X7_total_X5 hown hK.1 hP 78 rfl rfl 5 (by decide) (hts _ wd_X7_total_f210) (fun _ h9 => h9) rfl dX7_total_163 ?_
              cases h
              exact iv_iret hx hb hr hlocks hK hP hD hS dX7_total_166
            have h := it_f c36 h
            by_cases c37 : x1 = 19
            · have h := it_t c37 h
              refine iv_tabIn (tgt := 167) (off := 109) hx hb dX7_total_58 g1 c37 (by decide) (by decide) rfl (by decide) ?_
              refine lv_aload_n hx hb dX7_total_167 rfl (lv_at hl 0 rfl) ?_
              refine va_get (D := E.1) (ci := 7) (v := .ref (a 78)) (C := RX7) (T := TX7) (N := 8) hx hb hts in_X7_total_X7 hown hK.1 hP 0 rfl rfl 4 (by decide) (hts _ wd_X7_total_f42) (fun _ h9 => h9) rfl dX7_total_168 ?_
              refine va_get (D := E.1) (ci := 5) (v := .int (zi z.2.2.2.1.2.2.2.2.2.2.1)) (C := RX5) (T := TX5) (N := 8) hx hb hts in_X7_total_X5 hown hK.1 hP 78 rfl rfl 6 (by decide) (hts _ wd_X7_total_f213) (fun _ h9 => h9) rfl dX7_total_171 ?_
              cases h
              exact iv_iret hx hb hr hlocks hK hP hD hS dX7_total_174
            have h := it_f c37 h
            by_cases c38 : x1 = 20
            · have h := it_t c38 h
              refine iv_tabIn (tgt := 175) (off := 117) hx hb dX7_total_58 g1 c38 (by decide) (by decide) rfl (by decide) ?_
              refine lv_aload_n hx hb dX7_total_175 rfl (lv_at hl 0 rfl) ?_
              refine va_get (D := E.1) (ci := 7) (v := .ref (a 78)) (C := RX7) (T := TX7) (N := 8) hx hb hts in_X7_total_X7 hown hK.1 hP 0 rfl rfl 4 (by decide) (hts _ wd_X7_total_f42) (fun _ h9 => h9) rfl dX7_total_176 ?_
              refine va_get (D := E.1) (ci := 5) (v := .int (zi z.2.2.2.1.2.2.2.2.2.2.2)) (C := RX5) (T := TX5) (N := 8) hx hb hts in_X7_total_X5 hown hK.1 hP 78 rfl rfl 7 (by decide) (hts _ wd_X7_total_f216) (fun _ h9 => h9) rfl dX7_total_179 ?_
              cases h
              exact iv_iret hx hb hr hlocks hK hP hD hS dX7_total_182
            have h := it_f c38 h
            by_cases c39 : x1 = 21
            · have h := it_t c39 h
              refine iv_tabIn (tgt := 183) (off := 125) hx hb dX7_total_58 g1 c39 (by decide) (by decide) rfl (by decide) ?_
              refine lv_aload_n hx hb dX7_total_183 rfl (lv_at hl 0 rfl) ?_
              refine va_get (D := E.1) (ci := 7) (v := .ref (a 78)) (C := RX7) (T := TX7) (N := 8) hx hb hts in_X7_total_X7 hown hK.1 hP 0 rfl rfl 4 (by decide) (hts _ wd_X7_total_f42) (fun _ h9 => h9) rfl dX7_total_184 ?_
              refine va_get (D := E.1) (ci := 5) (v := .ref (a 79)) (C := RX5) (T := TX5) (N := 8) hx hb hts in_X7_total_X5 hown hK.1 hP 78 rfl rfl 0 (by decide) (hts _ wd_X7_total_f60) (fun _ h9 => h9) rfl dX7_total_187 ?_
              obtain ⟨u40, q41, h⟩ := bd_t h
              obtain ⟨s42, e43, h⟩ := nm_t h
              refine iv_callIp (As := []) (rest := []) (ws1 := wX a hs E s42) ⟨hx, hb, hml, hown, hts⟩ (k_X1_chipSum l E (fun i => a (78 + (1 + i))) H.size N  z.2.2.2.1.1 u40 q41) (cwV 0 hts gX7_total_X1_chipSum rfl rfl rfl (by decide +kernel) ⟨Nat.le_of_ble_eq_true rfl, Nat.le_of_ble_eq_true rfl⟩) hK hP hD hS hA 79 1 rfl rfl (pm_skip (pm_skip (pm_skip (pm_skip (pm_in (pm_skip (pm_in (pm_last)))))))) (by rw [e43]; exact pm_skip (pm_skip (pm_skip (pm_skip (pm_in (pm_skip (pm_in (pm_last)))))))) rfl hl.1 (Nat.le_of_ble_eq_true rfl) ⟨Nat.zero_le _, Nat.zero_le _⟩ dX7_total_190 (fun H locs hP hD hS => ?_)
              cases h
              exact iv_iret hx hb hr hlocks hK hP hD hS dX7_total_193
            have h := it_f c39 h
            by_cases c44 : x1 = 22
            · have h := it_t c44 h
              refine iv_tabIn (tgt := 194) (off := 136) hx hb dX7_total_58 g1 c44 (by decide) (by decide) rfl (by decide) ?_
              refine lv_aload_n hx hb dX7_total_194 rfl (lv_at hl 0 rfl) ?_
              refine va_get (D := E.1) (ci := 7) (v := .ref (a 12)) (C := RX7) (T := TX7) (N := 8) hx hb hts in_X7_total_X7 hown hK.1 hP 0 rfl rfl 3 (by decide) (hts _ wd_X7_total_f35) (fun _ h9 => h9) rfl dX7_total_195 ?_
              refine va_get (D := E.1) (ci := 2) (v := .int (zi z.2.2.1.1)) (C := RX2) (T := TX2) (N := 2) hx hb hts in_X7_total_X2 hown hK.1 hP 12 rfl rfl 1 (by decide) (hts _ wd_X7_total_f158) (fun _ h9 => h9) rfl dX7_total_198 ?_
              cases h
              exact iv_iret hx hb hr hlocks hK hP hD hS dX7_total_201
            have h := it_f c44 h
            refine iv_tabOut (tgt := 202) hx hb dX7_total_58 g1 (by omega) (by decide) ?_
            refine lv_aload_n hx hb dX7_total_202 rfl (lv_at hl 0 rfl) ?_
            refine va_get (D := E.1) (ci := 7) (v := .ref (a 7)) (C := RX7) (T := TX7) (N := 8) hx hb hts in_X7_total_X7 hown hK.1 hP 0 rfl rfl 0 (by decide) (hts _ wd_X7_total_f10) (fun _ h9 => h9) rfl dX7_total_203 ?_
            refine va_get (D := E.1) (ci := 6) (v := .int (zi z.1.2.2)) (C := RX6) (T := TX6) (N := 2) hx hb hts in_X7_total_X6 hown hK.1 hP 7 rfl rfl 1 (by decide) (hts _ wd_X7_total_f151) (fun _ h9 => h9) rfl dX7_total_206 ?_
            cases h
            exact iv_iret hx hb hr hlocks hK hP hD hS dX7_total_209
          · have h := it_f c25 h
            refine lv_aload_n hx hb dX7_total_41 rfl (lv_at hl 0 rfl) ?_
            refine va_get (D := E.1) (ci := 7) (v := .ref (a 78)) (C := RX7) (T := TX7) (N := 8) hx hb hts in_X7_total_X7 hown hK.1 hP 0 rfl rfl 4 (by decide) (hts _ wd_X7_total_f42) (fun _ h9 => h9) rfl dX7_total_42 ?_
            refine va_get (D := E.1) (ci := 5) (v := .ref (a 86)) (C := RX5) (T := TX5) (N := 8) hx hb hts in_X7_total_X5 hown hK.1 hP 78 rfl rfl 1 (by decide) (hts _ wd_X7_total_f79) (fun _ h9 => h9) rfl dX7_total_45 ?_
            refine va_get (D := E.1) (ci := 4) (v := .ref (a 91)) (C := RX4) (T := TX4) (N := 6) hx hb hts in_X7_total_X4 hown hK.1 hP 86 rfl rfl 4 (by decide) (hts _ wd_X7_total_f83) (fun _ h9 => h9) rfl dX7_total_48 ?_
            refine lv_iload_n hx hb dX7_total_51 rfl (lv_at hl 1 rfl) ?_
            refine iv_bipush hx hb dX7_total_52 (by decide +kernel) ?_
            refine iv_isub hx hb dX7_total_54 ?_
            obtain ⟨g45, h⟩ := gd_t h
            refine iv_iald (f := z.2.2.2.1.2.1.2.2.2.2.1) (j := (x1 - 9).toNat) hx hb hK.1 hP 91 0 rfl rfl (by decide) g45 rfl dX7_total_55 ?_
            cases h
            exact iv_iret hx hb hr hlocks hK hP hD hS dX7_total_56
      · have h := it_f c4 h
        refine lv_aload_n hx hb dX7_total_19 rfl (lv_at hl 0 rfl) ?_
        refine va_get (D := E.1) (ci := 7) (v := .ref (a 78)) (C := RX7) (T := TX7) (N := 8) hx hb hts in_X7_total_X7 hown hK.1 hP 0 rfl rfl 4 (by decide) (hts _ wd_X7_total_f42) (fun _ h9 => h9) rfl dX7_total_20 ?_
        refine va_get (D := E.1) (ci := 5) (v := .ref (a 93)) (C := RX5) (T := TX5) (N := 8) hx hb hts in_X7_total_X5 hown hK.1 hP 78 rfl rfl 2 (by decide) (hts _ wd_X7_total_f113) (fun _ h9 => h9) rfl dX7_total_23 ?_
        refine lv_iload_n hx hb dX7_total_26 rfl (lv_at hl 1 rfl) ?_
        obtain ⟨g46, h⟩ := gd_t h
        refine iv_iald (f := z.2.2.2.1.2.2.1) (j := x1.toNat) hx hb hK.1 hP 93 0 rfl rfl (by decide) g46 rfl dX7_total_27 ?_
        cases h
        exact iv_iret hx hb hr hlocks hK hP hD hS dX7_total_28
    · have h := it_f c3 h
      refine iv_bipush hx hb dX7_total_10 (by decide +kernel) ?_
      cases h
      exact iv_iret hx hb hr hlocks hK hP hD hS dX7_total_12
set_option maxRecDepth 20000 in
theorem wd_X7_goesTo_f42 : Cond.fieldLink RX7 42 "ShirtButtons" "now" "LShirtButtons$State;" ∈ wsX7_goesTo := by decide +kernel
set_option maxRecDepth 20000 in
theorem in_X7_goesTo_X7 : ∀ w ∈ u_ws RX7 TX7 8, w ∈ wsX7_goesTo := by decide +kernel
set_option maxRecDepth 20000 in
theorem wd_X7_goesTo_f60 : Cond.fieldLink RX7 60 "ShirtButtons$State" "buttons" "LShirtButtons$Buttons;" ∈ wsX7_goesTo := by decide +kernel
set_option maxRecDepth 20000 in
theorem in_X7_goesTo_X5 : ∀ w ∈ u_ws RX5 TX5 8, w ∈ wsX7_goesTo := by decide +kernel
set_option maxRecDepth 20000 in
theorem wd_X7_goesTo_f79 : Cond.fieldLink RX7 79 "ShirtButtons$State" "places" "LShirtButtons$Places;" ∈ wsX7_goesTo := by decide +kernel
set_option maxRecDepth 20000 in
theorem wd_X7_goesTo_f131 : Cond.fieldLink RX7 131 "ShirtButtons$Places" "place" "[I" ∈ wsX7_goesTo := by decide +kernel
set_option maxRecDepth 20000 in
theorem in_X7_goesTo_X4 : ∀ w ∈ u_ws RX4 TX4 6, w ∈ wsX7_goesTo := by decide +kernel
set_option maxHeartbeats 4000000 in
set_option maxRecDepth 100000 in
theorem k_X7_goesTo (l : Launch) (E : wE) (a hs : Nat → Nat) (sz : Nat) (N : Nat) (x1 : Int) (z : bX) (u : (Int × bX)) (hf : f_X7_goesTo N x1 z = some u) : cI l yX7_goesTo wsX7_goesTo { frames := 3, cells := 0, slots := 0, locals := 64 } E sz [.ref (a 0), .int (zi x1)] (wX a hs E z) (wX a hs E u.2) u.1 := by
  refine met_go (cc := cX7_goesTo) (maxL := 2) (ret := (some .int)) (Q0 := mQi E (wX a hs E u.2) u.1) (by decide +kernel) rfl (Nat.le_of_ble_eq_true rfl) ?_
  intro A p e s m below meth c hx hb hr hml hts hown hlocks hP hK hD hA hS ls hl
  have hl : lv_has ls 2 [(0, .ref (a 0)), (1, .int (zi x1))] := hl
  generalize hH : s.heap = H at hP
  have hS : va_S A s.heap H [] := by rw [← hH]; exact hS
  have hown : s.vm.findClass RX7 = some m.cls := hown
  have h := hf
  rw [f_X7_goesTo] at h
  refine lv_aload_n hx hb dX7_goesTo_0 rfl (lv_at hl 0 rfl) ?_
  refine va_get (D := E.1) (ci := 7) (v := .ref (a 78)) (C := RX7) (T := TX7) (N := 8) hx hb hts in_X7_goesTo_X7 hown hK.1 hP 0 rfl rfl 4 (by decide) (hts _ wd_X7_goesTo_f42) (fun _ h9 => h9) rfl dX7_goesTo_1 ?_
  refine va_get (D := E.1) (ci := 5) (v := .ref (a 79)) (C := RX5) (T := TX5) (N := 8) hx hb hts in_X7_goesTo_X5 hown hK.1 hP 78 rfl rfl 0 (by decide) (hts _ wd_X7_goesTo_f60) (fun _ h9 => h9) rfl dX7_goesTo_4 ?_
  refine lv_iload_n hx hb dX7_goesTo_7 rfl (lv_at hl 1 rfl) ?_
  obtain ⟨u1, q2, h⟩ := bd_t h
  obtain ⟨s3, e4, h⟩ := nm_t h
  refine iv_callIp (As := [.int (zi x1)]) (rest := []) (ws1 := wX a hs E s3) ⟨hx, hb, hml, hown, hts⟩ (k_X1_has l E (fun i => a (78 + (1 + i))) H.size x1 z.2.2.2.1.1 u1 q2) (cwV 1 hts gX7_goesTo_X1_has rfl rfl rfl (by decide +kernel) ⟨Nat.le_of_ble_eq_true rfl, Nat.le_of_ble_eq_true rfl⟩) hK hP hD hS hA 79 1 rfl rfl (pm_skip (pm_skip (pm_skip (pm_skip (pm_in (pm_skip (pm_in (pm_last)))))))) (by rw [e4]; exact pm_skip (pm_skip (pm_skip (pm_skip (pm_in (pm_skip (pm_in (pm_last)))))))) rfl hl.1 (Nat.le_of_ble_eq_true rfl) ⟨Nat.zero_le _, Nat.zero_le _⟩ dX7_goesTo_8 (fun H locs hP hD hS => ?_)
  obtain ⟨g5, h⟩ := gd_t h
  refine iv_ne (tgt := 16) hx hb g5 dX7_goesTo_11 (by decide) (fun c6 => ?_) (fun c6 => ?_)
  · have h := it_f c6 h
    refine lv_aload_n hx hb dX7_goesTo_16 rfl (lv_at hl 0 rfl) ?_
    refine va_get (D := E.1) (ci := 7) (v := .ref (a 78)) (C := RX7) (T := TX7) (N := 8) hx hb hts in_X7_goesTo_X7 hown hK.1 hP 0 rfl rfl 4 (by decide) (hts _ wd_X7_goesTo_f42) (fun _ h9 => h9) rfl dX7_goesTo_17 ?_
    refine va_get (D := E.1) (ci := 5) (v := .ref (a 86)) (C := RX5) (T := TX5) (N := 8) hx hb hts in_X7_goesTo_X5 hown hK.1 hP 78 rfl rfl 1 (by decide) (hts _ wd_X7_goesTo_f79) (fun _ h9 => h9) rfl dX7_goesTo_20 ?_
    refine va_get (D := E.1) (ci := 4) (v := .ref (a 87)) (C := RX4) (T := TX4) (N := 6) hx hb hts in_X7_goesTo_X4 hown hK.1 hP 86 rfl rfl 0 (by decide) (hts _ wd_X7_goesTo_f131) (fun _ h9 => h9) rfl dX7_goesTo_23 ?_
    refine lv_iload_n hx hb dX7_goesTo_26 rfl (lv_at hl 1 rfl) ?_
    obtain ⟨g7, h⟩ := gd_t h
    refine iv_iald (f := s3.2.2.2.1.2.1.1) (j := x1.toNat) hx hb hK.1 hP 87 0 rfl rfl (by decide) g7 rfl dX7_goesTo_27 ?_
    obtain ⟨g8, h⟩ := gd_t h
    refine iv_eq (tgt := 34) hx hb g8 dX7_goesTo_28 (by decide) (fun c9 => ?_) (fun c9 => ?_)
    · have h := it_t c9 h
      refine lv_aload_n hx hb dX7_goesTo_34 rfl (lv_at hl 0 rfl) ?_
      refine va_get (D := E.1) (ci := 7) (v := .ref (a 78)) (C := RX7) (T := TX7) (N := 8) hx hb hts in_X7_goesTo_X7 hown hK.1 hP 0 rfl rfl 4 (by decide) (hts _ wd_X7_goesTo_f42) (fun _ h9 => h9) rfl dX7_goesTo_35 ?_
      refine lv_iload_n hx hb dX7_goesTo_38 rfl (lv_at hl 1 rfl) ?_
      obtain ⟨u10, q11, h⟩ := bd_t h
      obtain ⟨s12, e13, h⟩ := nm_t h
      refine iv_callIp (As := [.int (zi x1)]) (rest := []) (ws1 := wX a hs E s12) ⟨hx, hb, hml, hown, hts⟩ (k_X5_placeFor l E (fun i => a (78 + i)) H.size N x1 s3.2.2.2.1 u10 q11) (cwV 1 hts gX7_goesTo_X5_placeFor rfl rfl rfl (by decide +kernel) ⟨Nat.le_of_ble_eq_true rfl, Nat.le_of_ble_eq_true rfl⟩) hK hP hD hS hA 78 5 rfl rfl (pm_skip (pm_skip (pm_skip (pm_skip (pm_last))))) (by rw [e13]; exact pm_skip (pm_skip (pm_skip (pm_skip (pm_last))))) rfl hl.1 (Nat.le_of_ble_eq_true rfl) ⟨Nat.zero_le _, Nat.zero_le _⟩ dX7_goesTo_39 (fun H locs hP hD hS => ?_)
      cases h
      exact iv_iret hx hb hr hlocks hK hP hD hS dX7_goesTo_42
    · have h := it_f c9 h
      refine iv_bipush hx hb dX7_goesTo_31 (by decide +kernel) ?_
      cases h
      exact iv_iret hx hb hr hlocks hK hP hD hS dX7_goesTo_33
  · have h := it_t c6 h
    refine iv_iconst hx hb dX7_goesTo_14 ?_
    cases h
    exact iv_iret hx hb hr hlocks hK hP hD hS dX7_goesTo_15
set_option maxRecDepth 20000 in
theorem wd_X7_reason_f28 : Cond.fieldLink RX7 28 "ShirtButtons" "order" "LShirtButtons$Order;" ∈ wsX7_reason := by decide +kernel
set_option maxRecDepth 20000 in
theorem in_X7_reason_X7 : ∀ w ∈ u_ws RX7 TX7 8, w ∈ wsX7_reason := by decide +kernel
set_option maxRecDepth 20000 in
theorem wd_X7_reason_f42 : Cond.fieldLink RX7 42 "ShirtButtons" "now" "LShirtButtons$State;" ∈ wsX7_reason := by decide +kernel
set_option maxHeartbeats 4000000 in
set_option maxRecDepth 100000 in
theorem k_X7_reason (l : Launch) (E : wE) (a hs : Nat → Nat) (sz : Nat) (N : Nat) (x1 x2 : Int) (z : bX) (u : (Int × bX)) (hf : f_X7_reason N x1 x2 z = some u) : cI l yX7_reason wsX7_reason { frames := 3, cells := 0, slots := 0, locals := 66 } E sz [.ref (a 0), .int (zi x1), .int (zi x2)] (wX a hs E z) (wX a hs E u.2) u.1 := by
  refine met_go (cc := cX7_reason) (maxL := 3) (ret := (some .int)) (Q0 := mQi E (wX a hs E u.2) u.1) (by decide +kernel) rfl (Nat.le_of_ble_eq_true rfl) ?_
  intro A p e s m below meth c hx hb hr hml hts hown hlocks hP hK hD hA hS ls hl
  have hl : lv_has ls 3 [(0, .ref (a 0)), (1, .int (zi x1)), (2, .int (zi x2))] := hl
  generalize hH : s.heap = H at hP
  have hS : va_S A s.heap H [] := by rw [← hH]; exact hS
  have hown : s.vm.findClass RX7 = some m.cls := hown
  have h := hf
  rw [f_X7_reason] at h
  refine lv_iload_n hx hb dX7_reason_0 rfl (lv_at hl 1 rfl) ?_
  obtain ⟨u1, q2, h⟩ := bd_t h
  refine iv_callS (As := [.int (zi x1)]) (rest := []) ⟨hx, hb, hml, hown, hts⟩ (k_X7_isBin l E H.size x1 u1 q2) (va_cwS 1 hts gX7_reason_X7_isBin rfl rfl rfl (by decide +kernel) ⟨Nat.le_of_ble_eq_true rfl, Nat.le_of_ble_eq_true rfl⟩) hK hP hS hA rfl hl.1 (Nat.le_of_ble_eq_true rfl) ⟨Nat.zero_le _, Nat.zero_le _⟩ dX7_reason_1 (fun H locs hP hS => ?_)
  obtain ⟨g3, h⟩ := gd_t h
  refine iv_ne (tgt := 9) hx hb g3 dX7_reason_4 (by decide) (fun c4 => ?_) (fun c4 => ?_)
  · have h := it_f c4 h
    refine lv_iload_n hx hb dX7_reason_9 rfl (lv_at hl 2 rfl) ?_
    obtain ⟨u5, q6, h⟩ := bd_t h
    refine iv_callS (As := [.int (zi x2)]) (rest := []) ⟨hx, hb, hml, hown, hts⟩ (k_X7_isWanted l E H.size x2 u5 q6) (va_cwS 1 hts gX7_reason_X7_isWanted rfl rfl rfl (by decide +kernel) ⟨Nat.le_of_ble_eq_true rfl, Nat.le_of_ble_eq_true rfl⟩) hK hP hS hA rfl hl.1 (Nat.le_of_ble_eq_true rfl) ⟨Nat.zero_le _, Nat.zero_le _⟩ dX7_reason_10 (fun H locs hP hS => ?_)
    obtain ⟨g7, h⟩ := gd_t h
    refine iv_ne (tgt := 19) hx hb g7 dX7_reason_13 (by decide) (fun c8 => ?_) (fun c8 => ?_)
    · have h := it_f c8 h
      refine lv_aload_n hx hb dX7_reason_19 rfl (lv_at hl 0 rfl) ?_
      refine va_get (D := E.1) (ci := 7) (v := .ref (a 9)) (C := RX7) (T := TX7) (N := 8) hx hb hts in_X7_reason_X7 hown hK.1 hP 0 rfl rfl 2 (by decide) (hts _ wd_X7_reason_f28) (fun _ h9 => h9) rfl dX7_reason_20 ?_
      refine lv_aload_n hx hb dX7_reason_23 rfl (lv_at hl 0 rfl) ?_
      refine va_get (D := E.1) (ci := 7) (v := .ref (a 78)) (C := RX7) (T := TX7) (N := 8) hx hb hts in_X7_reason_X7 hown hK.1 hP 0 rfl rfl 4 (by decide) (hts _ wd_X7_reason_f42) (fun _ h9 => h9) rfl dX7_reason_24 ?_
      refine lv_iload_n hx hb dX7_reason_27 rfl (lv_at hl 1 rfl) ?_
      obtain ⟨u9, q10, h⟩ := bd_t h
      obtain ⟨s11, e12, h⟩ := nm_t h
      obtain ⟨s13, e14, h⟩ := nm_t h
      refine iv_callVp (As := [.ref (a 78), .int (zi x1)]) (rest := []) (ws1 := wX a hs E s13) ⟨hx, hb, hml, hown, hts⟩ (k_X3_fill l E (fun i => a (9 + i)) (fun i => a (78 + i)) H.size N x1 (z.2.1, z.2.2.2.1) u9 q10) (cwV 2 hts gX7_reason_X3_fill rfl rfl rfl (by decide +kernel) ⟨Nat.le_of_ble_eq_true rfl, Nat.le_of_ble_eq_true rfl⟩) hK hP hD hS hA 9 3 rfl rfl (pm_skip (pm_skip (pm_take (pm_skip (pm_last))))) (by rw [e14, e12]; exact pm_skip (pm_skip (pm_take (pm_skip (pm_last))))) rfl hl.1 (Nat.le_of_ble_eq_true rfl) ⟨Nat.zero_le _, Nat.zero_le _⟩ dX7_reason_28 (fun H locs hP hD hS => ?_)
      refine lv_aload_n hx hb dX7_reason_31 rfl (lv_at hl 0 rfl) ?_
      refine lv_iload_n hx hb dX7_reason_32 rfl (lv_at hl 2 rfl) ?_
      obtain ⟨u15, q16, h⟩ := bd_t h
      refine iv_callIf (As := [.int (zi x2)]) (rest := []) ⟨hx, hb, hml, hown, hts⟩ (k_X7_refusalOf l E a hs H.size N x2 s13 u15 q16) (cwV 1 hts gX7_reason_X7_refusalOf rfl rfl rfl (by decide +kernel) ⟨Nat.le_of_ble_eq_true rfl, Nat.le_of_ble_eq_true rfl⟩) hK hP hD hS hA 0 7 rfl rfl rfl hl.1 (Nat.le_of_ble_eq_true rfl) ⟨Nat.zero_le _, Nat.zero_le _⟩ dX7_reason_33 (fun H locs hP hD hS => ?_)
      cases h
      exact iv_iret hx hb hr hlocks hK hP hD hS dX7_reason_36
    · have h := it_t c8 h
      refine iv_bipush hx hb dX7_reason_16 (by decide +kernel) ?_
      cases h
      exact iv_iret hx hb hr hlocks hK hP hD hS dX7_reason_18
  · have h := it_t c4 h
    refine iv_iconst hx hb dX7_reason_7 ?_
    cases h
    exact iv_iret hx hb hr hlocks hK hP hD hS dX7_reason_8
set_option maxRecDepth 20000 in
theorem wd_X7_leastSpread_f28 : Cond.fieldLink RX7 28 "ShirtButtons" "order" "LShirtButtons$Order;" ∈ wsX7_leastSpread := by decide +kernel
set_option maxRecDepth 20000 in
theorem in_X7_leastSpread_X7 : ∀ w ∈ u_ws RX7 TX7 8, w ∈ wsX7_leastSpread := by decide +kernel
set_option maxRecDepth 20000 in
theorem wd_X7_leastSpread_f42 : Cond.fieldLink RX7 42 "ShirtButtons" "now" "LShirtButtons$State;" ∈ wsX7_leastSpread := by decide +kernel
set_option maxRecDepth 20000 in
theorem wd_X7_leastSpread_f189 : Cond.fieldLink RX7 189 "ShirtButtons$Order" "count" "I" ∈ wsX7_leastSpread := by decide +kernel
set_option maxRecDepth 20000 in
theorem in_X7_leastSpread_X3 : ∀ w ∈ u_ws RX3 TX3 3, w ∈ wsX7_leastSpread := by decide +kernel
set_option maxHeartbeats 4000000 in
set_option maxRecDepth 100000 in
theorem k_X7_leastSpread (l : Launch) (E : wE) (a hs : Nat → Nat) (sz : Nat) (N : Nat) (x1 x2 : Int) (z : bX) (u : (Int × bX)) (hf : f_X7_leastSpread N x1 x2 z = some u) : cI l yX7_leastSpread wsX7_leastSpread { frames := 2, cells := 0, slots := 0, locals := 47 } E sz [.ref (a 0), .int (zi x1), .int (zi x2)] (wX a hs E z) (wX a hs E u.2) u.1 := by
  refine met_go (cc := cX7_leastSpread) (maxL := 3) (ret := (some .int)) (Q0 := mQi E (wX a hs E u.2) u.1) (by decide +kernel) rfl (Nat.le_of_ble_eq_true rfl) ?_
  intro A p e s m below meth c hx hb hr hml hts hown hlocks hP hK hD hA hS ls hl
  have hl : lv_has ls 3 [(0, .ref (a 0)), (1, .int (zi x1)), (2, .int (zi x2))] := hl
  generalize hH : s.heap = H at hP
  have hS : va_S A s.heap H [] := by rw [← hH]; exact hS
  have hown : s.vm.findClass RX7 = some m.cls := hown
  have h := hf
  rw [f_X7_leastSpread] at h
  refine lv_iload_n hx hb dX7_leastSpread_0 rfl (lv_at hl 1 rfl) ?_
  obtain ⟨u1, q2, h⟩ := bd_t h
  refine iv_callS (As := [.int (zi x1)]) (rest := []) ⟨hx, hb, hml, hown, hts⟩ (k_X7_isBin l E H.size x1 u1 q2) (va_cwS 1 hts gX7_leastSpread_X7_isBin rfl rfl rfl (by decide +kernel) ⟨Nat.le_of_ble_eq_true rfl, Nat.le_of_ble_eq_true rfl⟩) hK hP hS hA rfl hl.1 (Nat.le_of_ble_eq_true rfl) ⟨Nat.zero_le _, Nat.zero_le _⟩ dX7_leastSpread_1 (fun H locs hP hS => ?_)
  obtain ⟨g3, h⟩ := gd_t h
  refine iv_ne (tgt := 9) hx hb g3 dX7_leastSpread_4 (by decide) (fun c4 => ?_) (fun c4 => ?_)
  · have h := it_f c4 h
    refine lv_iload_n hx hb dX7_leastSpread_9 rfl (lv_at hl 2 rfl) ?_
    obtain ⟨u5, q6, h⟩ := bd_t h
    refine iv_callS (As := [.int (zi x2)]) (rest := []) ⟨hx, hb, hml, hown, hts⟩ (k_X7_isWanted l E H.size x2 u5 q6) (va_cwS 1 hts gX7_leastSpread_X7_isWanted rfl rfl rfl (by decide +kernel) ⟨Nat.le_of_ble_eq_true rfl, Nat.le_of_ble_eq_true rfl⟩) hK hP hS hA rfl hl.1 (Nat.le_of_ble_eq_true rfl) ⟨Nat.zero_le _, Nat.zero_le _⟩ dX7_leastSpread_10 (fun H locs hP hS => ?_)
    obtain ⟨g7, h⟩ := gd_t h
    refine iv_ne (tgt := 19) hx hb g7 dX7_leastSpread_13 (by decide) (fun c8 => ?_) (fun c8 => ?_)
    · have h := it_f c8 h
      refine lv_aload_n hx hb dX7_leastSpread_19 rfl (lv_at hl 0 rfl) ?_
      refine va_get (D := E.1) (ci := 7) (v := .ref (a 9)) (C := RX7) (T := TX7) (N := 8) hx hb hts in_X7_leastSpread_X7 hown hK.1 hP 0 rfl rfl 2 (by decide) (hts _ wd_X7_leastSpread_f28) (fun _ h9 => h9) rfl dX7_leastSpread_20 ?_
      refine lv_aload_n hx hb dX7_leastSpread_23 rfl (lv_at hl 0 rfl) ?_
      refine va_get (D := E.1) (ci := 7) (v := .ref (a 78)) (C := RX7) (T := TX7) (N := 8) hx hb hts in_X7_leastSpread_X7 hown hK.1 hP 0 rfl rfl 4 (by decide) (hts _ wd_X7_leastSpread_f42) (fun _ h9 => h9) rfl dX7_leastSpread_24 ?_
      refine lv_iload_n hx hb dX7_leastSpread_27 rfl (lv_at hl 1 rfl) ?_
      obtain ⟨u9, q10, h⟩ := bd_t h
      obtain ⟨s11, e12, h⟩ := nm_t h
      obtain ⟨s13, e14, h⟩ := nm_t h
      refine iv_callVp (As := [.ref (a 78), .int (zi x1)]) (rest := []) (ws1 := wX a hs E s13) ⟨hx, hb, hml, hown, hts⟩ (k_X3_fill l E (fun i => a (9 + i)) (fun i => a (78 + i)) H.size N x1 (z.2.1, z.2.2.2.1) u9 q10) (cwV 2 hts gX7_leastSpread_X3_fill rfl rfl rfl (by decide +kernel) ⟨Nat.le_of_ble_eq_true rfl, Nat.le_of_ble_eq_true rfl⟩) hK hP hD hS hA 9 3 rfl rfl (pm_skip (pm_skip (pm_take (pm_skip (pm_last))))) (by rw [e14, e12]; exact pm_skip (pm_skip (pm_take (pm_skip (pm_last))))) rfl hl.1 (Nat.le_of_ble_eq_true rfl) ⟨Nat.zero_le _, Nat.zero_le _⟩ dX7_leastSpread_28 (fun H locs hP hD hS => ?_)
      refine lv_aload_n hx hb dX7_leastSpread_31 rfl (lv_at hl 0 rfl) ?_
      refine va_get (D := E.1) (ci := 7) (v := .ref (a 9)) (C := RX7) (T := TX7) (N := 8) hx hb hts in_X7_leastSpread_X7 hown hK.1 hP 0 rfl rfl 2 (by decide) (hts _ wd_X7_leastSpread_f28) (fun _ h9 => h9) rfl dX7_leastSpread_32 ?_
      refine va_get (D := E.1) (ci := 3) (v := .int (zi s13.2.1.2.2)) (C := RX3) (T := TX3) (N := 3) hx hb hts in_X7_leastSpread_X3 hown hK.1 hP 9 rfl rfl 2 (by decide) (hts _ wd_X7_leastSpread_f189) (fun _ h9 => h9) rfl dX7_leastSpread_35 ?_
      refine lv_iload_n hx hb dX7_leastSpread_38 rfl (lv_at hl 2 rfl) ?_
      obtain ⟨g15, h⟩ := gd_t h
      obtain ⟨g16, h⟩ := gd_t h
      refine iv_ige (tgt := 47) hx hb g15 g16 dX7_leastSpread_39 (by decide) (fun c17 => ?_) (fun c17 => ?_)
      · have h := it_t c17 h
        refine lv_aload_n hx hb dX7_leastSpread_47 rfl (lv_at hl 0 rfl) ?_
        refine va_get (D := E.1) (ci := 7) (v := .ref (a 9)) (C := RX7) (T := TX7) (N := 8) hx hb hts in_X7_leastSpread_X7 hown hK.1 hP 0 rfl rfl 2 (by decide) (hts _ wd_X7_leastSpread_f28) (fun _ h9 => h9) rfl dX7_leastSpread_48 ?_
        refine lv_iload_n hx hb dX7_leastSpread_51 rfl (lv_at hl 2 rfl) ?_
        obtain ⟨u18, q19, h⟩ := bd_t h
        obtain ⟨s20, e21, h⟩ := nm_t h
        refine iv_callIp (As := [.int (zi x2)]) (rest := []) (ws1 := wX a hs E s20) ⟨hx, hb, hml, hown, hts⟩ (k_X3_narrowest l E (fun i => a (9 + i)) H.size N x2 s13.2.1 u18 q19) (cwV 1 hts gX7_leastSpread_X3_narrowest rfl rfl rfl (by decide +kernel) ⟨Nat.le_of_ble_eq_true rfl, Nat.le_of_ble_eq_true rfl⟩) hK hP hD hS hA 9 3 rfl rfl (pm_skip (pm_skip (pm_last))) (by rw [e21]; exact pm_skip (pm_skip (pm_last))) rfl hl.1 (Nat.le_of_ble_eq_true rfl) ⟨Nat.zero_le _, Nat.zero_le _⟩ dX7_leastSpread_52 (fun H locs hP hD hS => ?_)
        cases h
        exact iv_iret hx hb hr hlocks hK hP hD hS dX7_leastSpread_55
      · have h := it_f c17 h
        refine iv_bipush hx hb dX7_leastSpread_42 (by decide +kernel) ?_
        refine lv_goto (tgt := 55) hx hb dX7_leastSpread_44 (by decide) ?_
        cases h
        exact iv_iret hx hb hr hlocks hK hP hD hS dX7_leastSpread_55
    · have h := it_t c8 h
      refine iv_bipush hx hb dX7_leastSpread_16 (by decide +kernel) ?_
      cases h
      exact iv_iret hx hb hr hlocks hK hP hD hS dX7_leastSpread_18
  · have h := it_t c4 h
    refine iv_iconst hx hb dX7_leastSpread_7 ?_
    cases h
    exact iv_iret hx hb hr hlocks hK hP hD hS dX7_leastSpread_8
set_option maxRecDepth 20000 in
theorem wd_X7_shirts_f28 : Cond.fieldLink RX7 28 "ShirtButtons" "order" "LShirtButtons$Order;" ∈ wsX7_shirts := by decide +kernel
set_option maxRecDepth 20000 in
theorem in_X7_shirts_X7 : ∀ w ∈ u_ws RX7 TX7 8, w ∈ wsX7_shirts := by decide +kernel
set_option maxRecDepth 20000 in
theorem wd_X7_shirts_f42 : Cond.fieldLink RX7 42 "ShirtButtons" "now" "LShirtButtons$State;" ∈ wsX7_shirts := by decide +kernel
set_option maxRecDepth 20000 in
theorem wd_X7_shirts_f113 : Cond.fieldLink RX7 113 "ShirtButtons$State" "settings" "[I" ∈ wsX7_shirts := by decide +kernel
set_option maxRecDepth 20000 in
theorem in_X7_shirts_X5 : ∀ w ∈ u_ws RX5 TX5 8, w ∈ wsX7_shirts := by decide +kernel
set_option maxHeartbeats 4000000 in
set_option maxRecDepth 100000 in
theorem k_X7_shirts (l : Launch) (E : wE) (a hs : Nat → Nat) (sz : Nat) (N : Nat) (x1 : Int) (z : bX) (u : (Int × bX)) (hf : f_X7_shirts N x1 z = some u) : cI l yX7_shirts wsX7_shirts { frames := 2, cells := 0, slots := 0, locals := 47 } E sz [.ref (a 0), .int (zi x1)] (wX a hs E z) (wX a hs E u.2) u.1 := by
  refine met_go (cc := cX7_shirts) (maxL := 4) (ret := (some .int)) (Q0 := mQi E (wX a hs E u.2) u.1) (by decide +kernel) rfl (Nat.le_of_ble_eq_true rfl) ?_
  intro A p e s m below meth c hx hb hr hml hts hown hlocks hP hK hD hA hS ls hl
  have hl : lv_has ls 4 [(0, .ref (a 0)), (1, .int (zi x1))] := hl
  generalize hH : s.heap = H at hP
  have hS : va_S A s.heap H [] := by rw [← hH]; exact hS
  have hown : s.vm.findClass RX7 = some m.cls := hown
  have loop14 : ∀ (n : Nat) (v5 v6 v7 : Int) (s8 : bX) (H : Heap) (locs : List Loc) (ls : Array Slot), f_X7_shirts_L14 N n v5 v6 v7 s8 = some u → va_P E.1 vwCl (wX a hs E s8) H → va_D A (wX a hs E s8) → va_S A s.heap H locs → lv_has ls 4 [(0, .ref (a 0)), (1, .int (zi v5)), (2, .int (zi v6)), (3, .int (zi v7))] → W p l e ({ frames := 2, cells := 0, slots := 0, locals := 47 }) s m ([.ref (a 0), .int (zi x1)] : List Value).toArray below meth c H locs 0 0 (MQ below (mQi E (wX a hs E u.2) u.1 A) ([.ref (a 0), .int (zi x1)] : List Value).toArray s 0 0 A) (F0 m 14 ls []) := by
    intro n
    induction n with
    | zero =>
      intro v5 v6 v7 s8 H locs ls h
      exact absurd (show (none : Option (Int × bX)) = some u from h) (by simp)
    | succ n ih =>
      intro v5 v6 v7 s8 H locs ls h hP hD hS hl
      rw [f_X7_shirts_L14] at h
      refine lv_iload_n hx hb dX7_shirts_14 rfl (lv_at hl 3 rfl) ?_
      refine iv_bipush hx hb dX7_shirts_15 (by decide +kernel) ?_
      obtain ⟨g9, h⟩ := gd_t h
      refine iv_ige (tgt := 59) hx hb g9 (by decide +kernel) dX7_shirts_17 (by decide) (fun c10 => ?_) (fun c10 => ?_)
      · have h := it_t c10 h
        refine lv_iload_n hx hb dX7_shirts_59 rfl (lv_at hl 2 rfl) ?_
        cases h
        exact iv_iret hx hb hr hlocks hK hP hD hS dX7_shirts_60
      · have h := it_f c10 h
        refine lv_aload_n hx hb dX7_shirts_20 rfl (lv_at hl 0 rfl) ?_
        refine va_get (D := E.1) (ci := 7) (v := .ref (a 9)) (C := RX7) (T := TX7) (N := 8) hx hb hts in_X7_shirts_X7 hown hK.1 hP 0 rfl rfl 2 (by decide) (hts _ wd_X7_shirts_f28) (fun _ h9 => h9) rfl dX7_shirts_21 ?_
        refine lv_aload_n hx hb dX7_shirts_24 rfl (lv_at hl 0 rfl) ?_
        refine va_get (D := E.1) (ci := 7) (v := .ref (a 78)) (C := RX7) (T := TX7) (N := 8) hx hb hts in_X7_shirts_X7 hown hK.1 hP 0 rfl rfl 4 (by decide) (hts _ wd_X7_shirts_f42) (fun _ h9 => h9) rfl dX7_shirts_25 ?_
        refine lv_iload_n hx hb dX7_shirts_28 rfl (lv_at hl 3 rfl) ?_
        obtain ⟨u11, q12, h⟩ := bd_t h
        obtain ⟨s13, e14, h⟩ := nm_t h
        obtain ⟨s15, e16, h⟩ := nm_t h
        refine iv_callVp (As := [.ref (a 78), .int (zi v7)]) (rest := []) (ws1 := wX a hs E s15) ⟨hx, hb, hml, hown, hts⟩ (k_X3_fill l E (fun i => a (9 + i)) (fun i => a (78 + i)) H.size N v7 (s8.2.1, s8.2.2.2.1) u11 q12) (cwV 2 hts gX7_shirts_X3_fill rfl rfl rfl (by decide +kernel) ⟨Nat.le_of_ble_eq_true rfl, Nat.le_of_ble_eq_true rfl⟩) hK hP hD hS hA 9 3 rfl rfl (pm_skip (pm_skip (pm_take (pm_skip (pm_last))))) (by rw [e16, e14]; exact pm_skip (pm_skip (pm_take (pm_skip (pm_last))))) rfl hl.1 (Nat.le_of_ble_eq_true rfl) ⟨Nat.zero_le _, Nat.zero_le _⟩ dX7_shirts_29 (fun H locs hP hD hS => ?_)
        refine lv_iload_n hx hb dX7_shirts_32 rfl (lv_at hl 2 rfl) ?_
        refine lv_aload_n hx hb dX7_shirts_33 rfl (lv_at hl 0 rfl) ?_
        refine va_get (D := E.1) (ci := 7) (v := .ref (a 9)) (C := RX7) (T := TX7) (N := 8) hx hb hts in_X7_shirts_X7 hown hK.1 hP 0 rfl rfl 2 (by decide) (hts _ wd_X7_shirts_f28) (fun _ h9 => h9) rfl dX7_shirts_34 ?_
        refine lv_iload_n hx hb dX7_shirts_37 rfl (lv_at hl 1 rfl) ?_
        refine lv_aload_n hx hb dX7_shirts_38 rfl (lv_at hl 0 rfl) ?_
        refine va_get (D := E.1) (ci := 7) (v := .ref (a 78)) (C := RX7) (T := TX7) (N := 8) hx hb hts in_X7_shirts_X7 hown hK.1 hP 0 rfl rfl 4 (by decide) (hts _ wd_X7_shirts_f42) (fun _ h9 => h9) rfl dX7_shirts_39 ?_
        refine va_get (D := E.1) (ci := 5) (v := .ref (a 93)) (C := RX5) (T := TX5) (N := 8) hx hb hts in_X7_shirts_X5 hown hK.1 hP 78 rfl rfl 2 (by decide) (hts _ wd_X7_shirts_f113) (fun _ h9 => h9) rfl dX7_shirts_42 ?_
        refine iv_bipush hx hb dX7_shirts_45 (by decide +kernel) ?_
        refine iv_iald (f := s15.2.2.2.1.2.2.1) (j := 7) hx hb hK.1 hP 93 0 rfl rfl (by decide) (by decide +kernel) rfl dX7_shirts_47 ?_
        obtain ⟨u17, q18, h⟩ := bd_t h
        obtain ⟨s19, e20, h⟩ := nm_t h
        refine iv_callIp (As := [.int (zi v5), .int (zi (s15.2.2.2.1.2.2.1 7))]) (rest := [.int (zi v6)]) (ws1 := wX a hs E s19) ⟨hx, hb, hml, hown, hts⟩ (k_X3_groups l E (fun i => a (9 + i)) H.size N v5 (s15.2.2.2.1.2.2.1 7) s15.2.1 u17 q18) (cwV 2 hts gX7_shirts_X3_groups rfl rfl rfl (by decide +kernel) ⟨Nat.le_of_ble_eq_true rfl, Nat.le_of_ble_eq_true rfl⟩) hK hP hD hS hA 9 3 rfl rfl (pm_skip (pm_skip (pm_last))) (by rw [e20]; exact pm_skip (pm_skip (pm_last))) rfl hl.1 (Nat.le_of_ble_eq_true rfl) ⟨Nat.zero_le _, Nat.zero_le _⟩ dX7_shirts_48 (fun H locs hP hD hS => ?_)
        refine iv_iadd hx hb dX7_shirts_51 ?_
        obtain ⟨v21, e22, h⟩ := nm_t h
        refine iv_nm e22 ?_
        refine lv_istore_n (lv' := [(2, .int (zi v21)), (0, .ref (a 0)), (1, .int (zi v5)), (3, .int (zi v7))]) hx hb dX7_shirts_52 rfl hl (by decide) rfl (fun ls hl => ?_)
        refine lv_iinc (v := zi (v7 + 1)) (lv' := [(3, .int (zi (v7 + 1))), (2, .int (zi v21)), (0, .ref (a 0)), (1, .int (zi v5))]) hx hb dX7_shirts_53 hl (k := 3) rfl (by rw [zi_add]; rfl) (by decide) rfl (fun ls hl => ?_)
        refine lv_goto (tgt := 14) hx hb dX7_shirts_56 (by decide) ?_
        exact ih v5 v21 (v7 + 1) s19 _ _ _ h hP hD hS (lv_sub hl [2, 3, 1, 0] rfl)
  have h := hf
  rw [f_X7_shirts] at h
  refine lv_iload_n hx hb dX7_shirts_0 rfl (lv_at hl 1 rfl) ?_
  obtain ⟨u1, q2, h⟩ := bd_t h
  refine iv_callS (As := [.int (zi x1)]) (rest := []) ⟨hx, hb, hml, hown, hts⟩ (k_X7_isWanted l E H.size x1 u1 q2) (va_cwS 1 hts gX7_shirts_X7_isWanted rfl rfl rfl (by decide +kernel) ⟨Nat.le_of_ble_eq_true rfl, Nat.le_of_ble_eq_true rfl⟩) hK hP hS hA rfl hl.1 (Nat.le_of_ble_eq_true rfl) ⟨Nat.zero_le _, Nat.zero_le _⟩ dX7_shirts_1 (fun H locs hP hS => ?_)
  obtain ⟨g3, h⟩ := gd_t h
  refine iv_ne (tgt := 10) hx hb g3 dX7_shirts_4 (by decide) (fun c4 => ?_) (fun c4 => ?_)
  · have h := it_f c4 h
    refine iv_iconst hx hb dX7_shirts_10 ?_
    refine lv_istore_n (lv' := [(2, .int (zi 0)), (0, .ref (a 0)), (1, .int (zi x1))]) hx hb dX7_shirts_11 rfl hl (by decide) rfl (fun ls hl => ?_)
    refine iv_iconst hx hb dX7_shirts_12 ?_
    refine lv_istore_n (lv' := [(3, .int (zi 0)), (2, .int (zi 0)), (0, .ref (a 0)), (1, .int (zi x1))]) hx hb dX7_shirts_13 rfl hl (by decide) rfl (fun ls hl => ?_)
    exact loop14 N x1 0 0 z _ _ _ h hP hD hS (lv_sub hl [2, 3, 1, 0] rfl)
  · have h := it_t c4 h
    refine iv_bipush hx hb dX7_shirts_7 (by decide +kernel) ?_
    cases h
    exact iv_iret hx hb hr hlocks hK hP hD hS dX7_shirts_9
set_option maxRecDepth 20000 in
theorem wd_X7_ifMesh_f42 : Cond.fieldLink RX7 42 "ShirtButtons" "now" "LShirtButtons$State;" ∈ wsX7_ifMesh := by decide +kernel
set_option maxRecDepth 20000 in
theorem in_X7_ifMesh_X7 : ∀ w ∈ u_ws RX7 TX7 8, w ∈ wsX7_ifMesh := by decide +kernel
set_option maxRecDepth 20000 in
theorem wd_X7_ifMesh_f49 : Cond.fieldLink RX7 49 "ShirtButtons" "trial" "LShirtButtons$State;" ∈ wsX7_ifMesh := by decide +kernel
set_option maxRecDepth 20000 in
theorem wd_X7_ifMesh_f113 : Cond.fieldLink RX7 113 "ShirtButtons$State" "settings" "[I" ∈ wsX7_ifMesh := by decide +kernel
set_option maxRecDepth 20000 in
theorem in_X7_ifMesh_X5 : ∀ w ∈ u_ws RX5 TX5 8, w ∈ wsX7_ifMesh := by decide +kernel
set_option maxRecDepth 20000 in
theorem wd_X7_ifMesh_f79 : Cond.fieldLink RX7 79 "ShirtButtons$State" "places" "LShirtButtons$Places;" ∈ wsX7_ifMesh := by decide +kernel
set_option maxRecDepth 20000 in
theorem wd_X7_ifMesh_f83 : Cond.fieldLink RX7 83 "ShirtButtons$Places" "at" "[I" ∈ wsX7_ifMesh := by decide +kernel
set_option maxRecDepth 20000 in
theorem in_X7_ifMesh_X4 : ∀ w ∈ u_ws RX4 TX4 6, w ∈ wsX7_ifMesh := by decide +kernel
set_option maxHeartbeats 4000000 in
set_option maxRecDepth 100000 in
theorem k_X7_ifMesh (l : Launch) (E : wE) (a hs : Nat → Nat) (sz : Nat) (N : Nat) (x1 x2 x3 : Int) (z : bX) (u : (Int × bX)) (hf : f_X7_ifMesh N x1 x2 x3 z = some u) : cIs l yX7_ifMesh wsX7_ifMesh { frames := 5, cells := 0, slots := 0, locals := 110 } E sz [.ref (a 0), .int (zi x1), .int (zi x2), .int (zi x3)] (wX a hs E z) (wX a hs E u.2) u.1 := by
  refine met_goS (cc := cX7_ifMesh) (maxL := 6) (ret := (some .int)) (Q0 := mQi E (wX a hs E u.2) u.1) (by decide +kernel) rfl (Nat.le_of_ble_eq_true rfl) ?_
  intro A p e s m below meth c hx hb hr hml hts hown hlocks hZ hP hK hD hA hS ls hl
  have hl : lv_has ls 6 [(0, .ref (a 0)), (1, .int (zi x1)), (2, .int (zi x2)), (3, .int (zi x3))] := hl
  generalize hH : s.heap = H at hP
  have hS : va_S A s.heap H [] := by rw [← hH]; exact hS
  have hown : s.vm.findClass RX7 = some m.cls := hown
  have loop82 : ∀ (n : Nat) (v29 v30 v31 v32 v33 : Int) (s34 : bX) (H : Heap) (locs : List Loc) (ls : Array Slot), f_X7_ifMesh_L82 N n v29 v30 v31 v32 v33 s34 = some u → va_P E.1 vwCl (wX a hs E s34) H → va_D A (wX a hs E s34) → va_S A s.heap H locs → lv_has ls 6 [(0, .ref (a 0)), (1, .int (zi v29)), (2, .int (zi v30)), (3, .int (zi v31)), (4, .int (zi v32)), (5, .int (zi v33))] → W p l e ({ frames := 5, cells := 0, slots := 0, locals := 110 }) s m ([.ref (a 0), .int (zi x1), .int (zi x2), .int (zi x3)] : List Value).toArray below meth c H locs 0 0 (MQ below (mQi E (wX a hs E u.2) u.1 A) ([.ref (a 0), .int (zi x1), .int (zi x2), .int (zi x3)] : List Value).toArray s 0 0 A) (F0 m 82 ls []) := by
    intro n
    induction n with
    | zero =>
      intro v29 v30 v31 v32 v33 s34 H locs ls h
      exact absurd (show (none : Option (Int × bX)) = some u from h) (by simp)
    | succ n ih =>
      intro v29 v30 v31 v32 v33 s34 H locs ls h hP hD hS hl
      rw [f_X7_ifMesh_L82] at h
      refine lv_iload hx hb dX7_ifMesh_82 (lv_at hl 5 rfl) ?_
      refine lv_iload hx hb dX7_ifMesh_84 (lv_at hl 4 rfl) ?_
      obtain ⟨g35, h⟩ := gd_t h
      obtain ⟨g36, h⟩ := gd_t h
      refine iv_ige (tgt := 102) hx hb g35 g36 dX7_ifMesh_86 (by decide) (fun c37 => ?_) (fun c37 => ?_)
      · have h := it_t c37 h
        refine lv_aload_n hx hb dX7_ifMesh_102 rfl (lv_at hl 0 rfl) ?_
        refine va_get (D := E.1) (ci := 7) (v := .ref (a 110)) (C := RX7) (T := TX7) (N := 8) hx hb hts in_X7_ifMesh_X7 hown hK.1 hP 0 rfl rfl 6 (by decide) (hts _ wd_X7_ifMesh_f49) (fun _ h9 => h9) rfl dX7_ifMesh_103 ?_
        refine va_get (D := E.1) (ci := 5) (v := .ref (a 118)) (C := RX5) (T := TX5) (N := 8) hx hb hts in_X7_ifMesh_X5 hown hK.1 hP 110 rfl rfl 1 (by decide) (hts _ wd_X7_ifMesh_f79) (fun _ h9 => h9) rfl dX7_ifMesh_106 ?_
        refine va_get (D := E.1) (ci := 4) (v := .ref (a 123)) (C := RX4) (T := TX4) (N := 6) hx hb hts in_X7_ifMesh_X4 hown hK.1 hP 118 rfl rfl 4 (by decide) (hts _ wd_X7_ifMesh_f83) (fun _ h9 => h9) rfl dX7_ifMesh_109 ?_
        refine lv_iload_n hx hb dX7_ifMesh_112 rfl (lv_at hl 3 rfl) ?_
        obtain ⟨g38, h⟩ := gd_t h
        refine iv_iald (f := s34.2.2.2.2.2.1.2.1.2.2.2.2.1) (j := v31.toNat) hx hb hK.1 hP 123 0 rfl rfl (by decide) g38 rfl dX7_ifMesh_113 ?_
        cases h
        exact iv_iret hx hb hr hlocks hK hP hD hS dX7_ifMesh_114
      · have h := it_f c37 h
        refine lv_aload_n hx hb dX7_ifMesh_89 rfl (lv_at hl 0 rfl) ?_
        refine va_get (D := E.1) (ci := 7) (v := .ref (a 110)) (C := RX7) (T := TX7) (N := 8) hx hb hts in_X7_ifMesh_X7 hown hK.1 hP 0 rfl rfl 6 (by decide) (hts _ wd_X7_ifMesh_f49) (fun _ h9 => h9) rfl dX7_ifMesh_90 ?_
        obtain ⟨u39, q40, h⟩ := bd_t h
        obtain ⟨s41, e42, h⟩ := nm_t h
        refine iv_callVp (As := []) (rest := []) (ws1 := wX a hs E s41) ⟨hx, hb, hml, hown, hts⟩ (k_X5_sortFirst l E (fun i => a (110 + i)) H.size N  s34.2.2.2.2.2.1 u39 q40) (cwV 0 hts gX7_ifMesh_X5_sortFirst rfl rfl rfl (by decide +kernel) ⟨Nat.le_of_ble_eq_true rfl, Nat.le_of_ble_eq_true rfl⟩) hK hP hD hS hA 110 5 rfl rfl (pm_skip (pm_skip (pm_skip (pm_skip (pm_skip (pm_skip (pm_end))))))) (by rw [e42]; exact pm_skip (pm_skip (pm_skip (pm_skip (pm_skip (pm_skip (pm_end))))))) rfl hl.1 (Nat.le_of_ble_eq_true rfl) ⟨Nat.zero_le _, Nat.zero_le _⟩ dX7_ifMesh_93 (fun H locs hP hD hS => ?_)
        refine lv_iinc (v := zi (v33 + 1)) (lv' := [(5, .int (zi (v33 + 1))), (0, .ref (a 0)), (1, .int (zi v29)), (2, .int (zi v30)), (3, .int (zi v31)), (4, .int (zi v32))]) hx hb dX7_ifMesh_96 hl (k := 5) rfl (by rw [zi_add]; rfl) (by decide) rfl (fun ls hl => ?_)
        refine lv_goto (tgt := 82) hx hb dX7_ifMesh_99 (by decide) ?_
        exact ih v29 v30 v31 v32 (v33 + 1) s41 _ _ _ h hP hD hS (lv_sub hl [1, 2, 3, 4, 5, 0] rfl)
  have h := hf
  rw [f_X7_ifMesh] at h
  refine lv_iload_n hx hb dX7_ifMesh_0 rfl (lv_at hl 1 rfl) ?_
  obtain ⟨g1, h⟩ := gd_t h
  refine iv_lt (tgt := 9) hx hb g1 dX7_ifMesh_1 (by decide) (fun c2 => ?_) (fun c2 => ?_)
  · have h := it_t c2 h
    refine iv_iconst hx hb dX7_ifMesh_9 ?_
    cases h
    exact iv_iret hx hb hr hlocks hK hP hD hS dX7_ifMesh_10
  · have h := it_f c2 h
    refine lv_iload_n hx hb dX7_ifMesh_4 rfl (lv_at hl 1 rfl) ?_
    refine iv_iconst hx hb dX7_ifMesh_5 ?_
    refine iv_ilt (tgt := 11) hx hb g1 (by decide +kernel) dX7_ifMesh_6 (by decide) (fun c3 => ?_) (fun c3 => ?_)
    · have h := it_t c3 h
      refine lv_iload_n hx hb dX7_ifMesh_11 rfl (lv_at hl 1 rfl) ?_
      refine lv_iload_n hx hb dX7_ifMesh_12 rfl (lv_at hl 2 rfl) ?_
      obtain ⟨u4, q5, h⟩ := bd_t h
      refine iv_callSs (As := [.int (zi x1), .int (zi x2)]) (rest := []) ⟨hx, hb, hml, hown, hts⟩ (k_X7_isValue l E H.size x1 x2 u4 q5) (va_cwS 2 hts gX7_ifMesh_X7_isValue rfl rfl rfl (by decide +kernel) ⟨Nat.le_of_ble_eq_true rfl, Nat.le_of_ble_eq_true rfl⟩) hZ hK hP hS hA rfl hl.1 (Nat.le_of_ble_eq_true rfl) ⟨Nat.zero_le _, Nat.zero_le _⟩ dX7_ifMesh_13 (fun H locs hP hS => ?_)
      obtain ⟨g6, h⟩ := gd_t h
      refine iv_eq (tgt := 26) hx hb g6 dX7_ifMesh_16 (by decide) (fun c7 => ?_) (fun c7 => ?_)
      · have h := it_t c7 h
        refine iv_bipush hx hb dX7_ifMesh_26 (by decide +kernel) ?_
        cases h
        exact iv_iret hx hb hr hlocks hK hP hD hS dX7_ifMesh_28
      · have h := it_f c7 h
        refine lv_iload_n hx hb dX7_ifMesh_19 rfl (lv_at hl 3 rfl) ?_
        obtain ⟨u8, q9, h⟩ := bd_t h
        refine iv_callS (As := [.int (zi x3)]) (rest := []) ⟨hx, hb, hml, hown, hts⟩ (k_X7_isPlace l E H.size x3 u8 q9) (va_cwS 1 hts gX7_ifMesh_X7_isPlace rfl rfl rfl (by decide +kernel) ⟨Nat.le_of_ble_eq_true rfl, Nat.le_of_ble_eq_true rfl⟩) hK hP hS hA rfl hl.1 (Nat.le_of_ble_eq_true rfl) ⟨Nat.zero_le _, Nat.zero_le _⟩ dX7_ifMesh_20 (fun H locs hP hS => ?_)
        obtain ⟨g10, h⟩ := gd_t h
        refine iv_ne (tgt := 29) hx hb g10 dX7_ifMesh_23 (by decide) (fun c11 => ?_) (fun c11 => ?_)
        · have h := it_f c11 h
          refine lv_aload_n hx hb dX7_ifMesh_29 rfl (lv_at hl 0 rfl) ?_
          refine va_get (D := E.1) (ci := 7) (v := .ref (a 78)) (C := RX7) (T := TX7) (N := 8) hx hb hts in_X7_ifMesh_X7 hown hK.1 hP 0 rfl rfl 4 (by decide) (hts _ wd_X7_ifMesh_f42) (fun _ h9 => h9) rfl dX7_ifMesh_30 ?_
          refine lv_iload_n hx hb dX7_ifMesh_33 rfl (lv_at hl 1 rfl) ?_
          refine lv_iload_n hx hb dX7_ifMesh_34 rfl (lv_at hl 2 rfl) ?_
          obtain ⟨u12, q13, h⟩ := bd_t h
          obtain ⟨s14, e15, h⟩ := nm_t h
          refine iv_callIp (As := [.int (zi x1), .int (zi x2)]) (rest := []) (ws1 := wX a hs E s14) ⟨hx, hb, hml, hown, hts⟩ (k_X5_meshesAllow l E (fun i => a (78 + i)) H.size x1 x2 z.2.2.2.1 u12 q13) (cwV 2 hts gX7_ifMesh_X5_meshesAllow rfl rfl rfl (by decide +kernel) ⟨Nat.le_of_ble_eq_true rfl, Nat.le_of_ble_eq_true rfl⟩) hK hP hD hS hA 78 5 rfl rfl (pm_skip (pm_skip (pm_skip (pm_skip (pm_last))))) (by rw [e15]; exact pm_skip (pm_skip (pm_skip (pm_skip (pm_last))))) rfl hl.1 (Nat.le_of_ble_eq_true rfl) ⟨Nat.zero_le _, Nat.zero_le _⟩ dX7_ifMesh_35 (fun H locs hP hD hS => ?_)
          obtain ⟨g16, h⟩ := gd_t h
          refine iv_ne (tgt := 44) hx hb g16 dX7_ifMesh_38 (by decide) (fun c17 => ?_) (fun c17 => ?_)
          · have h := it_f c17 h
            refine lv_aload_n hx hb dX7_ifMesh_44 rfl (lv_at hl 0 rfl) ?_
            refine va_get (D := E.1) (ci := 7) (v := .ref (a 110)) (C := RX7) (T := TX7) (N := 8) hx hb hts in_X7_ifMesh_X7 hown hK.1 hP 0 rfl rfl 6 (by decide) (hts _ wd_X7_ifMesh_f49) (fun _ h9 => h9) rfl dX7_ifMesh_45 ?_
            refine lv_aload_n hx hb dX7_ifMesh_48 rfl (lv_at hl 0 rfl) ?_
            refine va_get (D := E.1) (ci := 7) (v := .ref (a 78)) (C := RX7) (T := TX7) (N := 8) hx hb hts in_X7_ifMesh_X7 hown hK.1 hP 0 rfl rfl 4 (by decide) (hts _ wd_X7_ifMesh_f42) (fun _ h9 => h9) rfl dX7_ifMesh_49 ?_
            obtain ⟨u18, q19, h⟩ := bd_t h
            obtain ⟨s20, e21, h⟩ := nm_t h
            obtain ⟨s22, e23, h⟩ := nm_t h
            refine iv_callVp (As := [.ref (a 78)]) (rest := []) (ws1 := wX a hs E s22) ⟨hx, hb, hml, hown, hts⟩ (k_X5_copyFrom l E (fun i => a (110 + i)) (fun i => a (78 + i)) H.size  (s14.2.2.2.2.2.1, s14.2.2.2.1) u18 q19) (cwV 1 hts gX7_ifMesh_X5_copyFrom rfl rfl rfl (by decide +kernel) ⟨Nat.le_of_ble_eq_true rfl, Nat.le_of_ble_eq_true rfl⟩) hK hP hD hS hA 110 5 rfl rfl (pm_skip (pm_skip (pm_skip (pm_skip (pm_takeR (pm_skip (pm_end))))))) (by rw [e23, e21]; exact pm_skip (pm_skip (pm_skip (pm_skip (pm_takeR (pm_skip (pm_end))))))) rfl hl.1 (Nat.le_of_ble_eq_true rfl) ⟨Nat.zero_le _, Nat.zero_le _⟩ dX7_ifMesh_52 (fun H locs hP hD hS => ?_)
            refine lv_aload_n hx hb dX7_ifMesh_55 rfl (lv_at hl 0 rfl) ?_
            refine va_get (D := E.1) (ci := 7) (v := .ref (a 110)) (C := RX7) (T := TX7) (N := 8) hx hb hts in_X7_ifMesh_X7 hown hK.1 hP 0 rfl rfl 6 (by decide) (hts _ wd_X7_ifMesh_f49) (fun _ h9 => h9) rfl dX7_ifMesh_56 ?_
            refine va_get (D := E.1) (ci := 5) (v := .ref (a 125)) (C := RX5) (T := TX5) (N := 8) hx hb hts in_X7_ifMesh_X5 hown hK.1 hP 110 rfl rfl 2 (by decide) (hts _ wd_X7_ifMesh_f113) (fun _ h9 => h9) rfl dX7_ifMesh_59 ?_
            refine lv_iload_n hx hb dX7_ifMesh_62 rfl (lv_at hl 1 rfl) ?_
            refine lv_iload_n hx hb dX7_ifMesh_63 rfl (lv_at hl 2 rfl) ?_
            obtain ⟨g24, h⟩ := gd_t h
            obtain ⟨s25, e26, h⟩ := nm_t h
            refine iv_iast (f := s22.2.2.2.2.2.1.2.2.1) (j := x1.toNat) (ws1 := wX a hs E s25) hx hb hK.1 hP hD hS 125 0 rfl rfl (by decide) g24 rfl (by rw [e26]; rfl) dX7_ifMesh_64 (fun H locs hP hD hS => ?_)
            refine lv_aload_n hx hb dX7_ifMesh_65 rfl (lv_at hl 0 rfl) ?_
            refine va_get (D := E.1) (ci := 7) (v := .ref (a 110)) (C := RX7) (T := TX7) (N := 8) hx hb hts in_X7_ifMesh_X7 hown hK.1 hP 0 rfl rfl 6 (by decide) (hts _ wd_X7_ifMesh_f49) (fun _ h9 => h9) rfl dX7_ifMesh_66 ?_
            refine va_get (D := E.1) (ci := 5) (v := .ref (a 118)) (C := RX5) (T := TX5) (N := 8) hx hb hts in_X7_ifMesh_X5 hown hK.1 hP 110 rfl rfl 1 (by decide) (hts _ wd_X7_ifMesh_f79) (fun _ h9 => h9) rfl dX7_ifMesh_69 ?_
            refine va_get (D := E.1) (ci := 4) (v := .ref (a 123)) (C := RX4) (T := TX4) (N := 6) hx hb hts in_X7_ifMesh_X4 hown hK.1 hP 118 rfl rfl 4 (by decide) (hts _ wd_X7_ifMesh_f83) (fun _ h9 => h9) rfl dX7_ifMesh_72 ?_
            refine iv_iconst hx hb dX7_ifMesh_75 ?_
            refine iv_iald (f := s25.2.2.2.2.2.1.2.1.2.2.2.2.1) (j := 0) hx hb hK.1 hP 123 0 rfl rfl (by decide) (by decide +kernel) rfl dX7_ifMesh_76 ?_
            obtain ⟨v27, e28, h⟩ := nm_t h
            refine iv_nm e28 ?_
            refine lv_istore (lv' := [(4, .int (zi v27)), (0, .ref (a 0)), (1, .int (zi x1)), (2, .int (zi x2)), (3, .int (zi x3))]) hx hb dX7_ifMesh_77 hl (by decide) rfl (fun ls hl => ?_)
            refine iv_iconst hx hb dX7_ifMesh_79 ?_
            refine lv_istore (lv' := [(5, .int (zi 0)), (4, .int (zi v27)), (0, .ref (a 0)), (1, .int (zi x1)), (2, .int (zi x2)), (3, .int (zi x3))]) hx hb dX7_ifMesh_80 hl (by decide) rfl (fun ls hl => ?_)
            exact loop82 N x1 x2 x3 v27 0 s25 _ _ _ h hP hD hS (lv_sub hl [2, 3, 4, 5, 1, 0] rfl)
          · have h := it_t c17 h
            refine iv_bipush hx hb dX7_ifMesh_41 (by decide +kernel) ?_
            cases h
            exact iv_iret hx hb hr hlocks hK hP hD hS dX7_ifMesh_43
        · have h := it_t c11 h
          refine iv_bipush hx hb dX7_ifMesh_26 (by decide +kernel) ?_
          cases h
          exact iv_iret hx hb hr hlocks hK hP hD hS dX7_ifMesh_28
    · have h := it_f c3 h
      refine iv_iconst hx hb dX7_ifMesh_9 ?_
      cases h
      exact iv_iret hx hb hr hlocks hK hP hD hS dX7_ifMesh_10
