/-! State(), History(), ShirtButtons() -/
def aS (h : Nat) (a1 a2 : Nat → Nat) (q : Nat) : Nat → Nat := fun i => if i = 0 then h else if i < 8 then a1 (i - 1) else if i < 15 then a2 (i - 8) else q
set_option maxRecDepth 20000 in
theorem inX5_init_X1 : ∀ w ∈ u_ws RX1 TX1 7, w ∈ wsX5_init := by decide +kernel
set_option maxRecDepth 20000 in
theorem inX5_init_X4 : ∀ w ∈ u_ws RX4 TX4 6, w ∈ wsX5_init := by decide +kernel
set_option maxRecDepth 20000 in
theorem inX5_init : ∀ w ∈ u_ws RX5 TX5 8, w ∈ wsX5_init := by decide +kernel
set_option maxHeartbeats 8000000 in
set_option maxRecDepth 100000 in
theorem n_X5 (l : Launch) (E : wE) (sz h0 : Nat) : cN l yX5_init wsX5_init { frames := 2, cells := 15, slots := 440, locals := 32 } E sz [.ref h0] [(h0, .inr (5, [.null, .null, .null, .int (zi 0), .int (zi 0), .int (zi 0), .int (zi 0), .int (zi 0)]))] (fun a1 => a1 0 = h0) (fun a1 => wS a1 E z0S) 15 440 := by
  refine met_goN (cc := cX5_init) (maxL := 1) (by decide +kernel) rfl rfl (Nat.le_of_ble_eq_true rfl) ?_
  intro A p e s m below meth c hx hb hr hml hts hown hlocks hin hZ hP hK hD hA hS ls hl
  have hl : lv_has ls 1 [(0, .ref h0)] := hl
  generalize hH : s.heap = H at hP
  have hS : va_S A s.heap H [] := by rw [← hH]; exact hS
  have hown : s.vm.findClass RX5 = some m.cls := hown
  refine lv_aload_n hx hb dX5_init_0 rfl (lv_at hl 0 rfl) ?_
  refine W.objInit hx hb hown (hts (.methodLink RX5 3 objectInit) (by decide +kernel)) (hts (.instanceMethod objectInit) (by decide +kernel)) (hts _ (List.mem_cons_of_mem _ (List.mem_of_getElem? (i := 2) rfl))) rfl (by rw [hml]; exact hl.1) rfl dX5_init_1 (Nat.le_of_ble_eq_true rfl) (Nat.le_of_ble_eq_true rfl) ?_
  refine W.eq (g2 := F0 m 4 ls []) rfl ?_
  refine lv_aload_n hx hb dX5_init_4 rfl (lv_at hl 0 rfl) ?_
  refine va_new (D := E.1) (cl := vwCl) (ci := 1) (fs := [.null, .null, .null, .null, .null, .null, .int (zi 0)]) (C := RX1) (T := TX1) (N := 7) hx hb hts inX5_init_X1 tyX1 tyX1_ok hown (hts (.classLink RX5 9 RX1) (by decide +kernel)) (hts (.instantiable RX1 7) (by decide +kernel)) (hts (.initialized RX1) (by decide +kernel)) hK.1 hP hD hS hA rfl (fun j hj => by rcases (show j = 0 ∨ j = 1 ∨ j = 2 ∨ j = 3 ∨ j = 4 ∨ j = 5 ∨ j = 6 by omega) with rfl | rfl | rfl | rfl | rfl | rfl | rfl <;> first | rfl | (show Value.int 0 = Value.int (zi 0); rw [zi_0])) (Nat.le_of_ble_eq_true rfl) (Nat.le_of_ble_eq_true rfl) dX5_init_5 (fun q1 H hP hD hS => ?_)
  refine lv_dup hx hb dX5_init_8 rfl ?_
  refine iv_callNN (wr := [(h0, .inr (5, [.null, .null, .null, .int (zi 0), .int (zi 0), .int (zi 0), .int (zi 0), .int (zi 0)]))]) (wc := [(q1, .inr (1, [.null, .null, .null, .null, .null, .null, .int (zi 0)]))]) (Wf := fun a1 => wU a1 E z0U) (As := []) (rest := [.ref q1, .ref h0]) ⟨hx, hb, hml, hown, hts⟩ (n_X1 l E H.size q1) ⟨va_cnB 0 hts gX5_init_X1_init_n11 rfl rfl rfl hZ.2.2.2.2.2.2.1 (hts (.initialized RX1) (by decide +kernel)) (by decide +kernel) ⟨Nat.le_of_ble_eq_true rfl, Nat.le_of_ble_eq_true rfl⟩, rfl, hts (.instanceMethod yX1_init) (by decide +kernel)⟩ hZ hK hP hD hS hA rfl hl.1 (Nat.le_of_ble_eq_true rfl) ⟨Nat.le_of_ble_eq_true rfl, Nat.le_of_ble_eq_true rfl⟩ dX5_init_9 (fun a1 H locs hpo hP1 hD1 hS1 => ?_)
  have hpo : a1 0 = q1 := hpo
  clear hP hD hS
  subst hpo
  have hP := hP1
  have hD := hD1
  have hS := hS1
  clear hP1 hD1 hS1
  refine iv_putF (ci := 5) (v := .ref (a1 0)) (ty := (.object "ShirtButtons$Buttons")) (ws1 := ([(h0, .inr (5, [.ref (a1 0), .null, .null, .int (zi 0), .int (zi 0), .int (zi 0), .int (zi 0), .int (zi 0)]))] ++ wU a1 E z0U)) (C := RX5) (T := TX5) (N := 8) hx hb hts (fun w h => inX5_init w h) tyX5 tyX5_ok nmX5 hown hK hP hD hS 0 rfl rfl 0 (by decide) (hts (.fieldLink RX5 12 "ShirtButtons$State" "buttons" "LShirtButtons$Buttons;") (by decide +kernel)) (fun _ h9 => h9) rfl hin rfl (by decide +kernel) rfl rfl (Nat.le_of_ble_eq_true rfl) rfl dX5_init_12 (fun H locs hP hD hS => ?_)
  refine lv_aload_n hx hb dX5_init_15 rfl (lv_at hl 0 rfl) ?_
  refine va_new (D := E.1) (cl := vwCl) (ci := 4) (fs := [.null, .null, .null, .null, .null, .null]) (C := RX4) (T := TX4) (N := 6) hx hb hts inX5_init_X4 tyX4 tyX4_ok hown (hts (.classLink RX5 18 RX4) (by decide +kernel)) (hts (.instantiable RX4 6) (by decide +kernel)) (hts (.initialized RX4) (by decide +kernel)) hK.1 hP hD hS hA rfl (fun j hj => by rcases (show j = 0 ∨ j = 1 ∨ j = 2 ∨ j = 3 ∨ j = 4 ∨ j = 5 by omega) with rfl | rfl | rfl | rfl | rfl | rfl <;> first | rfl | (show Value.int 0 = Value.int (zi 0); rw [zi_0])) (Nat.le_of_ble_eq_true rfl) (Nat.le_of_ble_eq_true rfl) dX5_init_16 (fun q2 H hP hD hS => ?_)
  refine lv_dup hx hb dX5_init_19 rfl ?_
  refine iv_callNN (wr := ([(h0, .inr (5, [.ref (a1 0), .null, .null, .int (zi 0), .int (zi 0), .int (zi 0), .int (zi 0), .int (zi 0)]))] ++ wU a1 E z0U)) (wc := [(q2, .inr (4, [.null, .null, .null, .null, .null, .null]))]) (Wf := fun a1 => wP a1 E z0P) (As := []) (rest := [.ref q2, .ref h0]) ⟨hx, hb, hml, hown, hts⟩ (n_X4 l E H.size q2) ⟨va_cnB 0 hts gX5_init_X4_init_n20 rfl rfl rfl hZ.2.2.2.2.2.2.2.1 (hts (.initialized RX4) (by decide +kernel)) (by decide +kernel) ⟨Nat.le_of_ble_eq_true rfl, Nat.le_of_ble_eq_true rfl⟩, rfl, hts (.instanceMethod yX4_init) (by decide +kernel)⟩ hZ hK hP hD hS hA rfl hl.1 (Nat.le_of_ble_eq_true rfl) ⟨Nat.le_of_ble_eq_true rfl, Nat.le_of_ble_eq_true rfl⟩ dX5_init_20 (fun a2 H locs hpo hP1 hD1 hS1 => ?_)
  have hpo : a2 0 = q2 := hpo
  clear hP hD hS
  subst hpo
  have hP := hP1
  have hD := hD1
  have hS := hS1
  clear hP1 hD1 hS1
  refine iv_putF (ci := 5) (v := .ref (a2 0)) (ty := (.object "ShirtButtons$Places")) (ws1 := (([(h0, .inr (5, [.ref (a1 0), .ref (a2 0), .null, .int (zi 0), .int (zi 0), .int (zi 0), .int (zi 0), .int (zi 0)]))] ++ wU a1 E z0U) ++ wP a2 E z0P)) (C := RX5) (T := TX5) (N := 8) hx hb hts (fun w h => inX5_init w h) tyX5 tyX5_ok nmX5 hown hK hP hD hS 0 rfl rfl 1 (by decide) (hts (.fieldLink RX5 21 "ShirtButtons$State" "places" "LShirtButtons$Places;") (by decide +kernel)) (fun _ h9 => h9) rfl hin rfl (by decide +kernel) rfl rfl (Nat.le_of_ble_eq_true rfl) rfl dX5_init_23 (fun H locs hP hD hS => ?_)
  refine lv_aload_n hx hb dX5_init_26 rfl (lv_at hl 0 rfl) ?_
  obtain ⟨⟨t, hZ1, hZ2⟩, hZ3, hZ4, hZ5⟩ := hZ
  refine va_getsN hx hb hZ1 hS hown (va_Nw.use rfl hZ5.2.2.2.2.2.2) (fun _ h9 => h9) dX5_init_27 ?_
  refine iv_clone hx hb (by rw [hml]; exact hl.1.symm) hown (hts (.methodLink RX5 29 ⟨"[I", "clone", "()Ljava/lang/Object;"⟩) (by decide +kernel)) (hts (.sameMethod "[I" "java/lang/Object" "clone" "()Ljava/lang/Object;") (by decide +kernel)) (hts (.native ⟨"java/lang/Object", "clone", "()Ljava/lang/Object;"⟩) (by decide +kernel)) (hts (.instanceMethod ⟨"java/lang/Object", "clone", "()Ljava/lang/Object;"⟩) (by decide +kernel)) (hts (.selects "[I" ⟨"[I", "clone", "()Ljava/lang/Object;"⟩ ⟨"java/lang/Object", "clone", "()Ljava/lang/Object;"⟩) (by decide +kernel)) hZ3 hK hP hD hS hA hZ2 (Nat.le_of_ble_eq_true rfl) (Nat.le_of_ble_eq_true rfl) (Nat.le_of_ble_eq_true rfl) (Nat.le_of_ble_eq_true rfl) dX5_init_30 (fun q3 H hP hD hS => ?_)
  refine va_castA hx hb hown (hts (.classLink RX5 30 "[I") (by decide +kernel)) hP 15 rfl (va_nm_int (hK.1.2 0 _ rfl).2) dX5_init_33 ?_
  refine iv_putF (ci := 5) (v := .ref q3) (ty := (.array .int)) (ws1 := ((([(h0, .inr (5, [.ref (a1 0), .ref (a2 0), .ref q3, .int (zi 0), .int (zi 0), .int (zi 0), .int (zi 0), .int (zi 0)]))] ++ wU a1 E z0U) ++ wP a2 E z0P) ++ [(q3, .inl (E.2.1, 8, .inl (fun j => zi (firstT j))))])) (C := RX5) (T := TX5) (N := 8) hx hb hts (fun w h => inX5_init w h) tyX5 tyX5_ok nmX5 hown hK hP hD hS 0 rfl rfl 2 (by decide) (hts (.fieldLink RX5 34 "ShirtButtons$State" "settings" "[I") (by decide +kernel)) (fun _ h9 => h9) rfl hin rfl (by decide +kernel) rfl rfl (Nat.le_of_ble_eq_true rfl) rfl dX5_init_36 (fun H locs hP hD hS => ?_)
  refine lv_aload_n hx hb dX5_init_39 rfl (lv_at hl 0 rfl) ?_
  refine iv_iconst hx hb dX5_init_40 ?_
  refine iv_put (D := E.1) (ci := 5) (v := .int (zi 0)) (ty := .int) (ws1 := ((([(h0, .inr (5, [.ref (a1 0), .ref (a2 0), .ref q3, .int (zi 0), .int (zi 0), .int (zi 0), .int (zi 0), .int (zi 0)]))] ++ wU a1 E z0U) ++ wP a2 E z0P) ++ [(q3, .inl (E.2.1, 8, .inl (fun j => zi (firstT j))))])) (C := RX5) (T := TX5) (N := 8) hx hb hts (fun w h => inX5_init w h) tyX5 tyX5_ok nmX5 hown hK.1 hP hD hS 0 rfl rfl 3 (by decide) (hts (.fieldLink RX5 37 "ShirtButtons$State" "shirtsMade" "I") (by decide +kernel)) (fun _ h9 => h9) rfl (by decide +kernel) rfl rfl (Nat.le_of_ble_eq_true rfl) rfl dX5_init_41 (fun H locs hP hD hS => ?_)
  refine lv_aload_n hx hb dX5_init_44 rfl (lv_at hl 0 rfl) ?_
  refine iv_iconst hx hb dX5_init_45 ?_
  refine iv_put (D := E.1) (ci := 5) (v := .int (zi 0)) (ty := .int) (ws1 := ((([(h0, .inr (5, [.ref (a1 0), .ref (a2 0), .ref q3, .int (zi 0), .int (zi 0), .int (zi 0), .int (zi 0), .int (zi 0)]))] ++ wU a1 E z0U) ++ wP a2 E z0P) ++ [(q3, .inl (E.2.1, 8, .inl (fun j => zi (firstT j))))])) (C := RX5) (T := TX5) (N := 8) hx hb hts (fun w h => inX5_init w h) tyX5 tyX5_ok nmX5 hown hK.1 hP hD hS 0 rfl rfl 4 (by decide) (hts (.fieldLink RX5 41 "ShirtButtons$State" "worthMade" "I") (by decide +kernel)) (fun _ h9 => h9) rfl (by decide +kernel) rfl rfl (Nat.le_of_ble_eq_true rfl) rfl dX5_init_46 (fun H locs hP hD hS => ?_)
  refine lv_aload_n hx hb dX5_init_49 rfl (lv_at hl 0 rfl) ?_
  refine iv_iconst hx hb dX5_init_50 ?_
  refine iv_put (D := E.1) (ci := 5) (v := .int (zi 0)) (ty := .int) (ws1 := ((([(h0, .inr (5, [.ref (a1 0), .ref (a2 0), .ref q3, .int (zi 0), .int (zi 0), .int (zi 0), .int (zi 0), .int (zi 0)]))] ++ wU a1 E z0U) ++ wP a2 E z0P) ++ [(q3, .inl (E.2.1, 8, .inl (fun j => zi (firstT j))))])) (C := RX5) (T := TX5) (N := 8) hx hb hts (fun w h => inX5_init w h) tyX5 tyX5_ok nmX5 hown hK.1 hP hD hS 0 rfl rfl 5 (by decide) (hts (.fieldLink RX5 44 "ShirtButtons$State" "sortingsDone" "I") (by decide +kernel)) (fun _ h9 => h9) rfl (by decide +kernel) rfl rfl (Nat.le_of_ble_eq_true rfl) rfl dX5_init_51 (fun H locs hP hD hS => ?_)
  refine lv_aload_n hx hb dX5_init_54 rfl (lv_at hl 0 rfl) ?_
  refine iv_iconst hx hb dX5_init_55 ?_
  refine iv_put (D := E.1) (ci := 5) (v := .int (zi 0)) (ty := .int) (ws1 := ((([(h0, .inr (5, [.ref (a1 0), .ref (a2 0), .ref q3, .int (zi 0), .int (zi 0), .int (zi 0), .int (zi 0), .int (zi 0)]))] ++ wU a1 E z0U) ++ wP a2 E z0P) ++ [(q3, .inl (E.2.1, 8, .inl (fun j => zi (firstT j))))])) (C := RX5) (T := TX5) (N := 8) hx hb hts (fun w h => inX5_init w h) tyX5 tyX5_ok nmX5 hown hK.1 hP hD hS 0 rfl rfl 6 (by decide) (hts (.fieldLink RX5 47 "ShirtButtons$State" "goneBack" "I") (by decide +kernel)) (fun _ h9 => h9) rfl (by decide +kernel) rfl rfl (Nat.le_of_ble_eq_true rfl) rfl dX5_init_56 (fun H locs hP hD hS => ?_)
  refine lv_aload_n hx hb dX5_init_59 rfl (lv_at hl 0 rfl) ?_
  refine iv_iconst hx hb dX5_init_60 ?_
  refine iv_put (D := E.1) (ci := 5) (v := .int (zi 0)) (ty := .int) (ws1 := ((([(h0, .inr (5, [.ref (a1 0), .ref (a2 0), .ref q3, .int (zi 0), .int (zi 0), .int (zi 0), .int (zi 0), .int (zi 0)]))] ++ wU a1 E z0U) ++ wP a2 E z0P) ++ [(q3, .inl (E.2.1, 8, .inl (fun j => zi (firstT j))))])) (C := RX5) (T := TX5) (N := 8) hx hb hts (fun w h => inX5_init w h) tyX5 tyX5_ok nmX5 hown hK.1 hP hD hS 0 rfl rfl 7 (by decide) (hts (.fieldLink RX5 50 "ShirtButtons$State" "rubbed" "I") (by decide +kernel)) (fun _ h9 => h9) rfl (by decide +kernel) rfl rfl (Nat.le_of_ble_eq_true rfl) rfl dX5_init_61 (fun H locs hP hD hS => ?_)
  refine W.widen (k := 15) (n := 440) (Nat.le_of_ble_eq_true rfl) (Nat.le_of_ble_eq_true rfl) ?_
  exact iv_nret (aS h0 a1 a2 q3) rfl rfl hx hb hr hlocks hK hP hD hS dX5_init_64
def aH (h q : Nat) (a1 a2 a3 a4 : Nat → Nat) : Nat → Nat := fun i => if i = 0 then h else if i = 1 then q else if i < 18 then a1 (i - 2) else if i < 34 then a2 (i - 18) else if i < 50 then a3 (i - 34) else a4 (i - 50)
theorem h4_new (x y u v : Nat) : va_up (va_up (va_up (va_up (fun _ => none) 0 (some x)) 1 (some y)) 2 (some u)) 3 (some v) = h4 x y u v := by
  funext k
  unfold va_up h4
  by_cases h0 : k = 0
  · subst h0; rfl
  by_cases h1 : k = 1
  · subst h1; rfl
  by_cases h2 : k = 2
  · subst h2; rfl
  by_cases h3 : k = 3
  · subst h3; rfl
  simp [h0, h1, h2, h3]
theorem wU_cg {a a' : Nat → Nat} {E : wE} {z : bU} (h : ∀ i, i < 7 → a i = a' i) : wU a E z = wU a' E z := by
  unfold wU
  rw [h 0 (by omega), h 1 (by omega), h 2 (by omega), h 3 (by omega), h 4 (by omega), h 5 (by omega), h 6 (by omega)]
theorem wP_cg {a a' : Nat → Nat} {E : wE} {z : bP} (h : ∀ i, i < 7 → a i = a' i) : wP a E z = wP a' E z := by
  unfold wP
  rw [h 0 (by omega), h 1 (by omega), h 2 (by omega), h 3 (by omega), h 4 (by omega), h 5 (by omega), h 6 (by omega)]
theorem wS_cg {a a' : Nat → Nat} {E : wE} {z : bS} (h : ∀ i, i < 16 → a i = a' i) : wS a E z = wS a' E z := by
  unfold wS
  rw [h 0 (by omega), h 1 (by omega), h 8 (by omega), h 15 (by omega), wU_cg (a := fun i => a (1 + i)) (a' := fun i => a' (1 + i)) (fun i hi => h _ (by omega)), wP_cg (a := fun i => a (8 + i)) (a' := fun i => a' (8 + i)) (fun i hi => h _ (by omega))]
set_option maxRecDepth 20000 in
theorem inX2_init_X5 : ∀ w ∈ u_ws RX5 TX5 8, w ∈ wsX2_init := by decide +kernel
set_option maxRecDepth 20000 in
theorem inX2_init : ∀ w ∈ u_ws RX2 TX2 2, w ∈ wsX2_init := by decide +kernel
set_option maxHeartbeats 8000000 in
set_option maxRecDepth 100000 in
theorem n_X2 (l : Launch) (E : wE) (sz h0 : Nat) : cN l yX2_init wsX2_init { frames := 3, cells := 65, slots := 1796, locals := 52 } E sz [.ref h0] [(h0, .inr (2, [.null, .int (zi 0)]))] (fun a1 => a1 0 = h0) (fun a1 => wH a1 a1 E z0H) 65 1796 := by
  refine met_goN (cc := cX2_init) (maxL := 2) (by decide +kernel) rfl rfl (Nat.le_of_ble_eq_true rfl) ?_
  intro A p e s m below meth c hx hb hr hml hts hown hlocks hin hZ hP hK hD hA hS ls hl
  have hl : lv_has ls 2 [(0, .ref h0)] := hl
  generalize hH : s.heap = H at hP
  have hS : va_S A s.heap H [] := by rw [← hH]; exact hS
  have hown : s.vm.findClass RX2 = some m.cls := hown
  refine lv_aload_n hx hb dX2_init_0 rfl (lv_at hl 0 rfl) ?_
  refine W.objInit hx hb hown (hts (.methodLink RX2 3 objectInit) (by decide +kernel)) (hts (.instanceMethod objectInit) (by decide +kernel)) (hts _ (List.mem_cons_of_mem _ (List.mem_of_getElem? (i := 2) rfl))) rfl (by rw [hml]; exact hl.1) rfl dX2_init_1 (Nat.le_of_ble_eq_true rfl) (Nat.le_of_ble_eq_true rfl) ?_
  refine W.eq (g2 := F0 m 4 ls []) rfl ?_
  refine lv_aload_n hx hb dX2_init_4 rfl (lv_at hl 0 rfl) ?_
  refine iv_iconst hx hb dX2_init_5 ?_
  refine iv_newS hx hb hown (hts (.classLink RX2 9 RX5) (by decide +kernel)) hZ.2.2.1 hK hP hD hS hA 4 rfl (by decide) (Nat.le_of_ble_eq_true rfl) (Nat.le_of_ble_eq_true rfl) dX2_init_6 (fun q H hP hD hS => ?_)
  refine iv_putF (ci := 2) (v := .ref q) (ty := (.array (.object "ShirtButtons$State"))) (ws1 := ([(h0, .inr (2, [.ref q, .int (zi 0)]))] ++ [(q, .inl (E.2.2.2, 4, .inr (.inr (.inr (.inr (fun _ => none))))))])) (C := RX2) (T := TX2) (N := 2) hx hb hts (fun w h => inX2_init w h) tyX2 tyX2_ok nmX2 hown hK hP hD hS 0 rfl rfl 0 (by decide) (hts (.fieldLink RX2 11 "ShirtButtons$History" "states" "[LShirtButtons$State;") (by decide +kernel)) (fun _ h9 => h9) rfl hin rfl (by decide +kernel) rfl rfl (Nat.le_of_ble_eq_true rfl) rfl dX2_init_9 (fun H locs hP hD hS => ?_)
  refine lv_aload_n hx hb dX2_init_12 rfl (lv_at hl 0 rfl) ?_
  refine iv_iconst hx hb dX2_init_13 ?_
  refine iv_put (D := E.1) (ci := 2) (v := .int (zi 0)) (ty := .int) (ws1 := ([(h0, .inr (2, [.ref q, .int (zi 0)]))] ++ [(q, .inl (E.2.2.2, 4, .inr (.inr (.inr (.inr (fun _ => none))))))])) (C := RX2) (T := TX2) (N := 2) hx hb hts (fun w h => inX2_init w h) tyX2 tyX2_ok nmX2 hown hK.1 hP hD hS 0 rfl rfl 1 (by decide) (hts (.fieldLink RX2 17 "ShirtButtons$History" "count" "I") (by decide +kernel)) (fun _ h9 => h9) rfl (by decide +kernel) rfl rfl (Nat.le_of_ble_eq_true rfl) rfl dX2_init_14 (fun H locs hP hD hS => ?_)
  refine iv_iconst hx hb dX2_init_17 ?_
  refine lv_istore_n (lv' := [(1, .int (zi 0)), (0, .ref h0)]) hx hb dX2_init_18 rfl hl (by decide) rfl (fun ls hl => ?_)
  refine lv_iload_n hx hb dX2_init_19 rfl (lv_at hl 0 rfl) ?_
  refine iv_iconst hx hb dX2_init_20 ?_
  refine iv_ige (tgt := 43) hx hb (by decide +kernel) (by decide +kernel) dX2_init_21 (by decide) (fun c => ?_) (fun c => ?_)
  · exact absurd c (by decide)
  refine lv_aload_n hx hb dX2_init_24 rfl (lv_at hl 1 rfl) ?_
  refine va_get (D := E.1) (ci := 2) (v := .ref q) (C := RX2) (T := TX2) (N := 2) hx hb hts (fun w h => inX2_init w h) hown hK.1 hP 0 rfl rfl 0 (by decide) (hts (.fieldLink RX2 11 "ShirtButtons$History" "states" "[LShirtButtons$State;") (by decide +kernel)) (fun _ h9 => h9) rfl dX2_init_25 ?_
  refine lv_iload_n hx hb dX2_init_28 rfl (lv_at hl 0 rfl) ?_
  refine va_new (D := E.1) (cl := vwCl) (ci := 5) (fs := [.null, .null, .null, .int (zi 0), .int (zi 0), .int (zi 0), .int (zi 0), .int (zi 0)]) (C := RX5) (T := TX5) (N := 8) hx hb hts inX2_init_X5 tyX5 tyX5_ok hown (hts (.classLink RX2 9 RX5) (by decide +kernel)) (hts (.instantiable RX5 8) (by decide +kernel)) (hts (.initialized RX5) (by decide +kernel)) hK.1 hP hD hS hA rfl (fun j hj => by rcases (show j = 0 ∨ j = 1 ∨ j = 2 ∨ j = 3 ∨ j = 4 ∨ j = 5 ∨ j = 6 ∨ j = 7 by omega) with rfl | rfl | rfl | rfl | rfl | rfl | rfl | rfl <;> first | rfl | (show Value.int 0 = Value.int (zi 0); rw [zi_0])) (Nat.le_of_ble_eq_true rfl) (Nat.le_of_ble_eq_true rfl) dX2_init_29 (fun q1 H hP hD hS => ?_)
  refine lv_dup hx hb dX2_init_32 rfl ?_
  refine iv_callNN (wr := ([(h0, .inr (2, [.ref q, .int (zi 0)]))] ++ [(q, .inl (E.2.2.2, 4, .inr (.inr (.inr (.inr (fun _ => none))))))])) (wc := [(q1, .inr (5, [.null, .null, .null, .int (zi 0), .int (zi 0), .int (zi 0), .int (zi 0), .int (zi 0)]))]) (Wf := fun a1 => wS a1 E z0S) (As := []) (rest := [.ref q1, .int (zi 0), .ref q]) ⟨hx, hb, hml, hown, hts⟩ (n_X5 l E H.size q1) ⟨va_cnB 0 hts gX2_init_X5_init_n21 rfl rfl rfl hZ.2.2.2.2.2.1 (hts (.initialized RX5) (by decide +kernel)) (by decide +kernel) ⟨Nat.le_of_ble_eq_true rfl, Nat.le_of_ble_eq_true rfl⟩, rfl, hts (.instanceMethod yX5_init) (by decide +kernel)⟩ hZ hK hP hD hS hA rfl hl.1 (Nat.le_of_ble_eq_true rfl) ⟨Nat.le_of_ble_eq_true rfl, Nat.le_of_ble_eq_true rfl⟩ dX2_init_33 (fun a1 H locs hpo hP1 hD1 hS1 => ?_)
  have hpo : a1 0 = q1 := hpo
  clear hP hD hS
  subst hpo
  have hP := hP1
  have hD := hD1
  have hS := hS1
  clear hP1 hD1 hS1
  refine iv_aast (f := (fun _ => none)) (f1 := (va_up (fun _ => none) 0 (some (a1 0)))) (j := 0) (ws1 := (([(h0, .inr (2, [.ref q, .int (zi 0)]))] ++ [(q, .inl (E.2.2.2, 4, .inr (.inr (.inr (.inr (va_up (fun _ => none) 0 (some (a1 0))))))))]) ++ wS a1 E z0S)) (r := (RX5, TX5, 8)) hx hb hK.1 hP hD hS 1 2 2 5 rfl rfl rfl rfl (by decide +kernel) (by decide) (by decide) rfl rfl dX2_init_36 (fun H locs hP hD hS => ?_)
  refine lv_iinc (v := zi 1) (lv' := [(1, .int (zi 1)), (0, .ref h0)]) hx hb dX2_init_37 hl (k := 0) rfl (by decide +kernel) (by decide) rfl (fun ls hl => ?_)
  refine lv_goto (tgt := 19) hx hb dX2_init_40 (by decide) ?_
  refine lv_iload_n hx hb dX2_init_19 rfl (lv_at hl 0 rfl) ?_
  refine iv_iconst hx hb dX2_init_20 ?_
  refine iv_ige (tgt := 43) hx hb (by decide +kernel) (by decide +kernel) dX2_init_21 (by decide) (fun c => ?_) (fun c => ?_)
  · exact absurd c (by decide)
  refine lv_aload_n hx hb dX2_init_24 rfl (lv_at hl 1 rfl) ?_
  refine va_get (D := E.1) (ci := 2) (v := .ref q) (C := RX2) (T := TX2) (N := 2) hx hb hts (fun w h => inX2_init w h) hown hK.1 hP 0 rfl rfl 0 (by decide) (hts (.fieldLink RX2 11 "ShirtButtons$History" "states" "[LShirtButtons$State;") (by decide +kernel)) (fun _ h9 => h9) rfl dX2_init_25 ?_
  refine lv_iload_n hx hb dX2_init_28 rfl (lv_at hl 0 rfl) ?_
  refine va_new (D := E.1) (cl := vwCl) (ci := 5) (fs := [.null, .null, .null, .int (zi 0), .int (zi 0), .int (zi 0), .int (zi 0), .int (zi 0)]) (C := RX5) (T := TX5) (N := 8) hx hb hts inX2_init_X5 tyX5 tyX5_ok hown (hts (.classLink RX2 9 RX5) (by decide +kernel)) (hts (.instantiable RX5 8) (by decide +kernel)) (hts (.initialized RX5) (by decide +kernel)) hK.1 hP hD hS hA rfl (fun j hj => by rcases (show j = 0 ∨ j = 1 ∨ j = 2 ∨ j = 3 ∨ j = 4 ∨ j = 5 ∨ j = 6 ∨ j = 7 by omega) with rfl | rfl | rfl | rfl | rfl | rfl | rfl | rfl <;> first | rfl | (show Value.int 0 = Value.int (zi 0); rw [zi_0])) (Nat.le_of_ble_eq_true rfl) (Nat.le_of_ble_eq_true rfl) dX2_init_29 (fun q2 H hP hD hS => ?_)
  refine lv_dup hx hb dX2_init_32 rfl ?_
  refine iv_callNN (wr := (([(h0, .inr (2, [.ref q, .int (zi 0)]))] ++ [(q, .inl (E.2.2.2, 4, .inr (.inr (.inr (.inr (va_up (fun _ => none) 0 (some (a1 0))))))))]) ++ wS a1 E z0S)) (wc := [(q2, .inr (5, [.null, .null, .null, .int (zi 0), .int (zi 0), .int (zi 0), .int (zi 0), .int (zi 0)]))]) (Wf := fun a1 => wS a1 E z0S) (As := []) (rest := [.ref q2, .int (zi 1), .ref q]) ⟨hx, hb, hml, hown, hts⟩ (n_X5 l E H.size q2) ⟨va_cnB 0 hts gX2_init_X5_init_n21 rfl rfl rfl hZ.2.2.2.2.2.1 (hts (.initialized RX5) (by decide +kernel)) (by decide +kernel) ⟨Nat.le_of_ble_eq_true rfl, Nat.le_of_ble_eq_true rfl⟩, rfl, hts (.instanceMethod yX5_init) (by decide +kernel)⟩ hZ hK hP hD hS hA rfl hl.1 (Nat.le_of_ble_eq_true rfl) ⟨Nat.le_of_ble_eq_true rfl, Nat.le_of_ble_eq_true rfl⟩ dX2_init_33 (fun a2 H locs hpo hP1 hD1 hS1 => ?_)
  have hpo : a2 0 = q2 := hpo
  clear hP hD hS
  subst hpo
  have hP := hP1
  have hD := hD1
  have hS := hS1
  clear hP1 hD1 hS1
  refine iv_aast (f := (va_up (fun _ => none) 0 (some (a1 0)))) (f1 := (va_up (va_up (fun _ => none) 0 (some (a1 0))) 1 (some (a2 0)))) (j := 1) (ws1 := ((([(h0, .inr (2, [.ref q, .int (zi 0)]))] ++ [(q, .inl (E.2.2.2, 4, .inr (.inr (.inr (.inr (va_up (va_up (fun _ => none) 0 (some (a1 0))) 1 (some (a2 0))))))))]) ++ wS a1 E z0S) ++ wS a2 E z0S)) (r := (RX5, TX5, 8)) hx hb hK.1 hP hD hS 1 2 18 5 rfl rfl rfl rfl (by decide +kernel) (by decide) (by decide) rfl rfl dX2_init_36 (fun H locs hP hD hS => ?_)
  refine lv_iinc (v := zi 2) (lv' := [(1, .int (zi 2)), (0, .ref h0)]) hx hb dX2_init_37 hl (k := 0) rfl (by decide +kernel) (by decide) rfl (fun ls hl => ?_)
  refine lv_goto (tgt := 19) hx hb dX2_init_40 (by decide) ?_
  refine lv_iload_n hx hb dX2_init_19 rfl (lv_at hl 0 rfl) ?_
  refine iv_iconst hx hb dX2_init_20 ?_
  refine iv_ige (tgt := 43) hx hb (by decide +kernel) (by decide +kernel) dX2_init_21 (by decide) (fun c => ?_) (fun c => ?_)
  · exact absurd c (by decide)
  refine lv_aload_n hx hb dX2_init_24 rfl (lv_at hl 1 rfl) ?_
  refine va_get (D := E.1) (ci := 2) (v := .ref q) (C := RX2) (T := TX2) (N := 2) hx hb hts (fun w h => inX2_init w h) hown hK.1 hP 0 rfl rfl 0 (by decide) (hts (.fieldLink RX2 11 "ShirtButtons$History" "states" "[LShirtButtons$State;") (by decide +kernel)) (fun _ h9 => h9) rfl dX2_init_25 ?_
  refine lv_iload_n hx hb dX2_init_28 rfl (lv_at hl 0 rfl) ?_
  refine va_new (D := E.1) (cl := vwCl) (ci := 5) (fs := [.null, .null, .null, .int (zi 0), .int (zi 0), .int (zi 0), .int (zi 0), .int (zi 0)]) (C := RX5) (T := TX5) (N := 8) hx hb hts inX2_init_X5 tyX5 tyX5_ok hown (hts (.classLink RX2 9 RX5) (by decide +kernel)) (hts (.instantiable RX5 8) (by decide +kernel)) (hts (.initialized RX5) (by decide +kernel)) hK.1 hP hD hS hA rfl (fun j hj => by rcases (show j = 0 ∨ j = 1 ∨ j = 2 ∨ j = 3 ∨ j = 4 ∨ j = 5 ∨ j = 6 ∨ j = 7 by omega) with rfl | rfl | rfl | rfl | rfl | rfl | rfl | rfl <;> first | rfl | (show Value.int 0 = Value.int (zi 0); rw [zi_0])) (Nat.le_of_ble_eq_true rfl) (Nat.le_of_ble_eq_true rfl) dX2_init_29 (fun q3 H hP hD hS => ?_)
  refine lv_dup hx hb dX2_init_32 rfl ?_
  refine iv_callNN (wr := ((([(h0, .inr (2, [.ref q, .int (zi 0)]))] ++ [(q, .inl (E.2.2.2, 4, .inr (.inr (.inr (.inr (va_up (va_up (fun _ => none) 0 (some (a1 0))) 1 (some (a2 0))))))))]) ++ wS a1 E z0S) ++ wS a2 E z0S)) (wc := [(q3, .inr (5, [.null, .null, .null, .int (zi 0), .int (zi 0), .int (zi 0), .int (zi 0), .int (zi 0)]))]) (Wf := fun a1 => wS a1 E z0S) (As := []) (rest := [.ref q3, .int (zi 2), .ref q]) ⟨hx, hb, hml, hown, hts⟩ (n_X5 l E H.size q3) ⟨va_cnB 0 hts gX2_init_X5_init_n21 rfl rfl rfl hZ.2.2.2.2.2.1 (hts (.initialized RX5) (by decide +kernel)) (by decide +kernel) ⟨Nat.le_of_ble_eq_true rfl, Nat.le_of_ble_eq_true rfl⟩, rfl, hts (.instanceMethod yX5_init) (by decide +kernel)⟩ hZ hK hP hD hS hA rfl hl.1 (Nat.le_of_ble_eq_true rfl) ⟨Nat.le_of_ble_eq_true rfl, Nat.le_of_ble_eq_true rfl⟩ dX2_init_33 (fun a3 H locs hpo hP1 hD1 hS1 => ?_)
  have hpo : a3 0 = q3 := hpo
  clear hP hD hS
  subst hpo
  have hP := hP1
  have hD := hD1
  have hS := hS1
  clear hP1 hD1 hS1
  refine iv_aast (f := (va_up (va_up (fun _ => none) 0 (some (a1 0))) 1 (some (a2 0)))) (f1 := (va_up (va_up (va_up (fun _ => none) 0 (some (a1 0))) 1 (some (a2 0))) 2 (some (a3 0)))) (j := 2) (ws1 := (((([(h0, .inr (2, [.ref q, .int (zi 0)]))] ++ [(q, .inl (E.2.2.2, 4, .inr (.inr (.inr (.inr (va_up (va_up (va_up (fun _ => none) 0 (some (a1 0))) 1 (some (a2 0))) 2 (some (a3 0))))))))]) ++ wS a1 E z0S) ++ wS a2 E z0S) ++ wS a3 E z0S)) (r := (RX5, TX5, 8)) hx hb hK.1 hP hD hS 1 2 34 5 rfl rfl rfl rfl (by decide +kernel) (by decide) (by decide) rfl rfl dX2_init_36 (fun H locs hP hD hS => ?_)
  refine lv_iinc (v := zi 3) (lv' := [(1, .int (zi 3)), (0, .ref h0)]) hx hb dX2_init_37 hl (k := 0) rfl (by decide +kernel) (by decide) rfl (fun ls hl => ?_)
  refine lv_goto (tgt := 19) hx hb dX2_init_40 (by decide) ?_
  refine lv_iload_n hx hb dX2_init_19 rfl (lv_at hl 0 rfl) ?_
  refine iv_iconst hx hb dX2_init_20 ?_
  refine iv_ige (tgt := 43) hx hb (by decide +kernel) (by decide +kernel) dX2_init_21 (by decide) (fun c => ?_) (fun c => ?_)
  · exact absurd c (by decide)
  refine lv_aload_n hx hb dX2_init_24 rfl (lv_at hl 1 rfl) ?_
  refine va_get (D := E.1) (ci := 2) (v := .ref q) (C := RX2) (T := TX2) (N := 2) hx hb hts (fun w h => inX2_init w h) hown hK.1 hP 0 rfl rfl 0 (by decide) (hts (.fieldLink RX2 11 "ShirtButtons$History" "states" "[LShirtButtons$State;") (by decide +kernel)) (fun _ h9 => h9) rfl dX2_init_25 ?_
  refine lv_iload_n hx hb dX2_init_28 rfl (lv_at hl 0 rfl) ?_
  refine va_new (D := E.1) (cl := vwCl) (ci := 5) (fs := [.null, .null, .null, .int (zi 0), .int (zi 0), .int (zi 0), .int (zi 0), .int (zi 0)]) (C := RX5) (T := TX5) (N := 8) hx hb hts inX2_init_X5 tyX5 tyX5_ok hown (hts (.classLink RX2 9 RX5) (by decide +kernel)) (hts (.instantiable RX5 8) (by decide +kernel)) (hts (.initialized RX5) (by decide +kernel)) hK.1 hP hD hS hA rfl (fun j hj => by rcases (show j = 0 ∨ j = 1 ∨ j = 2 ∨ j = 3 ∨ j = 4 ∨ j = 5 ∨ j = 6 ∨ j = 7 by omega) with rfl | rfl | rfl | rfl | rfl | rfl | rfl | rfl <;> first | rfl | (show Value.int 0 = Value.int (zi 0); rw [zi_0])) (Nat.le_of_ble_eq_true rfl) (Nat.le_of_ble_eq_true rfl) dX2_init_29 (fun q4 H hP hD hS => ?_)
  refine lv_dup hx hb dX2_init_32 rfl ?_
  refine iv_callNN (wr := (((([(h0, .inr (2, [.ref q, .int (zi 0)]))] ++ [(q, .inl (E.2.2.2, 4, .inr (.inr (.inr (.inr (va_up (va_up (va_up (fun _ => none) 0 (some (a1 0))) 1 (some (a2 0))) 2 (some (a3 0))))))))]) ++ wS a1 E z0S) ++ wS a2 E z0S) ++ wS a3 E z0S)) (wc := [(q4, .inr (5, [.null, .null, .null, .int (zi 0), .int (zi 0), .int (zi 0), .int (zi 0), .int (zi 0)]))]) (Wf := fun a1 => wS a1 E z0S) (As := []) (rest := [.ref q4, .int (zi 3), .ref q]) ⟨hx, hb, hml, hown, hts⟩ (n_X5 l E H.size q4) ⟨va_cnB 0 hts gX2_init_X5_init_n21 rfl rfl rfl hZ.2.2.2.2.2.1 (hts (.initialized RX5) (by decide +kernel)) (by decide +kernel) ⟨Nat.le_of_ble_eq_true rfl, Nat.le_of_ble_eq_true rfl⟩, rfl, hts (.instanceMethod yX5_init) (by decide +kernel)⟩ hZ hK hP hD hS hA rfl hl.1 (Nat.le_of_ble_eq_true rfl) ⟨Nat.le_of_ble_eq_true rfl, Nat.le_of_ble_eq_true rfl⟩ dX2_init_33 (fun a4 H locs hpo hP1 hD1 hS1 => ?_)
  have hpo : a4 0 = q4 := hpo
  clear hP hD hS
  subst hpo
  have hP := hP1
  have hD := hD1
  have hS := hS1
  clear hP1 hD1 hS1
  refine iv_aast (f := (va_up (va_up (va_up (fun _ => none) 0 (some (a1 0))) 1 (some (a2 0))) 2 (some (a3 0)))) (f1 := (va_up (va_up (va_up (va_up (fun _ => none) 0 (some (a1 0))) 1 (some (a2 0))) 2 (some (a3 0))) 3 (some (a4 0)))) (j := 3) (ws1 := ((((([(h0, .inr (2, [.ref q, .int (zi 0)]))] ++ [(q, .inl (E.2.2.2, 4, .inr (.inr (.inr (.inr (va_up (va_up (va_up (va_up (fun _ => none) 0 (some (a1 0))) 1 (some (a2 0))) 2 (some (a3 0))) 3 (some (a4 0))))))))]) ++ wS a1 E z0S) ++ wS a2 E z0S) ++ wS a3 E z0S) ++ wS a4 E z0S)) (r := (RX5, TX5, 8)) hx hb hK.1 hP hD hS 1 2 50 5 rfl rfl rfl rfl (by decide +kernel) (by decide) (by decide) rfl rfl dX2_init_36 (fun H locs hP hD hS => ?_)
  refine lv_iinc (v := zi 4) (lv' := [(1, .int (zi 4)), (0, .ref h0)]) hx hb dX2_init_37 hl (k := 0) rfl (by decide +kernel) (by decide) rfl (fun ls hl => ?_)
  refine lv_goto (tgt := 19) hx hb dX2_init_40 (by decide) ?_
  refine lv_iload_n hx hb dX2_init_19 rfl (lv_at hl 0 rfl) ?_
  refine iv_iconst hx hb dX2_init_20 ?_
  refine iv_ige (tgt := 43) hx hb (by decide +kernel) (by decide +kernel) dX2_init_21 (by decide) (fun c => ?_) (fun c => ?_)
  rotate_left
  · exact absurd (by decide) c
  refine W.widen (k := 65) (n := 1796) (Nat.le_of_ble_eq_true rfl) (Nat.le_of_ble_eq_true rfl) ?_
  have hw : ((((([(h0, .inr (2, [.ref q, .int (zi 0)]))] ++ [(q, .inl (E.2.2.2, 4, .inr (.inr (.inr (.inr (va_up (va_up (va_up (va_up (fun _ => none) 0 (some (a1 0))) 1 (some (a2 0))) 2 (some (a3 0))) 3 (some (a4 0))))))))]) ++ wS a1 E z0S) ++ wS a2 E z0S) ++ wS a3 E z0S) ++ wS a4 E z0S) = wH (aH h0 q a1 a2 a3 a4) (aH h0 q a1 a2 a3 a4) E z0H := by
    rw [h4_new]
    unfold wH
    rw [List.append_assoc, List.append_assoc, List.append_assoc, List.append_assoc]
    rw [wS_cg (a := a1) (a' := fun i => aH h0 q a1 a2 a3 a4 (2 + i)) (fun i hi => by
      unfold aH; rw [if_neg (by omega), if_neg (by omega), if_pos (by omega), show 2 + i - 2 = i by omega])]
    rw [wS_cg (a := a2) (a' := fun i => aH h0 q a1 a2 a3 a4 (18 + i)) (fun i hi => by
      unfold aH; rw [if_neg (by omega), if_neg (by omega), if_neg (by omega), if_pos (by omega), show 18 + i - 18 = i by omega])]
    rw [wS_cg (a := a3) (a' := fun i => aH h0 q a1 a2 a3 a4 (34 + i)) (fun i hi => by
      unfold aH; rw [if_neg (by omega), if_neg (by omega), if_neg (by omega), if_neg (by omega), if_pos (by omega), show 34 + i - 34 = i by omega])]
    rw [wS_cg (a := a4) (a' := fun i => aH h0 q a1 a2 a3 a4 (50 + i)) (fun i hi => by
      unfold aH; rw [if_neg (by omega), if_neg (by omega), if_neg (by omega), if_neg (by omega), if_neg (by omega), show 50 + i - 50 = i by omega])]
    rfl
  exact iv_nret (aH h0 q a1 a2 a3 a4) rfl hw hx hb hr hlocks hK hP hD hS dX2_init_43
theorem wT_cg {a a' : Nat → Nat} {E : wE} {z : bT} (h : ∀ i, i < 2 → a i = a' i) : wT a E z = wT a' E z := by
  unfold wT
  rw [h 0 (by omega), h 1 (by omega)]
theorem wB_cg {a a' : Nat → Nat} {E : wE} {z : bB} (h : ∀ i, i < 7 → a i = a' i) : wB a E z = wB a' E z := by
  unfold wB
  rw [h 0 (by omega), h 1 (by omega), h 2 (by omega), h 3 (by omega), h 4 (by omega), h 5 (by omega), h 6 (by omega)]
theorem wO_cg {a a' : Nat → Nat} {E : wE} {z : bO} (h : ∀ i, i < 3 → a i = a' i) : wO a E z = wO a' E z := by
  unfold wO
  rw [h 0 (by omega), h 1 (by omega), h 2 (by omega)]
theorem wH_cg {a a' hs hs' : Nat → Nat} {E : wE} {z : bH} (h : ∀ i, i < 2 → a i = a' i) (h2 : ∀ i, 2 ≤ i → i < 66 → hs i = hs' i) : wH a hs E z = wH a' hs' E z := by
  unfold wH
  rw [h 0 (by omega), h 1 (by omega), h2 2 (by omega) (by omega), h2 18 (by omega) (by omega), h2 34 (by omega) (by omega), h2 50 (by omega) (by omega)]
  rw [wS_cg (a := fun i => hs (2 + i)) (a' := fun i => hs' (2 + i)) (fun i hi => h2 _ (by omega) (by omega)), wS_cg (a := fun i => hs (18 + i)) (a' := fun i => hs' (18 + i)) (fun i hi => h2 _ (by omega) (by omega)), wS_cg (a := fun i => hs (34 + i)) (a' := fun i => hs' (34 + i)) (fun i hi => h2 _ (by omega) (by omega)), wS_cg (a := fun i => hs (50 + i)) (a' := fun i => hs' (50 + i)) (fun i hi => h2 _ (by omega) (by omega))]
def aX (h : Nat) (a1 a2 a3 a4 a5 a6 a7 : Nat → Nat) : Nat → Nat := fun i => if i = 0 then h else if i < 7 then a2 (i - 1) else if i < 9 then a1 (i - 7) else if i < 12 then a3 (i - 9) else if i < 78 then a4 (i - 12) else if i < 94 then a5 (i - 78) else if i < 110 then a6 (i - 94) else a7 (i - 110)
set_option maxRecDepth 20000 in
theorem inX7_init_X6 : ∀ w ∈ u_ws RX6 TX6 2, w ∈ wsX7_init := by decide +kernel
set_option maxRecDepth 20000 in
theorem inX7_init_X0 : ∀ w ∈ u_ws RX0 TX0 8, w ∈ wsX7_init := by decide +kernel
set_option maxRecDepth 20000 in
theorem inX7_init_X3 : ∀ w ∈ u_ws RX3 TX3 3, w ∈ wsX7_init := by decide +kernel
set_option maxRecDepth 20000 in
theorem inX7_init_X2 : ∀ w ∈ u_ws RX2 TX2 2, w ∈ wsX7_init := by decide +kernel
set_option maxRecDepth 20000 in
theorem inX7_init_X5 : ∀ w ∈ u_ws RX5 TX5 8, w ∈ wsX7_init := by decide +kernel
set_option maxRecDepth 20000 in
theorem inX7_init : ∀ w ∈ u_ws RX7 TX7 8, w ∈ wsX7_init := by decide +kernel
set_option maxHeartbeats 8000000 in
set_option maxRecDepth 100000 in
theorem n_X7 (l : Launch) (E : wE) (sz h0 : Nat) : cN l yX7_init wsX7_init { frames := 4, cells := 125, slots := 3370, locals := 73 } E sz [.ref h0] [(h0, .inr (7, [.null, .null, .null, .null, .null, .null, .null, .int (zi 0)]))] (fun a1 => a1 0 = h0) (fun a1 => wX a1 (fun i => a1 (12 + i)) E z0X) 125 3370 := by
  refine met_goN (cc := cX7_init) (maxL := 1) (by decide +kernel) rfl rfl (Nat.le_of_ble_eq_true rfl) ?_
  intro A p e s m below meth c hx hb hr hml hts hown hlocks hin hZ hP hK hD hA hS ls hl
  have hl : lv_has ls 1 [(0, .ref h0)] := hl
  generalize hH : s.heap = H at hP
  have hS : va_S A s.heap H [] := by rw [← hH]; exact hS
  have hown : s.vm.findClass RX7 = some m.cls := hown
  refine lv_aload_n hx hb dX7_init_0 rfl (lv_at hl 0 rfl) ?_
  refine W.objInit hx hb hown (hts (.methodLink RX7 1 objectInit) (by decide +kernel)) (hts (.instanceMethod objectInit) (by decide +kernel)) (hts _ (List.mem_cons_of_mem _ (List.mem_of_getElem? (i := 2) rfl))) rfl (by rw [hml]; exact hl.1) rfl dX7_init_1 (Nat.le_of_ble_eq_true rfl) (Nat.le_of_ble_eq_true rfl) ?_
  refine W.eq (g2 := F0 m 4 ls []) rfl ?_
  refine lv_aload_n hx hb dX7_init_4 rfl (lv_at hl 0 rfl) ?_
  refine va_new (D := E.1) (cl := vwCl) (ci := 6) (fs := [.null, .int (zi 0)]) (C := RX6) (T := TX6) (N := 2) hx hb hts inX7_init_X6 tyX6 tyX6_ok hown (hts (.classLink RX7 7 RX6) (by decide +kernel)) (hts (.instantiable RX6 2) (by decide +kernel)) (hts (.initialized RX6) (by decide +kernel)) hK.1 hP hD hS hA rfl (fun j hj => by rcases (show j = 0 ∨ j = 1 by omega) with rfl | rfl <;> first | rfl | (show Value.int 0 = Value.int (zi 0); rw [zi_0])) (Nat.le_of_ble_eq_true rfl) (Nat.le_of_ble_eq_true rfl) dX7_init_5 (fun q1 H hP hD hS => ?_)
  refine lv_dup hx hb dX7_init_8 rfl ?_
  refine iv_callNN (wr := [(h0, .inr (7, [.null, .null, .null, .null, .null, .null, .null, .int (zi 0)]))]) (wc := [(q1, .inr (6, [.null, .int (zi 0)]))]) (Wf := fun a1 => wT a1 E z0T) (As := []) (rest := [.ref q1, .ref h0]) ⟨hx, hb, hml, hown, hts⟩ (n_X6 l E H.size q1) ⟨va_cnB 0 hts gX7_init_X6_init_n9 rfl rfl rfl hZ.2.2.2.1 (hts (.initialized RX6) (by decide +kernel)) (by decide +kernel) ⟨Nat.le_of_ble_eq_true rfl, Nat.le_of_ble_eq_true rfl⟩, rfl, hts (.instanceMethod yX6_init) (by decide +kernel)⟩ hZ hK hP hD hS hA rfl hl.1 (Nat.le_of_ble_eq_true rfl) ⟨Nat.le_of_ble_eq_true rfl, Nat.le_of_ble_eq_true rfl⟩ dX7_init_9 (fun a1 H locs hpo hP1 hD1 hS1 => ?_)
  have hpo : a1 0 = q1 := hpo
  clear hP hD hS
  subst hpo
  have hP := hP1
  have hD := hD1
  have hS := hS1
  clear hP1 hD1 hS1
  refine iv_putF (ci := 7) (v := .ref (a1 0)) (ty := (.object "ShirtButtons$Text")) (ws1 := ([(h0, .inr (7, [.ref (a1 0), .null, .null, .null, .null, .null, .null, .int (zi 0)]))] ++ wT a1 E z0T)) (C := RX7) (T := TX7) (N := 8) hx hb hts (fun w h => inX7_init w h) tyX7 tyX7_ok nmX7 hown hK hP hD hS 0 rfl rfl 0 (by decide) (hts (.fieldLink RX7 10 "ShirtButtons" "text" "LShirtButtons$Text;") (by decide +kernel)) (fun _ h9 => h9) rfl hin rfl (by decide +kernel) rfl rfl (Nat.le_of_ble_eq_true rfl) rfl dX7_init_12 (fun H locs hP hD hS => ?_)
  refine lv_aload_n hx hb dX7_init_15 rfl (lv_at hl 0 rfl) ?_
  refine va_new (D := E.1) (cl := vwCl) (ci := 0) (fs := [.null, .null, .null, .null, .null, .int (zi 0), .null, .int (zi 0)]) (C := RX0) (T := TX0) (N := 8) hx hb hts inX7_init_X0 tyX0 tyX0_ok hown (hts (.classLink RX7 16 RX0) (by decide +kernel)) (hts (.instantiable RX0 8) (by decide +kernel)) (hts (.initialized RX0) (by decide +kernel)) hK.1 hP hD hS hA rfl (fun j hj => by rcases (show j = 0 ∨ j = 1 ∨ j = 2 ∨ j = 3 ∨ j = 4 ∨ j = 5 ∨ j = 6 ∨ j = 7 by omega) with rfl | rfl | rfl | rfl | rfl | rfl | rfl | rfl <;> first | rfl | (show Value.int 0 = Value.int (zi 0); rw [zi_0])) (Nat.le_of_ble_eq_true rfl) (Nat.le_of_ble_eq_true rfl) dX7_init_16 (fun q2 H hP hD hS => ?_)
  refine lv_dup hx hb dX7_init_19 rfl ?_
  refine lv_aload_n hx hb dX7_init_20 rfl (lv_at hl 0 rfl) ?_
  refine va_get (D := E.1) (ci := 7) (v := .ref (a1 0)) (C := RX7) (T := TX7) (N := 8) hx hb hts (fun w h => inX7_init w h) hown hK.1 hP 0 rfl rfl 0 (by decide) (hts (.fieldLink RX7 10 "ShirtButtons" "text" "LShirtButtons$Text;") (by decide +kernel)) (fun _ h9 => h9) rfl dX7_init_21 ?_
  refine iv_callN (wr := ([(h0, .inr (7, [.ref (a1 0), .null, .null, .null, .null, .null, .null, .int (zi 0)]))] ++ wT a1 E z0T)) (wc := [(q2, .inr (0, [.null, .null, .null, .null, .null, .int (zi 0), .null, .int (zi 0)]))]) (Wf := fun a1 => wB a1 E z0B) (As := [.ref (a1 0)]) (rest := [.ref q2, .ref h0]) ⟨hx, hb, hml, hown, hts⟩ (n_X0 l E H.size q2 (a1 0)) (cwI 1 hts gX7_init_X0_init rfl rfl rfl (hts (.initialized RX0) (by decide +kernel)) (hts (.methodLink RX7 18 yX0_init) (by decide +kernel)) (hts (.instanceMethod yX0_init) (by decide +kernel)) rfl (by decide +kernel) ⟨Nat.le_of_ble_eq_true rfl, Nat.le_of_ble_eq_true rfl⟩) hZ hK hP hD hS hA rfl hl.1 (Nat.le_of_ble_eq_true rfl) ⟨Nat.le_of_ble_eq_true rfl, Nat.le_of_ble_eq_true rfl⟩ dX7_init_24 (fun a2 H locs hpo hP1 hD1 hS1 => ?_)
  obtain ⟨hpo, hpo6⟩ := hpo
  have hpo : a2 0 = q2 := hpo
  clear hP hD hS
  subst hpo
  have hP := hP1
  have hD := hD1
  have hS := hS1
  clear hP1 hD1 hS1
  refine iv_putF (ci := 7) (v := .ref (a2 0)) (ty := (.object "ShirtButtons$Batch")) (ws1 := (([(h0, .inr (7, [.ref (a1 0), .ref (a2 0), .null, .null, .null, .null, .null, .int (zi 0)]))] ++ wT a1 E z0T) ++ wB a2 E z0B)) (C := RX7) (T := TX7) (N := 8) hx hb hts (fun w h => inX7_init w h) tyX7 tyX7_ok nmX7 hown hK hP hD hS 0 rfl rfl 1 (by decide) (hts (.fieldLink RX7 21 "ShirtButtons" "batch" "LShirtButtons$Batch;") (by decide +kernel)) (fun _ h9 => h9) rfl hin rfl (by decide +kernel) rfl rfl (Nat.le_of_ble_eq_true rfl) rfl dX7_init_27 (fun H locs hP hD hS => ?_)
  refine lv_aload_n hx hb dX7_init_30 rfl (lv_at hl 0 rfl) ?_
  refine va_new (D := E.1) (cl := vwCl) (ci := 3) (fs := [.null, .null, .int (zi 0)]) (C := RX3) (T := TX3) (N := 3) hx hb hts inX7_init_X3 tyX3 tyX3_ok hown (hts (.classLink RX7 25 RX3) (by decide +kernel)) (hts (.instantiable RX3 3) (by decide +kernel)) (hts (.initialized RX3) (by decide +kernel)) hK.1 hP hD hS hA rfl (fun j hj => by rcases (show j = 0 ∨ j = 1 ∨ j = 2 by omega) with rfl | rfl | rfl <;> first | rfl | (show Value.int 0 = Value.int (zi 0); rw [zi_0])) (Nat.le_of_ble_eq_true rfl) (Nat.le_of_ble_eq_true rfl) dX7_init_31 (fun q3 H hP hD hS => ?_)
  refine lv_dup hx hb dX7_init_34 rfl ?_
  refine iv_callNN (wr := (([(h0, .inr (7, [.ref (a1 0), .ref (a2 0), .null, .null, .null, .null, .null, .int (zi 0)]))] ++ wT a1 E z0T) ++ wB a2 E z0B)) (wc := [(q3, .inr (3, [.null, .null, .int (zi 0)]))]) (Wf := fun a1 => wO a1 E z0O) (As := []) (rest := [.ref q3, .ref h0]) ⟨hx, hb, hml, hown, hts⟩ (n_X3 l E H.size q3) ⟨va_cnB 0 hts gX7_init_X3_init_n27 rfl rfl rfl hZ.2.2.2.2.1 (hts (.initialized RX3) (by decide +kernel)) (by decide +kernel) ⟨Nat.le_of_ble_eq_true rfl, Nat.le_of_ble_eq_true rfl⟩, rfl, hts (.instanceMethod yX3_init) (by decide +kernel)⟩ hZ hK hP hD hS hA rfl hl.1 (Nat.le_of_ble_eq_true rfl) ⟨Nat.le_of_ble_eq_true rfl, Nat.le_of_ble_eq_true rfl⟩ dX7_init_35 (fun a3 H locs hpo hP1 hD1 hS1 => ?_)
  have hpo : a3 0 = q3 := hpo
  clear hP hD hS
  subst hpo
  have hP := hP1
  have hD := hD1
  have hS := hS1
  clear hP1 hD1 hS1
  refine iv_putF (ci := 7) (v := .ref (a3 0)) (ty := (.object "ShirtButtons$Order")) (ws1 := ((([(h0, .inr (7, [.ref (a1 0), .ref (a2 0), .ref (a3 0), .null, .null, .null, .null, .int (zi 0)]))] ++ wT a1 E z0T) ++ wB a2 E z0B) ++ wO a3 E z0O)) (C := RX7) (T := TX7) (N := 8) hx hb hts (fun w h => inX7_init w h) tyX7 tyX7_ok nmX7 hown hK hP hD hS 0 rfl rfl 2 (by decide) (hts (.fieldLink RX7 28 "ShirtButtons" "order" "LShirtButtons$Order;") (by decide +kernel)) (fun _ h9 => h9) rfl hin rfl (by decide +kernel) rfl rfl (Nat.le_of_ble_eq_true rfl) rfl dX7_init_38 (fun H locs hP hD hS => ?_)
  refine lv_aload_n hx hb dX7_init_41 rfl (lv_at hl 0 rfl) ?_
  refine va_new (D := E.1) (cl := vwCl) (ci := 2) (fs := [.null, .int (zi 0)]) (C := RX2) (T := TX2) (N := 2) hx hb hts inX7_init_X2 tyX2 tyX2_ok hown (hts (.classLink RX7 32 RX2) (by decide +kernel)) (hts (.instantiable RX2 2) (by decide +kernel)) (hts (.initialized RX2) (by decide +kernel)) hK.1 hP hD hS hA rfl (fun j hj => by rcases (show j = 0 ∨ j = 1 by omega) with rfl | rfl <;> first | rfl | (show Value.int 0 = Value.int (zi 0); rw [zi_0])) (Nat.le_of_ble_eq_true rfl) (Nat.le_of_ble_eq_true rfl) dX7_init_42 (fun q4 H hP hD hS => ?_)
  refine lv_dup hx hb dX7_init_45 rfl ?_
  refine iv_callN (wr := ((([(h0, .inr (7, [.ref (a1 0), .ref (a2 0), .ref (a3 0), .null, .null, .null, .null, .int (zi 0)]))] ++ wT a1 E z0T) ++ wB a2 E z0B) ++ wO a3 E z0O)) (wc := [(q4, .inr (2, [.null, .int (zi 0)]))]) (Wf := fun a1 => wH a1 a1 E z0H) (As := []) (rest := [.ref q4, .ref h0]) ⟨hx, hb, hml, hown, hts⟩ (n_X2 l E H.size q4) (cwI 0 hts gX7_init_X2_init rfl rfl rfl (hts (.initialized RX2) (by decide +kernel)) (hts (.methodLink RX7 34 yX2_init) (by decide +kernel)) (hts (.instanceMethod yX2_init) (by decide +kernel)) rfl (by decide +kernel) ⟨Nat.le_of_ble_eq_true rfl, Nat.le_of_ble_eq_true rfl⟩) hZ hK hP hD hS hA rfl hl.1 (Nat.le_of_ble_eq_true rfl) ⟨Nat.le_of_ble_eq_true rfl, Nat.le_of_ble_eq_true rfl⟩ dX7_init_46 (fun a4 H locs hpo hP1 hD1 hS1 => ?_)
  have hpo : a4 0 = q4 := hpo
  clear hP hD hS
  subst hpo
  have hP := hP1
  have hD := hD1
  have hS := hS1
  clear hP1 hD1 hS1
  refine iv_putF (ci := 7) (v := .ref (a4 0)) (ty := (.object "ShirtButtons$History")) (ws1 := (((([(h0, .inr (7, [.ref (a1 0), .ref (a2 0), .ref (a3 0), .ref (a4 0), .null, .null, .null, .int (zi 0)]))] ++ wT a1 E z0T) ++ wB a2 E z0B) ++ wO a3 E z0O) ++ wH a4 a4 E z0H)) (C := RX7) (T := TX7) (N := 8) hx hb hts (fun w h => inX7_init w h) tyX7 tyX7_ok nmX7 hown hK hP hD hS 0 rfl rfl 3 (by decide) (hts (.fieldLink RX7 35 "ShirtButtons" "history" "LShirtButtons$History;") (by decide +kernel)) (fun _ h9 => h9) rfl hin rfl (by decide +kernel) rfl rfl (Nat.le_of_ble_eq_true rfl) rfl dX7_init_49 (fun H locs hP hD hS => ?_)
  refine lv_aload_n hx hb dX7_init_52 rfl (lv_at hl 0 rfl) ?_
  refine va_new (D := E.1) (cl := vwCl) (ci := 5) (fs := [.null, .null, .null, .int (zi 0), .int (zi 0), .int (zi 0), .int (zi 0), .int (zi 0)]) (C := RX5) (T := TX5) (N := 8) hx hb hts inX7_init_X5 tyX5 tyX5_ok hown (hts (.classLink RX7 39 RX5) (by decide +kernel)) (hts (.instantiable RX5 8) (by decide +kernel)) (hts (.initialized RX5) (by decide +kernel)) hK.1 hP hD hS hA rfl (fun j hj => by rcases (show j = 0 ∨ j = 1 ∨ j = 2 ∨ j = 3 ∨ j = 4 ∨ j = 5 ∨ j = 6 ∨ j = 7 by omega) with rfl | rfl | rfl | rfl | rfl | rfl | rfl | rfl <;> first | rfl | (show Value.int 0 = Value.int (zi 0); rw [zi_0])) (Nat.le_of_ble_eq_true rfl) (Nat.le_of_ble_eq_true rfl) dX7_init_53 (fun q5 H hP hD hS => ?_)
  refine lv_dup hx hb dX7_init_56 rfl ?_
  refine iv_callNN (wr := (((([(h0, .inr (7, [.ref (a1 0), .ref (a2 0), .ref (a3 0), .ref (a4 0), .null, .null, .null, .int (zi 0)]))] ++ wT a1 E z0T) ++ wB a2 E z0B) ++ wO a3 E z0O) ++ wH a4 a4 E z0H)) (wc := [(q5, .inr (5, [.null, .null, .null, .int (zi 0), .int (zi 0), .int (zi 0), .int (zi 0), .int (zi 0)]))]) (Wf := fun a1 => wS a1 E z0S) (As := []) (rest := [.ref q5, .ref h0]) ⟨hx, hb, hml, hown, hts⟩ (n_X5 l E H.size q5) ⟨va_cnB 0 hts gX7_init_X5_init_n41 rfl rfl rfl hZ.2.2.2.2.2.2.2.2.1 (hts (.initialized RX5) (by decide +kernel)) (by decide +kernel) ⟨Nat.le_of_ble_eq_true rfl, Nat.le_of_ble_eq_true rfl⟩, rfl, hts (.instanceMethod yX5_init) (by decide +kernel)⟩ hZ hK hP hD hS hA rfl hl.1 (Nat.le_of_ble_eq_true rfl) ⟨Nat.le_of_ble_eq_true rfl, Nat.le_of_ble_eq_true rfl⟩ dX7_init_57 (fun a5 H locs hpo hP1 hD1 hS1 => ?_)
  have hpo : a5 0 = q5 := hpo
  clear hP hD hS
  subst hpo
  have hP := hP1
  have hD := hD1
  have hS := hS1
  clear hP1 hD1 hS1
  refine iv_putF (ci := 7) (v := .ref (a5 0)) (ty := (.object "ShirtButtons$State")) (ws1 := ((((([(h0, .inr (7, [.ref (a1 0), .ref (a2 0), .ref (a3 0), .ref (a4 0), .ref (a5 0), .null, .null, .int (zi 0)]))] ++ wT a1 E z0T) ++ wB a2 E z0B) ++ wO a3 E z0O) ++ wH a4 a4 E z0H) ++ wS a5 E z0S)) (C := RX7) (T := TX7) (N := 8) hx hb hts (fun w h => inX7_init w h) tyX7 tyX7_ok nmX7 hown hK hP hD hS 0 rfl rfl 4 (by decide) (hts (.fieldLink RX7 42 "ShirtButtons" "now" "LShirtButtons$State;") (by decide +kernel)) (fun _ h9 => h9) rfl hin rfl (by decide +kernel) rfl rfl (Nat.le_of_ble_eq_true rfl) rfl dX7_init_60 (fun H locs hP hD hS => ?_)
  refine lv_aload_n hx hb dX7_init_63 rfl (lv_at hl 0 rfl) ?_
  refine va_new (D := E.1) (cl := vwCl) (ci := 5) (fs := [.null, .null, .null, .int (zi 0), .int (zi 0), .int (zi 0), .int (zi 0), .int (zi 0)]) (C := RX5) (T := TX5) (N := 8) hx hb hts inX7_init_X5 tyX5 tyX5_ok hown (hts (.classLink RX7 39 RX5) (by decide +kernel)) (hts (.instantiable RX5 8) (by decide +kernel)) (hts (.initialized RX5) (by decide +kernel)) hK.1 hP hD hS hA rfl (fun j hj => by rcases (show j = 0 ∨ j = 1 ∨ j = 2 ∨ j = 3 ∨ j = 4 ∨ j = 5 ∨ j = 6 ∨ j = 7 by omega) with rfl | rfl | rfl | rfl | rfl | rfl | rfl | rfl <;> first | rfl | (show Value.int 0 = Value.int (zi 0); rw [zi_0])) (Nat.le_of_ble_eq_true rfl) (Nat.le_of_ble_eq_true rfl) dX7_init_64 (fun q6 H hP hD hS => ?_)
  refine lv_dup hx hb dX7_init_67 rfl ?_
  refine iv_callNN (wr := ((((([(h0, .inr (7, [.ref (a1 0), .ref (a2 0), .ref (a3 0), .ref (a4 0), .ref (a5 0), .null, .null, .int (zi 0)]))] ++ wT a1 E z0T) ++ wB a2 E z0B) ++ wO a3 E z0O) ++ wH a4 a4 E z0H) ++ wS a5 E z0S)) (wc := [(q6, .inr (5, [.null, .null, .null, .int (zi 0), .int (zi 0), .int (zi 0), .int (zi 0), .int (zi 0)]))]) (Wf := fun a1 => wS a1 E z0S) (As := []) (rest := [.ref q6, .ref h0]) ⟨hx, hb, hml, hown, hts⟩ (n_X5 l E H.size q6) ⟨va_cnB 0 hts gX7_init_X5_init_n41 rfl rfl rfl hZ.2.2.2.2.2.2.2.2.1 (hts (.initialized RX5) (by decide +kernel)) (by decide +kernel) ⟨Nat.le_of_ble_eq_true rfl, Nat.le_of_ble_eq_true rfl⟩, rfl, hts (.instanceMethod yX5_init) (by decide +kernel)⟩ hZ hK hP hD hS hA rfl hl.1 (Nat.le_of_ble_eq_true rfl) ⟨Nat.le_of_ble_eq_true rfl, Nat.le_of_ble_eq_true rfl⟩ dX7_init_68 (fun a6 H locs hpo hP1 hD1 hS1 => ?_)
  have hpo : a6 0 = q6 := hpo
  clear hP hD hS
  subst hpo
  have hP := hP1
  have hD := hD1
  have hS := hS1
  clear hP1 hD1 hS1
  refine iv_putF (ci := 7) (v := .ref (a6 0)) (ty := (.object "ShirtButtons$State")) (ws1 := (((((([(h0, .inr (7, [.ref (a1 0), .ref (a2 0), .ref (a3 0), .ref (a4 0), .ref (a5 0), .ref (a6 0), .null, .int (zi 0)]))] ++ wT a1 E z0T) ++ wB a2 E z0B) ++ wO a3 E z0O) ++ wH a4 a4 E z0H) ++ wS a5 E z0S) ++ wS a6 E z0S)) (C := RX7) (T := TX7) (N := 8) hx hb hts (fun w h => inX7_init w h) tyX7 tyX7_ok nmX7 hown hK hP hD hS 0 rfl rfl 5 (by decide) (hts (.fieldLink RX7 46 "ShirtButtons" "snapshot" "LShirtButtons$State;") (by decide +kernel)) (fun _ h9 => h9) rfl hin rfl (by decide +kernel) rfl rfl (Nat.le_of_ble_eq_true rfl) rfl dX7_init_71 (fun H locs hP hD hS => ?_)
  refine lv_aload_n hx hb dX7_init_74 rfl (lv_at hl 0 rfl) ?_
  refine va_new (D := E.1) (cl := vwCl) (ci := 5) (fs := [.null, .null, .null, .int (zi 0), .int (zi 0), .int (zi 0), .int (zi 0), .int (zi 0)]) (C := RX5) (T := TX5) (N := 8) hx hb hts inX7_init_X5 tyX5 tyX5_ok hown (hts (.classLink RX7 39 RX5) (by decide +kernel)) (hts (.instantiable RX5 8) (by decide +kernel)) (hts (.initialized RX5) (by decide +kernel)) hK.1 hP hD hS hA rfl (fun j hj => by rcases (show j = 0 ∨ j = 1 ∨ j = 2 ∨ j = 3 ∨ j = 4 ∨ j = 5 ∨ j = 6 ∨ j = 7 by omega) with rfl | rfl | rfl | rfl | rfl | rfl | rfl | rfl <;> first | rfl | (show Value.int 0 = Value.int (zi 0); rw [zi_0])) (Nat.le_of_ble_eq_true rfl) (Nat.le_of_ble_eq_true rfl) dX7_init_75 (fun q7 H hP hD hS => ?_)
  refine lv_dup hx hb dX7_init_78 rfl ?_
  refine iv_callNN (wr := (((((([(h0, .inr (7, [.ref (a1 0), .ref (a2 0), .ref (a3 0), .ref (a4 0), .ref (a5 0), .ref (a6 0), .null, .int (zi 0)]))] ++ wT a1 E z0T) ++ wB a2 E z0B) ++ wO a3 E z0O) ++ wH a4 a4 E z0H) ++ wS a5 E z0S) ++ wS a6 E z0S)) (wc := [(q7, .inr (5, [.null, .null, .null, .int (zi 0), .int (zi 0), .int (zi 0), .int (zi 0), .int (zi 0)]))]) (Wf := fun a1 => wS a1 E z0S) (As := []) (rest := [.ref q7, .ref h0]) ⟨hx, hb, hml, hown, hts⟩ (n_X5 l E H.size q7) ⟨va_cnB 0 hts gX7_init_X5_init_n41 rfl rfl rfl hZ.2.2.2.2.2.2.2.2.1 (hts (.initialized RX5) (by decide +kernel)) (by decide +kernel) ⟨Nat.le_of_ble_eq_true rfl, Nat.le_of_ble_eq_true rfl⟩, rfl, hts (.instanceMethod yX5_init) (by decide +kernel)⟩ hZ hK hP hD hS hA rfl hl.1 (Nat.le_of_ble_eq_true rfl) ⟨Nat.le_of_ble_eq_true rfl, Nat.le_of_ble_eq_true rfl⟩ dX7_init_79 (fun a7 H locs hpo hP1 hD1 hS1 => ?_)
  have hpo : a7 0 = q7 := hpo
  clear hP hD hS
  subst hpo
  have hP := hP1
  have hD := hD1
  have hS := hS1
  clear hP1 hD1 hS1
  refine iv_putF (ci := 7) (v := .ref (a7 0)) (ty := (.object "ShirtButtons$State")) (ws1 := ((((((([(h0, .inr (7, [.ref (a1 0), .ref (a2 0), .ref (a3 0), .ref (a4 0), .ref (a5 0), .ref (a6 0), .ref (a7 0), .int (zi 0)]))] ++ wT a1 E z0T) ++ wB a2 E z0B) ++ wO a3 E z0O) ++ wH a4 a4 E z0H) ++ wS a5 E z0S) ++ wS a6 E z0S) ++ wS a7 E z0S)) (C := RX7) (T := TX7) (N := 8) hx hb hts (fun w h => inX7_init w h) tyX7 tyX7_ok nmX7 hown hK hP hD hS 0 rfl rfl 6 (by decide) (hts (.fieldLink RX7 49 "ShirtButtons" "trial" "LShirtButtons$State;") (by decide +kernel)) (fun _ h9 => h9) rfl hin rfl (by decide +kernel) rfl rfl (Nat.le_of_ble_eq_true rfl) rfl dX7_init_82 (fun H locs hP hD hS => ?_)
  refine lv_aload_n hx hb dX7_init_85 rfl (lv_at hl 0 rfl) ?_
  refine iv_iconst hx hb dX7_init_86 ?_
  refine iv_put (D := E.1) (ci := 7) (v := .int (zi 0)) (ty := .boolean) (ws1 := ((((((([(h0, .inr (7, [.ref (a1 0), .ref (a2 0), .ref (a3 0), .ref (a4 0), .ref (a5 0), .ref (a6 0), .ref (a7 0), .int (zi 0)]))] ++ wT a1 E z0T) ++ wB a2 E z0B) ++ wO a3 E z0O) ++ wH a4 a4 E z0H) ++ wS a5 E z0S) ++ wS a6 E z0S) ++ wS a7 E z0S)) (C := RX7) (T := TX7) (N := 8) hx hb hts (fun w h => inX7_init w h) tyX7 tyX7_ok nmX7 hown hK.1 hP hD hS 0 rfl rfl 7 (by decide) (hts (.fieldLink RX7 52 "ShirtButtons" "hasSnapshot" "Z") (by decide +kernel)) (fun _ h9 => h9) rfl (by decide +kernel) rfl rfl (Nat.le_of_ble_eq_true rfl) rfl dX7_init_87 (fun H locs hP hD hS => ?_)
  refine W.widen (k := 125) (n := 3370) (Nat.le_of_ble_eq_true rfl) (Nat.le_of_ble_eq_true rfl) ?_
  have hw : List.Perm (((((((([(h0, .inr (7, [.ref (a1 0), .ref (a2 0), .ref (a3 0), .ref (a4 0), .ref (a5 0), .ref (a6 0), .ref (a7 0), .int (zi 0)]))] ++ wT a1 E z0T) ++ wB a2 E z0B) ++ wO a3 E z0O) ++ wH a4 a4 E z0H) ++ wS a5 E z0S) ++ wS a6 E z0S) ++ wS a7 E z0S) : va_W) (wX (aX h0 a1 a2 a3 a4 a5 a6 a7) (fun i => (aX h0 a1 a2 a3 a4 a5 a6 a7) (12 + i)) E z0X) := by
    have e1 : wT a1 E z0T = wT (fun i => (aX h0 a1 a2 a3 a4 a5 a6 a7) (1 + (6 + i))) E z0T := wT_cg (fun i hi => by unfold aX; rw [if_neg (by omega), if_neg (by omega), if_pos (by omega), show 1 + (6 + i) - 7 = i by omega])
    have e2 : wB a2 E z0B = wB (fun i => (aX h0 a1 a2 a3 a4 a5 a6 a7) (1 + i)) E z0B := wB_cg (fun i hi => by
      unfold aX
      by_cases h6 : i = 6
      · subst h6
        rw [if_neg (by omega), if_neg (by omega), if_pos (by omega)]
        exact hpo6
      · rw [if_neg (by omega), if_pos (by omega), show 1 + i - 1 = i by omega])
    have e3 : wO a3 E z0O = wO (fun i => (aX h0 a1 a2 a3 a4 a5 a6 a7) (9 + i)) E z0O := wO_cg (fun i hi => by unfold aX; rw [if_neg (by omega), if_neg (by omega), if_neg (by omega), if_pos (by omega), show 9 + i - 9 = i by omega])
    have e4 : wH a4 a4 E z0H = wH (fun i => (aX h0 a1 a2 a3 a4 a5 a6 a7) (12 + i)) (fun i => (aX h0 a1 a2 a3 a4 a5 a6 a7) (12 + i)) E z0H := wH_cg (fun i hi => by unfold aX; rw [if_neg (by omega), if_neg (by omega), if_neg (by omega), if_neg (by omega), if_pos (by omega), show 12 + i - 12 = i by omega]) (fun i h1 h2 => by unfold aX; rw [if_neg (by omega), if_neg (by omega), if_neg (by omega), if_neg (by omega), if_pos (by omega), show 12 + i - 12 = i by omega])
    have e5 : wS a5 E z0S = wS (fun i => (aX h0 a1 a2 a3 a4 a5 a6 a7) (78 + i)) E z0S := wS_cg (fun i hi => by unfold aX; rw [if_neg (by omega), if_neg (by omega), if_neg (by omega), if_neg (by omega), if_neg (by omega), if_pos (by omega), show 78 + i - 78 = i by omega])
    have e6 : wS a6 E z0S = wS (fun i => (aX h0 a1 a2 a3 a4 a5 a6 a7) (94 + i)) E z0S := wS_cg (fun i hi => by unfold aX; rw [if_neg (by omega), if_neg (by omega), if_neg (by omega), if_neg (by omega), if_neg (by omega), if_neg (by omega), if_pos (by omega), show 94 + i - 94 = i by omega])
    have e7 : wS a7 E z0S = wS (fun i => (aX h0 a1 a2 a3 a4 a5 a6 a7) (110 + i)) E z0S := wS_cg (fun i hi => by unfold aX; rw [if_neg (by omega), if_neg (by omega), if_neg (by omega), if_neg (by omega), if_neg (by omega), if_neg (by omega), if_neg (by omega), show 110 + i - 110 = i by omega])
    rw [List.append_assoc, List.append_assoc, List.append_assoc, List.append_assoc, List.append_assoc, List.append_assoc, e1, e2, e3, e4, e5, e6, e7]
    unfold wX wBT
    refine List.Perm.append_left _ ?_
    rw [← List.append_assoc]
    exact List.Perm.append_right _ List.perm_append_comm
  exact iv_nret (aX h0 a1 a2 a3 a4 a5 a6 a7) rfl rfl hx hb hr hlocks hK (pm_P hw hP) (pm_D hw hD) hS dX7_init_90
