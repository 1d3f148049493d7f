/-! the law's loop, and the law from its entry -/
set_option maxHeartbeats 4000000 in
set_option maxRecDepth 100000 in
theorem law_body {p : Program} {l : Launch} {e : Env} {s : State} {m : MethodId} {below : List Frame} {meth : Method} {c : Code} {E : wE} {a am : Nat → Nat} {b L : Nat} {xs : Nat → Int32} {ls : Array Slot} {Q : State → Prop} (hL : L ≤ 2048) (C0 : lw_At p s m meth c b L xs) (hZ : mSt s (fun q : Nat => s.heap.size ≤ q) s.heap) (hK : KK E s) {i : Nat} (hi : i + 4 ≤ L) (hl : lv_has ls 4 [(0, .ref b), (1, .ref (a 0)), (2, .ref (am 0)), (3, .int (zi (i : Int)))]) (kk : lw_K p l e s m below meth c E a am b ls Q 647) : lw_K p l e s m below meth c E a am b ls Q 26 := by
  have C1 := C0
  obtain ⟨hx, hb, hr, hml, hown, hts0, hX, hbl, hlocks, hgv⟩ := C0
  have hb : c.code = cL_law := hb
  have hbA : ¬ (fun q : Nat => s.heap.size ≤ q) b := Nat.not_le.mpr hbl
  intro hs x y H locs hR hP hD hS
  refine lv_aload_n hx hb dL_law_26 rfl (lv_at hl 0 rfl) ?_
  refine lv_iload_n hx hb dL_law_27 rfl (lv_at hl 3 rfl) ?_
  refine iv_sld (j := i) hx hb hL hX hbl hbA hS rfl (by omega) dL_law_28 ?_
  refine iv_bipush hx hb dL_law_29 (by decide +kernel) ?_
  refine lv_iand hx hb dL_law_31 ?_
  obtain ⟨k, hk, ek⟩ := and31 (zi (xs i).toInt)
  rw [ek]
  have gk : rg (k : Int) = true := rg_of (by omega)
  rcases (show k = 0 ∨ k = 1 ∨ k = 2 ∨ k = 3 ∨ k = 4 ∨ k = 5 ∨ k = 6 ∨ k = 7 ∨ k = 8 ∨ k = 9 ∨ k = 10 ∨ k = 11 ∨ k = 12 ∨ k = 13 ∨ k = 14 ∨ k = 15 ∨ k = 16 ∨ k = 17 ∨ k = 18 ∨ k = 19 ∨ k = 20 ∨ 20 < k by omega) with rfl | rfl | rfl | rfl | rfl | rfl | rfl | rfl | rfl | rfl | rfl | rfl | rfl | rfl | rfl | rfl | rfl | rfl | rfl | rfl | rfl | hk2
  · refine iv_tabIn (x := ((0 : Nat) : Int)) (k := 0) (tgt := 132) (off := 100) hx hb dL_law_32 gk rfl (by decide) (by decide) rfl (by decide) ?_
    exact law_read hL C1 hZ hK hi hl kk hs x y H locs hR hP hD hS
  · refine iv_tabIn (x := ((1 : Nat) : Int)) (k := 1) (tgt := 145) (off := 113) hx hb dL_law_32 gk rfl (by decide) (by decide) rfl (by decide) ?_
    exact law_sort hL C1 hZ hK hi hl kk hs x y H locs hR hP hD hS
  · refine iv_tabIn (x := ((2 : Nat) : Int)) (k := 2) (tgt := 168) (off := 136) hx hb dL_law_32 gk rfl (by decide) (by decide) rfl (by decide) ?_
    exact law_letGo hL C1 hZ hK hi hl kk hs x y H locs hR hP hD hS
  · refine iv_tabIn (x := ((3 : Nat) : Int)) (k := 3) (tgt := 181) (off := 149) hx hb dL_law_32 gk rfl (by decide) (by decide) rfl (by decide) ?_
    exact law_pour hL C1 hZ hK hi hl kk hs x y H locs hR hP hD hS
  · refine iv_tabIn (x := ((4 : Nat) : Int)) (k := 4) (tgt := 204) (off := 172) hx hb dL_law_32 gk rfl (by decide) (by decide) rfl (by decide) ?_
    exact law_shirt hL C1 hZ hK hi hl kk hs x y H locs hR hP hD hS
  · refine iv_tabIn (x := ((5 : Nat) : Int)) (k := 5) (tgt := 237) (off := 205) hx hb dL_law_32 gk rfl (by decide) (by decide) rfl (by decide) ?_
    exact law_polish hL C1 hZ hK hi hl kk hs x y H locs hR hP hD hS
  · refine iv_tabIn (x := ((6 : Nat) : Int)) (k := 6) (tgt := 260) (off := 228) hx hb dL_law_32 gk rfl (by decide) (by decide) rfl (by decide) ?_
    exact law_set hL C1 hZ hK hi hl kk hs x y H locs hR hP hD hS
  · refine iv_tabIn (x := ((7 : Nat) : Int)) (k := 7) (tgt := 293) (off := 261) hx hb dL_law_32 gk rfl (by decide) (by decide) rfl (by decide) ?_
    exact law_type hL C1 hZ hK hi hl kk hs x y H locs hR hP hD hS
  · refine iv_tabIn (x := ((8 : Nat) : Int)) (k := 8) (tgt := 318) (off := 286) hx hb dL_law_32 gk rfl (by decide) (by decide) rfl (by decide) ?_
    exact law_clearText hL C1 hZ hK hi hl kk hs x y H locs hR hP hD hS
  · refine iv_tabIn (x := ((9 : Nat) : Int)) (k := 9) (tgt := 331) (off := 299) hx hb dL_law_32 gk rfl (by decide) (by decide) rfl (by decide) ?_
    exact law_undo hL C1 hZ hK hi hl kk hs x y H locs hR hP hD hS
  · refine iv_tabIn (x := ((10 : Nat) : Int)) (k := 10) (tgt := 344) (off := 312) hx hb dL_law_32 gk rfl (by decide) (by decide) rfl (by decide) ?_
    exact law_keep hL C1 hZ hK hi hl kk hs x y H locs hR hP hD hS
  · refine iv_tabIn (x := ((11 : Nat) : Int)) (k := 11) (tgt := 357) (off := 325) hx hb dL_law_32 gk rfl (by decide) (by decide) rfl (by decide) ?_
    exact law_restore hL C1 hZ hK hi hl kk hs x y H locs hR hP hD hS
  · refine iv_tabIn (x := ((12 : Nat) : Int)) (k := 12) (tgt := 370) (off := 338) hx hb dL_law_32 gk rfl (by decide) (by decide) rfl (by decide) ?_
    exact law_button hL C1 hZ hK hi hl kk hs x y H locs hR hP hD hS
  · refine iv_tabIn (x := ((13 : Nat) : Int)) (k := 13) (tgt := 403) (off := 371) hx hb dL_law_32 gk rfl (by decide) (by decide) rfl (by decide) ?_
    exact law_inBin hL C1 hZ hK hi hl kk hs x y H locs hR hP hD hS
  · refine iv_tabIn (x := ((14 : Nat) : Int)) (k := 14) (tgt := 436) (off := 404) hx hb dL_law_32 gk rfl (by decide) (by decide) rfl (by decide) ?_
    exact law_bin hL C1 hZ hK hi hl kk hs x y H locs hR hP hD hS
  · refine iv_tabIn (x := ((15 : Nat) : Int)) (k := 15) (tgt := 469) (off := 437) hx hb dL_law_32 gk rfl (by decide) (by decide) rfl (by decide) ?_
    exact law_total hL C1 hZ hK hi hl kk hs x y H locs hR hP hD hS
  · refine iv_tabIn (x := ((16 : Nat) : Int)) (k := 16) (tgt := 492) (off := 460) hx hb dL_law_32 gk rfl (by decide) (by decide) rfl (by decide) ?_
    exact law_goesTo hL C1 hZ hK hi hl kk hs x y H locs hR hP hD hS
  · refine iv_tabIn (x := ((17 : Nat) : Int)) (k := 17) (tgt := 515) (off := 483) hx hb dL_law_32 gk rfl (by decide) (by decide) rfl (by decide) ?_
    exact law_reason hL C1 hZ hK hi hl kk hs x y H locs hR hP hD hS
  · refine iv_tabIn (x := ((18 : Nat) : Int)) (k := 18) (tgt := 548) (off := 516) hx hb dL_law_32 gk rfl (by decide) (by decide) rfl (by decide) ?_
    exact law_leastSpread hL C1 hZ hK hi hl kk hs x y H locs hR hP hD hS
  · refine iv_tabIn (x := ((19 : Nat) : Int)) (k := 19) (tgt := 581) (off := 549) hx hb dL_law_32 gk rfl (by decide) (by decide) rfl (by decide) ?_
    exact law_shirts hL C1 hZ hK hi hl kk hs x y H locs hR hP hD hS
  · refine iv_tabIn (x := ((20 : Nat) : Int)) (k := 20) (tgt := 604) (off := 572) hx hb dL_law_32 gk rfl (by decide) (by decide) rfl (by decide) ?_
    exact law_ifMesh hL C1 hZ hK hi hl kk hs x y H locs hR hP hD hS
  · refine iv_tabOut (tgt := 647) hx hb dL_law_32 gk (Or.inr (by omega)) (by decide) ?_
    exact kk hs x y H locs hR hP hD hS
set_option maxHeartbeats 4000000 in
set_option maxRecDepth 100000 in
theorem law_loop {p : Program} {l : Launch} {e : Env} {s : State} {m : MethodId} {below : List Frame} {meth : Method} {c : Code} {E : wE} {a am : Nat → Nat} {b L : Nat} {xs : Nat → Int32} (hL : L ≤ 2048) (C0 : lw_At p s m meth c b L xs) (hZ : mSt s (fun q : Nat => s.heap.size ≤ q) s.heap) (hK : KK E s) : ∀ (d i : Nat), L ≤ i + 4 * d → i ≤ L + 3 → ∀ (ls : Array Slot), lv_has ls 4 [(0, .ref b), (1, .ref (a 0)), (2, .ref (am 0)), (3, .int (zi (i : Int)))] → lw_K p l e s m below meth c E a am b ls (lw_Z below #[Value.ref b] s) 18 := by
  have C1 := C0
  obtain ⟨hx, hb, hr, hml, hown, hts0, hX, hbl, hlocks, hgv⟩ := C0
  have hb : c.code = cL_law := hb
  have hbA : ¬ (fun q : Nat => s.heap.size ≤ q) b := Nat.not_le.mpr hbl
  intro d
  induction d with
  | zero =>
    intro i h1 h2 ls hl hs x y H locs hR hP hD hS
    refine lv_iload_n hx hb dL_law_18 rfl (lv_at hl 3 rfl) ?_
    refine lv_aload_n hx hb dL_law_19 rfl (lv_at hl 0 rfl) ?_
    refine iv_slen hx hb hX hbl hbA hS dL_law_20 ?_
    refine iv_iconst hx hb dL_law_21 ?_
    refine iv_isub hx hb dL_law_22 ?_
    refine iv_igt (tgt := 653) hx hb (rg_of (by omega)) (rg_of (by omega)) dL_law_23 (by decide) (fun h => ?_) (fun h => absurd h (by omega))
    refine lv_iconst (v := 1) hx hb dL_law_653 (by decide) ?_
    refine va_forget (fun q hq => hS.2.2 q hq) ?_
    exact lw_ret hx hb hr hlocks dL_law_654
  | succ d ih =>
    intro i h1 h2 ls hl hs x y H locs hR hP hD hS
    refine lv_iload_n hx hb dL_law_18 rfl (lv_at hl 3 rfl) ?_
    refine lv_aload_n hx hb dL_law_19 rfl (lv_at hl 0 rfl) ?_
    refine iv_slen hx hb hX hbl hbA hS dL_law_20 ?_
    refine iv_iconst hx hb dL_law_21 ?_
    refine iv_isub hx hb dL_law_22 ?_
    refine iv_igt (tgt := 653) hx hb (rg_of (by omega)) (rg_of (by omega)) dL_law_23 (by decide) (fun h => ?_) (fun h => ?_)
    · refine lv_iconst (v := 1) hx hb dL_law_653 (by decide) ?_
      refine va_forget (fun q hq => hS.2.2 q hq) ?_
      exact lw_ret hx hb hr hlocks dL_law_654
    · refine law_body hL C1 hZ hK (i := i) (by omega) hl ?_ hs x y H locs hR hP hD hS
      intro hs x y H locs hR hP hD hS
      refine lv_iinc (v := zi ((i + 4 : Nat) : Int)) (lv' := [(3, .int (zi ((i + 4 : Nat) : Int))), (0, .ref b), (1, .ref (a 0)), (2, .ref (am 0))]) hx hb dL_law_647 hl (k := 3) rfl (by rw [show ((i + 4 : Nat) : Int) = (i : Int) + 4 by omega]; exact (zi_add _ _).symm) (by decide) rfl (fun ls hl => ?_)
      refine lv_goto (tgt := 18) hx hb dL_law_650 (by decide) ?_
      exact ih (i + 4) (by omega) (by omega) ls (lv_sub hl [1, 2, 3, 0] rfl) hs x y H locs hR hP hD hS
set_option maxHeartbeats 8000000 in
set_option maxRecDepth 100000 in
/-- from the entry, for every script of at most 2048 ints, the law comes to its end with true -/
theorem whole_start {p : Program} {e : Env} {s : State} {m : MethodId} {below : List Frame} {meth : Method} {c : Code} (l : Launch) (hflags : l.flags = flags0) {b L : Nat} {xs : Nat → Int32} (hL : L ≤ 2048) (C0 : lw_At p s m meth c b L xs) : W p l e room_1 s m #[Value.ref b] below meth c s.heap [] 0 0 (lw_Z below #[Value.ref b] s) (entryFrame m ([Value.ref b] : List Value).toArray 4) := by
  have C1 := C0
  obtain ⟨hx, hb, hr, hml, hown, hts0, hX, hbl, hlocks, hgv⟩ := C0
  have hown : s.vm.findClass RL = some m.cls := hown
  have hb : c.code = cL_law := hb
  have hg := flat_of_before _ hgv
  have hts : ∀ w ∈ wsL_law, w.before #[Value.ref b] s = true := fun w hw => hts0 w (wsL_law_in w hw)
  have hA : ∀ q : Nat, s.heap.size ≤ q → (fun q : Nat => s.heap.size ≤ q) q := fun _ h => h
  have hAn : ∀ q : Nat, q < s.heap.size → ¬ (fun q : Nat => s.heap.size ≤ q) q := fun _ h => Nat.not_le.mpr h
  obtain ⟨E, hK⟩ := st_KK hts0
  have hZ := st_mI (A := fun q : Nat => s.heap.size ≤ q) hAn hts0 hg
  have hZ2 := st_mSt (A := fun q : Nat => s.heap.size ≤ q) hAn hts0 hg
  have hS : va_S (fun q : Nat => s.heap.size ≤ q) s.heap s.heap [] := va_S.rf
  have hP : va_P E.1 vwCl [] s.heap := fun k q h => by simp at h
  have hD : va_D (fun q : Nat => s.heap.size ≤ q) [] := ⟨fun i j p q h => by simp at h, fun k q h => by simp at h⟩
  have hl := lv_entry ([.ref b]) (n := 4) (Nat.le_of_ble_eq_true rfl)
  rw [lg_entry_eq]
  generalize (lg_sl ([.ref b]) ++ List.replicate (4 - (lg_sl ([.ref b])).length) Slot.unset).toArray = ls at hl ⊢
  have hl : lv_has ls 4 [(0, .ref b)] := hl
  refine va_new (D := E.1) (cl := vwCl) (ci := 7) (fs := [.null, .null, .null, .null, .null, .null, .null, .int (zi 0)]) (C := RX7) (T := TX7) (N := 8) hx hb hts inlX7 tyX7 tyX7_ok hown (hts0 (.classLink RL 7 RX7) (by decide +kernel)) (hts0 (.instantiable RX7 8) (by decide +kernel)) (hts0 (.initialized RX7) (by decide +kernel)) hK.1 hP hD hS hA rfl (fun j hj => by rcases (show j = 0 ∨ j = 1 ∨ j = 2 ∨ j = 3 ∨ j = 4 ∨ j = 5 ∨ j = 6 ∨ j = 7 by omega) with rfl | rfl | rfl | rfl | rfl | rfl | rfl | rfl <;> first | rfl | (show Value.int 0 = Value.int (zi 0); rw [zi_0])) (Nat.le_of_ble_eq_true rfl) (Nat.le_of_ble_eq_true rfl) dL_law_0 (fun q1 H hP hD hS => ?_)
  refine lv_dup hx hb dL_law_3 rfl ?_
  refine iv_callN (wr := []) (wc := [(q1, .inr (7, [.null, .null, .null, .null, .null, .null, .null, .int (zi 0)]))]) (Wf := fun a1 => wX a1 (fun i => a1 (12 + i)) E z0X) (As := []) (rest := [.ref q1]) ⟨hx, hb, hml, hown, hts⟩ (n_X7 l E H.size q1) (cwI 0 hts gL_law_X7_init rfl rfl rfl (hts0 (.initialized RX7) (by decide +kernel)) (hts0 (.methodLink RL 9 yX7_init) (by decide +kernel)) (hts0 (.instanceMethod yX7_init) (by decide +kernel)) rfl (by decide +kernel) ⟨Nat.le_of_ble_eq_true rfl, Nat.le_of_ble_eq_true rfl⟩) hZ hK hP hD hS hA rfl hl.1 (Nat.le_of_ble_eq_true rfl) ⟨Nat.le_of_ble_eq_true rfl, Nat.le_of_ble_eq_true rfl⟩ dL_law_4 (fun a H locs hpo hP1 hD1 hS1 => ?_)
  have hpo : a 0 = q1 := hpo
  clear hP hD hS
  subst hpo
  have hP : va_P E.1 vwCl (wX a (fun i => a (12 + i)) E z0X) H := hP1
  have hD : va_D (fun q : Nat => s.heap.size ≤ q) (wX a (fun i => a (12 + i)) E z0X) := hD1
  have hS := hS1
  clear hP1 hD1 hS1
  refine W.widen (k := 126) (n := 3378) (Nat.le_of_ble_eq_true rfl) (Nat.le_of_ble_eq_true rfl) ?_
  refine lv_astore_n (lv' := [(1, .ref (a 0)), (0, .ref b)]) hx hb dL_law_7 rfl hl (by decide) rfl (fun ls hl => ?_)
  refine va_new (D := E.1) (cl := vwCl) (ci := 8) (fs := [.null, .null, .int (zi 0), .null, .int (zi 0), .null, .null, .int (zi 0), .null, .int (zi 0), .int (zi 0), .int (zi 0), .null]) (C := RX8) (T := TX8) (N := 13) hx hb hts inlX8 tyX8 tyX8_ok hown (hts0 (.classLink RL 10 RX8) (by decide +kernel)) (hts0 (.instantiable RX8 13) (by decide +kernel)) (hts0 (.initialized RX8) (by decide +kernel)) hK.1 hP hD hS hA rfl (fun j hj => by rcases (show j = 0 ∨ j = 1 ∨ j = 2 ∨ j = 3 ∨ j = 4 ∨ j = 5 ∨ j = 6 ∨ j = 7 ∨ j = 8 ∨ j = 9 ∨ j = 10 ∨ j = 11 ∨ j = 12 by omega) with rfl | rfl | rfl | rfl | rfl | rfl | rfl | rfl | rfl | rfl | rfl | rfl | rfl <;> first | rfl | (show Value.int 0 = Value.int (zi 0); rw [zi_0])) (Nat.le_of_ble_eq_true rfl) (Nat.le_of_ble_eq_true rfl) dL_law_8 (fun q2 H hP hD hS => ?_)
  refine lv_dup hx hb dL_law_11 rfl ?_
  refine iv_callN (wr := wX a (fun i => a (12 + i)) E z0X) (wc := [(q2, .inr (8, [.null, .null, .int (zi 0), .null, .int (zi 0), .null, .null, .int (zi 0), .null, .int (zi 0), .int (zi 0), .int (zi 0), .null]))]) (Wf := fun a1 => wM a1 E z0M) (As := []) (rest := [.ref q2]) ⟨hx, hb, hml, hown, hts⟩ (n_X8 l E H.size q2) (cwI 0 hts gL_law_X8_init rfl rfl rfl (hts0 (.initialized RX8) (by decide +kernel)) (hts0 (.methodLink RL 12 yX8_init) (by decide +kernel)) (hts0 (.instanceMethod yX8_init) (by decide +kernel)) rfl (by decide +kernel) ⟨Nat.le_of_ble_eq_true rfl, Nat.le_of_ble_eq_true rfl⟩) hZ hK hP hD hS hA rfl hl.1 (Nat.le_of_ble_eq_true rfl) ⟨Nat.le_of_ble_eq_true rfl, Nat.le_of_ble_eq_true rfl⟩ dL_law_12 (fun am H locs hpo hP1 hD1 hS1 => ?_)
  have hpo : am 0 = q2 := hpo
  clear hP hD hS
  subst hpo
  have hP := pm_P List.perm_append_comm hP1
  have hD := pm_D List.perm_append_comm hD1
  have hS := hS1
  clear hP1 hD1 hS1
  refine W.widen (k := 600000) (n := 7302250) (Nat.le_of_ble_eq_true rfl) (Nat.le_of_ble_eq_true rfl) ?_
  refine lv_astore_n (lv' := [(2, .ref (am 0)), (1, .ref (a 0)), (0, .ref b)]) hx hb dL_law_15 rfl hl (by decide) rfl (fun ls hl => ?_)
  refine iv_iconst hx hb dL_law_16 ?_
  refine lv_istore_n (lv' := [(3, .int (zi 0)), (2, .ref (am 0)), (1, .ref (a 0)), (0, .ref b)]) hx hb dL_law_17 rfl hl (by decide) rfl (fun ls hl => ?_)
  exact law_loop hL C1 hZ2 hK L 0 (by omega) (by omega) ls (lv_sub hl [3, 2, 1, 0] rfl) _ z0X z0M H locs st_RX hP hD hS
