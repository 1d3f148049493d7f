/-! the law from its entry -/
set_option maxHeartbeats 8000000 in
set_option maxRecDepth 100000 in
theorem whole_start {p : Program} {e : Env} {s : State} {m : MethodId} {below : List Frame} {meth : Method} {c : Code} (l : Launch) (hflags : l.flags = flags0) {b L : Nat} {xs : Nat → Int32} (hL : L ≤ 260) (C0 : lw_At p s m meth c b L xs) : W p l e room_1 s m #[Value.ref b] below meth c s.heap [] 0 0 (lw_Z below #[Value.ref b] s) (entryFrame m ([Value.ref b] : List Value).toArray 10) := by
  have C1 := C0
  obtain ⟨hx, hb, hr, hml, hown, hts0, hX, hbl, hlocks, hgv⟩ := C0
  have hown : s.vm.findClass RL = some m.cls := hown
  have hb : c.code = cL_law := hb
  have hts : ∀ w ∈ wsL_law, w.before #[Value.ref b] s = true := fun w hw => hts0 w (wsL_law_in w hw)
  have hA : ∀ q : Nat, s.heap.size ≤ q → (fun q : Nat => s.heap.size ≤ q) q := fun _ h => h
  have hbA : ¬ (fun q : Nat => s.heap.size ≤ q) b := Nat.not_le.mpr hbl
  have hg := flat_of_before _ hgv
  have hAn : ∀ q : Nat, q < s.heap.size → ¬ (fun q : Nat => s.heap.size ≤ q) q := fun _ h => Nat.not_le.mpr h
  obtain ⟨E, hK⟩ := st_KK hts0
  have hZ := st_mI (A := fun q : Nat => s.heap.size ≤ q) hAn hts0 hg
  have hZ2 := st_mSt (A := fun q : Nat => s.heap.size ≤ q) hAn hts0 hg
  have hS : va_S (fun q : Nat => s.heap.size ≤ q) s.heap s.heap [] := va_S.rf
  have hP : va_P E.1 vwCl [] s.heap := fun k q h => by simp at h
  have hD : va_D (fun q : Nat => s.heap.size ≤ q) [] := ⟨fun i j p q h => by simp at h, fun k q h => by simp at h⟩
  have hl := lv_entry ([.ref b]) (n := 10) (Nat.le_of_ble_eq_true rfl)
  rw [lg_entry_eq]
  generalize (lg_sl ([.ref b]) ++ List.replicate (10 - (lg_sl ([.ref b])).length) Slot.unset).toArray = ls at hl ⊢
  have hl : lv_has ls 10 [(0, .ref b)] := hl
  refine va_new (D := E.1) (cl := vwCl) (ci := 7) (fs := [.null, .null, .null, .null, .null, .null, .null, .int (zi 0)]) (C := RX7) (T := TX7) (N := 8) hx hb hts inlX7 tyX7 tyX7_ok hown (hts0 (.classLink RL 37 RX7) (by decide +kernel)) (hts0 (.instantiable RX7 8) (by decide +kernel)) (hts0 (.initialized RX7) (by decide +kernel)) hK.1 hP hD hS hA rfl (fun j hj => by rcases (show j = 0 ∨ j = 1 ∨ j = 2 ∨ j = 3 ∨ j = 4 ∨ j = 5 ∨ j = 6 ∨ j = 7 by omega) with rfl | rfl | rfl | rfl | rfl | rfl | rfl | rfl <;> first | rfl | (show Value.int 0 = Value.int (zi 0); rw [zi_0])) (Nat.le_of_ble_eq_true rfl) (Nat.le_of_ble_eq_true rfl) dL_law_0 (fun q1 H hP hD hS => ?_)
  refine lv_dup hx hb dL_law_3 rfl ?_
  refine iv_callN (wr := []) (wc := [(q1, .inr (7, [.null, .null, .null, .null, .null, .null, .null, .int (zi 0)]))]) (Wf := fun a1 => wX a1 (fun i => a1 (12 + i)) E z0X) (As := []) (rest := [.ref q1]) ⟨hx, hb, hml, hown, hts⟩ (n_X7 l E H.size q1) (cwI 0 hts gL_law_X7_init rfl rfl rfl (hts0 (.initialized RX7) (by decide +kernel)) (hts0 (.methodLink RL 123 yX7_init) (by decide +kernel)) (hts0 (.instanceMethod yX7_init) (by decide +kernel)) rfl (by decide +kernel) ⟨Nat.le_of_ble_eq_true rfl, Nat.le_of_ble_eq_true rfl⟩) hZ hK hP hD hS hA rfl hl.1 (Nat.le_of_ble_eq_true rfl) ⟨Nat.le_of_ble_eq_true rfl, Nat.le_of_ble_eq_true rfl⟩ dL_law_4 (fun a H locs hpo hP1 hD1 hS1 => ?_)
  have hpo : a 0 = q1 := hpo
  clear hP hD hS
  subst hpo
  have hP : va_P E.1 vwCl (wX a (fun i => a (12 + i)) E z0X) H := hP1
  have hD : va_D (fun q : Nat => s.heap.size ≤ q) (wX a (fun i => a (12 + i)) E z0X) := hD1
  have hS := hS1
  clear hP1 hD1 hS1
  refine W.widen (k := 126) (n := 3378) (Nat.le_of_ble_eq_true rfl) (Nat.le_of_ble_eq_true rfl) ?_
  refine lv_astore_n (lv' := [(1, .ref (a 0)), (0, .ref b)]) hx hb dL_law_7 rfl hl (by decide) rfl (fun ls hl => ?_)
  have hai : (Cond.arrayClass .int).before #[Value.ref b] s = true := hts0 (.arrayClass .int) (by decide +kernel)
  refine iv_bipush hx hb dL_law_8 (by decide +kernel) ?_
  refine iv_newI hx hb hai hK hP hD hS hA 60 rfl (by decide) (Nat.le_of_ble_eq_true rfl) (Nat.le_of_ble_eq_true rfl) dL_law_10 (fun q2 H hP hD hS => ?_)
  refine lv_astore_n (lv' := [(2, .ref q2), (1, .ref (a 0)), (0, .ref b)]) hx hb dL_law_12 rfl hl (by decide) rfl (fun ls hl => ?_)
  refine iv_bipush hx hb dL_law_13 (by decide +kernel) ?_
  refine iv_newI hx hb hai hK hP hD hS hA 60 rfl (by decide) (Nat.le_of_ble_eq_true rfl) (Nat.le_of_ble_eq_true rfl) dL_law_15 (fun q3 H hP hD hS => ?_)
  refine lv_astore_n (lv' := [(3, .ref q3), (2, .ref q2), (1, .ref (a 0)), (0, .ref b)]) hx hb dL_law_17 rfl hl (by decide) rfl (fun ls hl => ?_)
  refine iv_bipush hx hb dL_law_18 (by decide +kernel) ?_
  refine iv_newI hx hb hai hK hP hD hS hA 60 rfl (by decide) (Nat.le_of_ble_eq_true rfl) (Nat.le_of_ble_eq_true rfl) dL_law_20 (fun q4 H hP hD hS => ?_)
  refine lv_astore (lv' := [(4, .ref q4), (3, .ref q3), (2, .ref q2), (1, .ref (a 0)), (0, .ref b)]) hx hb dL_law_22 hl (by decide) rfl (fun ls hl => ?_)
  refine iv_bipush hx hb dL_law_24 (by decide +kernel) ?_
  refine iv_newI hx hb hai hK hP hD hS hA 20 rfl (by decide) (Nat.le_of_ble_eq_true rfl) (Nat.le_of_ble_eq_true rfl) dL_law_26 (fun q5 H hP hD hS => ?_)
  refine lv_astore (lv' := [(5, .ref q5), (4, .ref q4), (3, .ref q3), (2, .ref q2), (1, .ref (a 0)), (0, .ref b)]) hx hb dL_law_28 hl (by decide) rfl (fun ls hl => ?_)
  refine iv_bipush hx hb dL_law_30 (by decide +kernel) ?_
  refine iv_newI hx hb hai hK hP hD hS hA 15 rfl (by decide) (Nat.le_of_ble_eq_true rfl) (Nat.le_of_ble_eq_true rfl) dL_law_32 (fun q6 H hP hD hS => ?_)
  refine lv_astore (lv' := [(6, .ref q6), (5, .ref q5), (4, .ref q4), (3, .ref q3), (2, .ref q2), (1, .ref (a 0)), (0, .ref b)]) hx hb dL_law_34 hl (by decide) rfl (fun ls hl => ?_)
  have ew : wLXgmpwn a (fun i => a (12 + i)) (fun _ => q2) (fun _ => q3) (fun _ => q4) (fun _ => q5) (fun _ => q6) E (z0X, (fun _ => 0), (fun _ => 0), (fun _ => 0), (fun _ => 0), (fun _ => 0)) = ((((wX a (fun i => a (12 + i)) E z0X ++ [(q2, .inl (E.2.1, 60, .inl (fun _ => zi 0)))]) ++ [(q3, .inl (E.2.1, 60, .inl (fun _ => zi 0)))]) ++ [(q4, .inl (E.2.1, 60, .inl (fun _ => zi 0)))]) ++ [(q5, .inl (E.2.1, 20, .inl (fun _ => zi 0)))]) ++ [(q6, .inl (E.2.1, 15, .inl (fun _ => zi 0)))] := by
    unfold wLXgmpwn
    simp only [List.append_assoc]
    rfl
  rw [← ew] at hP hD
  refine lv_aload hx hb dL_law_36 (lv_at hl 0 rfl) ?_
  refine iv_iconst hx hb dL_law_38 ?_
  refine iv_bipush hx hb dL_law_39 (by decide +kernel) ?_
  refine iv_iast (f := (fun _ => 0)) (j := 0) (ws1 := wLXgmpwn a (fun i => a (12 + i)) (fun _ => q2) (fun _ => q3) (fun _ => q4) (fun _ => q5) (fun _ => q6) E (z0X, (fun _ => 0), (fun _ => 0), (fun _ => 0), (fun _ => 0), (up (fun _ => 0) 0 10))) hx hb hK.1 hP hD hS 130 0 rfl rfl (by decide) (by decide +kernel) rfl rfl dL_law_41 (fun H locs hP hD hS => ?_)
  refine lv_aload hx hb dL_law_42 (lv_at hl 0 rfl) ?_
  refine iv_iconst hx hb dL_law_44 ?_
  refine iv_bipush hx hb dL_law_45 (by decide +kernel) ?_
  refine iv_iast (f := (up (fun _ => 0) 0 10)) (j := 1) (ws1 := wLXgmpwn a (fun i => a (12 + i)) (fun _ => q2) (fun _ => q3) (fun _ => q4) (fun _ => q5) (fun _ => q6) E (z0X, (fun _ => 0), (fun _ => 0), (fun _ => 0), (fun _ => 0), (up (up (fun _ => 0) 0 10) 1 15))) hx hb hK.1 hP hD hS 130 0 rfl rfl (by decide) (by decide +kernel) rfl rfl dL_law_47 (fun H locs hP hD hS => ?_)
  refine lv_aload hx hb dL_law_48 (lv_at hl 0 rfl) ?_
  refine iv_iconst hx hb dL_law_50 ?_
  refine iv_bipush hx hb dL_law_51 (by decide +kernel) ?_
  refine iv_iast (f := (up (up (fun _ => 0) 0 10) 1 15)) (j := 2) (ws1 := wLXgmpwn a (fun i => a (12 + i)) (fun _ => q2) (fun _ => q3) (fun _ => q4) (fun _ => q5) (fun _ => q6) E (z0X, (fun _ => 0), (fun _ => 0), (fun _ => 0), (fun _ => 0), (up (up (up (fun _ => 0) 0 10) 1 15) 2 22))) hx hb hK.1 hP hD hS 130 0 rfl rfl (by decide) (by decide +kernel) rfl rfl dL_law_53 (fun H locs hP hD hS => ?_)
  refine lv_aload hx hb dL_law_54 (lv_at hl 0 rfl) ?_
  refine iv_iconst hx hb dL_law_56 ?_
  refine iv_iconst hx hb dL_law_57 ?_
  refine iv_iast (f := (up (up (up (fun _ => 0) 0 10) 1 15) 2 22)) (j := 3) (ws1 := wLXgmpwn a (fun i => a (12 + i)) (fun _ => q2) (fun _ => q3) (fun _ => q4) (fun _ => q5) (fun _ => q6) E (z0X, (fun _ => 0), (fun _ => 0), (fun _ => 0), (fun _ => 0), (up (up (up (up (fun _ => 0) 0 10) 1 15) 2 22) 3 4))) hx hb hK.1 hP hD hS 130 0 rfl rfl (by decide) (by decide +kernel) rfl rfl dL_law_58 (fun H locs hP hD hS => ?_)
  refine lv_aload hx hb dL_law_59 (lv_at hl 0 rfl) ?_
  refine iv_iconst hx hb dL_law_61 ?_
  refine iv_bipush hx hb dL_law_62 (by decide +kernel) ?_
  refine iv_iast (f := (up (up (up (up (fun _ => 0) 0 10) 1 15) 2 22) 3 4)) (j := 4) (ws1 := wLXgmpwn a (fun i => a (12 + i)) (fun _ => q2) (fun _ => q3) (fun _ => q4) (fun _ => q5) (fun _ => q6) E (z0X, (fun _ => 0), (fun _ => 0), (fun _ => 0), (fun _ => 0), (up (up (up (up (up (fun _ => 0) 0 10) 1 15) 2 22) 3 4) 4 6))) hx hb hK.1 hP hD hS 130 0 rfl rfl (by decide) (by decide +kernel) rfl rfl dL_law_64 (fun H locs hP hD hS => ?_)
  refine lv_aload hx hb dL_law_65 (lv_at hl 0 rfl) ?_
  refine iv_iconst hx hb dL_law_67 ?_
  refine iv_iconst hx hb dL_law_68 ?_
  refine iv_iast (f := (up (up (up (up (up (fun _ => 0) 0 10) 1 15) 2 22) 3 4) 4 6)) (j := 5) (ws1 := wLXgmpwn a (fun i => a (12 + i)) (fun _ => q2) (fun _ => q3) (fun _ => q4) (fun _ => q5) (fun _ => q6) E (z0X, (fun _ => 0), (fun _ => 0), (fun _ => 0), (fun _ => 0), (up (up (up (up (up (up (fun _ => 0) 0 10) 1 15) 2 22) 3 4) 4 6) 5 3))) hx hb hK.1 hP hD hS 130 0 rfl rfl (by decide) (by decide +kernel) rfl rfl dL_law_69 (fun H locs hP hD hS => ?_)
  refine lv_aload hx hb dL_law_70 (lv_at hl 0 rfl) ?_
  refine iv_bipush hx hb dL_law_72 (by decide +kernel) ?_
  refine iv_bipush hx hb dL_law_74 (by decide +kernel) ?_
  refine iv_iast (f := (up (up (up (up (up (up (fun _ => 0) 0 10) 1 15) 2 22) 3 4) 4 6) 5 3)) (j := 6) (ws1 := wLXgmpwn a (fun i => a (12 + i)) (fun _ => q2) (fun _ => q3) (fun _ => q4) (fun _ => q5) (fun _ => q6) E (z0X, (fun _ => 0), (fun _ => 0), (fun _ => 0), (fun _ => 0), (up (up (up (up (up (up (up (fun _ => 0) 0 10) 1 15) 2 22) 3 4) 4 6) 5 3) 6 10))) hx hb hK.1 hP hD hS 130 0 rfl rfl (by decide) (by decide +kernel) rfl rfl dL_law_76 (fun H locs hP hD hS => ?_)
  refine lv_aload hx hb dL_law_77 (lv_at hl 0 rfl) ?_
  refine iv_bipush hx hb dL_law_79 (by decide +kernel) ?_
  refine iv_iconst hx hb dL_law_81 ?_
  refine iv_iast (f := (up (up (up (up (up (up (up (fun _ => 0) 0 10) 1 15) 2 22) 3 4) 4 6) 5 3) 6 10)) (j := 7) (ws1 := wLXgmpwn a (fun i => a (12 + i)) (fun _ => q2) (fun _ => q3) (fun _ => q4) (fun _ => q5) (fun _ => q6) E (z0X, (fun _ => 0), (fun _ => 0), (fun _ => 0), (fun _ => 0), (up (up (up (up (up (up (up (up (fun _ => 0) 0 10) 1 15) 2 22) 3 4) 4 6) 5 3) 6 10) 7 2))) hx hb hK.1 hP hD hS 130 0 rfl rfl (by decide) (by decide +kernel) rfl rfl dL_law_82 (fun H locs hP hD hS => ?_)
  have hP : va_P E.1 vwCl (wLXgmpwn a (fun i => a (12 + i)) (fun _ => q2) (fun _ => q3) (fun _ => q4) (fun _ => q5) (fun _ => q6) E (z0X, (fun _ => 0), (fun _ => 0), (fun _ => 0), (fun _ => 0), nn8)) H := hP
  have hD : va_D (fun q : Nat => s.heap.size ≤ q) (wLXgmpwn a (fun i => a (12 + i)) (fun _ => q2) (fun _ => q3) (fun _ => q4) (fun _ => q5) (fun _ => q6) E (z0X, (fun _ => 0), (fun _ => 0), (fun _ => 0), (fun _ => 0), nn8)) := hD
  have hl := lv_sub hl [6, 5, 4, 3, 2, 1, 0] rfl
  have hl : lv_has ls 10 [(0, .ref b), (1, .ref (a 0)), (2, .ref q2), (3, .ref q3), (4, .ref q4), (5, .ref q5), (6, .ref q6)] := hl
  have f1 := z0_btns (N := 1300) (by omega)
  obtain ⟨x2, f2, hH2, eS2⟩ := z0_bins (N := 1300) (by omega)
  refine lv_aload_n hx hb dL_law_83 rfl (lv_at hl 1 rfl) ?_
  refine lv_aload_n hx hb dL_law_84 rfl (lv_at hl 2 rfl) ?_
  refine lv_aload_n hx hb dL_law_85 rfl (lv_at hl 3 rfl) ?_
  refine lv_aload hx hb dL_law_86 (lv_at hl 4 rfl) ?_
  refine lv_aload hx hb dL_law_88 (lv_at hl 5 rfl) ?_
  refine lv_aload hx hb dL_law_90 (lv_at hl 6 rfl) ?_
  refine iv_callWI (As := [.ref (a 0), .ref q2, .ref q3, .ref q4, .ref q5, .ref q6]) (rest := []) (wr := []) (ws1 := wLXgmpwn a (fun i => a (12 + i)) (fun _ => q2) (fun _ => q3) (fun _ => q4) (fun _ => q5) (fun _ => q6) E (z0X, (fun _ => 0), (fun _ => 0), (fun _ => 0), (fun _ => 0), nn8)) ⟨hx, hb, hml, hown, hts⟩ (k_L_areButtons l E a (fun i => a (12 + i)) (fun _ => q2) (fun _ => q3) (fun _ => q4) (fun _ => q5) (fun _ => q6) H.size 1300 (z0X, (fun _ => 0), (fun _ => 0), (fun _ => 0), (fun _ => 0), nn8) (1, (z0X, (fun _ => 0), (fun _ => 0), (fun _ => 0), (fun _ => 0), nn8)) f1) (va_cwS 6 hts gL_law_L_areButtons rfl rfl rfl (by decide +kernel) ⟨Nat.le_of_ble_eq_true rfl, Nat.le_of_ble_eq_true rfl⟩) hK hP hD hS hA (List.Perm.refl _) (List.Perm.refl _) rfl hl.1 (Nat.le_of_ble_eq_true rfl) ⟨Nat.le_of_ble_eq_true rfl, Nat.le_of_ble_eq_true rfl⟩ dL_law_92 (fun H locs hP hD hS => ?_)
  refine iv_eq (x := 1) (tgt := 135) hx hb (by decide) dL_law_95 (by decide) (fun h => absurd h (by decide)) (fun _ => ?_)
  refine lv_aload_n hx hb dL_law_98 rfl (lv_at hl 1 rfl) ?_
  refine lv_aload_n hx hb dL_law_99 rfl (lv_at hl 3 rfl) ?_
  refine lv_aload hx hb dL_law_100 (lv_at hl 4 rfl) ?_
  refine lv_aload hx hb dL_law_102 (lv_at hl 6 rfl) ?_
  refine iv_callWI (As := [.ref (a 0), .ref q3, .ref q4, .ref q6]) (rest := []) (ws1 := wLXgmpwn a (fun i => a (12 + i)) (fun _ => q2) (fun _ => q3) (fun _ => q4) (fun _ => q5) (fun _ => q6) E (x2, (fun _ => 0), (fun _ => 0), (fun _ => 0), (fun _ => 0), nn8)) ⟨hx, hb, hml, hown, hts⟩ (k_L_areBins l E a (fun i => a (12 + i)) (fun _ => q3) (fun _ => q4) (fun _ => q6) H.size 1300 (z0X, (fun _ => 0), (fun _ => 0), nn8) (1, (x2, (fun _ => 0), (fun _ => 0), nn8)) f2) (va_cwS 4 hts gL_law_L_areBins rfl rfl rfl (by decide +kernel) ⟨Nat.le_of_ble_eq_true rfl, Nat.le_of_ble_eq_true rfl⟩) hK hP hD hS hA (pm_take (pm_skip (pm_take (pm_take (pm_skip (pm_end)))))) (pm_take (pm_skip (pm_take (pm_take (pm_skip (pm_end)))))) rfl hl.1 (Nat.le_of_ble_eq_true rfl) ⟨Nat.le_of_ble_eq_true rfl, Nat.le_of_ble_eq_true rfl⟩ dL_law_104 (fun H locs hP hD hS => ?_)
  refine iv_eq (x := 1) (tgt := 135) hx hb (by decide) dL_law_107 (by decide) (fun h => absurd h (by decide)) (fun _ => ?_)
  refine lv_aload_n hx hb dL_law_110 rfl (lv_at hl 1 rfl) ?_
  refine lv_aload_n hx hb dL_law_111 rfl (lv_at hl 2 rfl) ?_
  refine lv_aload_n hx hb dL_law_112 rfl (lv_at hl 3 rfl) ?_
  refine lv_aload hx hb dL_law_113 (lv_at hl 4 rfl) ?_
  refine lv_aload hx hb dL_law_115 (lv_at hl 5 rfl) ?_
  refine lv_aload hx hb dL_law_117 (lv_at hl 6 rfl) ?_
  refine lv_aload_n hx hb dL_law_119 rfl (lv_at hl 0 rfl) ?_
  refine iv_iconst hx hb dL_law_120 ?_
  refine iv_nm (y := ((0 : Nat) : Int)) (x := 0) rfl ?_
  refine iv_callC (k := 0) (L := L) (xs := xs) ⟨hx, hb, hml, hown, hts⟩ (k_L_cell l E H.size b L xs 0 hL (by omega)) (va_cwS 2 hts gL_law_L_cell rfl rfl rfl (by decide +kernel) ⟨Nat.le_of_ble_eq_true rfl, Nat.le_of_ble_eq_true rfl⟩) hX hbl hbA hK hP hD hS hA hl.1 (Nat.le_of_ble_eq_true rfl) ⟨Nat.le_of_ble_eq_true rfl, Nat.le_of_ble_eq_true rfl⟩ dL_law_121 (fun H locs hP hS => ?_)
  generalize cellV L xs 0 = xv
  obtain ⟨x3, g3, m3, p3, w3, n3, f3, hT3⟩ := z0_comes (N := 1300) (by omega) hH2 eS2 xv
  refine iv_iconst hx hb dL_law_124 ?_
  refine iv_callWIx (As := [.ref (a 0), .ref q2, .ref q3, .ref q4, .ref q5, .ref q6, .int (zi xv), .int (zi 3)]) (rest := []) (wr := []) (wx := fun h1 => wLXgmpwn a h1 (fun _ => q2) (fun _ => q3) (fun _ => q4) (fun _ => q5) (fun _ => q6) E (x3, g3, m3, p3, w3, n3)) ⟨hx, hb, hml, hown, hts⟩ (k_L_comes l E a (fun i => a (12 + i)) (fun _ => q2) (fun _ => q3) (fun _ => q4) (fun _ => q5) (fun _ => q6) H.size 1300 xv 3 (x2, (fun _ => 0), (fun _ => 0), (fun _ => 0), (fun _ => 0), nn8) (1, (x3, g3, m3, p3, w3, n3)) f3) (va_cwS 8 hts gL_law_L_comes rfl rfl rfl (by decide +kernel) ⟨Nat.le_of_ble_eq_true rfl, Nat.le_of_ble_eq_true rfl⟩) hK hP hD hS hA (List.Perm.refl _) (fun _ => List.Perm.refl _) rfl hl.1 (Nat.le_of_ble_eq_true rfl) ⟨Nat.le_of_ble_eq_true rfl, Nat.le_of_ble_eq_true rfl⟩ dL_law_125 (fun hs H locs hP hD hS => ?_)
  refine iv_eq (x := 1) (tgt := 135) hx hb (by decide) dL_law_128 (by decide) (fun h => absurd h (by decide)) (fun _ => ?_)
  refine iv_iconst hx hb dL_law_131 ?_
  refine lv_goto (tgt := 136) hx hb dL_law_132 (by decide) ?_
  refine lv_istore (lv' := [(7, .int (zi 1)), (0, .ref b), (1, .ref (a 0)), (2, .ref q2), (3, .ref q3), (4, .ref q4), (5, .ref q5), (6, .ref q6)]) hx hb dL_law_136 hl (by decide) rfl (fun ls hl => ?_)
  refine iv_iconst hx hb dL_law_138 ?_
  refine lv_istore (lv' := [(8, .int (zi 0)), (7, .int (zi 1)), (0, .ref b), (1, .ref (a 0)), (2, .ref q2), (3, .ref q3), (4, .ref q4), (5, .ref q5), (6, .ref q6)]) hx hb dL_law_139 hl (by decide) rfl (fun ls hl => ?_)
  refine W.widen (k := 200 + 4 * 0) (n := 4000 + 155 * 0) (Nat.le_of_ble_eq_true rfl) (Nat.le_of_ble_eq_true rfl) ?_
  exact law_loop (a := a) (ag := fun _ => q2) (am := fun _ => q3) (ap := fun _ => q4) (aw := fun _ => q5) (an := fun _ => q6) hL C1 hZ2 hK 44 0 (by omega) hs x3 g3 m3 p3 w3 n3 H locs ls hT3 hP hD hS (lv_sub hl [2, 3, 4, 5, 6, 7, 8, 1, 0] rfl)
