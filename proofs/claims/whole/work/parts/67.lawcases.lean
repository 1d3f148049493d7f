/-! the cases of the law's switch: both are asked the same, and answer the same -/
set_option maxHeartbeats 4000000 in
set_option maxRecDepth 100000 in
theorem law_read {p : Program} {l : Launch} {e : Env} {s : State} {m : MethodId} {below : List Frame} {meth : Method} {c : Code} {E : wE} {a am : Nat → Nat} {b L : Nat} {xs : Nat → Int32} {ls : Array Slot} {Q : State → Prop} (hL : L ≤ 2048) (C0 : lw_At p s m meth c b L xs) (hZ : mSt s (fun q : Nat => s.heap.size ≤ q) s.heap) (hK : KK E s) {i : Nat} (hi : i + 4 ≤ L) (hl : lv_has ls 4 [(0, .ref b), (1, .ref (a 0)), (2, .ref (am 0)), (3, .int (zi (i : Int)))]) (kk : lw_K p l e s m below meth c E a am b ls Q 647) : lw_K p l e s m below meth c E a am b ls Q 132 := by
  obtain ⟨hx, hb, hr, hml, hown, hts0, hX, hbl, hlocks, hgv⟩ := C0
  have hown : s.vm.findClass RL = some m.cls := hown
  have hb : c.code = cL_law := hb
  have hts : ∀ w ∈ wsL_law, w.before #[Value.ref b] s = true := fun w hw => hts0 w (wsL_law_in w hw)
  have hA : ∀ q : Nat, s.heap.size ≤ q → (fun q : Nat => s.heap.size ≤ q) q := fun _ h => h
  have hbA : ¬ (fun q : Nat => s.heap.size ≤ q) b := Nat.not_le.mpr hbl
  intro hs x y H locs hR hP hD hS
  obtain ⟨v, x', y', fx, fy, hR'⟩ := s_read (N := 1300) (Nat.le_refl 1300)  x y hR
  refine lv_aload_n hx hb dL_law_132 rfl (lv_at hl 1 rfl) ?_
  refine iv_cIx (wr := wM am E y) (wc := wX a hs E x) (Wf := fun h1 => wX a h1 E x') (r := v) (As := []) (rest := []) ⟨hx, hb, hml, hown, hts⟩ (k_X7_read l E a hs H.size 1300 x (v, x') fx) (cwV 0 hts gL_law_X7_read rfl rfl rfl (by decide +kernel) ⟨Nat.le_of_ble_eq_true rfl, Nat.le_of_ble_eq_true rfl⟩) hK hP hD hS hA 7 rfl rfl rfl hl.1 (Nat.le_of_ble_eq_true rfl) ⟨Nat.le_refl _, Nat.le_refl _⟩ dL_law_133 (fun hs1 H locs hP hD hS => ?_)
  have hP := pm_P List.perm_append_comm hP
  have hD := pm_D List.perm_append_comm hD
  refine lv_aload_n hx hb dL_law_136 rfl (lv_at hl 2 rfl) ?_
  refine iv_cI (wr := wX a hs1 E x') (wc := wM am E y) (w1 := wM am E y') (r := v) (As := []) (rest := [.int (zi v)]) ⟨hx, hb, hml, hown, hts⟩ (k_X8_read l E am H.size 1300 y (v, y') fy) (cwV 0 hts gL_law_X8_read rfl rfl rfl (by decide +kernel) ⟨Nat.le_of_ble_eq_true rfl, Nat.le_of_ble_eq_true rfl⟩) hK hP hD hS hA 8 rfl rfl rfl hl.1 (Nat.le_of_ble_eq_true rfl) ⟨Nat.le_refl _, Nat.le_refl _⟩ dL_law_137 (fun H locs hP hD hS => ?_)
  refine lv_icmp_eq (tgt := 647) hx hb dL_law_140 (by decide) (fun _ => ?_) (fun hne => absurd rfl hne)
  exact kk hs1 x' y' H locs hR' (pm_P List.perm_append_comm hP) (pm_D List.perm_append_comm hD) hS
set_option maxHeartbeats 4000000 in
set_option maxRecDepth 100000 in
theorem law_sort {p : Program} {l : Launch} {e : Env} {s : State} {m : MethodId} {below : List Frame} {meth : Method} {c : Code} {E : wE} {a am : Nat → Nat} {b L : Nat} {xs : Nat → Int32} {ls : Array Slot} {Q : State → Prop} (hL : L ≤ 2048) (C0 : lw_At p s m meth c b L xs) (hZ : mSt s (fun q : Nat => s.heap.size ≤ q) s.heap) (hK : KK E s) {i : Nat} (hi : i + 4 ≤ L) (hl : lv_has ls 4 [(0, .ref b), (1, .ref (a 0)), (2, .ref (am 0)), (3, .int (zi (i : Int)))]) (kk : lw_K p l e s m below meth c E a am b ls Q 647) : lw_K p l e s m below meth c E a am b ls Q 145 := by
  obtain ⟨hx, hb, hr, hml, hown, hts0, hX, hbl, hlocks, hgv⟩ := C0
  have hown : s.vm.findClass RL = some m.cls := hown
  have hb : c.code = cL_law := hb
  have hts : ∀ w ∈ wsL_law, w.before #[Value.ref b] s = true := fun w hw => hts0 w (wsL_law_in w hw)
  have hA : ∀ q : Nat, s.heap.size ≤ q → (fun q : Nat => s.heap.size ≤ q) q := fun _ h => h
  have hbA : ¬ (fun q : Nat => s.heap.size ≤ q) b := Nat.not_le.mpr hbl
  intro hs x y H locs hR hP hD hS
  obtain ⟨v, x', y', fx, fy, hR'⟩ := s_sort (N := 1300) (Nat.le_refl 1300) (rg_xs (xs (i + 1))) x y hR
  refine lv_aload_n hx hb dL_law_145 rfl (lv_at hl 1 rfl) ?_
  refine lv_aload_n hx hb dL_law_146 rfl (lv_at hl 0 rfl) ?_
  refine lv_iload_n hx hb dL_law_147 rfl (lv_at hl 3 rfl) ?_
  refine iv_iconst hx hb dL_law_148 ?_
  refine iv_iadd hx hb dL_law_149 ?_
  refine iv_sld (j := i + 1) hx hb hL hX hbl hbA hS (by omega) (by omega) dL_law_150 ?_
  refine iv_cIx (wr := wM am E y) (wc := wX a hs E x) (Wf := fun h1 => wX a h1 E x') (r := v) (As := [.int (zi (xs (i + 1)).toInt)]) (rest := []) ⟨hx, hb, hml, hown, hts⟩ (k_X7_sort l E a hs H.size 1300 ((xs (i + 1)).toInt) x (v, x') fx) (cwV 1 hts gL_law_X7_sort rfl rfl rfl (by decide +kernel) ⟨Nat.le_of_ble_eq_true rfl, Nat.le_of_ble_eq_true rfl⟩) hK hP hD hS hA 7 rfl rfl rfl hl.1 (Nat.le_of_ble_eq_true rfl) ⟨Nat.le_refl _, Nat.le_refl _⟩ dL_law_151 (fun hs1 H locs hP hD hS => ?_)
  have hP := pm_P List.perm_append_comm hP
  have hD := pm_D List.perm_append_comm hD
  refine lv_aload_n hx hb dL_law_154 rfl (lv_at hl 2 rfl) ?_
  refine lv_aload_n hx hb dL_law_155 rfl (lv_at hl 0 rfl) ?_
  refine lv_iload_n hx hb dL_law_156 rfl (lv_at hl 3 rfl) ?_
  refine iv_iconst hx hb dL_law_157 ?_
  refine iv_iadd hx hb dL_law_158 ?_
  refine iv_sld (j := i + 1) hx hb hL hX hbl hbA hS (by omega) (by omega) dL_law_159 ?_
  refine iv_cI (wr := wX a hs1 E x') (wc := wM am E y) (w1 := wM am E y') (r := v) (As := [.int (zi (xs (i + 1)).toInt)]) (rest := [.int (zi v)]) ⟨hx, hb, hml, hown, hts⟩ (k_X8_sort l E am H.size 1300 ((xs (i + 1)).toInt) y (v, y') fy) (cwV 1 hts gL_law_X8_sort rfl rfl rfl (by decide +kernel) ⟨Nat.le_of_ble_eq_true rfl, Nat.le_of_ble_eq_true rfl⟩) hK hP hD hS hA 8 rfl rfl rfl hl.1 (Nat.le_of_ble_eq_true rfl) ⟨Nat.le_refl _, Nat.le_refl _⟩ dL_law_160 (fun H locs hP hD hS => ?_)
  refine lv_icmp_eq (tgt := 647) hx hb dL_law_163 (by decide) (fun _ => ?_) (fun hne => absurd rfl hne)
  exact kk hs1 x' y' H locs hR' (pm_P List.perm_append_comm hP) (pm_D List.perm_append_comm hD) hS
set_option maxHeartbeats 4000000 in
set_option maxRecDepth 100000 in
theorem law_letGo {p : Program} {l : Launch} {e : Env} {s : State} {m : MethodId} {below : List Frame} {meth : Method} {c : Code} {E : wE} {a am : Nat → Nat} {b L : Nat} {xs : Nat → Int32} {ls : Array Slot} {Q : State → Prop} (hL : L ≤ 2048) (C0 : lw_At p s m meth c b L xs) (hZ : mSt s (fun q : Nat => s.heap.size ≤ q) s.heap) (hK : KK E s) {i : Nat} (hi : i + 4 ≤ L) (hl : lv_has ls 4 [(0, .ref b), (1, .ref (a 0)), (2, .ref (am 0)), (3, .int (zi (i : Int)))]) (kk : lw_K p l e s m below meth c E a am b ls Q 647) : lw_K p l e s m below meth c E a am b ls Q 168 := by
  obtain ⟨hx, hb, hr, hml, hown, hts0, hX, hbl, hlocks, hgv⟩ := C0
  have hown : s.vm.findClass RL = some m.cls := hown
  have hb : c.code = cL_law := hb
  have hts : ∀ w ∈ wsL_law, w.before #[Value.ref b] s = true := fun w hw => hts0 w (wsL_law_in w hw)
  have hA : ∀ q : Nat, s.heap.size ≤ q → (fun q : Nat => s.heap.size ≤ q) q := fun _ h => h
  have hbA : ¬ (fun q : Nat => s.heap.size ≤ q) b := Nat.not_le.mpr hbl
  intro hs x y H locs hR hP hD hS
  obtain ⟨v, x', y', fx, fy, hR'⟩ := s_letGo (N := 1300) (Nat.le_refl 1300)  x y hR
  refine lv_aload_n hx hb dL_law_168 rfl (lv_at hl 1 rfl) ?_
  refine iv_cIx (wr := wM am E y) (wc := wX a hs E x) (Wf := fun h1 => wX a h1 E x') (r := v) (As := []) (rest := []) ⟨hx, hb, hml, hown, hts⟩ (k_X7_letGo l E a hs H.size 1300 x (v, x') fx) (cwV 0 hts gL_law_X7_letGo rfl rfl rfl (by decide +kernel) ⟨Nat.le_of_ble_eq_true rfl, Nat.le_of_ble_eq_true rfl⟩) hK hP hD hS hA 7 rfl rfl rfl hl.1 (Nat.le_of_ble_eq_true rfl) ⟨Nat.le_refl _, Nat.le_refl _⟩ dL_law_169 (fun hs1 H locs hP hD hS => ?_)
  have hP := pm_P List.perm_append_comm hP
  have hD := pm_D List.perm_append_comm hD
  refine lv_aload_n hx hb dL_law_172 rfl (lv_at hl 2 rfl) ?_
  refine iv_cI (wr := wX a hs1 E x') (wc := wM am E y) (w1 := wM am E y') (r := v) (As := []) (rest := [.int (zi v)]) ⟨hx, hb, hml, hown, hts⟩ (k_X8_letGo l E am H.size 1300 y (v, y') fy) (cwV 0 hts gL_law_X8_letGo rfl rfl rfl (by decide +kernel) ⟨Nat.le_of_ble_eq_true rfl, Nat.le_of_ble_eq_true rfl⟩) hK hP hD hS hA 8 rfl rfl rfl hl.1 (Nat.le_of_ble_eq_true rfl) ⟨Nat.le_refl _, Nat.le_refl _⟩ dL_law_173 (fun H locs hP hD hS => ?_)
  refine lv_icmp_eq (tgt := 647) hx hb dL_law_176 (by decide) (fun _ => ?_) (fun hne => absurd rfl hne)
  exact kk hs1 x' y' H locs hR' (pm_P List.perm_append_comm hP) (pm_D List.perm_append_comm hD) hS
set_option maxHeartbeats 4000000 in
set_option maxRecDepth 100000 in
theorem law_pour {p : Program} {l : Launch} {e : Env} {s : State} {m : MethodId} {below : List Frame} {meth : Method} {c : Code} {E : wE} {a am : Nat → Nat} {b L : Nat} {xs : Nat → Int32} {ls : Array Slot} {Q : State → Prop} (hL : L ≤ 2048) (C0 : lw_At p s m meth c b L xs) (hZ : mSt s (fun q : Nat => s.heap.size ≤ q) s.heap) (hK : KK E s) {i : Nat} (hi : i + 4 ≤ L) (hl : lv_has ls 4 [(0, .ref b), (1, .ref (a 0)), (2, .ref (am 0)), (3, .int (zi (i : Int)))]) (kk : lw_K p l e s m below meth c E a am b ls Q 647) : lw_K p l e s m below meth c E a am b ls Q 181 := by
  obtain ⟨hx, hb, hr, hml, hown, hts0, hX, hbl, hlocks, hgv⟩ := C0
  have hown : s.vm.findClass RL = some m.cls := hown
  have hb : c.code = cL_law := hb
  have hts : ∀ w ∈ wsL_law, w.before #[Value.ref b] s = true := fun w hw => hts0 w (wsL_law_in w hw)
  have hA : ∀ q : Nat, s.heap.size ≤ q → (fun q : Nat => s.heap.size ≤ q) q := fun _ h => h
  have hbA : ¬ (fun q : Nat => s.heap.size ≤ q) b := Nat.not_le.mpr hbl
  intro hs x y H locs hR hP hD hS
  obtain ⟨v, x', y', fx, fy, hR'⟩ := s_pour (N := 1300) (Nat.le_refl 1300) (rg_xs (xs (i + 1))) x y hR
  refine lv_aload_n hx hb dL_law_181 rfl (lv_at hl 1 rfl) ?_
  refine lv_aload_n hx hb dL_law_182 rfl (lv_at hl 0 rfl) ?_
  refine lv_iload_n hx hb dL_law_183 rfl (lv_at hl 3 rfl) ?_
  refine iv_iconst hx hb dL_law_184 ?_
  refine iv_iadd hx hb dL_law_185 ?_
  refine iv_sld (j := i + 1) hx hb hL hX hbl hbA hS (by omega) (by omega) dL_law_186 ?_
  refine iv_cIx (wr := wM am E y) (wc := wX a hs E x) (Wf := fun h1 => wX a h1 E x') (r := v) (As := [.int (zi (xs (i + 1)).toInt)]) (rest := []) ⟨hx, hb, hml, hown, hts⟩ (k_X7_pour l E a hs H.size 1300 ((xs (i + 1)).toInt) x (v, x') fx) (cwV 1 hts gL_law_X7_pour rfl rfl rfl (by decide +kernel) ⟨Nat.le_of_ble_eq_true rfl, Nat.le_of_ble_eq_true rfl⟩) hK hP hD hS hA 7 rfl rfl rfl hl.1 (Nat.le_of_ble_eq_true rfl) ⟨Nat.le_refl _, Nat.le_refl _⟩ dL_law_187 (fun hs1 H locs hP hD hS => ?_)
  have hP := pm_P List.perm_append_comm hP
  have hD := pm_D List.perm_append_comm hD
  refine lv_aload_n hx hb dL_law_190 rfl (lv_at hl 2 rfl) ?_
  refine lv_aload_n hx hb dL_law_191 rfl (lv_at hl 0 rfl) ?_
  refine lv_iload_n hx hb dL_law_192 rfl (lv_at hl 3 rfl) ?_
  refine iv_iconst hx hb dL_law_193 ?_
  refine iv_iadd hx hb dL_law_194 ?_
  refine iv_sld (j := i + 1) hx hb hL hX hbl hbA hS (by omega) (by omega) dL_law_195 ?_
  refine iv_cI (wr := wX a hs1 E x') (wc := wM am E y) (w1 := wM am E y') (r := v) (As := [.int (zi (xs (i + 1)).toInt)]) (rest := [.int (zi v)]) ⟨hx, hb, hml, hown, hts⟩ (k_X8_pour l E am H.size 1300 ((xs (i + 1)).toInt) y (v, y') fy) (cwV 1 hts gL_law_X8_pour rfl rfl rfl (by decide +kernel) ⟨Nat.le_of_ble_eq_true rfl, Nat.le_of_ble_eq_true rfl⟩) hK hP hD hS hA 8 rfl rfl rfl hl.1 (Nat.le_of_ble_eq_true rfl) ⟨Nat.le_refl _, Nat.le_refl _⟩ dL_law_196 (fun H locs hP hD hS => ?_)
  refine lv_icmp_eq (tgt := 647) hx hb dL_law_199 (by decide) (fun _ => ?_) (fun hne => absurd rfl hne)
  exact kk hs1 x' y' H locs hR' (pm_P List.perm_append_comm hP) (pm_D List.perm_append_comm hD) hS
set_option maxHeartbeats 4000000 in
set_option maxRecDepth 100000 in
theorem law_shirt {p : Program} {l : Launch} {e : Env} {s : State} {m : MethodId} {below : List Frame} {meth : Method} {c : Code} {E : wE} {a am : Nat → Nat} {b L : Nat} {xs : Nat → Int32} {ls : Array Slot} {Q : State → Prop} (hL : L ≤ 2048) (C0 : lw_At p s m meth c b L xs) (hZ : mSt s (fun q : Nat => s.heap.size ≤ q) s.heap) (hK : KK E s) {i : Nat} (hi : i + 4 ≤ L) (hl : lv_has ls 4 [(0, .ref b), (1, .ref (a 0)), (2, .ref (am 0)), (3, .int (zi (i : Int)))]) (kk : lw_K p l e s m below meth c E a am b ls Q 647) : lw_K p l e s m below meth c E a am b ls Q 204 := by
  obtain ⟨hx, hb, hr, hml, hown, hts0, hX, hbl, hlocks, hgv⟩ := C0
  have hown : s.vm.findClass RL = some m.cls := hown
  have hb : c.code = cL_law := hb
  have hts : ∀ w ∈ wsL_law, w.before #[Value.ref b] s = true := fun w hw => hts0 w (wsL_law_in w hw)
  have hA : ∀ q : Nat, s.heap.size ≤ q → (fun q : Nat => s.heap.size ≤ q) q := fun _ h => h
  have hbA : ¬ (fun q : Nat => s.heap.size ≤ q) b := Nat.not_le.mpr hbl
  intro hs x y H locs hR hP hD hS
  obtain ⟨v, x', y', fx, fy, hR'⟩ := s_shirt (N := 1300) (Nat.le_refl 1300) (rg_xs (xs (i + 1))) (rg_xs (xs (i + 2))) x y hR
  refine lv_aload_n hx hb dL_law_204 rfl (lv_at hl 1 rfl) ?_
  refine lv_aload_n hx hb dL_law_205 rfl (lv_at hl 0 rfl) ?_
  refine lv_iload_n hx hb dL_law_206 rfl (lv_at hl 3 rfl) ?_
  refine iv_iconst hx hb dL_law_207 ?_
  refine iv_iadd hx hb dL_law_208 ?_
  refine iv_sld (j := i + 1) hx hb hL hX hbl hbA hS (by omega) (by omega) dL_law_209 ?_
  refine lv_aload_n hx hb dL_law_210 rfl (lv_at hl 0 rfl) ?_
  refine lv_iload_n hx hb dL_law_211 rfl (lv_at hl 3 rfl) ?_
  refine iv_iconst hx hb dL_law_212 ?_
  refine iv_iadd hx hb dL_law_213 ?_
  refine iv_sld (j := i + 2) hx hb hL hX hbl hbA hS (by omega) (by omega) dL_law_214 ?_
  refine iv_cIx (wr := wM am E y) (wc := wX a hs E x) (Wf := fun h1 => wX a h1 E x') (r := v) (As := [.int (zi (xs (i + 1)).toInt), .int (zi (xs (i + 2)).toInt)]) (rest := []) ⟨hx, hb, hml, hown, hts⟩ (k_X7_shirt l E a hs H.size 1300 ((xs (i + 1)).toInt) ((xs (i + 2)).toInt) x (v, x') fx) (cwV 2 hts gL_law_X7_shirt rfl rfl rfl (by decide +kernel) ⟨Nat.le_of_ble_eq_true rfl, Nat.le_of_ble_eq_true rfl⟩) hK hP hD hS hA 7 rfl rfl rfl hl.1 (Nat.le_of_ble_eq_true rfl) ⟨Nat.le_refl _, Nat.le_refl _⟩ dL_law_215 (fun hs1 H locs hP hD hS => ?_)
  have hP := pm_P List.perm_append_comm hP
  have hD := pm_D List.perm_append_comm hD
  refine lv_aload_n hx hb dL_law_218 rfl (lv_at hl 2 rfl) ?_
  refine lv_aload_n hx hb dL_law_219 rfl (lv_at hl 0 rfl) ?_
  refine lv_iload_n hx hb dL_law_220 rfl (lv_at hl 3 rfl) ?_
  refine iv_iconst hx hb dL_law_221 ?_
  refine iv_iadd hx hb dL_law_222 ?_
  refine iv_sld (j := i + 1) hx hb hL hX hbl hbA hS (by omega) (by omega) dL_law_223 ?_
  refine lv_aload_n hx hb dL_law_224 rfl (lv_at hl 0 rfl) ?_
  refine lv_iload_n hx hb dL_law_225 rfl (lv_at hl 3 rfl) ?_
  refine iv_iconst hx hb dL_law_226 ?_
  refine iv_iadd hx hb dL_law_227 ?_
  refine iv_sld (j := i + 2) hx hb hL hX hbl hbA hS (by omega) (by omega) dL_law_228 ?_
  refine iv_cI (wr := wX a hs1 E x') (wc := wM am E y) (w1 := wM am E y') (r := v) (As := [.int (zi (xs (i + 1)).toInt), .int (zi (xs (i + 2)).toInt)]) (rest := [.int (zi v)]) ⟨hx, hb, hml, hown, hts⟩ (k_X8_shirt l E am H.size 1300 ((xs (i + 1)).toInt) ((xs (i + 2)).toInt) y (v, y') fy) (cwV 2 hts gL_law_X8_shirt rfl rfl rfl (by decide +kernel) ⟨Nat.le_of_ble_eq_true rfl, Nat.le_of_ble_eq_true rfl⟩) hK hP hD hS hA 8 rfl rfl rfl hl.1 (Nat.le_of_ble_eq_true rfl) ⟨Nat.le_refl _, Nat.le_refl _⟩ dL_law_229 (fun H locs hP hD hS => ?_)
  refine lv_icmp_eq (tgt := 647) hx hb dL_law_232 (by decide) (fun _ => ?_) (fun hne => absurd rfl hne)
  exact kk hs1 x' y' H locs hR' (pm_P List.perm_append_comm hP) (pm_D List.perm_append_comm hD) hS
set_option maxHeartbeats 4000000 in
set_option maxRecDepth 100000 in
theorem law_polish {p : Program} {l : Launch} {e : Env} {s : State} {m : MethodId} {below : List Frame} {meth : Method} {c : Code} {E : wE} {a am : Nat → Nat} {b L : Nat} {xs : Nat → Int32} {ls : Array Slot} {Q : State → Prop} (hL : L ≤ 2048) (C0 : lw_At p s m meth c b L xs) (hZ : mSt s (fun q : Nat => s.heap.size ≤ q) s.heap) (hK : KK E s) {i : Nat} (hi : i + 4 ≤ L) (hl : lv_has ls 4 [(0, .ref b), (1, .ref (a 0)), (2, .ref (am 0)), (3, .int (zi (i : Int)))]) (kk : lw_K p l e s m below meth c E a am b ls Q 647) : lw_K p l e s m below meth c E a am b ls Q 237 := by
  obtain ⟨hx, hb, hr, hml, hown, hts0, hX, hbl, hlocks, hgv⟩ := C0
  have hown : s.vm.findClass RL = some m.cls := hown
  have hb : c.code = cL_law := hb
  have hts : ∀ w ∈ wsL_law, w.before #[Value.ref b] s = true := fun w hw => hts0 w (wsL_law_in w hw)
  have hA : ∀ q : Nat, s.heap.size ≤ q → (fun q : Nat => s.heap.size ≤ q) q := fun _ h => h
  have hbA : ¬ (fun q : Nat => s.heap.size ≤ q) b := Nat.not_le.mpr hbl
  intro hs x y H locs hR hP hD hS
  obtain ⟨v, x', y', fx, fy, hR'⟩ := s_polish (N := 1300) (Nat.le_refl 1300) (rg_xs (xs (i + 1))) x y hR
  refine lv_aload_n hx hb dL_law_237 rfl (lv_at hl 1 rfl) ?_
  refine lv_aload_n hx hb dL_law_238 rfl (lv_at hl 0 rfl) ?_
  refine lv_iload_n hx hb dL_law_239 rfl (lv_at hl 3 rfl) ?_
  refine iv_iconst hx hb dL_law_240 ?_
  refine iv_iadd hx hb dL_law_241 ?_
  refine iv_sld (j := i + 1) hx hb hL hX hbl hbA hS (by omega) (by omega) dL_law_242 ?_
  refine iv_cIx (wr := wM am E y) (wc := wX a hs E x) (Wf := fun h1 => wX a h1 E x') (r := v) (As := [.int (zi (xs (i + 1)).toInt)]) (rest := []) ⟨hx, hb, hml, hown, hts⟩ (k_X7_polish l E a hs H.size ((xs (i + 1)).toInt) x (v, x') fx) (cwV 1 hts gL_law_X7_polish rfl rfl rfl (by decide +kernel) ⟨Nat.le_of_ble_eq_true rfl, Nat.le_of_ble_eq_true rfl⟩) hK hP hD hS hA 7 rfl rfl rfl hl.1 (Nat.le_of_ble_eq_true rfl) ⟨Nat.le_refl _, Nat.le_refl _⟩ dL_law_243 (fun hs1 H locs hP hD hS => ?_)
  have hP := pm_P List.perm_append_comm hP
  have hD := pm_D List.perm_append_comm hD
  refine lv_aload_n hx hb dL_law_246 rfl (lv_at hl 2 rfl) ?_
  refine lv_aload_n hx hb dL_law_247 rfl (lv_at hl 0 rfl) ?_
  refine lv_iload_n hx hb dL_law_248 rfl (lv_at hl 3 rfl) ?_
  refine iv_iconst hx hb dL_law_249 ?_
  refine iv_iadd hx hb dL_law_250 ?_
  refine iv_sld (j := i + 1) hx hb hL hX hbl hbA hS (by omega) (by omega) dL_law_251 ?_
  refine iv_cI (wr := wX a hs1 E x') (wc := wM am E y) (w1 := wM am E y') (r := v) (As := [.int (zi (xs (i + 1)).toInt)]) (rest := [.int (zi v)]) ⟨hx, hb, hml, hown, hts⟩ (k_X8_polish l E am H.size 1300 ((xs (i + 1)).toInt) y (v, y') fy) (cwV 1 hts gL_law_X8_polish rfl rfl rfl (by decide +kernel) ⟨Nat.le_of_ble_eq_true rfl, Nat.le_of_ble_eq_true rfl⟩) hK hP hD hS hA 8 rfl rfl rfl hl.1 (Nat.le_of_ble_eq_true rfl) ⟨Nat.le_refl _, Nat.le_refl _⟩ dL_law_252 (fun H locs hP hD hS => ?_)
  refine lv_icmp_eq (tgt := 647) hx hb dL_law_255 (by decide) (fun _ => ?_) (fun hne => absurd rfl hne)
  exact kk hs1 x' y' H locs hR' (pm_P List.perm_append_comm hP) (pm_D List.perm_append_comm hD) hS
set_option maxHeartbeats 4000000 in
set_option maxRecDepth 100000 in
theorem law_set {p : Program} {l : Launch} {e : Env} {s : State} {m : MethodId} {below : List Frame} {meth : Method} {c : Code} {E : wE} {a am : Nat → Nat} {b L : Nat} {xs : Nat → Int32} {ls : Array Slot} {Q : State → Prop} (hL : L ≤ 2048) (C0 : lw_At p s m meth c b L xs) (hZ : mSt s (fun q : Nat => s.heap.size ≤ q) s.heap) (hK : KK E s) {i : Nat} (hi : i + 4 ≤ L) (hl : lv_has ls 4 [(0, .ref b), (1, .ref (a 0)), (2, .ref (am 0)), (3, .int (zi (i : Int)))]) (kk : lw_K p l e s m below meth c E a am b ls Q 647) : lw_K p l e s m below meth c E a am b ls Q 260 := by
  obtain ⟨hx, hb, hr, hml, hown, hts0, hX, hbl, hlocks, hgv⟩ := C0
  have hown : s.vm.findClass RL = some m.cls := hown
  have hb : c.code = cL_law := hb
  have hts : ∀ w ∈ wsL_law, w.before #[Value.ref b] s = true := fun w hw => hts0 w (wsL_law_in w hw)
  have hA : ∀ q : Nat, s.heap.size ≤ q → (fun q : Nat => s.heap.size ≤ q) q := fun _ h => h
  have hbA : ¬ (fun q : Nat => s.heap.size ≤ q) b := Nat.not_le.mpr hbl
  intro hs x y H locs hR hP hD hS
  obtain ⟨v, x', y', fx, fy, hR'⟩ := s_set (N := 1300) (Nat.le_refl 1300) (rg_xs (xs (i + 1))) (rg_xs (xs (i + 2))) x y hR
  refine lv_aload_n hx hb dL_law_260 rfl (lv_at hl 1 rfl) ?_
  refine lv_aload_n hx hb dL_law_261 rfl (lv_at hl 0 rfl) ?_
  refine lv_iload_n hx hb dL_law_262 rfl (lv_at hl 3 rfl) ?_
  refine iv_iconst hx hb dL_law_263 ?_
  refine iv_iadd hx hb dL_law_264 ?_
  refine iv_sld (j := i + 1) hx hb hL hX hbl hbA hS (by omega) (by omega) dL_law_265 ?_
  refine lv_aload_n hx hb dL_law_266 rfl (lv_at hl 0 rfl) ?_
  refine lv_iload_n hx hb dL_law_267 rfl (lv_at hl 3 rfl) ?_
  refine iv_iconst hx hb dL_law_268 ?_
  refine iv_iadd hx hb dL_law_269 ?_
  refine iv_sld (j := i + 2) hx hb hL hX hbl hbA hS (by omega) (by omega) dL_law_270 ?_
  refine iv_cIxs (wr := wM am E y) (wc := wX a hs E x) (Wf := fun h1 => wX a h1 E x') (r := v) (As := [.int (zi (xs (i + 1)).toInt), .int (zi (xs (i + 2)).toInt)]) (rest := []) ⟨hx, hb, hml, hown, hts⟩ (k_X7_set l E a hs H.size ((xs (i + 1)).toInt) ((xs (i + 2)).toInt) x (v, x') fx) (cwV 2 hts gL_law_X7_set rfl rfl rfl (by decide +kernel) ⟨Nat.le_of_ble_eq_true rfl, Nat.le_of_ble_eq_true rfl⟩) hZ hK hP hD hS hA 7 rfl rfl rfl hl.1 (Nat.le_of_ble_eq_true rfl) ⟨Nat.le_refl _, Nat.le_refl _⟩ dL_law_271 (fun hs1 H locs hP hD hS => ?_)
  have hP := pm_P List.perm_append_comm hP
  have hD := pm_D List.perm_append_comm hD
  refine lv_aload_n hx hb dL_law_274 rfl (lv_at hl 2 rfl) ?_
  refine lv_aload_n hx hb dL_law_275 rfl (lv_at hl 0 rfl) ?_
  refine lv_iload_n hx hb dL_law_276 rfl (lv_at hl 3 rfl) ?_
  refine iv_iconst hx hb dL_law_277 ?_
  refine iv_iadd hx hb dL_law_278 ?_
  refine iv_sld (j := i + 1) hx hb hL hX hbl hbA hS (by omega) (by omega) dL_law_279 ?_
  refine lv_aload_n hx hb dL_law_280 rfl (lv_at hl 0 rfl) ?_
  refine lv_iload_n hx hb dL_law_281 rfl (lv_at hl 3 rfl) ?_
  refine iv_iconst hx hb dL_law_282 ?_
  refine iv_iadd hx hb dL_law_283 ?_
  refine iv_sld (j := i + 2) hx hb hL hX hbl hbA hS (by omega) (by omega) dL_law_284 ?_
  refine iv_cI (wr := wX a hs1 E x') (wc := wM am E y) (w1 := wM am E y') (r := v) (As := [.int (zi (xs (i + 1)).toInt), .int (zi (xs (i + 2)).toInt)]) (rest := [.int (zi v)]) ⟨hx, hb, hml, hown, hts⟩ (k_X8_set l E am H.size 1300 ((xs (i + 1)).toInt) ((xs (i + 2)).toInt) y (v, y') fy) (cwV 2 hts gL_law_X8_set rfl rfl rfl (by decide +kernel) ⟨Nat.le_of_ble_eq_true rfl, Nat.le_of_ble_eq_true rfl⟩) hK hP hD hS hA 8 rfl rfl rfl hl.1 (Nat.le_of_ble_eq_true rfl) ⟨Nat.le_refl _, Nat.le_refl _⟩ dL_law_285 (fun H locs hP hD hS => ?_)
  refine lv_icmp_eq (tgt := 647) hx hb dL_law_288 (by decide) (fun _ => ?_) (fun hne => absurd rfl hne)
  exact kk hs1 x' y' H locs hR' (pm_P List.perm_append_comm hP) (pm_D List.perm_append_comm hD) hS
set_option maxHeartbeats 4000000 in
set_option maxRecDepth 100000 in
theorem law_type {p : Program} {l : Launch} {e : Env} {s : State} {m : MethodId} {below : List Frame} {meth : Method} {c : Code} {E : wE} {a am : Nat → Nat} {b L : Nat} {xs : Nat → Int32} {ls : Array Slot} {Q : State → Prop} (hL : L ≤ 2048) (C0 : lw_At p s m meth c b L xs) (hZ : mSt s (fun q : Nat => s.heap.size ≤ q) s.heap) (hK : KK E s) {i : Nat} (hi : i + 4 ≤ L) (hl : lv_has ls 4 [(0, .ref b), (1, .ref (a 0)), (2, .ref (am 0)), (3, .int (zi (i : Int)))]) (kk : lw_K p l e s m below meth c E a am b ls Q 647) : lw_K p l e s m below meth c E a am b ls Q 293 := by
  obtain ⟨hx, hb, hr, hml, hown, hts0, hX, hbl, hlocks, hgv⟩ := C0
  have hown : s.vm.findClass RL = some m.cls := hown
  have hb : c.code = cL_law := hb
  have hts : ∀ w ∈ wsL_law, w.before #[Value.ref b] s = true := fun w hw => hts0 w (wsL_law_in w hw)
  have hA : ∀ q : Nat, s.heap.size ≤ q → (fun q : Nat => s.heap.size ≤ q) q := fun _ h => h
  have hbA : ¬ (fun q : Nat => s.heap.size ≤ q) b := Nat.not_le.mpr hbl
  intro hs x y H locs hR hP hD hS
  obtain ⟨q, hq, eq⟩ := chr (xs (i + 1))
  obtain ⟨v, x', y', fx, fy, hR'⟩ := s_type (c := (q : Int)) (by omega) x y hR
  refine lv_aload_n hx hb dL_law_293 rfl (lv_at hl 1 rfl) ?_
  refine lv_aload_n hx hb dL_law_294 rfl (lv_at hl 0 rfl) ?_
  refine lv_iload_n hx hb dL_law_295 rfl (lv_at hl 3 rfl) ?_
  refine iv_iconst hx hb dL_law_296 ?_
  refine iv_iadd hx hb dL_law_297 ?_
  refine iv_sld (j := i + 1) hx hb hL hX hbl hbA hS (by omega) (by omega) dL_law_298 ?_
  refine lv_i2c (v := zi (q : Int)) hx hb dL_law_299 (by rw [zi_xs]; exact eq) ?_
  refine iv_cI (wr := wM am E y) (wc := wX a hs E x) (w1 := wX a hs E x') (r := v) (As := [.int (zi (q : Int))]) (rest := []) ⟨hx, hb, hml, hown, hts⟩ (k_X7_type l E a hs H.size ((q : Int)) x (v, x') fx) (cwV 1 hts gL_law_X7_type rfl rfl rfl (by decide +kernel) ⟨Nat.le_of_ble_eq_true rfl, Nat.le_of_ble_eq_true rfl⟩) hK hP hD hS hA 7 rfl rfl rfl hl.1 (Nat.le_of_ble_eq_true rfl) ⟨Nat.le_refl _, Nat.le_refl _⟩ dL_law_300 (fun H locs hP hD hS => ?_)
  have hP := pm_P List.perm_append_comm hP
  have hD := pm_D List.perm_append_comm hD
  refine lv_aload_n hx hb dL_law_303 rfl (lv_at hl 2 rfl) ?_
  refine lv_aload_n hx hb dL_law_304 rfl (lv_at hl 0 rfl) ?_
  refine lv_iload_n hx hb dL_law_305 rfl (lv_at hl 3 rfl) ?_
  refine iv_iconst hx hb dL_law_306 ?_
  refine iv_iadd hx hb dL_law_307 ?_
  refine iv_sld (j := i + 1) hx hb hL hX hbl hbA hS (by omega) (by omega) dL_law_308 ?_
  refine lv_i2c (v := zi (q : Int)) hx hb dL_law_309 (by rw [zi_xs]; exact eq) ?_
  refine iv_cI (wr := wX a hs E x') (wc := wM am E y) (w1 := wM am E y') (r := v) (As := [.int (zi (q : Int))]) (rest := [.int (zi v)]) ⟨hx, hb, hml, hown, hts⟩ (k_X8_type l E am H.size ((q : Int)) y (v, y') fy) (cwV 1 hts gL_law_X8_type rfl rfl rfl (by decide +kernel) ⟨Nat.le_of_ble_eq_true rfl, Nat.le_of_ble_eq_true rfl⟩) hK hP hD hS hA 8 rfl rfl rfl hl.1 (Nat.le_of_ble_eq_true rfl) ⟨Nat.le_refl _, Nat.le_refl _⟩ dL_law_310 (fun H locs hP hD hS => ?_)
  refine lv_icmp_eq (tgt := 647) hx hb dL_law_313 (by decide) (fun _ => ?_) (fun hne => absurd rfl hne)
  exact kk hs x' y' H locs hR' (pm_P List.perm_append_comm hP) (pm_D List.perm_append_comm hD) hS
set_option maxHeartbeats 4000000 in
set_option maxRecDepth 100000 in
theorem law_clearText {p : Program} {l : Launch} {e : Env} {s : State} {m : MethodId} {below : List Frame} {meth : Method} {c : Code} {E : wE} {a am : Nat → Nat} {b L : Nat} {xs : Nat → Int32} {ls : Array Slot} {Q : State → Prop} (hL : L ≤ 2048) (C0 : lw_At p s m meth c b L xs) (hZ : mSt s (fun q : Nat => s.heap.size ≤ q) s.heap) (hK : KK E s) {i : Nat} (hi : i + 4 ≤ L) (hl : lv_has ls 4 [(0, .ref b), (1, .ref (a 0)), (2, .ref (am 0)), (3, .int (zi (i : Int)))]) (kk : lw_K p l e s m below meth c E a am b ls Q 647) : lw_K p l e s m below meth c E a am b ls Q 318 := by
  obtain ⟨hx, hb, hr, hml, hown, hts0, hX, hbl, hlocks, hgv⟩ := C0
  have hown : s.vm.findClass RL = some m.cls := hown
  have hb : c.code = cL_law := hb
  have hts : ∀ w ∈ wsL_law, w.before #[Value.ref b] s = true := fun w hw => hts0 w (wsL_law_in w hw)
  have hA : ∀ q : Nat, s.heap.size ≤ q → (fun q : Nat => s.heap.size ≤ q) q := fun _ h => h
  have hbA : ¬ (fun q : Nat => s.heap.size ≤ q) b := Nat.not_le.mpr hbl
  intro hs x y H locs hR hP hD hS
  obtain ⟨v, x', y', fx, fy, hR'⟩ := s_clearText   x y hR
  refine lv_aload_n hx hb dL_law_318 rfl (lv_at hl 1 rfl) ?_
  refine iv_cI (wr := wM am E y) (wc := wX a hs E x) (w1 := wX a hs E x') (r := v) (As := []) (rest := []) ⟨hx, hb, hml, hown, hts⟩ (k_X7_clearText l E a hs H.size x (v, x') fx) (cwV 0 hts gL_law_X7_clearText rfl rfl rfl (by decide +kernel) ⟨Nat.le_of_ble_eq_true rfl, Nat.le_of_ble_eq_true rfl⟩) hK hP hD hS hA 7 rfl rfl rfl hl.1 (Nat.le_of_ble_eq_true rfl) ⟨Nat.le_refl _, Nat.le_refl _⟩ dL_law_319 (fun H locs hP hD hS => ?_)
  have hP := pm_P List.perm_append_comm hP
  have hD := pm_D List.perm_append_comm hD
  refine lv_aload_n hx hb dL_law_322 rfl (lv_at hl 2 rfl) ?_
  refine iv_cI (wr := wX a hs E x') (wc := wM am E y) (w1 := wM am E y') (r := v) (As := []) (rest := [.int (zi v)]) ⟨hx, hb, hml, hown, hts⟩ (k_X8_clearText l E am H.size y (v, y') fy) (cwV 0 hts gL_law_X8_clearText rfl rfl rfl (by decide +kernel) ⟨Nat.le_of_ble_eq_true rfl, Nat.le_of_ble_eq_true rfl⟩) hK hP hD hS hA 8 rfl rfl rfl hl.1 (Nat.le_of_ble_eq_true rfl) ⟨Nat.le_refl _, Nat.le_refl _⟩ dL_law_323 (fun H locs hP hD hS => ?_)
  refine lv_icmp_eq (tgt := 647) hx hb dL_law_326 (by decide) (fun _ => ?_) (fun hne => absurd rfl hne)
  exact kk hs x' y' H locs hR' (pm_P List.perm_append_comm hP) (pm_D List.perm_append_comm hD) hS
set_option maxHeartbeats 4000000 in
set_option maxRecDepth 100000 in
theorem law_undo {p : Program} {l : Launch} {e : Env} {s : State} {m : MethodId} {below : List Frame} {meth : Method} {c : Code} {E : wE} {a am : Nat → Nat} {b L : Nat} {xs : Nat → Int32} {ls : Array Slot} {Q : State → Prop} (hL : L ≤ 2048) (C0 : lw_At p s m meth c b L xs) (hZ : mSt s (fun q : Nat => s.heap.size ≤ q) s.heap) (hK : KK E s) {i : Nat} (hi : i + 4 ≤ L) (hl : lv_has ls 4 [(0, .ref b), (1, .ref (a 0)), (2, .ref (am 0)), (3, .int (zi (i : Int)))]) (kk : lw_K p l e s m below meth c E a am b ls Q 647) : lw_K p l e s m below meth c E a am b ls Q 331 := by
  obtain ⟨hx, hb, hr, hml, hown, hts0, hX, hbl, hlocks, hgv⟩ := C0
  have hown : s.vm.findClass RL = some m.cls := hown
  have hb : c.code = cL_law := hb
  have hts : ∀ w ∈ wsL_law, w.before #[Value.ref b] s = true := fun w hw => hts0 w (wsL_law_in w hw)
  have hA : ∀ q : Nat, s.heap.size ≤ q → (fun q : Nat => s.heap.size ≤ q) q := fun _ h => h
  have hbA : ¬ (fun q : Nat => s.heap.size ≤ q) b := Nat.not_le.mpr hbl
  intro hs x y H locs hR hP hD hS
  obtain ⟨v, x', y', fx, fy, hR'⟩ := s_undo (N := 1300) (Nat.le_refl 1300)  x y hR
  refine lv_aload_n hx hb dL_law_331 rfl (lv_at hl 1 rfl) ?_
  refine iv_cI (wr := wM am E y) (wc := wX a hs E x) (w1 := wX a hs E x') (r := v) (As := []) (rest := []) ⟨hx, hb, hml, hown, hts⟩ (k_X7_undo l E a hs H.size x (v, x') fx) (cwV 0 hts gL_law_X7_undo rfl rfl rfl (by decide +kernel) ⟨Nat.le_of_ble_eq_true rfl, Nat.le_of_ble_eq_true rfl⟩) hK hP hD hS hA 7 rfl rfl rfl hl.1 (Nat.le_of_ble_eq_true rfl) ⟨Nat.le_refl _, Nat.le_refl _⟩ dL_law_332 (fun H locs hP hD hS => ?_)
  have hP := pm_P List.perm_append_comm hP
  have hD := pm_D List.perm_append_comm hD
  refine lv_aload_n hx hb dL_law_335 rfl (lv_at hl 2 rfl) ?_
  refine iv_cI (wr := wX a hs E x') (wc := wM am E y) (w1 := wM am E y') (r := v) (As := []) (rest := [.int (zi v)]) ⟨hx, hb, hml, hown, hts⟩ (k_X8_undo l E am H.size 1300 y (v, y') fy) (cwV 0 hts gL_law_X8_undo rfl rfl rfl (by decide +kernel) ⟨Nat.le_of_ble_eq_true rfl, Nat.le_of_ble_eq_true rfl⟩) hK hP hD hS hA 8 rfl rfl rfl hl.1 (Nat.le_of_ble_eq_true rfl) ⟨Nat.le_refl _, Nat.le_refl _⟩ dL_law_336 (fun H locs hP hD hS => ?_)
  refine lv_icmp_eq (tgt := 647) hx hb dL_law_339 (by decide) (fun _ => ?_) (fun hne => absurd rfl hne)
  exact kk hs x' y' H locs hR' (pm_P List.perm_append_comm hP) (pm_D List.perm_append_comm hD) hS
set_option maxHeartbeats 4000000 in
set_option maxRecDepth 100000 in
theorem law_keep {p : Program} {l : Launch} {e : Env} {s : State} {m : MethodId} {below : List Frame} {meth : Method} {c : Code} {E : wE} {a am : Nat → Nat} {b L : Nat} {xs : Nat → Int32} {ls : Array Slot} {Q : State → Prop} (hL : L ≤ 2048) (C0 : lw_At p s m meth c b L xs) (hZ : mSt s (fun q : Nat => s.heap.size ≤ q) s.heap) (hK : KK E s) {i : Nat} (hi : i + 4 ≤ L) (hl : lv_has ls 4 [(0, .ref b), (1, .ref (a 0)), (2, .ref (am 0)), (3, .int (zi (i : Int)))]) (kk : lw_K p l e s m below meth c E a am b ls Q 647) : lw_K p l e s m below meth c E a am b ls Q 344 := by
  obtain ⟨hx, hb, hr, hml, hown, hts0, hX, hbl, hlocks, hgv⟩ := C0
  have hown : s.vm.findClass RL = some m.cls := hown
  have hb : c.code = cL_law := hb
  have hts : ∀ w ∈ wsL_law, w.before #[Value.ref b] s = true := fun w hw => hts0 w (wsL_law_in w hw)
  have hA : ∀ q : Nat, s.heap.size ≤ q → (fun q : Nat => s.heap.size ≤ q) q := fun _ h => h
  have hbA : ¬ (fun q : Nat => s.heap.size ≤ q) b := Nat.not_le.mpr hbl
  intro hs x y H locs hR hP hD hS
  obtain ⟨v, x', y', fx, fy, hR'⟩ := s_keep (N := 1300) (Nat.le_refl 1300)  x y hR
  refine lv_aload_n hx hb dL_law_344 rfl (lv_at hl 1 rfl) ?_
  refine iv_cI (wr := wM am E y) (wc := wX a hs E x) (w1 := wX a hs E x') (r := v) (As := []) (rest := []) ⟨hx, hb, hml, hown, hts⟩ (k_X7_keep l E a hs H.size x (v, x') fx) (cwV 0 hts gL_law_X7_keep rfl rfl rfl (by decide +kernel) ⟨Nat.le_of_ble_eq_true rfl, Nat.le_of_ble_eq_true rfl⟩) hK hP hD hS hA 7 rfl rfl rfl hl.1 (Nat.le_of_ble_eq_true rfl) ⟨Nat.le_refl _, Nat.le_refl _⟩ dL_law_345 (fun H locs hP hD hS => ?_)
  have hP := pm_P List.perm_append_comm hP
  have hD := pm_D List.perm_append_comm hD
  refine lv_aload_n hx hb dL_law_348 rfl (lv_at hl 2 rfl) ?_
  refine iv_cI (wr := wX a hs E x') (wc := wM am E y) (w1 := wM am E y') (r := v) (As := []) (rest := [.int (zi v)]) ⟨hx, hb, hml, hown, hts⟩ (k_X8_keep l E am H.size 1300 y (v, y') fy) (cwV 0 hts gL_law_X8_keep rfl rfl rfl (by decide +kernel) ⟨Nat.le_of_ble_eq_true rfl, Nat.le_of_ble_eq_true rfl⟩) hK hP hD hS hA 8 rfl rfl rfl hl.1 (Nat.le_of_ble_eq_true rfl) ⟨Nat.le_refl _, Nat.le_refl _⟩ dL_law_349 (fun H locs hP hD hS => ?_)
  refine lv_icmp_eq (tgt := 647) hx hb dL_law_352 (by decide) (fun _ => ?_) (fun hne => absurd rfl hne)
  exact kk hs x' y' H locs hR' (pm_P List.perm_append_comm hP) (pm_D List.perm_append_comm hD) hS
set_option maxHeartbeats 4000000 in
set_option maxRecDepth 100000 in
theorem law_restore {p : Program} {l : Launch} {e : Env} {s : State} {m : MethodId} {below : List Frame} {meth : Method} {c : Code} {E : wE} {a am : Nat → Nat} {b L : Nat} {xs : Nat → Int32} {ls : Array Slot} {Q : State → Prop} (hL : L ≤ 2048) (C0 : lw_At p s m meth c b L xs) (hZ : mSt s (fun q : Nat => s.heap.size ≤ q) s.heap) (hK : KK E s) {i : Nat} (hi : i + 4 ≤ L) (hl : lv_has ls 4 [(0, .ref b), (1, .ref (a 0)), (2, .ref (am 0)), (3, .int (zi (i : Int)))]) (kk : lw_K p l e s m below meth c E a am b ls Q 647) : lw_K p l e s m below meth c E a am b ls Q 357 := by
  obtain ⟨hx, hb, hr, hml, hown, hts0, hX, hbl, hlocks, hgv⟩ := C0
  have hown : s.vm.findClass RL = some m.cls := hown
  have hb : c.code = cL_law := hb
  have hts : ∀ w ∈ wsL_law, w.before #[Value.ref b] s = true := fun w hw => hts0 w (wsL_law_in w hw)
  have hA : ∀ q : Nat, s.heap.size ≤ q → (fun q : Nat => s.heap.size ≤ q) q := fun _ h => h
  have hbA : ¬ (fun q : Nat => s.heap.size ≤ q) b := Nat.not_le.mpr hbl
  intro hs x y H locs hR hP hD hS
  obtain ⟨v, x', y', fx, fy, hR'⟩ := s_restore (N := 1300) (Nat.le_refl 1300)  x y hR
  refine lv_aload_n hx hb dL_law_357 rfl (lv_at hl 1 rfl) ?_
  refine iv_cIx (wr := wM am E y) (wc := wX a hs E x) (Wf := fun h1 => wX a h1 E x') (r := v) (As := []) (rest := []) ⟨hx, hb, hml, hown, hts⟩ (k_X7_restore l E a hs H.size x (v, x') fx) (cwV 0 hts gL_law_X7_restore rfl rfl rfl (by decide +kernel) ⟨Nat.le_of_ble_eq_true rfl, Nat.le_of_ble_eq_true rfl⟩) hK hP hD hS hA 7 rfl rfl rfl hl.1 (Nat.le_of_ble_eq_true rfl) ⟨Nat.le_refl _, Nat.le_refl _⟩ dL_law_358 (fun hs1 H locs hP hD hS => ?_)
  have hP := pm_P List.perm_append_comm hP
  have hD := pm_D List.perm_append_comm hD
  refine lv_aload_n hx hb dL_law_361 rfl (lv_at hl 2 rfl) ?_
  refine iv_cI (wr := wX a hs1 E x') (wc := wM am E y) (w1 := wM am E y') (r := v) (As := []) (rest := [.int (zi v)]) ⟨hx, hb, hml, hown, hts⟩ (k_X8_restore l E am H.size 1300 y (v, y') fy) (cwV 0 hts gL_law_X8_restore rfl rfl rfl (by decide +kernel) ⟨Nat.le_of_ble_eq_true rfl, Nat.le_of_ble_eq_true rfl⟩) hK hP hD hS hA 8 rfl rfl rfl hl.1 (Nat.le_of_ble_eq_true rfl) ⟨Nat.le_refl _, Nat.le_refl _⟩ dL_law_362 (fun H locs hP hD hS => ?_)
  refine lv_icmp_eq (tgt := 647) hx hb dL_law_365 (by decide) (fun _ => ?_) (fun hne => absurd rfl hne)
  exact kk hs1 x' y' H locs hR' (pm_P List.perm_append_comm hP) (pm_D List.perm_append_comm hD) hS
set_option maxHeartbeats 4000000 in
set_option maxRecDepth 100000 in
theorem law_button {p : Program} {l : Launch} {e : Env} {s : State} {m : MethodId} {below : List Frame} {meth : Method} {c : Code} {E : wE} {a am : Nat → Nat} {b L : Nat} {xs : Nat → Int32} {ls : Array Slot} {Q : State → Prop} (hL : L ≤ 2048) (C0 : lw_At p s m meth c b L xs) (hZ : mSt s (fun q : Nat => s.heap.size ≤ q) s.heap) (hK : KK E s) {i : Nat} (hi : i + 4 ≤ L) (hl : lv_has ls 4 [(0, .ref b), (1, .ref (a 0)), (2, .ref (am 0)), (3, .int (zi (i : Int)))]) (kk : lw_K p l e s m below meth c E a am b ls Q 647) : lw_K p l e s m below meth c E a am b ls Q 370 := by
  obtain ⟨hx, hb, hr, hml, hown, hts0, hX, hbl, hlocks, hgv⟩ := C0
  have hown : s.vm.findClass RL = some m.cls := hown
  have hb : c.code = cL_law := hb
  have hts : ∀ w ∈ wsL_law, w.before #[Value.ref b] s = true := fun w hw => hts0 w (wsL_law_in w hw)
  have hA : ∀ q : Nat, s.heap.size ≤ q → (fun q : Nat => s.heap.size ≤ q) q := fun _ h => h
  have hbA : ¬ (fun q : Nat => s.heap.size ≤ q) b := Nat.not_le.mpr hbl
  intro hs x y H locs hR hP hD hS
  obtain ⟨v, x', y', fx, fy, hR'⟩ := s_button (N := 1300) (Nat.le_refl 1300) (rg_xs (xs (i + 1))) (rg_xs (xs (i + 2))) x y hR
  refine lv_aload_n hx hb dL_law_370 rfl (lv_at hl 1 rfl) ?_
  refine lv_aload_n hx hb dL_law_371 rfl (lv_at hl 0 rfl) ?_
  refine lv_iload_n hx hb dL_law_372 rfl (lv_at hl 3 rfl) ?_
  refine iv_iconst hx hb dL_law_373 ?_
  refine iv_iadd hx hb dL_law_374 ?_
  refine iv_sld (j := i + 1) hx hb hL hX hbl hbA hS (by omega) (by omega) dL_law_375 ?_
  refine lv_aload_n hx hb dL_law_376 rfl (lv_at hl 0 rfl) ?_
  refine lv_iload_n hx hb dL_law_377 rfl (lv_at hl 3 rfl) ?_
  refine iv_iconst hx hb dL_law_378 ?_
  refine iv_iadd hx hb dL_law_379 ?_
  refine iv_sld (j := i + 2) hx hb hL hX hbl hbA hS (by omega) (by omega) dL_law_380 ?_
  refine iv_cI (wr := wM am E y) (wc := wX a hs E x) (w1 := wX a hs E x') (r := v) (As := [.int (zi (xs (i + 1)).toInt), .int (zi (xs (i + 2)).toInt)]) (rest := []) ⟨hx, hb, hml, hown, hts⟩ (k_X7_button l E a hs H.size 1300 ((xs (i + 1)).toInt) ((xs (i + 2)).toInt) x (v, x') fx) (cwV 2 hts gL_law_X7_button rfl rfl rfl (by decide +kernel) ⟨Nat.le_of_ble_eq_true rfl, Nat.le_of_ble_eq_true rfl⟩) hK hP hD hS hA 7 rfl rfl rfl hl.1 (Nat.le_of_ble_eq_true rfl) ⟨Nat.le_refl _, Nat.le_refl _⟩ dL_law_381 (fun H locs hP hD hS => ?_)
  have hP := pm_P List.perm_append_comm hP
  have hD := pm_D List.perm_append_comm hD
  refine lv_aload_n hx hb dL_law_384 rfl (lv_at hl 2 rfl) ?_
  refine lv_aload_n hx hb dL_law_385 rfl (lv_at hl 0 rfl) ?_
  refine lv_iload_n hx hb dL_law_386 rfl (lv_at hl 3 rfl) ?_
  refine iv_iconst hx hb dL_law_387 ?_
  refine iv_iadd hx hb dL_law_388 ?_
  refine iv_sld (j := i + 1) hx hb hL hX hbl hbA hS (by omega) (by omega) dL_law_389 ?_
  refine lv_aload_n hx hb dL_law_390 rfl (lv_at hl 0 rfl) ?_
  refine lv_iload_n hx hb dL_law_391 rfl (lv_at hl 3 rfl) ?_
  refine iv_iconst hx hb dL_law_392 ?_
  refine iv_iadd hx hb dL_law_393 ?_
  refine iv_sld (j := i + 2) hx hb hL hX hbl hbA hS (by omega) (by omega) dL_law_394 ?_
  refine iv_cI (wr := wX a hs E x') (wc := wM am E y) (w1 := wM am E y') (r := v) (As := [.int (zi (xs (i + 1)).toInt), .int (zi (xs (i + 2)).toInt)]) (rest := [.int (zi v)]) ⟨hx, hb, hml, hown, hts⟩ (k_X8_button l E am H.size 1300 ((xs (i + 1)).toInt) ((xs (i + 2)).toInt) y (v, y') fy) (cwV 2 hts gL_law_X8_button rfl rfl rfl (by decide +kernel) ⟨Nat.le_of_ble_eq_true rfl, Nat.le_of_ble_eq_true rfl⟩) hK hP hD hS hA 8 rfl rfl rfl hl.1 (Nat.le_of_ble_eq_true rfl) ⟨Nat.le_refl _, Nat.le_refl _⟩ dL_law_395 (fun H locs hP hD hS => ?_)
  refine lv_icmp_eq (tgt := 647) hx hb dL_law_398 (by decide) (fun _ => ?_) (fun hne => absurd rfl hne)
  exact kk hs x' y' H locs hR' (pm_P List.perm_append_comm hP) (pm_D List.perm_append_comm hD) hS
set_option maxHeartbeats 4000000 in
set_option maxRecDepth 100000 in
theorem law_inBin {p : Program} {l : Launch} {e : Env} {s : State} {m : MethodId} {below : List Frame} {meth : Method} {c : Code} {E : wE} {a am : Nat → Nat} {b L : Nat} {xs : Nat → Int32} {ls : Array Slot} {Q : State → Prop} (hL : L ≤ 2048) (C0 : lw_At p s m meth c b L xs) (hZ : mSt s (fun q : Nat => s.heap.size ≤ q) s.heap) (hK : KK E s) {i : Nat} (hi : i + 4 ≤ L) (hl : lv_has ls 4 [(0, .ref b), (1, .ref (a 0)), (2, .ref (am 0)), (3, .int (zi (i : Int)))]) (kk : lw_K p l e s m below meth c E a am b ls Q 647) : lw_K p l e s m below meth c E a am b ls Q 403 := by
  obtain ⟨hx, hb, hr, hml, hown, hts0, hX, hbl, hlocks, hgv⟩ := C0
  have hown : s.vm.findClass RL = some m.cls := hown
  have hb : c.code = cL_law := hb
  have hts : ∀ w ∈ wsL_law, w.before #[Value.ref b] s = true := fun w hw => hts0 w (wsL_law_in w hw)
  have hA : ∀ q : Nat, s.heap.size ≤ q → (fun q : Nat => s.heap.size ≤ q) q := fun _ h => h
  have hbA : ¬ (fun q : Nat => s.heap.size ≤ q) b := Nat.not_le.mpr hbl
  intro hs x y H locs hR hP hD hS
  obtain ⟨v, x', y', fx, fy, hR'⟩ := s_inBin (N := 1300) (Nat.le_refl 1300) (rg_xs (xs (i + 1))) (rg_xs (xs (i + 2))) x y hR
  refine lv_aload_n hx hb dL_law_403 rfl (lv_at hl 1 rfl) ?_
  refine lv_aload_n hx hb dL_law_404 rfl (lv_at hl 0 rfl) ?_
  refine lv_iload_n hx hb dL_law_405 rfl (lv_at hl 3 rfl) ?_
  refine iv_iconst hx hb dL_law_406 ?_
  refine iv_iadd hx hb dL_law_407 ?_
  refine iv_sld (j := i + 1) hx hb hL hX hbl hbA hS (by omega) (by omega) dL_law_408 ?_
  refine lv_aload_n hx hb dL_law_409 rfl (lv_at hl 0 rfl) ?_
  refine lv_iload_n hx hb dL_law_410 rfl (lv_at hl 3 rfl) ?_
  refine iv_iconst hx hb dL_law_411 ?_
  refine iv_iadd hx hb dL_law_412 ?_
  refine iv_sld (j := i + 2) hx hb hL hX hbl hbA hS (by omega) (by omega) dL_law_413 ?_
  refine iv_cI (wr := wM am E y) (wc := wX a hs E x) (w1 := wX a hs E x') (r := v) (As := [.int (zi (xs (i + 1)).toInt), .int (zi (xs (i + 2)).toInt)]) (rest := []) ⟨hx, hb, hml, hown, hts⟩ (k_X7_inBin l E a hs H.size 1300 ((xs (i + 1)).toInt) ((xs (i + 2)).toInt) x (v, x') fx) (cwV 2 hts gL_law_X7_inBin rfl rfl rfl (by decide +kernel) ⟨Nat.le_of_ble_eq_true rfl, Nat.le_of_ble_eq_true rfl⟩) hK hP hD hS hA 7 rfl rfl rfl hl.1 (Nat.le_of_ble_eq_true rfl) ⟨Nat.le_refl _, Nat.le_refl _⟩ dL_law_414 (fun H locs hP hD hS => ?_)
  have hP := pm_P List.perm_append_comm hP
  have hD := pm_D List.perm_append_comm hD
  refine lv_aload_n hx hb dL_law_417 rfl (lv_at hl 2 rfl) ?_
  refine lv_aload_n hx hb dL_law_418 rfl (lv_at hl 0 rfl) ?_
  refine lv_iload_n hx hb dL_law_419 rfl (lv_at hl 3 rfl) ?_
  refine iv_iconst hx hb dL_law_420 ?_
  refine iv_iadd hx hb dL_law_421 ?_
  refine iv_sld (j := i + 1) hx hb hL hX hbl hbA hS (by omega) (by omega) dL_law_422 ?_
  refine lv_aload_n hx hb dL_law_423 rfl (lv_at hl 0 rfl) ?_
  refine lv_iload_n hx hb dL_law_424 rfl (lv_at hl 3 rfl) ?_
  refine iv_iconst hx hb dL_law_425 ?_
  refine iv_iadd hx hb dL_law_426 ?_
  refine iv_sld (j := i + 2) hx hb hL hX hbl hbA hS (by omega) (by omega) dL_law_427 ?_
  refine iv_cI (wr := wX a hs E x') (wc := wM am E y) (w1 := wM am E y') (r := v) (As := [.int (zi (xs (i + 1)).toInt), .int (zi (xs (i + 2)).toInt)]) (rest := [.int (zi v)]) ⟨hx, hb, hml, hown, hts⟩ (k_X8_inBin l E am H.size 1300 ((xs (i + 1)).toInt) ((xs (i + 2)).toInt) y (v, y') fy) (cwV 2 hts gL_law_X8_inBin rfl rfl rfl (by decide +kernel) ⟨Nat.le_of_ble_eq_true rfl, Nat.le_of_ble_eq_true rfl⟩) hK hP hD hS hA 8 rfl rfl rfl hl.1 (Nat.le_of_ble_eq_true rfl) ⟨Nat.le_refl _, Nat.le_refl _⟩ dL_law_428 (fun H locs hP hD hS => ?_)
  refine lv_icmp_eq (tgt := 647) hx hb dL_law_431 (by decide) (fun _ => ?_) (fun hne => absurd rfl hne)
  exact kk hs x' y' H locs hR' (pm_P List.perm_append_comm hP) (pm_D List.perm_append_comm hD) hS
set_option maxHeartbeats 4000000 in
set_option maxRecDepth 100000 in
theorem law_bin {p : Program} {l : Launch} {e : Env} {s : State} {m : MethodId} {below : List Frame} {meth : Method} {c : Code} {E : wE} {a am : Nat → Nat} {b L : Nat} {xs : Nat → Int32} {ls : Array Slot} {Q : State → Prop} (hL : L ≤ 2048) (C0 : lw_At p s m meth c b L xs) (hZ : mSt s (fun q : Nat => s.heap.size ≤ q) s.heap) (hK : KK E s) {i : Nat} (hi : i + 4 ≤ L) (hl : lv_has ls 4 [(0, .ref b), (1, .ref (a 0)), (2, .ref (am 0)), (3, .int (zi (i : Int)))]) (kk : lw_K p l e s m below meth c E a am b ls Q 647) : lw_K p l e s m below meth c E a am b ls Q 436 := by
  obtain ⟨hx, hb, hr, hml, hown, hts0, hX, hbl, hlocks, hgv⟩ := C0
  have hown : s.vm.findClass RL = some m.cls := hown
  have hb : c.code = cL_law := hb
  have hts : ∀ w ∈ wsL_law, w.before #[Value.ref b] s = true := fun w hw => hts0 w (wsL_law_in w hw)
  have hA : ∀ q : Nat, s.heap.size ≤ q → (fun q : Nat => s.heap.size ≤ q) q := fun _ h => h
  have hbA : ¬ (fun q : Nat => s.heap.size ≤ q) b := Nat.not_le.mpr hbl
  intro hs x y H locs hR hP hD hS
  obtain ⟨v, x', y', fx, fy, hR'⟩ := s_bin (N := 1300) (Nat.le_refl 1300) (rg_xs (xs (i + 1))) (rg_xs (xs (i + 2))) x y hR
  refine lv_aload_n hx hb dL_law_436 rfl (lv_at hl 1 rfl) ?_
  refine lv_aload_n hx hb dL_law_437 rfl (lv_at hl 0 rfl) ?_
  refine lv_iload_n hx hb dL_law_438 rfl (lv_at hl 3 rfl) ?_
  refine iv_iconst hx hb dL_law_439 ?_
  refine iv_iadd hx hb dL_law_440 ?_
  refine iv_sld (j := i + 1) hx hb hL hX hbl hbA hS (by omega) (by omega) dL_law_441 ?_
  refine lv_aload_n hx hb dL_law_442 rfl (lv_at hl 0 rfl) ?_
  refine lv_iload_n hx hb dL_law_443 rfl (lv_at hl 3 rfl) ?_
  refine iv_iconst hx hb dL_law_444 ?_
  refine iv_iadd hx hb dL_law_445 ?_
  refine iv_sld (j := i + 2) hx hb hL hX hbl hbA hS (by omega) (by omega) dL_law_446 ?_
  refine iv_cI (wr := wM am E y) (wc := wX a hs E x) (w1 := wX a hs E x') (r := v) (As := [.int (zi (xs (i + 1)).toInt), .int (zi (xs (i + 2)).toInt)]) (rest := []) ⟨hx, hb, hml, hown, hts⟩ (k_X7_bin l E a hs H.size 1300 ((xs (i + 1)).toInt) ((xs (i + 2)).toInt) x (v, x') fx) (cwV 2 hts gL_law_X7_bin rfl rfl rfl (by decide +kernel) ⟨Nat.le_of_ble_eq_true rfl, Nat.le_of_ble_eq_true rfl⟩) hK hP hD hS hA 7 rfl rfl rfl hl.1 (Nat.le_of_ble_eq_true rfl) ⟨Nat.le_refl _, Nat.le_refl _⟩ dL_law_447 (fun H locs hP hD hS => ?_)
  have hP := pm_P List.perm_append_comm hP
  have hD := pm_D List.perm_append_comm hD
  refine lv_aload_n hx hb dL_law_450 rfl (lv_at hl 2 rfl) ?_
  refine lv_aload_n hx hb dL_law_451 rfl (lv_at hl 0 rfl) ?_
  refine lv_iload_n hx hb dL_law_452 rfl (lv_at hl 3 rfl) ?_
  refine iv_iconst hx hb dL_law_453 ?_
  refine iv_iadd hx hb dL_law_454 ?_
  refine iv_sld (j := i + 1) hx hb hL hX hbl hbA hS (by omega) (by omega) dL_law_455 ?_
  refine lv_aload_n hx hb dL_law_456 rfl (lv_at hl 0 rfl) ?_
  refine lv_iload_n hx hb dL_law_457 rfl (lv_at hl 3 rfl) ?_
  refine iv_iconst hx hb dL_law_458 ?_
  refine iv_iadd hx hb dL_law_459 ?_
  refine iv_sld (j := i + 2) hx hb hL hX hbl hbA hS (by omega) (by omega) dL_law_460 ?_
  refine iv_cI (wr := wX a hs E x') (wc := wM am E y) (w1 := wM am E y') (r := v) (As := [.int (zi (xs (i + 1)).toInt), .int (zi (xs (i + 2)).toInt)]) (rest := [.int (zi v)]) ⟨hx, hb, hml, hown, hts⟩ (k_X8_bin l E am H.size 1300 ((xs (i + 1)).toInt) ((xs (i + 2)).toInt) y (v, y') fy) (cwV 2 hts gL_law_X8_bin rfl rfl rfl (by decide +kernel) ⟨Nat.le_of_ble_eq_true rfl, Nat.le_of_ble_eq_true rfl⟩) hK hP hD hS hA 8 rfl rfl rfl hl.1 (Nat.le_of_ble_eq_true rfl) ⟨Nat.le_refl _, Nat.le_refl _⟩ dL_law_461 (fun H locs hP hD hS => ?_)
  refine lv_icmp_eq (tgt := 647) hx hb dL_law_464 (by decide) (fun _ => ?_) (fun hne => absurd rfl hne)
  exact kk hs x' y' H locs hR' (pm_P List.perm_append_comm hP) (pm_D List.perm_append_comm hD) hS
set_option maxHeartbeats 4000000 in
set_option maxRecDepth 100000 in
theorem law_total {p : Program} {l : Launch} {e : Env} {s : State} {m : MethodId} {below : List Frame} {meth : Method} {c : Code} {E : wE} {a am : Nat → Nat} {b L : Nat} {xs : Nat → Int32} {ls : Array Slot} {Q : State → Prop} (hL : L ≤ 2048) (C0 : lw_At p s m meth c b L xs) (hZ : mSt s (fun q : Nat => s.heap.size ≤ q) s.heap) (hK : KK E s) {i : Nat} (hi : i + 4 ≤ L) (hl : lv_has ls 4 [(0, .ref b), (1, .ref (a 0)), (2, .ref (am 0)), (3, .int (zi (i : Int)))]) (kk : lw_K p l e s m below meth c E a am b ls Q 647) : lw_K p l e s m below meth c E a am b ls Q 469 := by
  obtain ⟨hx, hb, hr, hml, hown, hts0, hX, hbl, hlocks, hgv⟩ := C0
  have hown : s.vm.findClass RL = some m.cls := hown
  have hb : c.code = cL_law := hb
  have hts : ∀ w ∈ wsL_law, w.before #[Value.ref b] s = true := fun w hw => hts0 w (wsL_law_in w hw)
  have hA : ∀ q : Nat, s.heap.size ≤ q → (fun q : Nat => s.heap.size ≤ q) q := fun _ h => h
  have hbA : ¬ (fun q : Nat => s.heap.size ≤ q) b := Nat.not_le.mpr hbl
  intro hs x y H locs hR hP hD hS
  obtain ⟨v, x', y', fx, fy, hR'⟩ := s_total (N := 1300) (Nat.le_refl 1300) (rg_xs (xs (i + 1))) x y hR
  refine lv_aload_n hx hb dL_law_469 rfl (lv_at hl 1 rfl) ?_
  refine lv_aload_n hx hb dL_law_470 rfl (lv_at hl 0 rfl) ?_
  refine lv_iload_n hx hb dL_law_471 rfl (lv_at hl 3 rfl) ?_
  refine iv_iconst hx hb dL_law_472 ?_
  refine iv_iadd hx hb dL_law_473 ?_
  refine iv_sld (j := i + 1) hx hb hL hX hbl hbA hS (by omega) (by omega) dL_law_474 ?_
  refine iv_cI (wr := wM am E y) (wc := wX a hs E x) (w1 := wX a hs E x') (r := v) (As := [.int (zi (xs (i + 1)).toInt)]) (rest := []) ⟨hx, hb, hml, hown, hts⟩ (k_X7_total l E a hs H.size 1300 ((xs (i + 1)).toInt) x (v, x') fx) (cwV 1 hts gL_law_X7_total rfl rfl rfl (by decide +kernel) ⟨Nat.le_of_ble_eq_true rfl, Nat.le_of_ble_eq_true rfl⟩) hK hP hD hS hA 7 rfl rfl rfl hl.1 (Nat.le_of_ble_eq_true rfl) ⟨Nat.le_refl _, Nat.le_refl _⟩ dL_law_475 (fun H locs hP hD hS => ?_)
  have hP := pm_P List.perm_append_comm hP
  have hD := pm_D List.perm_append_comm hD
  refine lv_aload_n hx hb dL_law_478 rfl (lv_at hl 2 rfl) ?_
  refine lv_aload_n hx hb dL_law_479 rfl (lv_at hl 0 rfl) ?_
  refine lv_iload_n hx hb dL_law_480 rfl (lv_at hl 3 rfl) ?_
  refine iv_iconst hx hb dL_law_481 ?_
  refine iv_iadd hx hb dL_law_482 ?_
  refine iv_sld (j := i + 1) hx hb hL hX hbl hbA hS (by omega) (by omega) dL_law_483 ?_
  refine iv_cI (wr := wX a hs E x') (wc := wM am E y) (w1 := wM am E y') (r := v) (As := [.int (zi (xs (i + 1)).toInt)]) (rest := [.int (zi v)]) ⟨hx, hb, hml, hown, hts⟩ (k_X8_total l E am H.size 1300 ((xs (i + 1)).toInt) y (v, y') fy) (cwV 1 hts gL_law_X8_total rfl rfl rfl (by decide +kernel) ⟨Nat.le_of_ble_eq_true rfl, Nat.le_of_ble_eq_true rfl⟩) hK hP hD hS hA 8 rfl rfl rfl hl.1 (Nat.le_of_ble_eq_true rfl) ⟨Nat.le_refl _, Nat.le_refl _⟩ dL_law_484 (fun H locs hP hD hS => ?_)
  refine lv_icmp_eq (tgt := 647) hx hb dL_law_487 (by decide) (fun _ => ?_) (fun hne => absurd rfl hne)
  exact kk hs x' y' H locs hR' (pm_P List.perm_append_comm hP) (pm_D List.perm_append_comm hD) hS
set_option maxHeartbeats 4000000 in
set_option maxRecDepth 100000 in
theorem law_goesTo {p : Program} {l : Launch} {e : Env} {s : State} {m : MethodId} {below : List Frame} {meth : Method} {c : Code} {E : wE} {a am : Nat → Nat} {b L : Nat} {xs : Nat → Int32} {ls : Array Slot} {Q : State → Prop} (hL : L ≤ 2048) (C0 : lw_At p s m meth c b L xs) (hZ : mSt s (fun q : Nat => s.heap.size ≤ q) s.heap) (hK : KK E s) {i : Nat} (hi : i + 4 ≤ L) (hl : lv_has ls 4 [(0, .ref b), (1, .ref (a 0)), (2, .ref (am 0)), (3, .int (zi (i : Int)))]) (kk : lw_K p l e s m below meth c E a am b ls Q 647) : lw_K p l e s m below meth c E a am b ls Q 492 := by
  obtain ⟨hx, hb, hr, hml, hown, hts0, hX, hbl, hlocks, hgv⟩ := C0
  have hown : s.vm.findClass RL = some m.cls := hown
  have hb : c.code = cL_law := hb
  have hts : ∀ w ∈ wsL_law, w.before #[Value.ref b] s = true := fun w hw => hts0 w (wsL_law_in w hw)
  have hA : ∀ q : Nat, s.heap.size ≤ q → (fun q : Nat => s.heap.size ≤ q) q := fun _ h => h
  have hbA : ¬ (fun q : Nat => s.heap.size ≤ q) b := Nat.not_le.mpr hbl
  intro hs x y H locs hR hP hD hS
  obtain ⟨v, x', y', fx, fy, hR'⟩ := s_goesTo (N := 1300) (Nat.le_refl 1300) (rg_xs (xs (i + 1))) x y hR
  refine lv_aload_n hx hb dL_law_492 rfl (lv_at hl 1 rfl) ?_
  refine lv_aload_n hx hb dL_law_493 rfl (lv_at hl 0 rfl) ?_
  refine lv_iload_n hx hb dL_law_494 rfl (lv_at hl 3 rfl) ?_
  refine iv_iconst hx hb dL_law_495 ?_
  refine iv_iadd hx hb dL_law_496 ?_
  refine iv_sld (j := i + 1) hx hb hL hX hbl hbA hS (by omega) (by omega) dL_law_497 ?_
  refine iv_cI (wr := wM am E y) (wc := wX a hs E x) (w1 := wX a hs E x') (r := v) (As := [.int (zi (xs (i + 1)).toInt)]) (rest := []) ⟨hx, hb, hml, hown, hts⟩ (k_X7_goesTo l E a hs H.size 1300 ((xs (i + 1)).toInt) x (v, x') fx) (cwV 1 hts gL_law_X7_goesTo rfl rfl rfl (by decide +kernel) ⟨Nat.le_of_ble_eq_true rfl, Nat.le_of_ble_eq_true rfl⟩) hK hP hD hS hA 7 rfl rfl rfl hl.1 (Nat.le_of_ble_eq_true rfl) ⟨Nat.le_refl _, Nat.le_refl _⟩ dL_law_498 (fun H locs hP hD hS => ?_)
  have hP := pm_P List.perm_append_comm hP
  have hD := pm_D List.perm_append_comm hD
  refine lv_aload_n hx hb dL_law_501 rfl (lv_at hl 2 rfl) ?_
  refine lv_aload_n hx hb dL_law_502 rfl (lv_at hl 0 rfl) ?_
  refine lv_iload_n hx hb dL_law_503 rfl (lv_at hl 3 rfl) ?_
  refine iv_iconst hx hb dL_law_504 ?_
  refine iv_iadd hx hb dL_law_505 ?_
  refine iv_sld (j := i + 1) hx hb hL hX hbl hbA hS (by omega) (by omega) dL_law_506 ?_
  refine iv_cI (wr := wX a hs E x') (wc := wM am E y) (w1 := wM am E y') (r := v) (As := [.int (zi (xs (i + 1)).toInt)]) (rest := [.int (zi v)]) ⟨hx, hb, hml, hown, hts⟩ (k_X8_goesTo l E am H.size 1300 ((xs (i + 1)).toInt) y (v, y') fy) (cwV 1 hts gL_law_X8_goesTo rfl rfl rfl (by decide +kernel) ⟨Nat.le_of_ble_eq_true rfl, Nat.le_of_ble_eq_true rfl⟩) hK hP hD hS hA 8 rfl rfl rfl hl.1 (Nat.le_of_ble_eq_true rfl) ⟨Nat.le_refl _, Nat.le_refl _⟩ dL_law_507 (fun H locs hP hD hS => ?_)
  refine lv_icmp_eq (tgt := 647) hx hb dL_law_510 (by decide) (fun _ => ?_) (fun hne => absurd rfl hne)
  exact kk hs x' y' H locs hR' (pm_P List.perm_append_comm hP) (pm_D List.perm_append_comm hD) hS
set_option maxHeartbeats 4000000 in
set_option maxRecDepth 100000 in
theorem law_reason {p : Program} {l : Launch} {e : Env} {s : State} {m : MethodId} {below : List Frame} {meth : Method} {c : Code} {E : wE} {a am : Nat → Nat} {b L : Nat} {xs : Nat → Int32} {ls : Array Slot} {Q : State → Prop} (hL : L ≤ 2048) (C0 : lw_At p s m meth c b L xs) (hZ : mSt s (fun q : Nat => s.heap.size ≤ q) s.heap) (hK : KK E s) {i : Nat} (hi : i + 4 ≤ L) (hl : lv_has ls 4 [(0, .ref b), (1, .ref (a 0)), (2, .ref (am 0)), (3, .int (zi (i : Int)))]) (kk : lw_K p l e s m below meth c E a am b ls Q 647) : lw_K p l e s m below meth c E a am b ls Q 515 := by
  obtain ⟨hx, hb, hr, hml, hown, hts0, hX, hbl, hlocks, hgv⟩ := C0
  have hown : s.vm.findClass RL = some m.cls := hown
  have hb : c.code = cL_law := hb
  have hts : ∀ w ∈ wsL_law, w.before #[Value.ref b] s = true := fun w hw => hts0 w (wsL_law_in w hw)
  have hA : ∀ q : Nat, s.heap.size ≤ q → (fun q : Nat => s.heap.size ≤ q) q := fun _ h => h
  have hbA : ¬ (fun q : Nat => s.heap.size ≤ q) b := Nat.not_le.mpr hbl
  intro hs x y H locs hR hP hD hS
  obtain ⟨v, x', y', fx, fy, hR'⟩ := s_reason (N := 1300) (Nat.le_refl 1300) (rg_xs (xs (i + 1))) (rg_xs (xs (i + 2))) x y hR
  refine lv_aload_n hx hb dL_law_515 rfl (lv_at hl 1 rfl) ?_
  refine lv_aload_n hx hb dL_law_516 rfl (lv_at hl 0 rfl) ?_
  refine lv_iload_n hx hb dL_law_517 rfl (lv_at hl 3 rfl) ?_
  refine iv_iconst hx hb dL_law_518 ?_
  refine iv_iadd hx hb dL_law_519 ?_
  refine iv_sld (j := i + 1) hx hb hL hX hbl hbA hS (by omega) (by omega) dL_law_520 ?_
  refine lv_aload_n hx hb dL_law_521 rfl (lv_at hl 0 rfl) ?_
  refine lv_iload_n hx hb dL_law_522 rfl (lv_at hl 3 rfl) ?_
  refine iv_iconst hx hb dL_law_523 ?_
  refine iv_iadd hx hb dL_law_524 ?_
  refine iv_sld (j := i + 2) hx hb hL hX hbl hbA hS (by omega) (by omega) dL_law_525 ?_
  refine iv_cI (wr := wM am E y) (wc := wX a hs E x) (w1 := wX a hs E x') (r := v) (As := [.int (zi (xs (i + 1)).toInt), .int (zi (xs (i + 2)).toInt)]) (rest := []) ⟨hx, hb, hml, hown, hts⟩ (k_X7_reason l E a hs H.size 1300 ((xs (i + 1)).toInt) ((xs (i + 2)).toInt) x (v, x') fx) (cwV 2 hts gL_law_X7_reason rfl rfl rfl (by decide +kernel) ⟨Nat.le_of_ble_eq_true rfl, Nat.le_of_ble_eq_true rfl⟩) hK hP hD hS hA 7 rfl rfl rfl hl.1 (Nat.le_of_ble_eq_true rfl) ⟨Nat.le_refl _, Nat.le_refl _⟩ dL_law_526 (fun H locs hP hD hS => ?_)
  have hP := pm_P List.perm_append_comm hP
  have hD := pm_D List.perm_append_comm hD
  refine lv_aload_n hx hb dL_law_529 rfl (lv_at hl 2 rfl) ?_
  refine lv_aload_n hx hb dL_law_530 rfl (lv_at hl 0 rfl) ?_
  refine lv_iload_n hx hb dL_law_531 rfl (lv_at hl 3 rfl) ?_
  refine iv_iconst hx hb dL_law_532 ?_
  refine iv_iadd hx hb dL_law_533 ?_
  refine iv_sld (j := i + 1) hx hb hL hX hbl hbA hS (by omega) (by omega) dL_law_534 ?_
  refine lv_aload_n hx hb dL_law_535 rfl (lv_at hl 0 rfl) ?_
  refine lv_iload_n hx hb dL_law_536 rfl (lv_at hl 3 rfl) ?_
  refine iv_iconst hx hb dL_law_537 ?_
  refine iv_iadd hx hb dL_law_538 ?_
  refine iv_sld (j := i + 2) hx hb hL hX hbl hbA hS (by omega) (by omega) dL_law_539 ?_
  refine iv_cI (wr := wX a hs E x') (wc := wM am E y) (w1 := wM am E y') (r := v) (As := [.int (zi (xs (i + 1)).toInt), .int (zi (xs (i + 2)).toInt)]) (rest := [.int (zi v)]) ⟨hx, hb, hml, hown, hts⟩ (k_X8_reason l E am H.size 1300 ((xs (i + 1)).toInt) ((xs (i + 2)).toInt) y (v, y') fy) (cwV 2 hts gL_law_X8_reason rfl rfl rfl (by decide +kernel) ⟨Nat.le_of_ble_eq_true rfl, Nat.le_of_ble_eq_true rfl⟩) hK hP hD hS hA 8 rfl rfl rfl hl.1 (Nat.le_of_ble_eq_true rfl) ⟨Nat.le_refl _, Nat.le_refl _⟩ dL_law_540 (fun H locs hP hD hS => ?_)
  refine lv_icmp_eq (tgt := 647) hx hb dL_law_543 (by decide) (fun _ => ?_) (fun hne => absurd rfl hne)
  exact kk hs x' y' H locs hR' (pm_P List.perm_append_comm hP) (pm_D List.perm_append_comm hD) hS
set_option maxHeartbeats 4000000 in
set_option maxRecDepth 100000 in
theorem law_leastSpread {p : Program} {l : Launch} {e : Env} {s : State} {m : MethodId} {below : List Frame} {meth : Method} {c : Code} {E : wE} {a am : Nat → Nat} {b L : Nat} {xs : Nat → Int32} {ls : Array Slot} {Q : State → Prop} (hL : L ≤ 2048) (C0 : lw_At p s m meth c b L xs) (hZ : mSt s (fun q : Nat => s.heap.size ≤ q) s.heap) (hK : KK E s) {i : Nat} (hi : i + 4 ≤ L) (hl : lv_has ls 4 [(0, .ref b), (1, .ref (a 0)), (2, .ref (am 0)), (3, .int (zi (i : Int)))]) (kk : lw_K p l e s m below meth c E a am b ls Q 647) : lw_K p l e s m below meth c E a am b ls Q 548 := by
  obtain ⟨hx, hb, hr, hml, hown, hts0, hX, hbl, hlocks, hgv⟩ := C0
  have hown : s.vm.findClass RL = some m.cls := hown
  have hb : c.code = cL_law := hb
  have hts : ∀ w ∈ wsL_law, w.before #[Value.ref b] s = true := fun w hw => hts0 w (wsL_law_in w hw)
  have hA : ∀ q : Nat, s.heap.size ≤ q → (fun q : Nat => s.heap.size ≤ q) q := fun _ h => h
  have hbA : ¬ (fun q : Nat => s.heap.size ≤ q) b := Nat.not_le.mpr hbl
  intro hs x y H locs hR hP hD hS
  obtain ⟨v, x', y', fx, fy, hR'⟩ := s_leastSpread (N := 1300) (Nat.le_refl 1300) (rg_xs (xs (i + 1))) (rg_xs (xs (i + 2))) x y hR
  refine lv_aload_n hx hb dL_law_548 rfl (lv_at hl 1 rfl) ?_
  refine lv_aload_n hx hb dL_law_549 rfl (lv_at hl 0 rfl) ?_
  refine lv_iload_n hx hb dL_law_550 rfl (lv_at hl 3 rfl) ?_
  refine iv_iconst hx hb dL_law_551 ?_
  refine iv_iadd hx hb dL_law_552 ?_
  refine iv_sld (j := i + 1) hx hb hL hX hbl hbA hS (by omega) (by omega) dL_law_553 ?_
  refine lv_aload_n hx hb dL_law_554 rfl (lv_at hl 0 rfl) ?_
  refine lv_iload_n hx hb dL_law_555 rfl (lv_at hl 3 rfl) ?_
  refine iv_iconst hx hb dL_law_556 ?_
  refine iv_iadd hx hb dL_law_557 ?_
  refine iv_sld (j := i + 2) hx hb hL hX hbl hbA hS (by omega) (by omega) dL_law_558 ?_
  refine iv_cI (wr := wM am E y) (wc := wX a hs E x) (w1 := wX a hs E x') (r := v) (As := [.int (zi (xs (i + 1)).toInt), .int (zi (xs (i + 2)).toInt)]) (rest := []) ⟨hx, hb, hml, hown, hts⟩ (k_X7_leastSpread l E a hs H.size 1300 ((xs (i + 1)).toInt) ((xs (i + 2)).toInt) x (v, x') fx) (cwV 2 hts gL_law_X7_leastSpread rfl rfl rfl (by decide +kernel) ⟨Nat.le_of_ble_eq_true rfl, Nat.le_of_ble_eq_true rfl⟩) hK hP hD hS hA 7 rfl rfl rfl hl.1 (Nat.le_of_ble_eq_true rfl) ⟨Nat.le_refl _, Nat.le_refl _⟩ dL_law_559 (fun H locs hP hD hS => ?_)
  have hP := pm_P List.perm_append_comm hP
  have hD := pm_D List.perm_append_comm hD
  refine lv_aload_n hx hb dL_law_562 rfl (lv_at hl 2 rfl) ?_
  refine lv_aload_n hx hb dL_law_563 rfl (lv_at hl 0 rfl) ?_
  refine lv_iload_n hx hb dL_law_564 rfl (lv_at hl 3 rfl) ?_
  refine iv_iconst hx hb dL_law_565 ?_
  refine iv_iadd hx hb dL_law_566 ?_
  refine iv_sld (j := i + 1) hx hb hL hX hbl hbA hS (by omega) (by omega) dL_law_567 ?_
  refine lv_aload_n hx hb dL_law_568 rfl (lv_at hl 0 rfl) ?_
  refine lv_iload_n hx hb dL_law_569 rfl (lv_at hl 3 rfl) ?_
  refine iv_iconst hx hb dL_law_570 ?_
  refine iv_iadd hx hb dL_law_571 ?_
  refine iv_sld (j := i + 2) hx hb hL hX hbl hbA hS (by omega) (by omega) dL_law_572 ?_
  refine iv_cI (wr := wX a hs E x') (wc := wM am E y) (w1 := wM am E y') (r := v) (As := [.int (zi (xs (i + 1)).toInt), .int (zi (xs (i + 2)).toInt)]) (rest := [.int (zi v)]) ⟨hx, hb, hml, hown, hts⟩ (k_X8_leastSpread l E am H.size 1300 ((xs (i + 1)).toInt) ((xs (i + 2)).toInt) y (v, y') fy) (cwV 2 hts gL_law_X8_leastSpread rfl rfl rfl (by decide +kernel) ⟨Nat.le_of_ble_eq_true rfl, Nat.le_of_ble_eq_true rfl⟩) hK hP hD hS hA 8 rfl rfl rfl hl.1 (Nat.le_of_ble_eq_true rfl) ⟨Nat.le_refl _, Nat.le_refl _⟩ dL_law_573 (fun H locs hP hD hS => ?_)
  refine lv_icmp_eq (tgt := 647) hx hb dL_law_576 (by decide) (fun _ => ?_) (fun hne => absurd rfl hne)
  exact kk hs x' y' H locs hR' (pm_P List.perm_append_comm hP) (pm_D List.perm_append_comm hD) hS
set_option maxHeartbeats 4000000 in
set_option maxRecDepth 100000 in
theorem law_shirts {p : Program} {l : Launch} {e : Env} {s : State} {m : MethodId} {below : List Frame} {meth : Method} {c : Code} {E : wE} {a am : Nat → Nat} {b L : Nat} {xs : Nat → Int32} {ls : Array Slot} {Q : State → Prop} (hL : L ≤ 2048) (C0 : lw_At p s m meth c b L xs) (hZ : mSt s (fun q : Nat => s.heap.size ≤ q) s.heap) (hK : KK E s) {i : Nat} (hi : i + 4 ≤ L) (hl : lv_has ls 4 [(0, .ref b), (1, .ref (a 0)), (2, .ref (am 0)), (3, .int (zi (i : Int)))]) (kk : lw_K p l e s m below meth c E a am b ls Q 647) : lw_K p l e s m below meth c E a am b ls Q 581 := by
  obtain ⟨hx, hb, hr, hml, hown, hts0, hX, hbl, hlocks, hgv⟩ := C0
  have hown : s.vm.findClass RL = some m.cls := hown
  have hb : c.code = cL_law := hb
  have hts : ∀ w ∈ wsL_law, w.before #[Value.ref b] s = true := fun w hw => hts0 w (wsL_law_in w hw)
  have hA : ∀ q : Nat, s.heap.size ≤ q → (fun q : Nat => s.heap.size ≤ q) q := fun _ h => h
  have hbA : ¬ (fun q : Nat => s.heap.size ≤ q) b := Nat.not_le.mpr hbl
  intro hs x y H locs hR hP hD hS
  obtain ⟨v, x', y', fx, fy, hR'⟩ := s_shirts (N := 1300) (Nat.le_refl 1300) (rg_xs (xs (i + 1))) x y hR
  refine lv_aload_n hx hb dL_law_581 rfl (lv_at hl 1 rfl) ?_
  refine lv_aload_n hx hb dL_law_582 rfl (lv_at hl 0 rfl) ?_
  refine lv_iload_n hx hb dL_law_583 rfl (lv_at hl 3 rfl) ?_
  refine iv_iconst hx hb dL_law_584 ?_
  refine iv_iadd hx hb dL_law_585 ?_
  refine iv_sld (j := i + 1) hx hb hL hX hbl hbA hS (by omega) (by omega) dL_law_586 ?_
  refine iv_cI (wr := wM am E y) (wc := wX a hs E x) (w1 := wX a hs E x') (r := v) (As := [.int (zi (xs (i + 1)).toInt)]) (rest := []) ⟨hx, hb, hml, hown, hts⟩ (k_X7_shirts l E a hs H.size 1300 ((xs (i + 1)).toInt) x (v, x') fx) (cwV 1 hts gL_law_X7_shirts rfl rfl rfl (by decide +kernel) ⟨Nat.le_of_ble_eq_true rfl, Nat.le_of_ble_eq_true rfl⟩) hK hP hD hS hA 7 rfl rfl rfl hl.1 (Nat.le_of_ble_eq_true rfl) ⟨Nat.le_refl _, Nat.le_refl _⟩ dL_law_587 (fun H locs hP hD hS => ?_)
  have hP := pm_P List.perm_append_comm hP
  have hD := pm_D List.perm_append_comm hD
  refine lv_aload_n hx hb dL_law_590 rfl (lv_at hl 2 rfl) ?_
  refine lv_aload_n hx hb dL_law_591 rfl (lv_at hl 0 rfl) ?_
  refine lv_iload_n hx hb dL_law_592 rfl (lv_at hl 3 rfl) ?_
  refine iv_iconst hx hb dL_law_593 ?_
  refine iv_iadd hx hb dL_law_594 ?_
  refine iv_sld (j := i + 1) hx hb hL hX hbl hbA hS (by omega) (by omega) dL_law_595 ?_
  refine iv_cI (wr := wX a hs E x') (wc := wM am E y) (w1 := wM am E y') (r := v) (As := [.int (zi (xs (i + 1)).toInt)]) (rest := [.int (zi v)]) ⟨hx, hb, hml, hown, hts⟩ (k_X8_shirts l E am H.size 1300 ((xs (i + 1)).toInt) y (v, y') fy) (cwV 1 hts gL_law_X8_shirts rfl rfl rfl (by decide +kernel) ⟨Nat.le_of_ble_eq_true rfl, Nat.le_of_ble_eq_true rfl⟩) hK hP hD hS hA 8 rfl rfl rfl hl.1 (Nat.le_of_ble_eq_true rfl) ⟨Nat.le_refl _, Nat.le_refl _⟩ dL_law_596 (fun H locs hP hD hS => ?_)
  refine lv_icmp_eq (tgt := 647) hx hb dL_law_599 (by decide) (fun _ => ?_) (fun hne => absurd rfl hne)
  exact kk hs x' y' H locs hR' (pm_P List.perm_append_comm hP) (pm_D List.perm_append_comm hD) hS
set_option maxHeartbeats 4000000 in
set_option maxRecDepth 100000 in
theorem law_ifMesh {p : Program} {l : Launch} {e : Env} {s : State} {m : MethodId} {below : List Frame} {meth : Method} {c : Code} {E : wE} {a am : Nat → Nat} {b L : Nat} {xs : Nat → Int32} {ls : Array Slot} {Q : State → Prop} (hL : L ≤ 2048) (C0 : lw_At p s m meth c b L xs) (hZ : mSt s (fun q : Nat => s.heap.size ≤ q) s.heap) (hK : KK E s) {i : Nat} (hi : i + 4 ≤ L) (hl : lv_has ls 4 [(0, .ref b), (1, .ref (a 0)), (2, .ref (am 0)), (3, .int (zi (i : Int)))]) (kk : lw_K p l e s m below meth c E a am b ls Q 647) : lw_K p l e s m below meth c E a am b ls Q 604 := by
  obtain ⟨hx, hb, hr, hml, hown, hts0, hX, hbl, hlocks, hgv⟩ := C0
  have hown : s.vm.findClass RL = some m.cls := hown
  have hb : c.code = cL_law := hb
  have hts : ∀ w ∈ wsL_law, w.before #[Value.ref b] s = true := fun w hw => hts0 w (wsL_law_in w hw)
  have hA : ∀ q : Nat, s.heap.size ≤ q → (fun q : Nat => s.heap.size ≤ q) q := fun _ h => h
  have hbA : ¬ (fun q : Nat => s.heap.size ≤ q) b := Nat.not_le.mpr hbl
  intro hs x y H locs hR hP hD hS
  obtain ⟨v, x', y', fx, fy, hR'⟩ := s_ifMesh (N := 1300) (Nat.le_refl 1300) (rg_xs (xs (i + 1))) (rg_xs (xs (i + 2))) (rg_xs (xs (i + 3))) x y hR
  refine lv_aload_n hx hb dL_law_604 rfl (lv_at hl 1 rfl) ?_
  refine lv_aload_n hx hb dL_law_605 rfl (lv_at hl 0 rfl) ?_
  refine lv_iload_n hx hb dL_law_606 rfl (lv_at hl 3 rfl) ?_
  refine iv_iconst hx hb dL_law_607 ?_
  refine iv_iadd hx hb dL_law_608 ?_
  refine iv_sld (j := i + 1) hx hb hL hX hbl hbA hS (by omega) (by omega) dL_law_609 ?_
  refine lv_aload_n hx hb dL_law_610 rfl (lv_at hl 0 rfl) ?_
  refine lv_iload_n hx hb dL_law_611 rfl (lv_at hl 3 rfl) ?_
  refine iv_iconst hx hb dL_law_612 ?_
  refine iv_iadd hx hb dL_law_613 ?_
  refine iv_sld (j := i + 2) hx hb hL hX hbl hbA hS (by omega) (by omega) dL_law_614 ?_
  refine lv_aload_n hx hb dL_law_615 rfl (lv_at hl 0 rfl) ?_
  refine lv_iload_n hx hb dL_law_616 rfl (lv_at hl 3 rfl) ?_
  refine iv_iconst hx hb dL_law_617 ?_
  refine iv_iadd hx hb dL_law_618 ?_
  refine iv_sld (j := i + 3) hx hb hL hX hbl hbA hS (by omega) (by omega) dL_law_619 ?_
  refine iv_cIs (wr := wM am E y) (wc := wX a hs E x) (w1 := wX a hs E x') (r := v) (As := [.int (zi (xs (i + 1)).toInt), .int (zi (xs (i + 2)).toInt), .int (zi (xs (i + 3)).toInt)]) (rest := []) ⟨hx, hb, hml, hown, hts⟩ (k_X7_ifMesh l E a hs H.size 1300 ((xs (i + 1)).toInt) ((xs (i + 2)).toInt) ((xs (i + 3)).toInt) x (v, x') fx) (cwV 3 hts gL_law_X7_ifMesh rfl rfl rfl (by decide +kernel) ⟨Nat.le_of_ble_eq_true rfl, Nat.le_of_ble_eq_true rfl⟩) hZ hK hP hD hS hA 7 rfl rfl rfl hl.1 (Nat.le_of_ble_eq_true rfl) ⟨Nat.le_refl _, Nat.le_refl _⟩ dL_law_620 (fun H locs hP hD hS => ?_)
  have hP := pm_P List.perm_append_comm hP
  have hD := pm_D List.perm_append_comm hD
  refine lv_aload_n hx hb dL_law_623 rfl (lv_at hl 2 rfl) ?_
  refine lv_aload_n hx hb dL_law_624 rfl (lv_at hl 0 rfl) ?_
  refine lv_iload_n hx hb dL_law_625 rfl (lv_at hl 3 rfl) ?_
  refine iv_iconst hx hb dL_law_626 ?_
  refine iv_iadd hx hb dL_law_627 ?_
  refine iv_sld (j := i + 1) hx hb hL hX hbl hbA hS (by omega) (by omega) dL_law_628 ?_
  refine lv_aload_n hx hb dL_law_629 rfl (lv_at hl 0 rfl) ?_
  refine lv_iload_n hx hb dL_law_630 rfl (lv_at hl 3 rfl) ?_
  refine iv_iconst hx hb dL_law_631 ?_
  refine iv_iadd hx hb dL_law_632 ?_
  refine iv_sld (j := i + 2) hx hb hL hX hbl hbA hS (by omega) (by omega) dL_law_633 ?_
  refine lv_aload_n hx hb dL_law_634 rfl (lv_at hl 0 rfl) ?_
  refine lv_iload_n hx hb dL_law_635 rfl (lv_at hl 3 rfl) ?_
  refine iv_iconst hx hb dL_law_636 ?_
  refine iv_iadd hx hb dL_law_637 ?_
  refine iv_sld (j := i + 3) hx hb hL hX hbl hbA hS (by omega) (by omega) dL_law_638 ?_
  refine iv_cI (wr := wX a hs E x') (wc := wM am E y) (w1 := wM am E y') (r := v) (As := [.int (zi (xs (i + 1)).toInt), .int (zi (xs (i + 2)).toInt), .int (zi (xs (i + 3)).toInt)]) (rest := [.int (zi v)]) ⟨hx, hb, hml, hown, hts⟩ (k_X8_ifMesh l E am H.size 1300 ((xs (i + 1)).toInt) ((xs (i + 2)).toInt) ((xs (i + 3)).toInt) y (v, y') fy) (cwV 3 hts gL_law_X8_ifMesh rfl rfl rfl (by decide +kernel) ⟨Nat.le_of_ble_eq_true rfl, Nat.le_of_ble_eq_true rfl⟩) hK hP hD hS hA 8 rfl rfl rfl hl.1 (Nat.le_of_ble_eq_true rfl) ⟨Nat.le_refl _, Nat.le_refl _⟩ dL_law_639 (fun H locs hP hD hS => ?_)
  refine lv_icmp_eq (tgt := 647) hx hb dL_law_642 (by decide) (fun _ => ?_) (fun hne => absurd rfl hne)
  exact kk hs x' y' H locs hR' (pm_P List.perm_append_comm hP) (pm_D List.perm_append_comm hD) hS
