/-! the law's loop -/
set_option maxHeartbeats 8000000 in
set_option maxRecDepth 100000 in
theorem law_loop {p : Program} {l : Launch} {e : Env} {s : State} {m : MethodId} {below : List Frame} {meth : Method} {c : Code} {E : wE} {a ag am ap aw an : Nat → Nat} {b L : Nat} {xs : Nat → Int32} (hL : L ≤ 260) (C0 : lw_At p s m meth c b L xs) (hZ : mSt s (fun q : Nat => s.heap.size ≤ q) s.heap) (hK : KK E s) : ∀ (d t : Nat), t + d = 44 → ∀ (hs : Nat → Nat) (x : bX) (g mm pp w nn : Nat → Int) (H : Heap) (locs : List Loc) (ls : Array Slot), TI x g mm pp w nn (200 * (t : Int) + 200) → va_P E.1 vwCl (wLXgmpwn a hs ag am ap aw an E (x, g, mm, pp, w, nn)) H → va_D (fun q : Nat => s.heap.size ≤ q) (wLXgmpwn a hs ag am ap aw an E (x, g, mm, pp, w, nn)) → va_S (fun q : Nat => s.heap.size ≤ q) s.heap H locs → lv_has ls 10 [(0, .ref b), (1, .ref (a 0)), (2, .ref (ag 0)), (3, .ref (am 0)), (4, .ref (ap 0)), (5, .ref (aw 0)), (6, .ref (an 0)), (7, .int (zi 1)), (8, .int (zi (t : Int)))] → W p l e room_1 s m #[Value.ref b] below meth c H locs (200 + 4 * t) (4000 + 155 * t) (lw_Z below #[Value.ref b] s) (F0 m 141 ls []) := by
  have C1 := C0
  obtain ⟨hx, hb, hr, hml, hown, hts0, hX, hbl, hlocks, hgv⟩ := C0
  have hown : s.vm.findClass RL = some m.cls := hown
  have hb : c.code = cL_law := hb
  have hts : ∀ w ∈ wsL_law, w.before #[Value.ref b] s = true := fun w hw => hts0 w (wsL_law_in w hw)
  have hA : ∀ q : Nat, s.heap.size ≤ q → (fun q : Nat => s.heap.size ≤ q) q := fun _ h => h
  have hbA : ¬ (fun q : Nat => s.heap.size ≤ q) b := Nat.not_le.mpr hbl
  intro d
  induction d with
  | zero =>
    intro t ht hs x g mm pp w nn H locs ls hT hP hD hS hl
    refine lv_iload hx hb dL_law_141 (lv_at hl 8 rfl) ?_
    refine iv_bipush hx hb dL_law_143 (by decide +kernel) ?_
    refine iv_ige (tgt := 326) hx hb (rg_of (by omega)) (rg_of (by omega)) dL_law_145 (by decide) (fun h => ?_) (fun h => absurd h (by omega))
    refine lv_iload hx hb dL_law_326 (lv_at hl 7 rfl) ?_
    refine va_forget (fun q hq => hS.2.2 q hq) ?_
    refine W.widen (k := 600000) (n := 7302250) (by omega) (by omega) ?_
    rw [show zi (1 : Int) = (1 : Int32) by decide +kernel]
    exact lw_ret hx hb hr hlocks dL_law_328
  | succ d ih =>
    intro t ht hs x g mm pp w nn H locs ls hT hP hD hS hl
    have hcs : 200 + 4 * t ≤ room_1.cells ∧ 4000 + 155 * t ≤ room_1.slots := ⟨by show 200 + 4 * t ≤ 600000; omega, by show 4000 + 155 * t ≤ 7302250; omega⟩
    have hcs4 : 200 + 4 * t + 4 ≤ room_1.cells ∧ 4000 + 155 * t + 155 ≤ room_1.slots := ⟨by show 200 + 4 * t + 4 ≤ 600000; omega, by show 4000 + 155 * t + 155 ≤ 7302250; omega⟩
    refine lv_iload hx hb dL_law_141 (lv_at hl 8 rfl) ?_
    refine iv_bipush hx hb dL_law_143 (by decide +kernel) ?_
    refine iv_ige (tgt := 326) hx hb (rg_of (by omega)) (rg_of (by omega)) dL_law_145 (by decide) (fun h => absurd h (by omega)) (fun h => ?_)
    refine lv_iload hx hb dL_law_148 (lv_at hl 7 rfl) ?_
    refine iv_eq (tgt := 326) hx hb (by decide) dL_law_150 (by decide) (fun h => absurd h (by decide)) (fun _ => ?_)
    refine lv_aload_n hx hb dL_law_153 rfl (lv_at hl 0 rfl) ?_
    refine iv_iconst hx hb dL_law_154 ?_
    refine lv_iload hx hb dL_law_155 (lv_at hl 8 rfl) ?_
    refine iv_iadd hx hb dL_law_157 ?_
    refine iv_nm (y := ((1 + t : Nat) : Int)) (x := 1 + (t : Int)) (by omega) ?_
    refine iv_callC (k := 1 + t) (L := L) (xs := xs) ⟨hx, hb, hml, hown, hts⟩ (k_L_cell l E H.size b L xs (1 + t) hL (by omega)) (va_cwS 2 hts gL_law_L_cell rfl rfl rfl (by decide +kernel) ⟨Nat.le_of_ble_eq_true rfl, Nat.le_of_ble_eq_true rfl⟩) hX hbl hbA hK hP hD hS hA hl.1 (Nat.le_of_ble_eq_true rfl) hcs dL_law_158 (fun H locs hP hS => ?_)
    generalize cellV L xs (1 + t) = xv
    refine lv_istore (lv' := [(9, .int (zi xv)), (0, .ref b), (1, .ref (a 0)), (2, .ref (ag 0)), (3, .ref (am 0)), (4, .ref (ap 0)), (5, .ref (aw 0)), (6, .ref (an 0)), (7, .int (zi 1)), (8, .int (zi (t : Int)))]) hx hb dL_law_161 hl (by decide) rfl (fun ls hl => ?_)
    refine lv_aload_n hx hb dL_law_163 rfl (lv_at hl 2 rfl) ?_
    refine lv_aload_n hx hb dL_law_164 rfl (lv_at hl 3 rfl) ?_
    refine lv_aload_n hx hb dL_law_165 rfl (lv_at hl 4 rfl) ?_
    refine lv_aload hx hb dL_law_166 (lv_at hl 5 rfl) ?_
    refine lv_aload hx hb dL_law_168 (lv_at hl 6 rfl) ?_
    refine lv_aload hx hb dL_law_170 (lv_at hl 7 rfl) ?_
    refine lv_iload hx hb dL_law_172 (lv_at hl 9 rfl) ?_
    refine iv_iconst hx hb dL_law_174 ?_
    suffices h192 : ∀ (k : Nat) (H : Heap) (locs : List Loc), k < 18 → va_P E.1 vwCl (wLXgmpwn a hs ag am ap aw an E (x, g, mm, pp, w, nn)) H → va_S (fun q : Nat => s.heap.size ≤ q) s.heap H locs → W p l e room_1 s m #[Value.ref b] below meth c H locs (200 + 4 * t) (4000 + 155 * t) (lw_Z below #[Value.ref b] s) (F0 m 192 ls [.int (zi (k : Int)), .ref (an 0), .ref (aw 0), .ref (ap 0), .ref (am 0), .ref (ag 0), .ref (a 0)]) by
      refine iv_ige (tgt := 182) hx hb (rg_of (by omega)) (by decide) dL_law_175 (by decide) (fun h => ?_) (fun h => ?_)
      · obtain ⟨k, k1, k2⟩ := low1 (x := srI xv 18) (n := 18) (k := 18) rfl (by omega) (by omega)
        refine lv_iload hx hb dL_law_182 (lv_at hl 0 rfl) ?_
        refine iv_bipush hx hb dL_law_184 (by decide +kernel) ?_
        refine iv_ishr hx hb dL_law_186 ?_
        refine iv_bipush hx hb dL_law_187 (by decide +kernel) ?_
        refine iv_callS (As := [.int (zi (srI xv 18)), .int (zi 18)]) (rest := [.ref (an 0), .ref (aw 0), .ref (ap 0), .ref (am 0), .ref (ag 0), .ref (a 0)]) ⟨hx, hb, hml, hown, hts⟩ (k_L_low l E H.size (srI xv 18) 18 (k : Int) k1) (va_cwS 2 hts gL_law_L_low rfl rfl rfl (by decide +kernel) ⟨Nat.le_of_ble_eq_true rfl, Nat.le_of_ble_eq_true rfl⟩) hK hP hS hA rfl hl.1 (Nat.le_of_ble_eq_true rfl) hcs dL_law_189 (fun H locs hP hS => ?_)
        exact h192 k H locs k2 hP hS
      · refine iv_iconst hx hb dL_law_178 ?_
        refine lv_goto (tgt := 192) hx hb dL_law_179 (by decide) ?_
        exact h192 0 H locs (by omega) hP hS
    intro k H locs hk hP hS
    obtain ⟨x1, g1, m1, p1, w1, n1, f1, hT1⟩ := actsT (N := 1300) (by omega) (by omega) hT hk xv
    have hT1 : TI x1 g1 m1 p1 w1 n1 (200 * ((t + 1 : Nat) : Int) + 200) := by
      rw [show 200 * ((t + 1 : Nat) : Int) + 200 = 200 * (t : Int) + 200 + 200 by omega]
      exact hT1
    have f2 := btnsT (N := 1300) (by omega) (by omega) hT1
    obtain ⟨x2, f3, hT2⟩ := binsT (N := 1300) (by omega) hT1
    obtain ⟨q, q1, q2⟩ := low1 (x := srI xv 3) (n := 12) (k := 12) rfl (by omega) (by omega)
    obtain ⟨u, u1, u2⟩ := low1 (x := srI xv 8) (n := 9) (k := 9) rfl (by omega) (by omega)
    obtain ⟨x3, f4, hT3⟩ := sprT (N := 1300) (q := q) (k := 1 + u) (by omega) hT2 q2 (by omega) (by omega)
    refine lv_iload hx hb dL_law_192 (lv_at hl 0 rfl) ?_
    refine iv_callWIxs (As := [.ref (a 0), .ref (ag 0), .ref (am 0), .ref (ap 0), .ref (aw 0), .ref (an 0), .int (zi (k : Int)), .int (zi xv)]) (rest := []) (wr := []) (wx := fun h1 => wLXgmpwn a h1 ag am ap aw an E (x1, g1, m1, p1, w1, n1)) ⟨hx, hb, hml, hown, hts⟩ (k_L_acts l E a hs ag am ap aw an H.size 1300 (k : Int) xv (x, g, mm, pp, w, nn) (1, (x1, g1, m1, p1, w1, n1)) f1) (va_cwS 8 hts gL_law_L_acts rfl rfl rfl (by decide +kernel) ⟨Nat.le_of_ble_eq_true rfl, Nat.le_of_ble_eq_true rfl⟩) hZ hK hP hD hS hA (List.Perm.refl _) (fun _ => List.Perm.refl _) rfl hl.1 (Nat.le_of_ble_eq_true rfl) hcs dL_law_194 (fun hs H locs hP hD hS => ?_)
    refine iv_eq (x := 1) (tgt := 317) hx hb (by decide) dL_law_197 (by decide) (fun h => absurd h (by decide)) (fun _ => ?_)
    refine lv_aload_n hx hb dL_law_200 rfl (lv_at hl 2 rfl) ?_
    refine lv_aload_n hx hb dL_law_201 rfl (lv_at hl 3 rfl) ?_
    refine lv_aload_n hx hb dL_law_202 rfl (lv_at hl 4 rfl) ?_
    refine lv_aload hx hb dL_law_203 (lv_at hl 5 rfl) ?_
    refine lv_aload hx hb dL_law_205 (lv_at hl 6 rfl) ?_
    refine lv_aload hx hb dL_law_207 (lv_at hl 7 rfl) ?_
    refine iv_callWI (As := [.ref (a 0), .ref (ag 0), .ref (am 0), .ref (ap 0), .ref (aw 0), .ref (an 0)]) (rest := []) (wr := []) (ws1 := wLXgmpwn a hs ag am ap aw an E (x1, g1, m1, p1, w1, n1)) ⟨hx, hb, hml, hown, hts⟩ (k_L_areButtons l E a hs ag am ap aw an H.size 1300 (x1, g1, m1, p1, w1, n1) (1, (x1, g1, m1, p1, w1, n1)) f2) (va_cwS 6 hts gL_law_L_areButtons rfl rfl rfl (by decide +kernel) ⟨Nat.le_of_ble_eq_true rfl, Nat.le_of_ble_eq_true rfl⟩) hK hP hD hS hA (List.Perm.refl _) (List.Perm.refl _) rfl hl.1 (Nat.le_of_ble_eq_true rfl) hcs dL_law_209 (fun H locs hP hD hS => ?_)
    refine iv_eq (x := 1) (tgt := 317) hx hb (by decide) dL_law_212 (by decide) (fun h => absurd h (by decide)) (fun _ => ?_)
    refine lv_aload_n hx hb dL_law_215 rfl (lv_at hl 2 rfl) ?_
    refine lv_aload_n hx hb dL_law_216 rfl (lv_at hl 4 rfl) ?_
    refine lv_aload hx hb dL_law_217 (lv_at hl 5 rfl) ?_
    refine lv_aload hx hb dL_law_219 (lv_at hl 7 rfl) ?_
    refine iv_callWI (As := [.ref (a 0), .ref (am 0), .ref (ap 0), .ref (an 0)]) (rest := []) (ws1 := wLXgmpwn a hs ag am ap aw an E (x2, g1, m1, p1, w1, n1)) ⟨hx, hb, hml, hown, hts⟩ (k_L_areBins l E a hs am ap an H.size 1300 (x1, m1, p1, n1) (1, (x2, m1, p1, n1)) f3) (va_cwS 4 hts gL_law_L_areBins rfl rfl rfl (by decide +kernel) ⟨Nat.le_of_ble_eq_true rfl, Nat.le_of_ble_eq_true rfl⟩) hK hP hD hS hA (pm_take (pm_skip (pm_take (pm_take (pm_skip (pm_end)))))) (pm_take (pm_skip (pm_take (pm_take (pm_skip (pm_end)))))) rfl hl.1 (Nat.le_of_ble_eq_true rfl) hcs dL_law_221 (fun H locs hP hD hS => ?_)
    refine iv_eq (x := 1) (tgt := 317) hx hb (by decide) dL_law_224 (by decide) (fun h => absurd h (by decide)) (fun _ => ?_)
    refine lv_aload_n hx hb dL_law_227 rfl (lv_at hl 2 rfl) ?_
    refine lv_aload_n hx hb dL_law_228 rfl (lv_at hl 4 rfl) ?_
    refine lv_aload hx hb dL_law_229 (lv_at hl 5 rfl) ?_
    refine lv_aload hx hb dL_law_231 (lv_at hl 7 rfl) ?_
    refine lv_iload hx hb dL_law_233 (lv_at hl 0 rfl) ?_
    refine iv_iconst hx hb dL_law_235 ?_
    refine iv_ishr hx hb dL_law_236 ?_
    refine iv_bipush hx hb dL_law_237 (by decide +kernel) ?_
    refine iv_callS (As := [.int (zi (srI xv 3)), .int (zi 12)]) (rest := [.ref (an 0), .ref (ap 0), .ref (am 0), .ref (a 0)]) ⟨hx, hb, hml, hown, hts⟩ (k_L_low l E H.size (srI xv 3) 12 (q : Int) q1) (va_cwS 2 hts gL_law_L_low rfl rfl rfl (by decide +kernel) ⟨Nat.le_of_ble_eq_true rfl, Nat.le_of_ble_eq_true rfl⟩) hK hP hS hA rfl hl.1 (Nat.le_of_ble_eq_true rfl) hcs dL_law_239 (fun H locs hP hS => ?_)
    refine iv_iconst hx hb dL_law_242 ?_
    refine lv_iload hx hb dL_law_243 (lv_at hl 0 rfl) ?_
    refine iv_bipush hx hb dL_law_245 (by decide +kernel) ?_
    refine iv_ishr hx hb dL_law_247 ?_
    refine iv_bipush hx hb dL_law_248 (by decide +kernel) ?_
    refine iv_callS (As := [.int (zi (srI xv 8)), .int (zi 9)]) (rest := [.int (zi 1), .int (zi (q : Int)), .ref (an 0), .ref (ap 0), .ref (am 0), .ref (a 0)]) ⟨hx, hb, hml, hown, hts⟩ (k_L_low l E H.size (srI xv 8) 9 (u : Int) u1) (va_cwS 2 hts gL_law_L_low rfl rfl rfl (by decide +kernel) ⟨Nat.le_of_ble_eq_true rfl, Nat.le_of_ble_eq_true rfl⟩) hK hP hS hA rfl hl.1 (Nat.le_of_ble_eq_true rfl) hcs dL_law_250 (fun H locs hP hS => ?_)
    refine iv_iadd hx hb dL_law_253 ?_
    refine iv_nm (y := ((1 + u : Nat) : Int)) (x := 1 + (u : Int)) (by omega) ?_
    refine iv_callWI (As := [.ref (a 0), .ref (am 0), .ref (ap 0), .ref (an 0), .int (zi (q : Int)), .int (zi ((1 + u : Nat) : Int))]) (rest := []) (ws1 := wLXgmpwn a hs ag am ap aw an E (x3, g1, m1, p1, w1, n1)) ⟨hx, hb, hml, hown, hts⟩ (k_L_isSpread l E a hs am ap an H.size 1300 (q : Int) ((1 + u : Nat) : Int) (x2, m1, p1, n1) (1, (x3, m1, p1, n1)) f4) (va_cwS 6 hts gL_law_L_isSpread rfl rfl rfl (by decide +kernel) ⟨Nat.le_of_ble_eq_true rfl, Nat.le_of_ble_eq_true rfl⟩) hK hP hD hS hA (pm_take (pm_skip (pm_take (pm_take (pm_skip (pm_end)))))) (pm_take (pm_skip (pm_take (pm_take (pm_skip (pm_end)))))) rfl hl.1 (Nat.le_of_ble_eq_true rfl) hcs dL_law_254 (fun H locs hP hD hS => ?_)
    refine iv_eq (x := 1) (tgt := 317) hx hb (by decide) dL_law_257 (by decide) (fun h => absurd h (by decide)) (fun _ => ?_)
    have h313 : ∀ (x : bX) (H : Heap) (locs : List Loc), TI x g1 m1 p1 w1 n1 (200 * ((t + 1 : Nat) : Int) + 200) → va_P E.1 vwCl (wLXgmpwn a hs ag am ap aw an E (x, g1, m1, p1, w1, n1)) H → va_D (fun q : Nat => s.heap.size ≤ q) (wLXgmpwn a hs ag am ap aw an E (x, g1, m1, p1, w1, n1)) → va_S (fun q : Nat => s.heap.size ≤ q) s.heap H locs → W p l e room_1 s m #[Value.ref b] below meth c H locs (200 + 4 * (t + 1)) (4000 + 155 * (t + 1)) (lw_Z below #[Value.ref b] s) (F0 m 313 ls []) := by
      intro x H locs hT hP hD hS
      refine iv_iconst hx hb dL_law_313 ?_
      refine lv_goto (tgt := 318) hx hb dL_law_314 (by decide) ?_
      refine lv_istore (lv' := [(7, .int (zi 1)), (9, .int (zi xv)), (0, .ref b), (1, .ref (a 0)), (2, .ref (ag 0)), (3, .ref (am 0)), (4, .ref (ap 0)), (5, .ref (aw 0)), (6, .ref (an 0)), (8, .int (zi (t : Int)))]) hx hb dL_law_318 hl (by decide) rfl (fun ls hl => ?_)
      refine lv_iinc (v := zi ((t + 1 : Nat) : Int)) (lv' := [(8, .int (zi ((t + 1 : Nat) : Int))), (7, .int (zi 1)), (9, .int (zi xv)), (0, .ref b), (1, .ref (a 0)), (2, .ref (ag 0)), (3, .ref (am 0)), (4, .ref (ap 0)), (5, .ref (aw 0)), (6, .ref (an 0))]) hx hb dL_law_320 hl (k := 9) rfl (by rw [show ((t + 1 : Nat) : Int) = (t : Int) + 1 by omega]; exact (zi_add _ _).symm) (by decide) rfl (fun ls hl => ?_)
      refine lv_goto (tgt := 141) hx hb dL_law_323 (by decide) ?_
      exact ih (t + 1) (by omega) hs x g1 m1 p1 w1 n1 H locs ls hT hP hD hS (lv_sub hl [3, 4, 5, 6, 7, 8, 9, 1, 0] rfl)
    have hrm : rmI (t : Int) 3 = ((t % 3 : Nat) : Int) := rmN2 (x := t) (k := 3) rfl rfl (by omega) (by omega) (by omega)
    refine lv_iload hx hb dL_law_260 (lv_at hl 9 rfl) ?_
    refine iv_iconst hx hb dL_law_262 ?_
    refine iv_irem hx hb (by decide) dL_law_263 ?_
    refine iv_nm hrm.symm ?_
    refine iv_iconst hx hb dL_law_264 ?_
    refine iv_ine (tgt := 313) hx hb (rg_of (by omega)) (by decide) dL_law_265 (by decide) (fun h => ?_) (fun h => ?_)
    · refine W.widen (k := 200 + 4 * (t + 1)) (n := 4000 + 155 * (t + 1)) (by omega) (by omega) ?_
      exact h313 x3 H locs hT3 hP hD hS
    obtain ⟨j, j1, j2⟩ := low1 (x := srI xv 2) (n := 3) (k := 3) rfl (by omega) (by omega)
    obtain ⟨v, v1, v2⟩ := low1 (x := srI xv 5) (n := 30) (k := 30) rfl (by omega) (by omega)
    obtain ⟨r, r1, r2⟩ := low1 (x := srI xv 11) (n := 4) (k := 4) rfl (by omega) (by omega)
    obtain ⟨x4, bm, bp, bw, bn, f5, hT4⟩ := wldT (N := 1300) (j := j) (k := 1 + r) (v := ((1 + v : Nat) : Int)) (by omega) hT3 j2 (by omega) (by omega) (by omega)
    refine lv_aload_n hx hb dL_law_268 rfl (lv_at hl 2 rfl) ?_
    refine lv_aload_n hx hb dL_law_269 rfl (lv_at hl 3 rfl) ?_
    refine lv_aload_n hx hb dL_law_270 rfl (lv_at hl 4 rfl) ?_
    refine lv_aload hx hb dL_law_271 (lv_at hl 5 rfl) ?_
    refine lv_aload hx hb dL_law_273 (lv_at hl 6 rfl) ?_
    refine lv_aload hx hb dL_law_275 (lv_at hl 7 rfl) ?_
    refine lv_iload hx hb dL_law_277 (lv_at hl 0 rfl) ?_
    refine iv_iconst hx hb dL_law_279 ?_
    refine iv_ishr hx hb dL_law_280 ?_
    refine iv_iconst hx hb dL_law_281 ?_
    refine iv_callS (As := [.int (zi (srI xv 2)), .int (zi 3)]) (rest := [.ref (an 0), .ref (aw 0), .ref (ap 0), .ref (am 0), .ref (ag 0), .ref (a 0)]) ⟨hx, hb, hml, hown, hts⟩ (k_L_low l E H.size (srI xv 2) 3 (j : Int) j1) (va_cwS 2 hts gL_law_L_low rfl rfl rfl (by decide +kernel) ⟨Nat.le_of_ble_eq_true rfl, Nat.le_of_ble_eq_true rfl⟩) hK hP hS hA rfl hl.1 (Nat.le_of_ble_eq_true rfl) hcs dL_law_282 (fun H locs hP hS => ?_)
    refine iv_iconst hx hb dL_law_285 ?_
    refine lv_iload hx hb dL_law_286 (lv_at hl 0 rfl) ?_
    refine iv_iconst hx hb dL_law_288 ?_
    refine iv_ishr hx hb dL_law_289 ?_
    refine iv_bipush hx hb dL_law_290 (by decide +kernel) ?_
    refine iv_callS (As := [.int (zi (srI xv 5)), .int (zi 30)]) (rest := [.int (zi 1), .int (zi (j : Int)), .ref (an 0), .ref (aw 0), .ref (ap 0), .ref (am 0), .ref (ag 0), .ref (a 0)]) ⟨hx, hb, hml, hown, hts⟩ (k_L_low l E H.size (srI xv 5) 30 (v : Int) v1) (va_cwS 2 hts gL_law_L_low rfl rfl rfl (by decide +kernel) ⟨Nat.le_of_ble_eq_true rfl, Nat.le_of_ble_eq_true rfl⟩) hK hP hS hA rfl hl.1 (Nat.le_of_ble_eq_true rfl) hcs dL_law_292 (fun H locs hP hS => ?_)
    refine iv_iadd hx hb dL_law_295 ?_
    refine iv_nm (y := ((1 + v : Nat) : Int)) (x := 1 + (v : Int)) (by omega) ?_
    refine iv_iconst hx hb dL_law_296 ?_
    refine lv_iload hx hb dL_law_297 (lv_at hl 0 rfl) ?_
    refine iv_bipush hx hb dL_law_299 (by decide +kernel) ?_
    refine iv_ishr hx hb dL_law_301 ?_
    refine iv_iconst hx hb dL_law_302 ?_
    refine iv_callS9 (As := [.int (zi (srI xv 11)), .int (zi 4)]) (rest := [.int (zi 1), .int (zi ((1 + v : Nat) : Int)), .int (zi (j : Int)), .ref (an 0), .ref (aw 0), .ref (ap 0), .ref (am 0), .ref (ag 0), .ref (a 0)]) ⟨hx, hb, hml, hown, hts⟩ (k_L_low l E H.size (srI xv 11) 4 (r : Int) r1) (va_cwS 2 hts gL_law_L_low rfl rfl rfl (by decide +kernel) ⟨Nat.le_of_ble_eq_true rfl, Nat.le_of_ble_eq_true rfl⟩) (Nat.le_of_ble_eq_true rfl) hK hP hD hS hA rfl hl.1 (Nat.le_of_ble_eq_true rfl) hcs dL_law_303 (fun H locs hP hS => ?_)
    refine iv_iadd hx hb dL_law_306 ?_
    refine iv_nm (y := ((1 + r : Nat) : Int)) (x := 1 + (r : Int)) (by omega) ?_
    refine iv_callWc (As := [.ref (a 0), .ref (ag 0), .ref (am 0), .ref (ap 0), .ref (aw 0), .ref (an 0), .int (zi (j : Int)), .int (zi ((1 + v : Nat) : Int)), .int (zi ((1 + r : Nat) : Int))]) (rest := []) (wr := []) (ws1 := wLXgmpwn a hs ag am ap aw an E (x4, g1, m1, p1, w1, n1)) ⟨hx, hb, hml, hown, hts⟩ (k_L_would l E a hs ag am ap aw an H.size 1300 (j : Int) ((1 + v : Nat) : Int) ((1 + r : Nat) : Int) (x3, g1, m1, p1, w1, n1) (1, (x4, g1, m1, p1, w1, n1, bm, bp, bw, bn)) f5) (va_cwS 9 hts gL_law_L_would rfl rfl rfl (by decide +kernel) ⟨Nat.le_of_ble_eq_true rfl, Nat.le_of_ble_eq_true rfl⟩) hZ hK hP hD hS hA (List.Perm.refl _) (List.Perm.refl _) rfl hl.1 (Nat.le_of_ble_eq_true rfl) hcs4 dL_law_307 (fun H locs hP hD hS => ?_)
    refine iv_eq (x := 1) (tgt := 317) hx hb (by decide) dL_law_310 (by decide) (fun h => absurd h (by decide)) (fun _ => ?_)
    exact h313 x4 H locs hT4 hP hD hS
