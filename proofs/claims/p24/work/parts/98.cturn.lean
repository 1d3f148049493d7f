/-! p24: what a turn keeps -/
def TI (x : bX) (g m p w nn : Nat → Int) (K : Int) : Prop := ∃ n : Nat, 3 ≤ n ∧ n ≤ 20 ∧ (0 ≤ x.2.2.1.1 ∧ x.2.2.1.1 ≤ 4) ∧ CI x.2.2.2.1 n ∧ GB x.2.2.2.1 g m p w nn n ∧ LM x.2.2.2.1 n K
theorem actsT {N k : Nat} {x : bX} {g m p w nn : Nat → Int} {K : Int} (hN : 100 ≤ N) (hK : 0 ≤ K) (h : TI x g m p w nn K) (hk : k < 18) (v : Int) : ∃ (x' : bX) (g' m' p' w' nn' : Nat → Int), f_L_acts N (k : Int) v (x, g, m, p, w, nn) = some (1, (x', g', m', p', w', nn')) ∧ TI x' g' m' p' w' nn' (K + 200) := by
  obtain ⟨bt, O, H, S, P, V, hs⟩ := x
  obtain ⟨n, h1, h2, h3, h4, h5, h6⟩ := h
  obtain ⟨bt', O', H', S', g', m', p', w', nn', n', a1, a2, a3, a4, a5, a6, a7⟩ := actsG (x7 := v) (bt := bt) (O := O) (P := P) (V := V) (hs := hs) hN h2 (by omega) h3 h4 h5 hk rfl
  exact ⟨(bt', O', H', S', P, V, hs), g', m', p', w', nn', a1, n', by omega, a4, a2, a5, a6, a7 K hK h6⟩
theorem btnsT {N : Nat} {x : bX} {g m p w nn : Nat → Int} {K : Int} (hN : 100 ≤ N) (hK : K ≤ 1000000) (h : TI x g m p w nn K) : f_L_areButtons N (x, g, m, p, w, nn) = some (1, (x, g, m, p, w, nn)) := by
  obtain ⟨bt, O, H, S, P, V, hs⟩ := x
  obtain ⟨n, h1, h2, h3, h4, h5, h6⟩ := h
  exact areBtns (by omega) h2 h4 h5 hK h6
theorem binsT {N : Nat} {x : bX} {g m p w nn : Nat → Int} {K : Int} (hN : 100 ≤ N) (h : TI x g m p w nn K) : ∃ x' : bX, f_L_areBins N (x, m, p, nn) = some (1, (x', m, p, nn)) ∧ TI x' g m p w nn K := by
  obtain ⟨bt, O, H, S, P, V, hs⟩ := x
  obtain ⟨n, h1, h2, h3, h4, h5, h6⟩ := h
  obtain ⟨O', a1⟩ := areBinsG (bt := bt) (O := O) (H := H) (P := P) (V := V) (hs := hs) hN h2 h4 h5.1 h5.2.2.1 h5.2.2.2.1
  exact ⟨(bt, O', H, S, P, V, hs), a1, n, h1, h2, h3, h4, h5, h6⟩
theorem sprT {N q k : Nat} {x : bX} {g m p w nn : Nat → Int} {K : Int} (hN : 100 ≤ N) (h : TI x g m p w nn K) (hq : q < 12) (h1 : 1 ≤ k) (h9 : k ≤ 9) : ∃ x' : bX, f_L_isSpread N (q : Int) (k : Int) (x, m, p, nn) = some (1, (x', m, p, nn)) ∧ TI x' g m p w nn K := by
  obtain ⟨bt, O, H, S, P, V, hs⟩ := x
  obtain ⟨n, g1, g2, g3, g4, g5, g6⟩ := h
  obtain ⟨O', a1⟩ := isSprG (bt := bt) (O := O) (H := H) (P := P) (V := V) (hs := hs) hN g2 g4 g5.1 g5.2.2.1 g5.2.2.2.1 hq rfl h1 h9 rfl
  exact ⟨(bt, O', H, S, P, V, hs), a1, n, g1, g2, g3, g4, g5, g6⟩
theorem wldT {N j k : Nat} {x : bX} {g m p w nn : Nat → Int} {K v : Int} (hN : 100 ≤ N) (h : TI x g m p w nn K) (hj : j < 3) (hv : 1 ≤ v ∧ v ≤ 30) (h1 : 1 ≤ k) (h9 : k ≤ 9) : ∃ (x' : bX) (bm bp bw bn : Nat → Int), f_L_would N (j : Int) v (k : Int) (x, g, m, p, w, nn, (fun _ => 0), (fun _ => 0), (fun _ => 0), fun _ => 0) = some (1, (x', g, m, p, w, nn, bm, bp, bw, bn)) ∧ TI x' g m p w nn K := by
  obtain ⟨bt, O, H, S, P, V, hs⟩ := x
  obtain ⟨n, g1, g2, g3, g4, g5, g6⟩ := h
  obtain ⟨O', V', bm, bp, bw, bn, a1⟩ := wouldG (bt := bt) (O := O) (H := H) (P := P) (V := V) (hs := hs) (bm := fun _ => 0) (bp := fun _ => 0) (bw := fun _ => 0) (bn := fun _ => 0) hN g2 g4 g5 hj rfl hv h1 h9 rfl
  exact ⟨(bt, O', H, S, P, V', hs), bm, bp, bw, bn, a1, n, g1, g2, g3, g4, g5, g6⟩
/-- the settings stored one by one -/
def nn8 : Nat → Int := up (up (up (up (up (up (up (up (fun _ => 0) 0 10) 1 15) 2 22) 3 4) 4 6) 5 3) 6 10) 7 2
theorem z0_CI : CI z0X.2.2.2.1 0 := st_CI
theorem z0_GB : GB z0X.2.2.2.1 (fun _ => 0) (fun _ => 0) (fun _ => 0) (fun _ => 0) nn8 0 := by
  refine ⟨⟨fun k hk => ?_, ⟨rfl, rfl, rfl, rfl, rfl⟩, rfl, rfl⟩, fun b hb => absurd hb (by omega), fun b hb => absurd hb (by omega), fun b hb => absurd hb (by omega), fun k hk => absurd (show (k : Int) < 0 from hk) (by omega)⟩
  rcases (show k = 0 ∨ k = 1 ∨ k = 2 ∨ k = 3 ∨ k = 4 ∨ k = 5 ∨ k = 6 ∨ k = 7 by omega) with rfl | rfl | rfl | rfl | rfl | rfl | rfl | rfl <;> rfl
theorem z0_LM : LM z0X.2.2.2.1 0 0 := ⟨⟨Int.le_refl _, Int.le_refl _⟩, ⟨Int.le_refl _, Int.le_refl _⟩, ⟨Int.le_refl _, Int.le_refl _⟩, ⟨Int.le_refl _, Int.le_refl _⟩, ⟨Int.le_refl _, Int.le_refl _⟩, fun b hb => absurd hb (by omega)⟩
theorem z0_btns {N : Nat} (hN : 100 ≤ N) : f_L_areButtons N (z0X, (fun _ => 0), (fun _ => 0), (fun _ => 0), (fun _ => 0), nn8) = some (1, (z0X, (fun _ => 0), (fun _ => 0), (fun _ => 0), (fun _ => 0), nn8)) := areBtns (n := 0) (K := 0) (by omega) (by omega) z0_CI z0_GB (by omega) z0_LM
theorem z0_bins {N : Nat} (hN : 100 ≤ N) : ∃ x' : bX, f_L_areBins N (z0X, (fun _ => 0), (fun _ => 0), nn8) = some (1, (x', (fun _ => 0), (fun _ => 0), nn8)) ∧ (0 ≤ x'.2.2.1.1 ∧ x'.2.2.1.1 ≤ 4) ∧ x'.2.2.2.1 = z0X.2.2.2.1 := by
  obtain ⟨O', a1⟩ := areBinsG (N := N) (n := 0) (bt := z0X.1) (O := z0X.2.1) (H := z0X.2.2.1) (P := z0X.2.2.2.2.1) (V := z0X.2.2.2.2.2.1) (hs := z0X.2.2.2.2.2.2) hN (by omega) z0_CI z0_GB.1 z0_GB.2.2.1 z0_GB.2.2.2.1
  exact ⟨_, a1, ⟨show (0 : Int) ≤ 0 by omega, show (0 : Int) ≤ 4 by omega⟩, rfl⟩
theorem z0_comes {N : Nat} {x' : bX} (hN : 100 ≤ N) (hH : 0 ≤ x'.2.2.1.1 ∧ x'.2.2.1.1 ≤ 4) (e : x'.2.2.2.1 = z0X.2.2.2.1) (v : Int) : ∃ (x2 : bX) (g m p w nn : Nat → Int), f_L_comes N v 3 (x', (fun _ => 0), (fun _ => 0), (fun _ => 0), (fun _ => 0), nn8) = some (1, (x2, g, m, p, w, nn)) ∧ TI x2 g m p w nn 200 := by
  obtain ⟨bt, O, H, S, P, V, hs⟩ := x'
  dsimp only at e hH
  subst e
  obtain ⟨bt', H', S', g', m', p', w', nn', n', c1, c2, c3, c4, c5, c6, c7, c8⟩ := comesG (N := N) (n := 0) (many := 3) (bt := bt) (O := O) (H := H) (P := P) (V := V) (hs := hs) (x := v) (mi := 3) hN (by omega) hH z0_CI z0_GB (by omega) (by omega) rfl
  exact ⟨(bt', O, H', S', P, V, hs), g', m', p', w', nn', c1, n', c5 rfl (by omega), c4, c2, c6, c7, LM_mono (c8 0 (by omega) z0_LM) (by omega)⟩
