/-! p24: a turn's act -/
theorem Aok_eq {e e' : Option (Int × bLXgmpwn)} {S P V : bS} {hs : Int} {n : Nat} (h : ∀ r, e' = r → e = r) (ha : Aok e' S P V hs n) : Aok e S P V hs n := by
  obtain ⟨bt', O', H', S', g', m', p', w', nn', n', h1, h2⟩ := ha
  exact ⟨bt', O', H', S', g', m', p', w', nn', n', h _ h1, h2⟩
theorem actsG {N n k : Nat} {bt : bBT} {O : bO} {H : bH} {S P V : bS} {hs x6 x7 : Int} {g m p w nn : Nat → Int} (hN : 100 ≤ N) (hn20 : n ≤ 20) (hn0 : 0 < n) (hH : 0 ≤ H.1 ∧ H.1 ≤ 4) (hC : CI S n) (hB : GB S g m p w nn n) (hk : k < 18) (e6 : x6 = (k : Int)) : Aok (f_L_acts N x6 x7 ((bt, O, H, S, P, V, hs), g, m, p, w, nn)) S P V hs n := by
  subst e6
  obtain ⟨u, l1, hu⟩ := low1 (x := srI x7 6) (n := 2) (k := 2) rfl (by omega) (by omega)
  obtain ⟨q, l2, hq⟩ := lowIf (a := x7) (c := (u : Int) = 0) (u := 12) (v := 6) (p := 12) (q := 6) rfl rfl (by omega) (by omega)
  have hq12 : q < 12 := by omega
  have cm : ∀ r : Nat, r < 3 → ∃ (bt' : bBT) (H' : bH) (S' : bS) (g' m' p' w' nn' : Nat → Int) (n' : Nat), f_L_comes N x7 (1 + (r : Int)) ((bt, O, H, S, P, V, hs), g, m, p, w, nn) = some (1, ((bt', O, H', S', P, V, hs), g', m', p', w', nn')) ∧ (0 ≤ H'.1 ∧ H'.1 ≤ 4) ∧ n ≤ n' ∧ n' ≤ 20 ∧ CI S' n' ∧ GB S' g' m' p' w' nn' n' ∧ ∀ K : Int, 0 ≤ K → LM S n K → LM S' n' (K + 200) := by
    intro r hr
    obtain ⟨bt', H', S', g', m', p', w', nn', n', c1, c2, c3, c4, c5, c6, c7, c8⟩ := comesG (many := 1 + r) (x := x7) (mi := 1 + (r : Int)) (bt := bt) (O := O) (P := P) (V := V) (hs := hs) hN hn20 hH hC hB (by omega) (by omega) (by omega)
    exact ⟨bt', H', S', g', m', p', w', nn', n', c1, c2, c3, c4, c6, c7, fun K h1 h2 => LM_mono (c8 K h1 h2) (by omega)⟩
  have st : ∃ (H' : bH) (S' : bS) (nn' : Nat → Int), f_L_sets x7 ((bt, O, H, S, P, V, hs), nn) = some (1, ((bt, O, H', S', P, V, hs), nn')) ∧ (0 ≤ H'.1 ∧ H'.1 ≤ 4) ∧ CI S' n ∧ (∀ g m p w, GB S g m p w nn n → GB S' g m p w nn' n) ∧ ∀ K : Int, LM S n K → LM S' n K := setsG hn20 hH hC hB.1.1
  unfold f_L_acts
  by_cases c0 : k = 0
  · subst c0
    obtain ⟨r, r1, r2⟩ := low1 (x := srI x7 14) (n := 3) (k := 3) rfl (by omega) (by omega)
    obtain ⟨bt', H', S', g', m', p', w', nn', n', d1, d2⟩ := cm r r2
    refine ⟨bt', O, H', S', g', m', p', w', nn', n', ?_, d2⟩
    exact (bd_q l1 (gd_q (rg_of (by first | omega | (dsimp only; omega))) (Eq.trans ifJ (bd_q l2 (gd_q (rg_of (by first | omega | (dsimp only; omega))) (it_q1 (by omega) (bd_q r1 (bd_q d1 (nm_q (nm_q (nm_q (nm_q (nm_q (nm_q (gd_q (inb_of (by first | omega | (dsimp only; omega))) (rfl))))))))))))))))
  by_cases c1 : k = 1
  · subst c1
    obtain ⟨r, r1, r2⟩ := low1 (x := srI x7 14) (n := 3) (k := 3) rfl (by omega) (by omega)
    obtain ⟨bt', H', S', g', m', p', w', nn', n', d1, d2⟩ := cm r r2
    refine ⟨bt', O, H', S', g', m', p', w', nn', n', ?_, d2⟩
    exact (bd_q l1 (gd_q (rg_of (by first | omega | (dsimp only; omega))) (Eq.trans ifJ (bd_q l2 (gd_q (rg_of (by first | omega | (dsimp only; omega))) (it_q2 (by omega) (it_q1 (by omega) (bd_q r1 (bd_q d1 (nm_q (nm_q (nm_q (nm_q (nm_q (nm_q (gd_q (inb_of (by first | omega | (dsimp only; omega))) (rfl)))))))))))))))))
  by_cases c2 : k = 2
  · subst c2
    obtain ⟨H', S', nn', d1, d2, d3, d4, d5⟩ := st
    refine ⟨bt, O, H', S', g, m, p, w, nn', n, ?_, d2, Nat.le_refl _, hn20, d3, d4 _ _ _ _ hB, fun K h1 h2 => LM_mono (d5 K h2) (by omega)⟩
    exact (bd_q l1 (gd_q (rg_of (by first | omega | (dsimp only; omega))) (Eq.trans ifJ (bd_q l2 (gd_q (rg_of (by first | omega | (dsimp only; omega))) (it_q2 (by omega) (it_q2 (by omega) (it_q1 (by omega) (bd_q d1 (nm_q (nm_q (gd_q (inb_of (by first | omega | (dsimp only; omega))) (rfl)))))))))))))
  by_cases c3 : k = 3
  · subst c3
    obtain ⟨H', S', nn', d1, d2, d3, d4, d5⟩ := st
    refine ⟨bt, O, H', S', g, m, p, w, nn', n, ?_, d2, Nat.le_refl _, hn20, d3, d4 _ _ _ _ hB, fun K h1 h2 => LM_mono (d5 K h2) (by omega)⟩
    exact (bd_q l1 (gd_q (rg_of (by first | omega | (dsimp only; omega))) (Eq.trans ifJ (bd_q l2 (gd_q (rg_of (by first | omega | (dsimp only; omega))) (it_q2 (by omega) (it_q2 (by omega) (it_q2 (by omega) (it_q1 (by omega) (bd_q d1 (nm_q (nm_q (gd_q (inb_of (by first | omega | (dsimp only; omega))) (rfl))))))))))))))
  by_cases c4 : k = 4
  · subst c4
    refine Aok_eq (fun r hr => ?_) (letA (bt := bt) (O := O) (a1 := ((4 : Nat) : Int)) (a2 := x7) (a3 := (q : Int)) hN hn20 hH hC hB)
    exact (bd_q l1 (gd_q (rg_of (by first | omega | (dsimp only; omega))) (Eq.trans ifJ (bd_q l2 (gd_q (rg_of (by first | omega | (dsimp only; omega))) (it_q2 (by omega) (it_q2 (by omega) (it_q2 (by omega) (it_q2 (by omega) (it_q1 (by omega) (hr)))))))))))
  by_cases c5 : k = 5
  · subst c5
    refine Aok_eq (fun r hr => ?_) (pourA (bt := bt) (O := O) (a1 := ((5 : Nat) : Int)) (a2 := x7) hN hn20 hH hC hB hq12 rfl)
    exact (bd_q l1 (gd_q (rg_of (by first | omega | (dsimp only; omega))) (Eq.trans ifJ (bd_q l2 (gd_q (rg_of (by first | omega | (dsimp only; omega))) (it_q2 (by omega) (it_q2 (by omega) (it_q2 (by omega) (it_q2 (by omega) (it_q2 (by omega) (it_q1 (by omega) (hr))))))))))))
  by_cases c6 : k = 6
  · subst c6
    refine Aok_eq (fun r hr => ?_) (shirtA (bt := bt) (O := O) (x7 := x7) hN hn20 hH hC hB hq12 rfl)
    exact (bd_q l1 (gd_q (rg_of (by first | omega | (dsimp only; omega))) (Eq.trans ifJ (bd_q l2 (gd_q (rg_of (by first | omega | (dsimp only; omega))) (it_q2 (by omega) (it_q2 (by omega) (it_q2 (by omega) (it_q2 (by omega) (it_q2 (by omega) (it_q2 (by omega) (it_q1 (by omega) (hr)))))))))))))
  by_cases c7 : k = 7
  · subst c7
    refine Aok_eq (fun r hr => ?_) (shirtA (bt := bt) (O := O) (x7 := x7) hN hn20 hH hC hB hq12 rfl)
    exact (bd_q l1 (gd_q (rg_of (by first | omega | (dsimp only; omega))) (Eq.trans ifJ (bd_q l2 (gd_q (rg_of (by first | omega | (dsimp only; omega))) (it_q2 (by omega) (it_q2 (by omega) (it_q2 (by omega) (it_q2 (by omega) (it_q2 (by omega) (it_q2 (by omega) (it_q2 (by omega) (it_q1 (by omega) (hr))))))))))))))
  by_cases c8 : k = 8
  · subst c8
    refine Aok_eq (fun r hr => ?_) (shirtA (bt := bt) (O := O) (x7 := x7) hN hn20 hH hC hB hq12 rfl)
    exact (bd_q l1 (gd_q (rg_of (by first | omega | (dsimp only; omega))) (Eq.trans ifJ (bd_q l2 (gd_q (rg_of (by first | omega | (dsimp only; omega))) (it_q2 (by omega) (it_q2 (by omega) (it_q2 (by omega) (it_q2 (by omega) (it_q2 (by omega) (it_q2 (by omega) (it_q2 (by omega) (it_q2 (by omega) (it_q1 (by omega) (hr)))))))))))))))
  by_cases c9 : k = 9
  · subst c9
    refine Aok_eq (fun r hr => ?_) (polA (bt := bt) (O := O) (x7 := x7) hN hn20 hn0 hH hC hB)
    exact (bd_q l1 (gd_q (rg_of (by first | omega | (dsimp only; omega))) (Eq.trans ifJ (bd_q l2 (gd_q (rg_of (by first | omega | (dsimp only; omega))) (it_q2 (by omega) (it_q2 (by omega) (it_q2 (by omega) (it_q2 (by omega) (it_q2 (by omega) (it_q2 (by omega) (it_q2 (by omega) (it_q2 (by omega) (it_q2 (by omega) (it_q1 (by omega) (hr))))))))))))))))
  by_cases c10 : k = 10
  · subst c10
    refine Aok_eq (fun r hr => ?_) (polA (bt := bt) (O := O) (x7 := x7) hN hn20 hn0 hH hC hB)
    exact (bd_q l1 (gd_q (rg_of (by first | omega | (dsimp only; omega))) (Eq.trans ifJ (bd_q l2 (gd_q (rg_of (by first | omega | (dsimp only; omega))) (it_q2 (by omega) (it_q2 (by omega) (it_q2 (by omega) (it_q2 (by omega) (it_q2 (by omega) (it_q2 (by omega) (it_q2 (by omega) (it_q2 (by omega) (it_q2 (by omega) (it_q2 (by omega) (it_q1 (by omega) (hr)))))))))))))))))
  refine Aok_eq (fun r hr => ?_) (srtA (bt := bt) (O := O) (x6 := (k : Int)) (x7 := x7) (u8 := (q : Int)) hN hn20 hH hC hB)
  exact (bd_q l1 (gd_q (rg_of (by first | omega | (dsimp only; omega))) (Eq.trans ifJ (bd_q l2 (gd_q (rg_of (by first | omega | (dsimp only; omega))) (it_q2 (by omega) (it_q2 (by omega) (it_q2 (by omega) (it_q2 (by omega) (it_q2 (by omega) (it_q2 (by omega) (it_q2 (by omega) (it_q2 (by omega) (it_q2 (by omega) (it_q2 (by omega) (it_q2 (by omega) (hr)))))))))))))))))
