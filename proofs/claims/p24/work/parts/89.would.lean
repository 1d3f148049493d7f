/-! p24: what would be with another mesh, in class and law -/
theorem GB_SEq {a b : bS} {g m p w nn : Nat → Int} {n : Nat} (h : SEq a b n) (hB : GB b g m p w nn n) : GB a g m p w nn n := by
  obtain ⟨h1, h2, h3, h4, h5, h6, h7⟩ := h
  obtain ⟨⟨n1, n2, n7, n8⟩, hG, hM, hP, hW⟩ := hB
  have f := fun x hx k hk => h2 k x hx hk
  refine ⟨⟨fun k hk => (n1 k hk).trans (h3 k hk).symm, by rw [h4]; exact n2, n7, n8.trans (h5 0 (by omega)).symm⟩, fun x hx => ?_, fun x hx => ?_, fun x hx => ?_, fun k hk => ?_⟩
  · obtain ⟨e1, e2, e3⟩ := hG x hx
    exact ⟨e1.trans (f x hx 0 (by omega)).symm, e2.trans (f x hx 1 (by omega)).symm, e3.trans (f x hx 2 (by omega)).symm⟩
  · obtain ⟨e1, e2, e3⟩ := hM x hx
    exact ⟨e1.trans (f x hx 3 (by omega)).symm, e2.trans (f x hx 4 (by omega)).symm, e3.trans (f x hx 8 (by omega)).symm⟩
  · obtain ⟨e1, e2, e3⟩ := hP x hx
    exact ⟨e1.trans (f x hx 5 (by omega)).symm, e2.trans (f x hx 6 (by omega)).symm, e3.trans (f x hx 7 (by omega)).symm⟩
  · rw [h5 0 (by omega)] at hk
    exact (hW k hk).trans (h7 k hk).symm
theorem set_GB {z : bS} {g m p w nn : Nat → Int} {n j : Nat} {v : Int} (hj : j < 8) (hB : GB z g m p w nn n) : GB (z.1, z.2.1, up z.2.2.1 j v, z.2.2.2) g m p w (up nn j v) n := by
  obtain ⟨⟨n1, ⟨n2, n3, n4, n5, n6⟩, n7, n8⟩, hG, hM, hP, hW⟩ := hB
  refine ⟨⟨fun k hk => ?_, ⟨?_, ?_, ?_, ?_, ?_⟩, ?_, ?_⟩, hG, hM, hP, hW⟩
  · show up nn j v k = up z.2.2.1 j v k
    by_cases e : k = j
    · subst e
      rw [up_s, up_s]
    · rw [up_n _ _ e, up_n _ _ e]
      exact n1 k hk
  · rw [up_n _ _ (by omega)]
    exact n2
  · rw [up_n _ _ (by omega)]
    exact n3
  · rw [up_n _ _ (by omega)]
    exact n4
  · rw [up_n _ _ (by omega)]
    exact n5
  · rw [up_n _ _ (by omega)]
    exact n6
  · rw [up_n _ _ (by omega)]
    exact n7
  · rw [up_n _ _ (by omega)]
    exact n8
theorem mshG_loop {N n W : Nat} {bt : bBT} {O : bO} {H : bH} {S P : bS} {hs : Int} {g m0 p0 w0 n0 : Nat → Int} {v1 v2 a1 a2 a3 a4 a5 : Int} (hN : 100 ≤ N) (hn20 : n ≤ 20) (hW : n0 14 = (W : Int)) (hW20 : W ≤ 20) : ∀ (d i : Nat), i + d = W → ∀ (T : bS) (m p w nn : Nat → Int) (fu fu' : Nat), CI T n → GB T g m p w nn n → (d : Int) ≤ T.2.1.2.2.2.2.1 0 → d < fu → d < fu' → ∃ (T' : bS) (m' p' w' nn' : Nat → Int), (∀ (q : Nat), q < 7 → f_X7_ifMesh_L82 N fu v1 v2 (q : Int) (W : Int) (i : Int) (bt, O, H, S, P, T, hs) = some (T'.2.1.2.2.2.2.1 q, (bt, O, H, S, P, T', hs))) ∧ (∀ (X : bX) (kt : Int → Int → Int → Int → Int → Int → bLXbig → Option (Int × bLXbig)), f_L_would_L200 N kt fu' a1 a2 a3 a4 a5 (i : Int) (X, g, m0, p0, w0, n0, m, p, w, nn) = kt a1 a2 a3 a4 a5 (W : Int) (X, g, m0, p0, w0, n0, m', p', w', nn')) ∧ CI T' n ∧ GB T' g m' p' w' nn' n := by
  intro d
  induction d with
  | zero =>
    intro i hi T m p w nn fu fu' hC hB hd hf hf'
    obtain ⟨fu, rfl⟩ : ∃ j, fu = j + 1 := ⟨fu - 1, by omega⟩
    obtain ⟨fu', rfl⟩ : ∃ j, fu' = j + 1 := ⟨fu' - 1, by omega⟩
    obtain rfl : i = W := by omega
    refine ⟨T, m, p, w, nn, fun q hq => ?_, fun X kt => ?_, hC, hB⟩
    · rw [f_X7_ifMesh_L82]
      exact (gd_q (rg_of (by first | omega | (dsimp only; omega))) (gd_q (rg_of (by first | omega | (dsimp only; omega))) (it_q1 (by first | omega | (dsimp only; omega)) (gd_q (inb_of (by first | omega | (dsimp only; omega))) (rfl)))))
    · rw [f_L_would_L200]
      exact (gd_q (rg_of (by first | omega | (dsimp only; omega))) (gd_q (by show rg (n0 14) = true; rw [hW]; exact (rg_of (by first | omega | (dsimp only; omega)))) (it_q1 (by show n0 14 ≤ _; omega) (rfl))))
  | succ d ih =>
    intro i hi T m p w nn fu fu' hC hB hd hf hf'
    obtain ⟨fu, rfl⟩ : ∃ j, fu = j + 1 := ⟨fu - 1, by omega⟩
    obtain ⟨fu', rfl⟩ : ∃ j, fu' = j + 1 := ⟨fu' - 1, by omega⟩
    obtain ⟨T1, m1, p1, w1, nn1, g1, g2, g3, g4, g5, -⟩ := sortsG (N := N) (by omega) hn20 hC hB (by omega)
    obtain ⟨T', m', p', w', nn', u1, u2, u3, u4⟩ := ih (i + 1) (by omega) T1 m1 p1 w1 nn1 fu fu' g3 g4 (by omega) (by omega) (by omega)
    refine ⟨T', m', p', w', nn', fun q hq => ?_, fun X kt => ?_, u3, u4⟩
    · rw [f_X7_ifMesh_L82]
      exact (gd_q (rg_of (by first | omega | (dsimp only; omega))) (gd_q (rg_of (by first | omega | (dsimp only; omega))) (it_q2 (by first | omega | (dsimp only; omega)) (bd_q g1 (nm_q (u1 q hq))))))
    · rw [f_L_would_L200]
      exact (gd_q (rg_of (by first | omega | (dsimp only; omega))) (gd_q (by show rg (n0 14) = true; rw [hW]; exact (rg_of (by first | omega | (dsimp only; omega)))) (it_q2 (by show ¬ n0 14 ≤ _; omega) (bd_q g2 (nm_q (nm_q (nm_q (nm_q (nm_q (u2 X kt))))))))))
theorem ifMshG {N n j W : Nat} {bt : bBT} {O : bO} {H : bH} {S P : bS} {hs v jj : Int} {g m0 p0 w0 n0 m p w nn : Nat → Int} {a1 a2 a3 a4 a5 : Int} (hN : 100 ≤ N) (hn20 : n ≤ 20) (hC : CI S n) (hB : GB S g m p w nn n) (hj : j < 3) (ej : jj = (j : Int)) (hv : 1 ≤ v ∧ v ≤ 30) (hok : okM S.2.2.1 j v) (hW : S.2.1.2.2.2.2.1 0 = (W : Int)) (h0 : n0 14 = (W : Int)) : ∀ V : bS, ∃ (T' : bS) (m' p' w' nn' : Nat → Int), (∀ (q : Nat), q < 7 → f_X7_ifMesh N jj v (q : Int) (bt, O, H, S, P, V, hs) = some (T'.2.1.2.2.2.2.1 q, (bt, O, H, S, P, T', hs))) ∧ (∀ (X : bX) (kt : Int → Int → Int → Int → Int → Int → bLXbig → Option (Int × bLXbig)), f_L_would_L200 N kt N a1 a2 a3 a4 a5 0 (X, g, m0, p0, w0, n0, m, p, w, up nn j v) = kt a1 a2 a3 a4 a5 (W : Int) (X, g, m0, p0, w0, n0, m', p', w', nn')) ∧ CI T' n ∧ GB T' g m' p' w' nn' n := by
  subst ej
  intro V
  have h40 := CI_40 hC
  have hwn := (PI_w hC.2.2).2
  have hrv : rg v = true := (rg_of (by first | omega | (dsimp only; omega)))
  obtain ⟨v1, -⟩ := isV (j := j) (v := v) (by omega) rfl hrv
  have hokv : okV j v := (okV3 (by omega)).mpr hv
  have v1 := (v1 hokv).1
  have m1 := (mAC (j := j) (z := S) (by omega) rfl hrv hC.2.1).1 hok
  have hsq := cpyS_SEq (a := V) hC
  have hCc := SEq_CI hsq hC
  have es : ∀ k, k < 8 → (cpyS V S).2.2.1 k = S.2.2.1 k := hsq.2.2.1
  have hok2 : okM (cpyS V S).2.2.1 j v := okM3 es hok
  have hw0 : (cpyS V S).2.1.2.2.2.2.1 0 = S.2.1.2.2.2.2.1 0 := hsq.2.2.2.2.1 0 (by omega)
  have hC3 : CI ((cpyS V S).1, (cpyS V S).2.1, up (cpyS V S).2.2.1 j v, (cpyS V S).2.2.2) n := ⟨hCc.1, set_SI (by omega) hCc.2.1 hokv hok2, hCc.2.2⟩
  have hB3 := set_GB (j := j) (v := v) (by omega) (GB_SEq hsq hB)
  obtain ⟨T', m', p', w', nn', u1, u2, u3, u4⟩ := mshG_loop (N := N) (W := W) (bt := bt) (O := O) (H := H) (S := S) (P := P) (hs := hs) (g := g) (m0 := m0) (p0 := p0) (w0 := w0) (n0 := n0) (v1 := (j : Int)) (v2 := v) (a1 := a1) (a2 := a2) (a3 := a3) (a4 := a4) (a5 := a5) hN hn20 h0 (by omega) W 0 (by omega) _ m p w (up nn j v) N N hC3 hB3 (by show (W : Int) ≤ (cpyS V S).2.1.2.2.2.2.1 0; omega) (by omega) (by omega)
  refine ⟨T', m', p', w', nn', fun q hq => ?_, u2, u3, u4⟩
  refine (gd_q (rg_of (by first | omega | (dsimp only; omega))) (it_q2 (by first | omega | (dsimp only; omega)) (it_q1 (by first | omega | (dsimp only; omega)) (bd_q v1 (gd_q (rg_of (by first | omega | (dsimp only; omega))) (it_q2 (by first | omega | (dsimp only; omega)) (bd_q (isPl_eq (by omega)) (gd_q (rg_of (by first | omega | (dsimp only; omega))) (it_q2 (by first | omega | (dsimp only; omega)) (bd_q m1 (nm_q (gd_q (rg_of (by first | omega | (dsimp only; omega))) (it_q2 (by first | omega | (dsimp only; omega)) (bd_q (copyFrom_eq hC) (nm_q (nm_q (gd_q (inb_of (by first | omega | (dsimp only; omega))) (nm_q (nm_q (?_))))))))))))))))))))
  dsimp only
  rw [hw0, hW]
  exact u1 q hq
theorem ifMshN {N n j : Nat} {bt : bBT} {O : bO} {H : bH} {S P V : bS} {hs v jj : Int} (hC : CI S n) (hj : j < 3) (ej : jj = (j : Int)) (hv : 1 ≤ v ∧ v ≤ 30) (hok : ¬ okM S.2.2.1 j v) : f_X7_ifMesh N jj v 0 (bt, O, H, S, P, V, hs) = some (-4, (bt, O, H, S, P, V, hs)) := by
  subst ej
  have hrv : rg v = true := (rg_of (by first | omega | (dsimp only; omega)))
  obtain ⟨v1, -⟩ := isV (j := j) (v := v) (by omega) rfl hrv
  have hokv : okV j v := (okV3 (by omega)).mpr hv
  have v1 := (v1 hokv).1
  have m1 := (mAC (j := j) (z := S) (by omega) rfl hrv hC.2.1).2 hok
  exact (gd_q (rg_of (by first | omega | (dsimp only; omega))) (it_q2 (by first | omega | (dsimp only; omega)) (it_q1 (by first | omega | (dsimp only; omega)) (bd_q v1 (gd_q (rg_of (by first | omega | (dsimp only; omega))) (it_q2 (by first | omega | (dsimp only; omega)) (bd_q (isPl_eq (by omega)) (gd_q (rg_of (by first | omega | (dsimp only; omega))) (it_q2 (by first | omega | (dsimp only; omega)) (bd_q m1 (nm_q (gd_q (rg_of (by first | omega | (dsimp only; omega))) (it_q1 (by first | omega | (dsimp only; omega)) (rfl))))))))))))))
theorem sevG_loop {N n : Nat} {bt : bBT} {O : bO} {H : bH} {S P : bS} {hs v jj : Int} {g m0 p0 w0 n0 m p w nn : Nat → Int} {a3 a4 : Int} {kt : Int → Int → Int → Int → Int → Int → bLXbig → Option (Int × bLXbig)} (hN : 100 ≤ N) (hn20 : n ≤ 20) (hn : nn 13 = (n : Int)) (hone : ∀ V : bS, ∃ T' : bS, (∀ (q : Nat), q < 7 → f_X7_ifMesh N jj v (q : Int) (bt, O, H, S, P, V, hs) = some (T'.2.1.2.2.2.2.1 q, (bt, O, H, S, P, T', hs))) ∧ CI T' n ∧ GP T' p n) : ∀ (d q fu : Nat) (V : bS), q + d = 7 → d < fu → ∃ V' : bS, f_L_would_L231 N kt fu jj v a3 a4 1 (q : Int) ((bt, O, H, S, P, V, hs), g, m0, p0, w0, n0, m, p, w, nn) = kt jj v a3 a4 1 7 ((bt, O, H, S, P, V', hs), g, m0, p0, w0, n0, m, p, w, nn) := by
  intro d
  induction d with
  | zero =>
    intro q fu V hq hf
    obtain ⟨fu, rfl⟩ : ∃ j, fu = j + 1 := ⟨fu - 1, by omega⟩
    obtain rfl : q = 7 := by omega
    refine ⟨V, ?_⟩
    rw [f_L_would_L231]
    exact (gd_q (rg_of (by first | omega | (dsimp only; omega))) (it_q1 (by first | omega | (dsimp only; omega)) (rfl)))
  | succ d ih =>
    intro q fu V hq hf
    obtain ⟨fu, rfl⟩ : ∃ j, fu = j + 1 := ⟨fu - 1, by omega⟩
    obtain ⟨T', t1, t2, t3'⟩ := hone V
    obtain ⟨V', u1⟩ := ih (q + 1) fu T' (by omega) (by omega)
    have hat := atG (N := N) (q := q) (qq := (q : Int)) (nn := nn) (by omega) hn20 t2 hn t3' (by omega) rfl
    have hz := PI_at t2.2.2 (q := q) (by omega)
    refine ⟨V', ?_⟩
    rw [f_L_would_L231]
    exact (gd_q (rg_of (by first | omega | (dsimp only; omega))) (it_q2 (by first | omega | (dsimp only; omega)) (gd_q (rg_of (by first | omega | (dsimp only; omega))) (jn2_q (it_q2 (by first | omega | (dsimp only; omega)) (bd_q (t1 q (by omega)) (nm_q (bd_q hat (gd_q (rg_of (show -2147483648 ≤ T'.2.1.2.2.2.2.1 q ∧ T'.2.1.2.2.2.2.1 q < 2147483648 by omega)) (gd_q (rg_of (show -2147483648 ≤ T'.2.1.2.2.2.2.1 q ∧ T'.2.1.2.2.2.2.1 q < 2147483648 by omega)) (it_q1 rfl (u1))))))))))))
theorem okM_iff {s : Nat → Int} {j : Nat} {v : Int} (hs : SI s) (hj : j < 3) : okM s j v ↔ (up s j v 0 ≤ up s j v 1 ∧ up s j v 1 ≤ up s j v 2) := by
  have l01 := hs.2.1
  have l12 := hs.2.2.1
  match j, hj with
  | 0, _ =>
    rw [up_s, up_n _ _ (by omega), up_n _ _ (by omega)]
    show v ≤ s 1 ↔ _
    omega
  | 1, _ =>
    rw [up_s, up_n _ _ (by omega), up_n _ _ (by omega)]
    exact Iff.rfl
  | 2, _ =>
    rw [up_s, up_n _ _ (by omega), up_n _ _ (by omega)]
    show s 1 ≤ v ↔ _
    omega
  | j + 3, hj => exact absurd hj (by omega)
theorem shirtsX {N mm : Nat} {bt : bBT} {O : bO} {H : bH} {S P V : bS} {hs u mi : Int} {O' : bO} (hm : 1 ≤ mm) (hm9 : mm ≤ 9) (em : mi = (mm : Int)) (h : f_X7_shirts_L14 N N mi 0 0 (bt, O, H, S, P, V, hs) = some (u, (bt, O', H, S, P, V, hs))) : f_X7_shirts N mi (bt, O, H, S, P, V, hs) = some (u, (bt, O', H, S, P, V, hs)) := by
  unfold f_X7_shirts
  exact (bd_q (isWX hm hm9 em) (gd_q (rg_of (by first | omega | (dsimp only; omega))) (it_q2 (by first | omega | (dsimp only; omega)) (h))))
theorem wouldG {N n j mm : Nat} {bt : bBT} {O : bO} {H : bH} {S P V : bS} {hs v jj mi : Int} {g m p w nn bm bp bw bn : Nat → Int} (hN : 100 ≤ N) (hn20 : n ≤ 20) (hC : CI S n) (hB : GB S g m p w nn n) (hj : j < 3) (ej : jj = (j : Int)) (hv : 1 ≤ v ∧ v ≤ 30) (hm : 1 ≤ mm) (hm9 : mm ≤ 9) (em : mi = (mm : Int)) : ∃ (O' : bO) (V' : bS) (bm' bp' bw' bn' : Nat → Int), f_L_would N jj v mi ((bt, O, H, S, P, V, hs), g, m, p, w, nn, bm, bp, bw, bn) = some (1, ((bt, O', H, S, P, V', hs), g, m, p, w, nn, bm', bp', bw', bn')) := by
  subst ej
  have h40 := CI_40 hC
  have hB' := hB
  obtain ⟨hGN, hG, hM, hP, hW⟩ := hB'
  have hwn := PI_w hC.2.2
  have hsr := SI_rg hC.2.1
  obtain ⟨W, eW⟩ : ∃ W : Nat, S.2.1.2.2.2.2.1 0 = (W : Int) := ⟨(S.2.1.2.2.2.2.1 0).toNat, by omega⟩
  have h14 : nn 14 = (W : Int) := hGN.2.2.2.trans eW
  obtain ⟨m1, c1, d1⟩ := cp60G (N := N) (f := m) (y := bm) hN
  obtain ⟨p1, c2, d2⟩ := cp60G (N := N) (f := p) (y := bp) hN
  obtain ⟨n1, c3, d3⟩ := cp15G (N := N) (f := nn) (y := bn) hN
  have hM1 := GM_cp hn20 hM d1
  have hP1 := GP_cp hn20 hP d2
  have hN1 := GN_cp hGN d3
  have hsh := shG_loop (N := N) (mm := mm) (bt := bt) (H := H) (r := (P, V, hs)) (X := (bt, O, H, S, P, V, hs)) (g := g) (m0 := m) (p0 := p) (w0 := w) (n0 := nn) (bw := bw) (a1 := (j : Int)) (a2 := v) (mi := mi) hN hn20 hm hm9 em hC hM1 12 0 (by omega) S p1 n1 O 0 N N hC hN1 hP1 rfl rfl (fun y _ b _ => Iff.rfl) (by omega) (by omega)
  unfold f_L_would
  obtain ⟨u, O', p2, n2, s1, s2, s3, s4⟩ := hsh
  have hsx := shirtsX hm hm9 em s1
  obtain ⟨m3, e1, f1⟩ := cp60G (N := N) (f := m) (y := m1) hN
  obtain ⟨p3, e2, f2⟩ := cp60G (N := N) (f := p) (y := p2) hN
  obtain ⟨w3, e3, f3⟩ := cp20G (N := N) (f := w) (y := bw) hN
  obtain ⟨n3, e4, f4⟩ := cp15G (N := N) (f := nn) (y := n2) hN
  have hB3 : GB S g m3 p3 w3 n3 n := ⟨GN_cp hGN f4, hG, GM_cp hn20 hM f1, GP_cp hn20 hP f2, GW_cp hn20 hC hW f3⟩
  have hu : ∀ k, k < 3 → up n3 j v k = up S.2.2.1 j v k := by
    intro k hk
    by_cases e : k = j
    · subst e
      rw [up_s, up_s]
    · rw [up_n _ _ e, up_n _ _ e]
      exact hB3.1.1 k (by omega)
  have hur : ∀ k, k < 3 → rg (up n3 j v k) = true := by
    intro k hk
    rw [hu k hk]
    by_cases e : k = j
    · subst e
      rw [up_s]
      exact (rg_of (by first | omega | (dsimp only; omega)))
    · rw [up_n _ _ e]
      have := hsr k (by omega)
      exact (rg_of (by first | omega | (dsimp only; omega)))
  have hoi := okM_iff (v := v) hC.2.1 hj
  by_cases hok : okM S.2.2.1 j v
  · have hok2 := hoi.mp hok
    rw [← hu 0 (by omega), ← hu 1 (by omega), ← hu 2 (by omega)] at hok2
    have hall := ifMshG (N := N) (W := W) (bt := bt) (O := O') (H := H) (P := P) (hs := hs) (m0 := m) (p0 := p) (w0 := w) (n0 := nn) (a1 := (j : Int)) (a2 := v) (a3 := mi) (a4 := 0 + u) (a5 := 1) hN hn20 hC hB3 hj rfl hv hok eW h14
    obtain ⟨T0, m4, p4, w4, n4, t1, t2, t3', t4⟩ := hall V
    have hone : ∀ V : bS, ∃ T' : bS, (∀ (q : Nat), q < 7 → f_X7_ifMesh N (j : Int) v (q : Int) (bt, O', H, S, P, V, hs) = some (T'.2.1.2.2.2.2.1 q, (bt, O', H, S, P, T', hs))) ∧ CI T' n ∧ GP T' p4 n := by
      intro V1
      obtain ⟨T1, m5, p5, w5, n5, r1, r2, r3, r4⟩ := hall V1
      refine ⟨T1, r1, r3, ?_⟩
      have q1 := t2 (bt, O', H, S, P, V, hs) (fun _ _ _ _ _ _ s => some (0, s))
      rw [r2] at q1
      have q2 := Option.some.inj q1
      have q3 : p5 = p4 := by
        have := congrArg (fun s => s.2.2.2.2.2.2.2.2.1) q2
        exact this
      rw [← q3]
      exact r4.2.2.2.1
    obtain ⟨V', v1⟩ := sevG_loop (N := N) (g := g) (m0 := m) (p0 := p) (w0 := w) (n0 := nn) (m := m4) (w := w4) (a3 := mi) (a4 := 0 + u) (kt := fun v165 v166 v167 v168 v169 v170 s171 => gd (inb v169 2) <| some (v169, s171)) hN hn20 t4.1.2.2.1 hone 7 0 N V (by omega) (by omega)
    refine ⟨O', V', m4, p4, w4, n4, ?_⟩
    refine (bd_q c1 (nm_q (nm_q (bd_q c2 (nm_q (nm_q (bd_q c3 (nm_q (nm_q (?_))))))))))
    refine Eq.trans (s2 _) ?_
    refine (bd_q hsx (nm_q (gd_q (rg_of (show -2147483648 ≤ 0 + u ∧ 0 + u < 2147483648 by omega)) (gd_q (rg_of (show -2147483648 ≤ 0 + u ∧ 0 + u < 2147483648 by omega)) (jn2_q (it_q1 rfl (?_)))))))
    refine (bd_q e1 (nm_q (nm_q (bd_q e2 (nm_q (nm_q (bd_q e3 (nm_q (nm_q (bd_q e4 (nm_q (nm_q (gd_q (inb_of (by first | omega | (dsimp only; omega))) (nm_q (gd_q (hur 0 (by omega)) (gd_q (hur 1 (by omega)) (it_q2 (show ¬ up n3 j v 1 < up n3 j v 0 by omega) (gd_q (hur 2 (by omega)) (it_q1 (show up n3 j v 1 ≤ up n3 j v 2 from hok2.2) (?_))))))))))))))))))))
    refine Eq.trans (t2 _ _) ?_
    refine Eq.trans v1 ?_
    exact (gd_q (inb_of (by first | omega | (dsimp only; omega))) (rfl))
  · have hno := ifMshN (N := N) (bt := bt) (O := O') (H := H) (P := P) (V := V) (hs := hs) hC hj rfl hv hok
    refine ⟨O', V, m3, p3, w3, up n3 j v, ?_⟩
    refine (bd_q c1 (nm_q (nm_q (bd_q c2 (nm_q (nm_q (bd_q c3 (nm_q (nm_q (?_))))))))))
    refine Eq.trans (s2 _) ?_
    refine (bd_q hsx (nm_q (gd_q (rg_of (show -2147483648 ≤ 0 + u ∧ 0 + u < 2147483648 by omega)) (gd_q (rg_of (show -2147483648 ≤ 0 + u ∧ 0 + u < 2147483648 by omega)) (jn2_q (it_q1 rfl (?_)))))))
    refine (bd_q e1 (nm_q (nm_q (bd_q e2 (nm_q (nm_q (bd_q e3 (nm_q (nm_q (bd_q e4 (nm_q (nm_q (gd_q (inb_of (by first | omega | (dsimp only; omega))) (nm_q (gd_q (hur 0 (by omega)) (gd_q (hur 1 (by omega)) (?_)))))))))))))))))
    by_cases c : up n3 j v 1 < up n3 j v 0
    · exact (it_q1 c (gd_q (show rg 1 = true by decide) (jn2_q (it_q2 (by first | omega | (dsimp only; omega)) (bd_q hno (nm_q (gd_q (show rg (-4) = true by decide) (it_q1 rfl (gd_q (inb_of (by first | omega | (dsimp only; omega))) (rfl))))))))))
    · have hn2 : ¬ up n3 j v 1 ≤ up n3 j v 2 := fun h => hok (hoi.mpr (by
        rw [← hu 0 (by omega), ← hu 1 (by omega), ← hu 2 (by omega)]
        omega))
      exact (it_q2 c (gd_q (hur 2 (by omega)) (it_q2 (show ¬ up n3 j v 1 ≤ up n3 j v 2 from hn2) (gd_q (show rg 1 = true by decide) (jn2_q (it_q2 (by first | omega | (dsimp only; omega)) (bd_q hno (nm_q (gd_q (show rg (-4) = true by decide) (it_q1 rfl (gd_q (inb_of (by first | omega | (dsimp only; omega))) (rfl))))))))))))
