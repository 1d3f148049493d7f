/-! p24: numbers drawn from a number; settings are set -/
theorem dvN2 {x k : Nat} {y w : Int} (e : y = (x : Int)) (e2 : w = (k : Int)) (hx : x < 2147483648) (hk : 0 < k) (hk2 : k < 1000) : dvI y w = ((x / k : Nat) : Int) := by
  subst e
  subst e2
  unfold dvI
  have h1 : rg (x : Int) = true := (rg_of (by first | omega | (dsimp only; omega)))
  have h2 : rg (k : Int) = true := (rg_of (by first | omega | (dsimp only; omega)))
  rw [Int32.toInt_div_of_ne_right _ _ (fun h => by
    have := congrArg Int32.toInt h
    rw [zi_toInt h2, show (-1 : Int32).toInt = -1 by decide] at this
    omega), zi_toInt h1, zi_toInt h2]
  rfl
theorem rmN2 {x k : Nat} {y w : Int} (e : y = (x : Int)) (e2 : w = (k : Int)) (hx : x < 2147483648) (hk : 0 < k) (hk2 : k < 1000) : rmI y w = ((x % k : Nat) : Int) := by
  have hd := dvN2 e e2 hx hk hk2
  unfold dvI at hd
  have h3 : zi y / zi w = zi ((x / k : Nat) : Int) := by rw [← hd, zi_of]
  have hm : k * (x / k) + x % k = x := Nat.div_add_mod x k
  have hml := Nat.mod_lt x hk
  unfold rmI
  rw [h3, ← zi_mul, ← zi_sub]
  have e3 : y - ((x / k : Nat) : Int) * w = ((x % k : Nat) : Int) := by
    rw [e, e2, ← Int.natCast_mul, Nat.mul_comm]
    omega
  rw [e3, zi_toInt (rg_of (by first | omega | (dsimp only; omega)))]
theorem anI_nn (x : Int) : 0 ≤ anI x 2147483647 ∧ anI x 2147483647 < 2147483648 := by
  unfold anI
  have h1 : (zi x &&& zi 2147483647).toBitVec.msb = false := by
    rw [Int32.toBitVec_and, BitVec.msb_and, show (zi 2147483647).toBitVec.msb = false by decide +kernel, Bool.and_false]
  have h2 : (zi x &&& zi 2147483647).toInt = ((zi x &&& zi 2147483647).toBitVec.toNat : Int) := BitVec.toInt_eq_toNat_of_msb h1
  have h3 := (zi x &&& zi 2147483647).toInt_lt
  omega
def lowV (x n : Int) : Int := rmI (anI x 2147483647) n
theorem lowV_rg {x n : Int} {k : Nat} (e : n = (k : Int)) (h0 : 0 < k) (h : k < 1000) : 0 ≤ lowV x n ∧ lowV x n < n := by
  obtain ⟨a1, a2⟩ := anI_nn x
  unfold lowV
  rw [rmN2 (x := (anI x 2147483647).toNat) (k := k) (by omega) e (by omega) h0 h, e]
  have := Nat.mod_lt (anI x 2147483647).toNat h0
  omega
theorem lowG {x n : Int} {k : Nat} (e : n = (k : Int)) (h0 : 0 < k) (h : k < 1000) : f_L_low x n = some (lowV x n) := by
  unfold f_L_low
  refine gd_q ?_ rfl
  unfold nzb
  rw [rg_of (show -2147483648 ≤ n ∧ n < 2147483648 by omega), Bool.true_and]
  exact decide_eq_true (by omega)
theorem low1 {x n : Int} {k : Nat} (e : n = (k : Int)) (h0 : 0 < k) (h : k < 1000) : ∃ v : Nat, f_L_low x n = some (v : Int) ∧ v < k := by
  have h1 := lowV_rg (x := x) e h0 h
  refine ⟨(lowV x n).toNat, ?_, by omega⟩
  rw [lowG e h0 h]
  congr 1
  omega
theorem stS_1 (h : bH) (v : Int) (a : bS) : ∀ q, q < 4 → (stS h v q a).1 = v
  | 0, _ => rfl
  | 1, _ => rfl
  | 2, _ => rfl
  | 3, _ => rfl
  | q + 4, h => absurd h (by omega)
theorem remX {H : bH} {S : bS} {n : Nat} (hH : 0 ≤ H.1 ∧ H.1 ≤ 4) (hC : CI S n) : ∃ H' : bH, f_X2_remember (H, S) = some (H', S) ∧ 0 ≤ H'.1 ∧ H'.1 ≤ 4 := by
  obtain ⟨c, S0, S1, S2, S3⟩ := H
  dsimp only at hH
  by_cases e : c < 4
  · obtain ⟨q, rfl⟩ : ∃ q : Nat, c = (q : Int) := ⟨c.toNat, by omega⟩
    have h := remC_lt (h := ((q : Int), S0, S1, S2, S3)) (c := q) (by omega) rfl hC
    refine ⟨_, h, ?_⟩
    rw [stS_1 _ _ _ q (by omega)]
    omega
  · obtain rfl : c = 4 := by omega
    exact ⟨_, remC_4 hC, show (0 : Int) ≤ 4 by omega, show (4 : Int) ≤ 4 by omega⟩
theorem setX {n k : Nat} {bt : bBT} {O : bO} {H : bH} {S P V : bS} {hs v kk : Int} (hH : 0 ≤ H.1 ∧ H.1 ≤ 4) (hC : CI S n) (hk : k < 8) (ek : kk = (k : Int)) (hv : okV k v) (hvr : rg v = true) : (¬ okM S.2.2.1 k v ∧ f_X7_set kk v (bt, O, H, S, P, V, hs) = some (-4, (bt, O, H, S, P, V, hs))) ∨ (okM S.2.2.1 k v ∧ S.2.2.1 k = v ∧ f_X7_set kk v (bt, O, H, S, P, V, hs) = some (-5, (bt, O, H, S, P, V, hs))) ∨ (okM S.2.2.1 k v ∧ S.2.2.1 k ≠ v ∧ ∃ H' : bH, (0 ≤ H'.1 ∧ H'.1 ≤ 4) ∧ f_X7_set kk v (bt, O, H, S, P, V, hs) = some (S.2.2.1 k, (bt, O, H', (S.1, S.2.1, up S.2.2.1 k v, S.2.2.2), P, V, hs))) := by
  subst ek
  obtain ⟨v1, -⟩ := isV (j := k) (v := v) (by omega) rfl hvr
  have v1 := (v1 hv).1
  obtain ⟨m1, m2⟩ := mAC (j := k) (z := S) (by omega) rfl hvr hC.2.1
  have hsr := SI_rg hC.2.1 k (by omega)
  unfold f_X7_set
  by_cases e3 : okM S.2.2.1 k v
  · have m1 := m1 e3
    by_cases e4 : S.2.2.1 k = v
    · refine Or.inr (Or.inl ⟨e3, e4, ?_⟩)
      exact (gd_q (rg_of (by first | omega | (dsimp only; omega))) (it_q2 (by first | omega | (dsimp only; omega)) (it_q1 (by first | omega | (dsimp only; omega)) (bd_q v1 (gd_q (by decide) (it_q2 (by decide) (bd_q m1 (nm_q (gd_q (rg_of (by first | omega | (dsimp only; omega))) (it_q2 (by first | omega | (dsimp only; omega)) (gd_q (inb_of (by first | omega | (dsimp only; omega))) (nm_q (gd_q (by rw [tn]; exact (rg_of (by first | omega | (dsimp only; omega)))) (gd_q hvr (it_q1 e4 (rfl))))))))))))))))
    · obtain ⟨H', g1, g2⟩ := remX hH hC
      refine Or.inr (Or.inr ⟨e3, e4, H', g2, ?_⟩)
      exact (gd_q (rg_of (by first | omega | (dsimp only; omega))) (it_q2 (by first | omega | (dsimp only; omega)) (it_q1 (by first | omega | (dsimp only; omega)) (bd_q v1 (gd_q (by decide) (it_q2 (by decide) (bd_q m1 (nm_q (gd_q (rg_of (by first | omega | (dsimp only; omega))) (it_q2 (by first | omega | (dsimp only; omega)) (gd_q (inb_of (by first | omega | (dsimp only; omega))) (nm_q (gd_q (by rw [tn]; exact (rg_of (by first | omega | (dsimp only; omega)))) (gd_q hvr (it_q2 e4 (bd_q g1 (nm_q (nm_q (nm_q (rfl))))))))))))))))))))
  · have m2 := m2 e3
    refine Or.inl ⟨e3, ?_⟩
    exact (gd_q (rg_of (by first | omega | (dsimp only; omega))) (it_q2 (by first | omega | (dsimp only; omega)) (it_q1 (by first | omega | (dsimp only; omega)) (bd_q v1 (gd_q (by decide) (it_q2 (by decide) (bd_q m2 (nm_q (gd_q (rg_of (by first | omega | (dsimp only; omega))) (it_q1 (by first | omega | (dsimp only; omega)) (rfl)))))))))))
theorem setV {k : Nat} {u1 v3 : Int} {z : bLXn} (hk : k < 8) (ek : u1 = (k : Int)) : ∃ v : Int, okV k v ∧ rg v = true ∧ ∀ K : Int → bLXn → Option (Int × bLXn), jn2 K (fun j8 => if 3 ≤ u1 then (if u1 = 3 then (bd (f_L_low v3 10) fun u74 => j8 u74 z) else (if u1 = 7 then (bd (f_L_low v3 10) fun u93 => j8 u93 z) else (if u1 = 4 then (bd (f_L_low v3 10) fun u91 => j8 (1 + u91) z) else (if u1 = 5 then (bd (f_L_low v3 9) fun u89 => j8 (1 + u89) z) else (bd (f_L_low (srI v3 5) 2) fun u79 => gd (rg u79) <| jn2 (fun (v82 : Int) (s83 : bLXn) => bd (f_L_low v3 v82) fun u86 => j8 u86 s83) fun j84 => if u79 = 0 then (j84 21 z) else (j84 4 z)))))) else (bd (f_L_low v3 30) fun u95 => j8 (1 + u95) z)) = K v z := by
  subst ek
  obtain ⟨a1, a2, a3⟩ := low1 (x := v3) (n := 10) (k := 10) rfl (by omega) (by omega)
  obtain ⟨b1, b2, b3⟩ := low1 (x := v3) (n := 9) (k := 9) rfl (by omega) (by omega)
  obtain ⟨c1, c2, c3⟩ := low1 (x := v3) (n := 30) (k := 30) rfl (by omega) (by omega)
  obtain ⟨d1, d2, d3⟩ := low1 (x := srI v3 5) (n := 2) (k := 2) rfl (by omega) (by omega)
  obtain ⟨e1, e2, e3⟩ := low1 (x := v3) (n := 21) (k := 21) rfl (by omega) (by omega)
  obtain ⟨f1, f2, f3⟩ := low1 (x := v3) (n := 4) (k := 4) rfl (by omega) (by omega)
  match k, hk with
  | 0, _ => exact ⟨1 + (c1 : Int), show 1 ≤ 1 + (c1 : Int) ∧ 1 + (c1 : Int) ≤ 30 by omega, (rg_of (by first | omega | (dsimp only; omega))), fun K => (jn2_q (it_q2 (by decide) (bd_q c2 (rfl))))⟩
  | 1, _ => exact ⟨1 + (c1 : Int), show 1 ≤ 1 + (c1 : Int) ∧ 1 + (c1 : Int) ≤ 30 by omega, (rg_of (by first | omega | (dsimp only; omega))), fun K => (jn2_q (it_q2 (by decide) (bd_q c2 (rfl))))⟩
  | 2, _ => exact ⟨1 + (c1 : Int), show 1 ≤ 1 + (c1 : Int) ∧ 1 + (c1 : Int) ≤ 30 by omega, (rg_of (by first | omega | (dsimp only; omega))), fun K => (jn2_q (it_q2 (by decide) (bd_q c2 (rfl))))⟩
  | 3, _ => exact ⟨(a1 : Int), show 0 ≤ (a1 : Int) ∧ (a1 : Int) ≤ 9 by omega, (rg_of (by first | omega | (dsimp only; omega))), fun K => (jn2_q (it_q1 (by decide) (it_q1 (by decide) (bd_q a2 (rfl)))))⟩
  | 4, _ => exact ⟨1 + (a1 : Int), show 1 ≤ 1 + (a1 : Int) ∧ 1 + (a1 : Int) ≤ 10 by omega, (rg_of (by first | omega | (dsimp only; omega))), fun K => (jn2_q (it_q1 (by decide) (it_q2 (by decide) (it_q2 (by decide) (it_q1 (by decide) (bd_q a2 (rfl)))))))⟩
  | 5, _ => exact ⟨1 + (b1 : Int), show 1 ≤ 1 + (b1 : Int) ∧ 1 + (b1 : Int) ≤ 9 by omega, (rg_of (by first | omega | (dsimp only; omega))), fun K => (jn2_q (it_q1 (by decide) (it_q2 (by decide) (it_q2 (by decide) (it_q2 (by decide) (it_q1 (by decide) (bd_q b2 (rfl))))))))⟩
  | 6, _ =>
    by_cases e : d1 = 0
    · exact ⟨(e1 : Int), show 0 ≤ (e1 : Int) ∧ (e1 : Int) ≤ 20 by omega, (rg_of (by first | omega | (dsimp only; omega))), fun K => (jn2_q (it_q1 (by decide) (it_q2 (by decide) (it_q2 (by decide) (it_q2 (by decide) (it_q2 (by decide) (bd_q d2 (gd_q (rg_of (by first | omega | (dsimp only; omega))) (jn2_q (it_q1 (by first | omega | (dsimp only; omega)) (bd_q e2 (rfl))))))))))))⟩
    · exact ⟨(f1 : Int), show 0 ≤ (f1 : Int) ∧ (f1 : Int) ≤ 20 by omega, (rg_of (by first | omega | (dsimp only; omega))), fun K => (jn2_q (it_q1 (by decide) (it_q2 (by decide) (it_q2 (by decide) (it_q2 (by decide) (it_q2 (by decide) (bd_q d2 (gd_q (rg_of (by first | omega | (dsimp only; omega))) (jn2_q (it_q2 (by first | omega | (dsimp only; omega)) (bd_q f2 (rfl))))))))))))⟩
  | 7, _ => exact ⟨(a1 : Int), show 0 ≤ (a1 : Int) ∧ (a1 : Int) ≤ 9 by omega, (rg_of (by first | omega | (dsimp only; omega))), fun K => (jn2_q (it_q1 (by decide) (it_q2 (by decide) (it_q1 (by decide) (bd_q a2 (rfl))))))⟩
  | k + 8, hk => exact absurd hk (by omega)
theorem notJ {k : Nat} {u1 v6 : Int} {X : bX} {nn s : Nat → Int} (hk : k < 8) (ek : u1 = (k : Int)) (hv : rg v6 = true) (hr : ∀ j, j < 8 → nn j = s j) (hs : SI s) : ∃ w : Int, (okM s k v6 → w = 0) ∧ (¬ okM s k v6 → w = 1) ∧ ∀ K : Int → bLXn → Option (Int × bLXn), jn2 K (fun j12 => if u1 = 0 then (gd (rg v6) <| gd (rg (nn 1)) <| if (nn 1) < v6 then (j12 1 (X, nn)) else (if u1 = 1 then (gd (rg (nn 0)) <| if v6 < (nn 0) then (j12 1 (X, nn)) else (gd (rg (nn 2)) <| if (nn 2) < v6 then (j12 1 (X, nn)) else (if u1 = 2 then (if (nn 1) ≤ v6 then (j12 0 (X, nn)) else (j12 1 (X, nn))) else (j12 0 (X, nn))))) else (if u1 = 2 then (if (nn 1) ≤ v6 then (j12 0 (X, nn)) else (j12 1 (X, nn))) else (j12 0 (X, nn))))) else (if u1 = 1 then (gd (rg v6) <| gd (rg (nn 0)) <| if v6 < (nn 0) then (j12 1 (X, nn)) else (gd (rg (nn 2)) <| if (nn 2) < v6 then (j12 1 (X, nn)) else (if u1 = 2 then (gd (rg (nn 1)) <| if (nn 1) ≤ v6 then (j12 0 (X, nn)) else (j12 1 (X, nn))) else (j12 0 (X, nn))))) else (if u1 = 2 then (gd (rg v6) <| gd (rg (nn 1)) <| if (nn 1) ≤ v6 then (j12 0 (X, nn)) else (j12 1 (X, nn))) else (j12 0 (X, nn))))) = K w (X, nn) := by
  subst ek
  have hr' := SI_rg hs
  have g0 : rg (nn 0) = true := by
    have := hr' 0 (by omega)
    rw [hr 0 (by omega)]
    exact (rg_of (by first | omega | (dsimp only; omega)))
  have g1 : rg (nn 1) = true := by
    have := hr' 1 (by omega)
    rw [hr 1 (by omega)]
    exact (rg_of (by first | omega | (dsimp only; omega)))
  have g2 : rg (nn 2) = true := by
    have := hr' 2 (by omega)
    rw [hr 2 (by omega)]
    exact (rg_of (by first | omega | (dsimp only; omega)))
  have e0 := hr 0 (by omega)
  have e1 := hr 1 (by omega)
  have e2 := hr 2 (by omega)
  match k, hk with
  | 0, _ =>
    by_cases c : nn 1 < v6
    · exact ⟨1, fun h => absurd (show v6 ≤ s 1 from h) (by omega), fun _ => rfl, fun K => (jn2_q (it_q1 (by decide) (gd_q hv (gd_q g1 (it_q1 c (rfl))))))⟩
    · exact ⟨0, fun _ => rfl, fun h => absurd (show v6 ≤ s 1 by omega) h, fun K => (jn2_q (it_q1 (by decide) (gd_q hv (gd_q g1 (it_q2 c (it_q2 (by decide) (it_q2 (by decide) (rfl))))))))⟩
  | 1, _ =>
    by_cases c : v6 < nn 0
    · exact ⟨1, fun h => absurd (show s 0 ≤ v6 ∧ v6 ≤ s 2 from h) (by omega), fun _ => rfl, fun K => (jn2_q (it_q2 (by decide) (it_q1 (by decide) (gd_q hv (gd_q g0 (it_q1 c (rfl)))))))⟩
    · by_cases c2 : nn 2 < v6
      · exact ⟨1, fun h => absurd (show s 0 ≤ v6 ∧ v6 ≤ s 2 from h) (by omega), fun _ => rfl, fun K => (jn2_q (it_q2 (by decide) (it_q1 (by decide) (gd_q hv (gd_q g0 (it_q2 c (gd_q g2 (it_q1 c2 (rfl)))))))))⟩
      · exact ⟨0, fun _ => rfl, fun h => absurd (show s 0 ≤ v6 ∧ v6 ≤ s 2 by omega) h, fun K => (jn2_q (it_q2 (by decide) (it_q1 (by decide) (gd_q hv (gd_q g0 (it_q2 c (gd_q g2 (it_q2 c2 (it_q2 (by decide) (rfl))))))))))⟩
  | 2, _ =>
    by_cases c : nn 1 ≤ v6
    · exact ⟨0, fun _ => rfl, fun h => absurd (show s 1 ≤ v6 by omega) h, fun K => (jn2_q (it_q2 (by decide) (it_q2 (by decide) (it_q1 (by decide) (gd_q hv (gd_q g1 (it_q1 c (rfl))))))))⟩
    · exact ⟨1, fun h => absurd (show s 1 ≤ v6 from h) (by omega), fun _ => rfl, fun K => (jn2_q (it_q2 (by decide) (it_q2 (by decide) (it_q1 (by decide) (gd_q hv (gd_q g1 (it_q2 c (rfl))))))))⟩
  | k + 3, hk => exact ⟨0, fun _ => rfl, fun h => absurd (show True from trivial) h, fun K => (jn2_q (it_q2 (by first | omega | (dsimp only; omega)) (it_q2 (by first | omega | (dsimp only; omega)) (it_q2 (by first | omega | (dsimp only; omega)) (rfl)))))⟩
theorem up_self {f : Nat → Int} {k : Nat} {v : Int} (h : f k = v) : up f k v = f := by
  funext j
  by_cases e : j = k
  · subst e
    rw [up_s, h]
  · rw [up_n _ _ e]
theorem setsG {n : Nat} {bt : bBT} {O : bO} {H : bH} {S P V : bS} {hs x : Int} {nn : Nat → Int} (hn20 : n ≤ 20) (hH : 0 ≤ H.1 ∧ H.1 ≤ 4) (hC : CI S n) (hN : ∀ k, k < 8 → nn k = S.2.2.1 k) : ∃ (H' : bH) (S' : bS) (nn' : Nat → Int), f_L_sets x ((bt, O, H, S, P, V, hs), nn) = some (1, ((bt, O, H', S', P, V, hs), nn')) ∧ (0 ≤ H'.1 ∧ H'.1 ≤ 4) ∧ CI S' n ∧ (∀ g m p w, GB S g m p w nn n → GB S' g m p w nn' n) ∧ ∀ K : Int, LM S n K → LM S' n K := by
  obtain ⟨k, l1, l2⟩ := low1 (x := x) (n := 8) (k := 8) rfl (by omega) (by omega)
  obtain ⟨v, v1, v2, v3⟩ := setV (u1 := (k : Int)) (v3 := srI x 3) (z := ((bt, O, H, S, P, V, hs), nn)) l2 rfl
  obtain ⟨w, w1, w2, w3⟩ := notJ (u1 := (k : Int)) (X := (bt, O, H, S, P, V, hs)) (nn := nn) l2 rfl v2 hN hC.2.1
  have hsr := SI_rg hC.2.1 k l2
  have hnk := hN k l2
  have hsx := setX (bt := bt) (O := O) (P := P) (V := V) (hs := hs) (kk := (k : Int)) hH hC l2 rfl v1 v2
  unfold f_L_sets
  rcases hsx with ⟨c1, c2⟩ | ⟨c1, c2, c3⟩ | ⟨c1, c2, H', c3, c4⟩
  · have w2 := w2 c1
    subst w2
    refine ⟨H, S, up nn k (nn k), ?_, hH, hC, fun g m p w h => by rw [up_self rfl]; exact h, fun K h => h⟩
    refine (bd_q l1 (nm_q (gd_q (rg_of (by first | omega | (dsimp only; omega))) (?_))))
    refine Eq.trans (v3 _) ?_
    refine Eq.trans (w3 _) ?_
    exact (gd_q (inb_of (by first | omega | (dsimp only; omega))) (nm_q (gd_q (rg_of (by first | omega | (dsimp only; omega))) (jn2_q (it_q2 (by first | omega | (dsimp only; omega)) (nm_q (bd_q c2 (nm_q (jn2_q (it_q2 (by first | omega | (dsimp only; omega)) (gd_q (show rg (-4) = true by decide) (gd_q (by decide) (jn2_q (it_q1 rfl (gd_q (inb_of (by first | omega | (dsimp only; omega))) (rfl))))))))))))))))
  · have w1 := w1 c1
    subst w1
    have env : nn k = v := hnk.trans c2
    refine ⟨H, S, up nn k v, ?_, hH, hC, fun g m p w h => by rw [up_self env]; exact h, fun K h => h⟩
    refine (bd_q l1 (nm_q (gd_q (rg_of (by first | omega | (dsimp only; omega))) (?_))))
    refine Eq.trans (v3 _) ?_
    refine Eq.trans (w3 _) ?_
    exact (gd_q (inb_of (by first | omega | (dsimp only; omega))) (nm_q (gd_q (rg_of (by first | omega | (dsimp only; omega))) (jn2_q (it_q1 (by first | omega | (dsimp only; omega)) (nm_q (bd_q c3 (nm_q (jn2_q (it_q1 (by first | omega | (dsimp only; omega)) (gd_q (by show rg (nn k) = true; rw [hnk]; exact (rg_of (by first | omega | (dsimp only; omega)))) (gd_q v2 (it_q1 env (gd_q (show rg (-5) = true by decide) (gd_q (by decide) (jn2_q (it_q1 rfl (gd_q (inb_of (by first | omega | (dsimp only; omega))) (rfl)))))))))))))))))))
  · have w1 := w1 c1
    subst w1
    have env : ¬ nn k = v := fun h => c2 (hnk.symm.trans h)
    refine ⟨H', (S.1, S.2.1, up S.2.2.1 k v, S.2.2.2), up nn k v, ?_, c3, ⟨hC.1, set_SI l2 hC.2.1 v1 c1, hC.2.2⟩, fun g m p w h => set_GB l2 h, fun K h => h⟩
    refine (bd_q l1 (nm_q (gd_q (rg_of (by first | omega | (dsimp only; omega))) (?_))))
    refine Eq.trans (v3 _) ?_
    refine Eq.trans (w3 _) ?_
    exact (gd_q (inb_of (by first | omega | (dsimp only; omega))) (nm_q (gd_q (rg_of (by first | omega | (dsimp only; omega))) (jn2_q (it_q1 (by first | omega | (dsimp only; omega)) (nm_q (bd_q c4 (nm_q (jn2_q (it_q1 (by first | omega | (dsimp only; omega)) (gd_q (by show rg (nn k) = true; rw [hnk]; exact (rg_of (by first | omega | (dsimp only; omega)))) (gd_q v2 (it_q2 env (gd_q (show rg (S.2.2.1 k) = true from (rg_of (by first | omega | (dsimp only; omega)))) (gd_q (by show rg (nn k) = true; rw [hnk]; exact (rg_of (by first | omega | (dsimp only; omega)))) (jn2_q (it_q1 hnk.symm (gd_q (inb_of (by first | omega | (dsimp only; omega))) (rfl)))))))))))))))))))
