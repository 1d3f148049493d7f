/-! p24: comes answers true -/
theorem PRT_same {s s' : Nat → Int} {p q : Nat} {c d : Int} (h : PRT s p q c d) (he : ∀ j, j < q → s' j = s j) : PRT s' p q c d := by
  rcases h with h | ⟨h1, h2, h3⟩
  · exact Or.inl h
  · exact Or.inr ⟨by rw [he _ (by omega)]; exact h1, by rw [he _ (by omega)]; exact h2, h3⟩
theorem rgLow {x n : Int} {k : Nat} (e : n = (k : Int)) (h0 : 0 < k) (h : k < 1000) : rg (lowV x n) = true := by
  have := lowV_rg (x := x) e h0 h
  exact (rg_of (by first | omega | (dsimp only; omega)))
theorem com_loop {N n W many : Nat} {x v8 : Int} {B : bB} {r : bO × bH × bS × bS × bS × Int} {S : bS} (hN : 100 ≤ N) (hC : CI S n) (hW : S.2.1.2.2.2.2.1 0 = (W : Int)) (hmany : many ≤ 3) (e8 : v8 = (many : Int)) (hn20 : n + many ≤ 20) : ∀ (d i fu : Nat) (t0 : Int) (s : Nat → Int) (L : Nat) (ps es : Nat → Nat) (g m p w nn : Nat → Int), i + d = many → d < fu → TE s L i ps es (hV x) (zV x) (rV x) (kV x) (dV x) → L ≤ 11 * i → GB (cmZ x n W S i) g m p w nn (n + i) → ∃ (t : Int) (s' : Nat → Int) (L' : Nat) (ps' es' : Nat → Nat) (g' m' p' w' nn' : Nat → Int), (∀ kt : Int → Int → Int → Int → bLXgmpwn → Option (Int × bLXgmpwn), f_L_comes_L37 N kt fu x v8 t0 (i : Int) (((B, s, (L : Int)), r), g, m, p, w, nn) = kt x v8 t v8 (((B, s', (L' : Int)), r), g', m', p', w', nn')) ∧ TE s' L' many ps' es' (hV x) (zV x) (rV x) (kV x) (dV x) ∧ L' ≤ 33 ∧ GB (cmZ x n W S many) g' m' p' w' nn' (n + many) := by
  subst e8
  have hwn := (PI_w hC.2.2).2
  intro d
  induction d with
  | zero =>
    intro i fu t0 s L ps es g m p w nn hi hf hT hL hB
    obtain ⟨fu, rfl⟩ : ∃ j, fu = j + 1 := ⟨fu - 1, by omega⟩
    obtain rfl : i = many := by omega
    refine ⟨t0, s, L, ps, es, g, m, p, w, nn, fun kt => ?_, hT, by omega, hB⟩
    rw [f_L_comes_L37]
    exact (gd_q (rg_of (by first | omega | (dsimp only; omega))) (gd_q (rg_of (by first | omega | (dsimp only; omega))) (it_q1 (by first | omega | (dsimp only; omega)) (rfl))))
  | succ d ih =>
    intro i fu t0 s L ps es g m p w nn hi hf hT hL hB
    obtain ⟨fu, rfl⟩ : ∃ j, fu = j + 1 := ⟨fu - 1, by omega⟩
    obtain ⟨b1, b2, b3, b4, b5⟩ := B5V x i
    have hn : nn 13 = ((n + i : Nat) : Int) := hB.1.2.2.1
    have h14 : nn 14 = ((W + i : Nat) : Int) := hB.1.2.2.2.trans (cmZ_0 hW i)
    have eg0 : (up (up (up g (3 * (n + i)) (hV x i)) (3 * (n + i) + 1) (zV x i)) (3 * (n + i) + 2) (rV x i)) (3 * (n + i)) = hV x i := by rw [up_n _ _ (by omega), up_n _ _ (by omega), up_s]
    have eg1 : (up (up (up g (3 * (n + i)) (hV x i)) (3 * (n + i) + 1) (zV x i)) (3 * (n + i) + 2) (rV x i)) (3 * (n + i) + 1) = zV x i := by rw [up_n _ _ (by omega), up_s]
    have eg2 : (up (up (up g (3 * (n + i)) (hV x i)) (3 * (n + i) + 1) (zV x i)) (3 * (n + i) + 2) (rV x i)) (3 * (n + i) + 2) = rV x i := by rw [up_s]
    have em0 : (up (up (up m (3 * (n + i)) (kV x i)) (3 * (n + i) + 1) (dV x i)) (3 * (n + i) + 2) 0) (3 * (n + i)) = kV x i := by rw [up_n _ _ (by omega), up_n _ _ (by omega), up_s]
    have em1 : (up (up (up m (3 * (n + i)) (kV x i)) (3 * (n + i) + 1) (dV x i)) (3 * (n + i) + 2) 0) (3 * (n + i) + 1) = dV x i := by rw [up_n _ _ (by omega), up_s]
    have hB' : GB (cmZ x n W S (i + 1)) (up (up (up g (3 * (n + i)) (hV x i)) (3 * (n + i) + 1) (zV x i)) (3 * (n + i) + 2) (rV x i)) (up (up (up m (3 * (n + i)) (kV x i)) (3 * (n + i) + 1) (dV x i)) (3 * (n + i) + 2) 0) (up (up (up p (3 * (n + i)) 0) (3 * (n + i) + 1) (-5)) (3 * (n + i) + 2) (-5)) (up w (nn 14).toNat ((n + i : Nat) : Int)) (up (up nn 13 (nn 13 + 1)) 14 (up nn 13 (nn 13 + 1) 14 + 1)) (n + (i + 1)) := by
      have h := cmG (k := n + i) (a := hV x i) (b := zV x i) (c := rV x i) (d := kV x i) (e := dV x i) hB (cmZ_0 hW i)
      rw [h14, tn]
      exact h
    -- a comma
    obtain ⟨t1, s1, L1, c1, c2, c3, c4, c5, c6⟩ := cmJ (σ := bA60 × bA60 × bA60 × bA20 × bA15) (β := Int × bLXgmpwn) (B := B) (s := s) (L := L) (i := i) (r := r) (y := ((up (up (up g (3 * (n + i)) (hV x i)) (3 * (n + i) + 1) (zV x i)) (3 * (n + i) + 2) (rV x i)), (up (up (up m (3 * (n + i)) (kV x i)) (3 * (n + i) + 1) (dV x i)) (3 * (n + i) + 2) 0), (up (up (up p (3 * (n + i)) 0) (3 * (n + i) + 1) (-5)) (3 * (n + i) + 2) (-5)), (up w (nn 14).toNat ((n + i : Nat) : Int)), (up (up nn 13 (nn 13 + 1)) 14 (up nn 13 (nn 13 + 1) 14 + 1)))) (v9 := t0) (v10 := (i : Int)) (by omega) rfl
    -- holes and h
    have th := typX (B := B) (s := s1) (L := L1) (r := r) (c := 48 + hV x i) (l := (L1 : Int)) rfl (by omega) (by omega)
    rw [← chD (d := hV x i) (by omega), ← eg0] at th
    have th2 := typX (B := B) (s := up s1 L1 (chI (48 + (up (up (up g (3 * (n + i)) (hV x i)) (3 * (n + i) + 1) (zV x i)) (3 * (n + i) + 2) (rV x i)) (3 * (n + i))))) (L := L1 + 1) (r := r) (c := 104) (l := ((L1 + 1 : Nat) : Int)) rfl (by omega) (by omega)
    have q1 : up s1 L1 (chI (48 + (up (up (up g (3 * (n + i)) (hV x i)) (3 * (n + i) + 1) (zV x i)) (3 * (n + i) + 2) (rV x i)) (3 * (n + i)))) L1 = 48 + hV x i := by rw [up_s, eg0, chD (by omega)]
    generalize hs2 : up s1 L1 (chI (48 + (up (up (up g (3 * (n + i)) (hV x i)) (3 * (n + i) + 1) (zV x i)) (3 * (n + i) + 2) (rV x i)) (3 * (n + i)))) = s2 at th th2 q1
    have q1b : ∀ j, j < L1 → s2 j = s1 j := fun j hj => by rw [← hs2, up_n _ _ (by omega)]
    have q2 : up s2 (L1 + 1) 104 (L1 + 1) = 104 := up_s _ _ _
    generalize hs3 : up s2 (L1 + 1) 104 = s3 at th2 q2
    have q2b : ∀ j, j < L1 + 1 → s3 j = s2 j := fun j hj => by rw [← hs3, up_n _ _ (by omega)]
    -- the size
    obtain ⟨t4, s4, L4, d1, d2, d3⟩ := tnJ (σ := bA60 × bA60 × bA60 × bA20 × bA15) (β := Int × bLXgmpwn) (B := B) (s := s3) (L := L1 + 1 + 1) (r := r) (y := ((up (up (up g (3 * (n + i)) (hV x i)) (3 * (n + i) + 1) (zV x i)) (3 * (n + i) + 2) (rV x i)), (up (up (up m (3 * (n + i)) (kV x i)) (3 * (n + i) + 1) (dV x i)) (3 * (n + i) + 2) 0), (up (up (up p (3 * (n + i)) 0) (3 * (n + i) + 1) (-5)) (3 * (n + i) + 2) (-5)), (up w (nn 14).toNat ((n + i : Nat) : Int)), (up (up nn 13 (nn 13 + 1)) 14 (up nn 13 (nn 13 + 1) 14 + 1)))) (v := ((L1 + 1 + 1 : Nat) : Int)) (z := (up (up (up g (3 * (n + i)) (hV x i)) (3 * (n + i) + 1) (zV x i)) (3 * (n + i) + 2) (rV x i)) (3 * (n + i) + 1)) (by omega) (by rw [eg1]; exact b2)
    rw [eg1] at d3
    have hrm : rmI (zV x i) 10 = zV x i % 10 := by
      have := rmN2 (x := (zV x i).toNat) (k := 10) (y := zV x i) (w := 10) (by omega) rfl (by omega) (by omega) (by omega)
      omega
    have tz := typX (B := B) (s := s4) (L := L4) (r := r) (c := 48 + zV x i % 10) (l := (L4 : Int)) rfl (by omega) (by omega)
    rw [← chD (d := zV x i % 10) (by omega), ← hrm, ← eg1] at tz
    have q3 : up s4 L4 (chI (48 + rmI ((up (up (up g (3 * (n + i)) (hV x i)) (3 * (n + i) + 1) (zV x i)) (3 * (n + i) + 2) (rV x i)) (3 * (n + i) + 1)) 10)) L4 = 48 + zV x i % 10 := by rw [up_s, eg1, hrm, chD (by omega)]
    generalize hs5 : up s4 L4 (chI (48 + rmI ((up (up (up g (3 * (n + i)) (hV x i)) (3 * (n + i) + 1) (zV x i)) (3 * (n + i) + 2) (rV x i)) (3 * (n + i) + 1)) 10)) = s5 at tz q3
    have q3b : ∀ j, j < L4 → s5 j = s4 j := fun j hj => by rw [← hs5, up_n _ _ (by omega)]
    -- the three that may be missing
    obtain ⟨t6, s6, L6, e1, e2, e3, e4, e5⟩ := tdG (B := B) (s := s5) (L := L4 + 1) (r := r) (c := 105) (d := (up (up (up g (3 * (n + i)) (hV x i)) (3 * (n + i) + 1) (zV x i)) (3 * (n + i) + 2) (rV x i)) (3 * (n + i) + 2)) (al := if lowV (yV x i) 2 = 0 then 1 else 0) (by omega) (by omega) (by rw [eg2]; exact b3) (by split <;> decide)
    obtain ⟨t7, s7, L7, f1, f2, f3, f4, f5⟩ := tdG (B := B) (s := s6) (L := L6) (r := r) (c := 99) (d := (up (up (up m (3 * (n + i)) (kV x i)) (3 * (n + i) + 1) (dV x i)) (3 * (n + i) + 2) 0) (3 * (n + i))) (al := if lowV (yV x i) 3 = 0 then 1 else 0) (by omega) (by omega) (by rw [em0]; exact b4) (by split <;> decide)
    obtain ⟨t8, s8, L8, g1, g2, g3, g4, g5⟩ := tdG (B := B) (s := s7) (L := L7) (r := r) (c := 115) (d := (up (up (up m (3 * (n + i)) (kV x i)) (3 * (n + i) + 1) (dV x i)) (3 * (n + i) + 2) 0) (3 * (n + i) + 1)) (al := if lowV (yV x i) 5 = 0 then 1 else 0) (by omega) (by omega) (by rw [em1]; exact b5) (by split <;> decide)
    rw [eg2] at e2
    rw [em0] at f2
    rw [em1] at g2
    have a87 := g5
    have a86 : ∀ j, j < L6 → s8 j = s6 j := fun j hj => (g5 j (by omega)).trans (f5 j hj)
    have a85 : ∀ j, j < L4 + 1 → s8 j = s5 j := fun j hj => (a86 j (by omega)).trans (e5 j hj)
    have a84 : ∀ j, j < L4 → s8 j = s4 j := fun j hj => (a85 j (by omega)).trans (q3b j hj)
    have a83 : ∀ j, j < L1 + 1 + 1 → s8 j = s3 j := fun j hj => (a84 j (by omega)).trans (d2 j hj)
    have a82 : ∀ j, j < L1 + 1 → s8 j = s2 j := fun j hj => (a83 j (by omega)).trans (q2b j hj)
    have a81 : ∀ j, j < L1 → s8 j = s1 j := fun j hj => (a82 j (by omega)).trans (q1b j hj)
    have hE : ENC s8 L1 L8 (hV x i) (zV x i) (rV x i) (kV x i) (dV x i) := by
      refine ⟨L4 + 1, L6, L7, ?_, ?_, ?_, PRT_same e2 (fun j hj => a86 j hj), PRT_same f2 (fun j hj => a87 j hj), g2⟩
      · rw [a82 _ (by omega)]
        exact q1
      · rw [a83 _ (by omega)]
        exact q2
      · rcases d3 with ⟨k1, k2⟩ | ⟨k1, k2, k3⟩
        · refine Or.inl ⟨k1, ?_, by omega⟩
          rw [a85 _ (by omega), show L1 + 2 = L4 by omega, q3]
          omega
        · refine Or.inr ⟨k1, ?_, ?_, by omega⟩
          · rw [a84 _ (by omega)]
            exact k3
          · rw [a85 _ (by omega), show L1 + 2 + 1 = L4 by omega]
            exact q3
    have hT' := TE_more (s' := s8) (L' := L8) (P := L1) hT (fun j hj => (a81 j (by omega)).trans (c4 j hj)) c5 (fun h => ⟨(c6 h).1, by rw [a81 _ (by have := (c6 h).1; omega)]; exact (c6 h).2⟩) hE (by omega)
    obtain ⟨t, s', L', ps', es', g', m', p', w', nn', u1, u2, u3, u4⟩ := ih (i + 1) fu t8 s8 L8 _ _ (up (up (up g (3 * (n + i)) (hV x i)) (3 * (n + i) + 1) (zV x i)) (3 * (n + i) + 2) (rV x i)) (up (up (up m (3 * (n + i)) (kV x i)) (3 * (n + i) + 1) (dV x i)) (3 * (n + i) + 2) 0) (up (up (up p (3 * (n + i)) 0) (3 * (n + i) + 1) (-5)) (3 * (n + i) + 2) (-5)) (up w (nn 14).toNat ((n + i : Nat) : Int)) (up (up nn 13 (nn 13 + 1)) 14 (up nn 13 (nn 13 + 1) 14 + 1)) (by omega) (by omega) hT' (by omega) hB'
    refine ⟨t, s', L', ps', es', g', m', p', w', nn', fun kt => ?_, u2, u3, u4⟩
    rw [f_L_comes_L37]
    refine (gd_q (rg_of (by first | omega | (dsimp only; omega))) (gd_q (rg_of (by first | omega | (dsimp only; omega))) (it_q2 (by first | omega | (dsimp only; omega)) (nm_y hn (nm_q (bd_q (lowG (k := 4) rfl (by omega) (by omega)) (gd_q (inb_of (by first | omega | (dsimp only; omega))) (nm_q (bd_q (lowG (k := 2) rfl (by omega) (by omega)) (gd_q (rgLow (k := 2) rfl (by omega) (by omega)) (?_)))))))))))
    refine Eq.trans ifJ ?_
    refine (bd_q low30.1 (gd_q (inb_of (by first | omega | (dsimp only; omega))) (nm_q (bd_q (lowG (k := 3) rfl (by omega) (by omega)) (gd_q (rgLow (k := 3) rfl (by omega) (by omega)) (?_))))))
    refine Eq.trans low0J ?_
    refine (gd_q (inb_of (by first | omega | (dsimp only; omega))) (nm_q (bd_q (lowG (k := 4) rfl (by omega) (by omega)) (gd_q (rgLow (k := 4) rfl (by omega) (by omega)) (?_)))))
    refine Eq.trans lowJ ?_
    refine (nm_q (bd_q (lowG (k := 10) rfl (by omega) (by omega)) (nm_q (nm_q (nm_q (nm_q (nm_q (gd_q (show inb (nn 14) 20 = true by rw [h14]; exact (inb_of (by first | omega | (dsimp only; omega)))) (nm_q (nm_q (nm_q (?_))))))))))))
    simp only [t3, t31, t32]
    refine Eq.trans (c1 _) ?_
    refine (bd_q th (nm_q (bd_q th2 (nm_q (gd_q (show rg ((up (up (up g (3 * (n + i)) (hV x i)) (3 * (n + i) + 1) (zV x i)) (3 * (n + i) + 2) (rV x i)) (3 * (n + i) + 1)) = true by rw [eg1]; exact (rg_of (by first | omega | (dsimp only; omega)))) (?_))))))
    refine Eq.trans (d1 _) ?_
    refine (bd_q tz (nm_q (bd_q (lowG (k := 2) rfl (by omega) (by omega)) (gd_q (rgLow (k := 2) rfl (by omega) (by omega)) (?_)))))
    refine Eq.trans ifJ ?_
    refine (bd_q e1 (nm_q (bd_q (lowG (k := 3) rfl (by omega) (by omega)) (gd_q (rgLow (k := 3) rfl (by omega) (by omega)) (?_)))))
    refine Eq.trans ifJ ?_
    refine (bd_q f1 (nm_q (bd_q (lowG (k := 5) rfl (by omega) (by omega)) (gd_q (rgLow (k := 5) rfl (by omega) (by omega)) (?_)))))
    refine Eq.trans ifJ ?_
    exact (bd_q g1 (nm_q (u1 kt)))
theorem rd_loop {N n W c : Nat} {x x1 : Int} {ho sz ir ch sh : Nat → Int} {at_ : Int} {T : bT} {O : bO} {H : bH} {px : bS × bS × Int} {S : bS} (hC : CI S n) (hW : S.2.1.2.2.2.2.1 0 = (W : Int)) (hc : c ≤ 3) (hn : n + c ≤ 20) (hA : A5 ho sz ir ch sh (hV x) (zV x) (rV x) (kV x) (dV x) c) : ∀ (d i fu : Nat), i + d = c → d < fu → f_X7_read_L57 N fu x1 (i : Int) (((ho, sz, ir, ch, sh, (c : Int), at_), T), O, H, cmZ x n W S i, px) = some ((c : Int), (((ho, sz, ir, ch, sh, (c : Int), at_), T), O, H, cmZ x n W S c, px)) := by
  intro d
  induction d with
  | zero =>
    intro i fu hi hf
    obtain ⟨fu, rfl⟩ : ∃ j, fu = j + 1 := ⟨fu - 1, by omega⟩
    obtain rfl : i = c := by omega
    rw [f_X7_read_L57]
    exact (gd_q (rg_of (by first | omega | (dsimp only; omega))) (gd_q (rg_of (by first | omega | (dsimp only; omega))) (it_q1 (by first | omega | (dsimp only; omega)) (rfl))))
  | succ d ih =>
    intro i fu hi hf
    obtain ⟨fu, rfl⟩ : ∃ j, fu = j + 1 := ⟨fu - 1, by omega⟩
    obtain ⟨v1, v2, v3, v4, v5⟩ := hA i (by omega)
    have hCi := cmZ_CI (x := x) hC hW i (by omega)
    have hT := takeIn_eq (i := i) (B := (ho, sz, ir, ch, sh, (c : Int), at_)) hCi (by omega) (cmZ_0 (x := x) (n := n) hW i) (by omega)
    dsimp only at hT
    rw [v1, v2, v3, v4, v5] at hT
    have ih' := ih (i + 1) fu (by omega) (by omega)
    rw [f_X7_read_L57]
    exact (gd_q (rg_of (by first | omega | (dsimp only; omega))) (gd_q (rg_of (by first | omega | (dsimp only; omega))) (it_q2 (by first | omega | (dsimp only; omega)) (bd_q hT (nm_q (nm_q (ih')))))))
theorem readX {N n W c L : Nat} {x : Int} {B : bB} {s : Nat → Int} {ps es : Nat → Nat} {O : bO} {H : bH} {px : bS × bS × Int} {S : bS} (hN : 100 ≤ N) (hH : 0 ≤ H.1 ∧ H.1 ≤ 4) (hC : CI S n) (hW : S.2.1.2.2.2.2.1 0 = (W : Int)) (hL : L ≤ 60) (hc0 : 0 < c) (hc : c ≤ 3) (hn : n + c ≤ 20) (hT : TE s L c ps es (hV x) (zV x) (rV x) (kV x) (dV x)) : ∃ (bt' : bBT) (H' : bH), f_X7_read N ((B, s, (L : Int)), O, H, S, px) = some ((c : Int), (bt', O, H', cmZ x n W S c, px)) ∧ 0 ≤ H'.1 ∧ H'.1 ≤ 4 := by
  obtain ⟨ho', sz', ir', ch', sh', u1, u2⟩ := parY (N := N) (B := B) (by omega) hL (by omega) hc0 hT (fun j _ => B5V x j)
  obtain ⟨H', g1, g2⟩ := remX hH hC
  have hnS := hC.1.1
  have hl := rd_loop (N := N) (x1 := -1) (at_ := (L : Int)) (T := (s, (L : Int))) (O := O) (H := H') (px := px) hC hW hc hn u2 c 0 N (by omega) (by omega)
  refine ⟨((ho', sz', ir', ch', sh', (c : Int), (L : Int)), (s, (L : Int))), H', ?_, g2⟩
  unfold f_X7_read
  exact (bd_q u1 (nm_q (gd_q (show rg (-1) = true by decide) (it_q1 rfl (gd_q (rg_of (by first | omega | (dsimp only; omega))) (it_q1 (by first | omega | (dsimp only; omega)) (bd_q g1 (nm_q (nm_q (hl))))))))))
theorem comesG {N n many : Nat} {bt : bBT} {O : bO} {H : bH} {S P V : bS} {hs x mi : Int} {g m p w nn : Nat → Int} (hN : 100 ≤ N) (hn20 : n ≤ 20) (hH : 0 ≤ H.1 ∧ H.1 ≤ 4) (hC : CI S n) (hB : GB S g m p w nn n) (hm0 : 0 < many) (hm3 : many ≤ 3) (em : mi = (many : Int)) : ∃ (bt' : bBT) (H' : bH) (S' : bS) (g' m' p' w' nn' : Nat → Int) (n' : Nat), f_L_comes N x mi ((bt, O, H, S, P, V, hs), g, m, p, w, nn) = some (1, ((bt', O, H', S', P, V, hs), g', m', p', w', nn')) ∧ (0 ≤ H'.1 ∧ H'.1 ≤ 4) ∧ n ≤ n' ∧ n' ≤ 20 ∧ (n = 0 → 3 ≤ many → 3 ≤ n') ∧ CI S' n' ∧ GB S' g' m' p' w' nn' n' ∧ ∀ K : Int, 0 ≤ K → LM S n K → LM S' n' K := by
  subst em
  obtain ⟨B, s, l⟩ := bt
  have hwn := PI_w hC.2.2
  obtain ⟨W, hW⟩ : ∃ W : Nat, S.2.1.2.2.2.2.1 0 = (W : Int) := ⟨(S.2.1.2.2.2.2.1 0).toNat, by omega⟩
  have hn : nn 13 = (n : Int) := hB.1.2.2.1
  have hcl : f_X7_clearText ((B, s, l), O, H, S, P, V, hs) = some (l, ((B, s, 0), O, H, S, P, V, hs)) := nm_q rfl
  unfold f_L_comes
  by_cases e : n + many ≤ 20
  · have hT0 : TE s 0 0 (fun _ => 0) (fun _ => 0) (hV x) (zV x) (rV x) (kV x) (dV x) := ⟨rfl, fun j hj => absurd hj (by omega), fun j hj => absurd hj (by omega), fun _ => rfl, fun h => absurd h (by omega)⟩
    obtain ⟨t, s', L', ps', es', g', m', p', w', nn', u1, u2, u3, u4⟩ := com_loop (N := N) (B := B) (r := (O, H, S, P, V, hs)) (x := x) (v8 := (many : Int)) hN hC hW hm3 rfl e many 0 N l s 0 _ _ g m p w nn (by omega) (by omega) hT0 (by omega) hB
    obtain ⟨bt', H', r1, r2⟩ := readX (N := N) (B := B) (O := O) (px := (P, V, hs)) hN hH hC hW (by omega) hm0 hm3 e u2
    refine ⟨bt', H', cmZ x n W S many, g', m', p', w', nn', n + many, ?_, r2, by omega, e, by omega, cmZ_CI hC hW many e, u4, fun K hK h => cmZ_LM hK h many⟩
    refine (bd_q hcl (nm_q (gd_q (show rg (nn 13 + (many : Int)) = true by rw [hn]; exact (rg_of (by first | omega | (dsimp only; omega)))) (it_q1 (show nn 13 + (many : Int) ≤ 20 by rw [hn]; omega) (?_)))))
    refine Eq.trans (u1 _) ?_
    exact (bd_q r1 (nm_q (gd_q (rg_of (by first | omega | (dsimp only; omega))) (gd_q (rg_of (by first | omega | (dsimp only; omega))) (jn2_q (it_q1 rfl (gd_q (inb_of (by first | omega | (dsimp only; omega))) (rfl))))))))
  · obtain ⟨B', hp⟩ := parY0 (N := N) (s := s) (B := B) (by omega)
    have hrd : f_X7_read N ((B, s, 0), O, H, S, P, V, hs) = some (-100 - 0, ((B', s, 0), O, H, S, P, V, hs)) := by
      unfold f_X7_read
      exact (bd_q hp (nm_q (gd_q (rg_of (by first | omega | (dsimp only; omega))) (it_q2 (by first | omega | (dsimp only; omega)) (rfl)))))
    refine ⟨(B', s, 0), H, S, g, m, p, w, nn, n, ?_, hH, by omega, hn20, by omega, hC, hB, fun K _ h => h⟩
    exact (bd_q hcl (nm_q (gd_q (show rg (nn 13 + (many : Int)) = true by rw [hn]; exact (rg_of (by first | omega | (dsimp only; omega)))) (it_q2 (show ¬ nn 13 + (many : Int) ≤ 20 by rw [hn]; omega) (bd_q hrd (nm_q (gd_q (show rg (-100 - 0) = true by decide) (jn2_q (it_q1 rfl (gd_q (inb_of (by first | omega | (dsimp only; omega))) (rfl)))))))))))
