/-! least spreads, sums, the most that are alike -/
theorem nar_loop {N n c m : Nat} {z : bS} {x : Int} {f : Nat → Nat} {O : bO} {r : Nat → Int} {hi sn as li : Nat → Int} {st ik : Int} {t : bl} {y : Int} (hC : CI z n) (hR : R1 z r n) (hD : OD z n x f c) (hA : OA O z f c) (hl : ∀ j, j < c → li j = (f j : Int)) (hm : 1 ≤ m) (hm9 : m ≤ 100) : ∀ d k v fu fu', k + d = c + 1 → d < fu → d < fu' → 0 ≤ v → v ≤ 9 → ∃ w, f_X3_narrowest_L5 N fu (m : Int) v (k : Int) O = some (w, O) ∧ f_X8_leastSpread_L33 N fu' y (m : Int) v (k : Int) (r, hi, st, sn, ik, as, li, (c : Int), t) = some (w, (r, hi, st, sn, ik, as, li, (c : Int), t)) := by
  have h40 := CI_40 hC
  have hc := OD_c hD
  have hA1 := hA.1
  intro d
  induction d with
  | zero =>
    intro k v fu fu' hk hf hf' hv hv9
    obtain ⟨fu, rfl⟩ : ∃ j, fu = j + 1 := ⟨fu - 1, by omega⟩
    obtain ⟨fu', rfl⟩ : ∃ j, fu' = j + 1 := ⟨fu' - 1, by omega⟩
    refine ⟨v, ?_, ?_⟩
    · rw [f_X3_narrowest_L5]
      exact (gd_q (rg_of (by first | omega | (dsimp only; omega))) (gd_q (rg_of (by first | omega | (dsimp only; omega))) (it_q1 (by first | omega | (dsimp only; omega)) (rfl))))
    · rw [f_X8_leastSpread_L33]
      exact (gd_q (rg_of (by first | omega | (dsimp only; omega))) (gd_q (rg_of (by first | omega | (dsimp only; omega))) (it_q1 (by first | omega | (dsimp only; omega)) (rfl))))
  | succ d ih =>
    intro k v fu fu' hk hf hf' hv hv9
    obtain ⟨fu, rfl⟩ : ∃ j, fu = j + 1 := ⟨fu - 1, by omega⟩
    obtain ⟨fu', rfl⟩ : ∃ j, fu' = j + 1 := ⟨fu' - 1, by omega⟩
    by_cases e : k + m ≤ c
    · have s1 := OD_sh hC hD (show k < c by omega)
      have s2 := OD_sh hC hD (show k + m - 1 < c by omega)
      have s3 := OD_le hD (show k ≤ k + m - 1 by omega) (show k + m - 1 < c by omega)
      have hC1 := sprC (n := n) (x := x) (kk := (k : Int)) (mm := (m : Int)) (show c ≤ 40 by omega) hA rfl rfl hm e
      have hM1 := sprM (hi := hi) (sn := sn) (as := as) (li := li) (st := st) (ik := ik) (lm := (c : Int)) (t := t) (kk := (k : Int)) (mm := (m : Int)) hC hR hD hl rfl rfl hm e
      by_cases e2 : shf z f (k + m - 1) - shf z f k < v
      · obtain ⟨w, g1, g2⟩ := ih (k + 1) (shf z f (k + m - 1) - shf z f k) fu fu' (by omega) (by omega) (by omega) (by omega) (by omega)
        refine ⟨w, ?_, ?_⟩
        · rw [f_X3_narrowest_L5]
          refine (gd_q (rg_of (by first | omega | (dsimp only; omega))) (gd_q (rg_of (by first | omega | (dsimp only; omega))) (it_q2 (by first | omega | (dsimp only; omega)) (bd_q hC1 (gd_q (rg_of (by first | omega | (dsimp only; omega))) (gd_q (rg_of (by first | omega | (dsimp only; omega))) (nm_q (?_))))))))
          dsimp only
          rw [if_pos e2]
          exact g1
        · rw [f_X8_leastSpread_L33]
          exact (gd_q (rg_of (by first | omega | (dsimp only; omega))) (gd_q (rg_of (by first | omega | (dsimp only; omega))) (it_q2 (by first | omega | (dsimp only; omega)) (gd_q (rg_of (by first | omega | (dsimp only; omega))) (it_q2 (by first | omega | (dsimp only; omega)) (bd_q hM1 (gd_q (rg_of (by first | omega | (dsimp only; omega))) (it_q2 (by first | omega | (dsimp only; omega)) (bd_q hM1 (g2))))))))))
      · obtain ⟨w, g1, g2⟩ := ih (k + 1) v fu fu' (by omega) (by omega) (by omega) (by omega) (by omega)
        refine ⟨w, ?_, ?_⟩
        · rw [f_X3_narrowest_L5]
          refine (gd_q (rg_of (by first | omega | (dsimp only; omega))) (gd_q (rg_of (by first | omega | (dsimp only; omega))) (it_q2 (by first | omega | (dsimp only; omega)) (bd_q hC1 (gd_q (rg_of (by first | omega | (dsimp only; omega))) (gd_q (rg_of (by first | omega | (dsimp only; omega))) (nm_q (?_))))))))
          dsimp only
          rw [if_neg e2]
          exact g1
        · rw [f_X8_leastSpread_L33]
          exact (gd_q (rg_of (by first | omega | (dsimp only; omega))) (gd_q (rg_of (by first | omega | (dsimp only; omega))) (it_q2 (by first | omega | (dsimp only; omega)) (gd_q (rg_of (by first | omega | (dsimp only; omega))) (it_q2 (by first | omega | (dsimp only; omega)) (bd_q hM1 (gd_q (rg_of (by first | omega | (dsimp only; omega))) (it_q1 (by first | omega | (dsimp only; omega)) (g2)))))))))
    · refine ⟨v, ?_, ?_⟩
      · rw [f_X3_narrowest_L5]
        exact (gd_q (rg_of (by first | omega | (dsimp only; omega))) (gd_q (rg_of (by first | omega | (dsimp only; omega))) (it_q1 (by first | omega | (dsimp only; omega)) (rfl))))
      · rw [f_X8_leastSpread_L33]
        exact (gd_q (rg_of (by first | omega | (dsimp only; omega))) (gd_q (rg_of (by first | omega | (dsimp only; omega))) (it_q1 (by first | omega | (dsimp only; omega)) (rfl))))
theorem s_leastSpread {N : Nat} (hN : 1300 ≤ N) {a v : Int} (ha : rg a = true) (hv : rg v = true) : SIM (f_X7_leastSpread N a v) (f_X8_leastSpread N a v) := by
  rintro ⟨⟨B, s, l⟩, O, H, S, P, V, hs⟩ ⟨r, hi, st, sn, ik, as, li, lm, tx, le, sp, re, rd⟩ ⟨hT, hH, hS, hK⟩
  dsimp only at hT hH hS hK
  have hS0 := hS
  obtain ⟨n, hC, hR⟩ := hS
  have h40 := CI_40 hC
  have c1 := isBin1 ha
  have m1 := isBin2 ha
  have c2 := isW hv
  have m2 := in_eq hv (show rg 1 = true by decide) (show rg 9 = true by decide)
  by_cases e1 : 0 ≤ a ∧ a ≤ 11
  · rw [if_pos e1] at c1 m1
    obtain ⟨x, rfl⟩ : ∃ q : Nat, a = (q : Int) := ⟨a.toNat, by omega⟩
    by_cases e2 : 1 ≤ v ∧ v ≤ 9
    · rw [if_pos e2] at c2 m2
      obtain ⟨m, rfl⟩ : ∃ q : Nat, v = (q : Int) := ⟨v.toNat, by omega⟩
      obtain ⟨O', f, c, g1, g2, g3⟩ := fill_eq (N := N) (O := O) (xx := (x : Int)) (by omega) hC (show x < 12 by omega) rfl
      have hc := OD_c g2
      have hA1 := g3.1
      obtain ⟨li', u1, u2⟩ := order_eq (N := N) (hi := hi) (sn := sn) (as := as) (li := li) (st := st) (ik := ik) (lm := lm) (t := (tx, le, sp, re, rd)) (xx := (x : Int)) (by omega) hC hR (show x < 12 by omega) rfl g2
      obtain ⟨K, rfl⟩ : ∃ K, N = K + 1 := ⟨N - 1, by omega⟩
      by_cases e : m ≤ c
      · have s1 := OD_sh hC g2 (show 0 < c by omega)
        have s2 := OD_sh hC g2 (show 0 + m - 1 < c by omega)
        have s3 := OD_le g2 (show 0 ≤ 0 + m - 1 by omega) (show 0 + m - 1 < c by omega)
        have hC1 := sprC (n := n) (x := (x : Int)) (k := 0) (m := m) (kk := 0) (mm := (m : Int)) (show c ≤ 40 by omega) g3 rfl rfl (by omega) (by omega)
        have hM1 := sprM (hi := hi) (sn := sn) (as := as) (li := li') (st := st) (ik := ik) (lm := (c : Int)) (t := (tx, le, sp, re, rd)) (k := 0) (m := m) (kk := 0) (mm := (m : Int)) hC hR g2 u2 rfl rfl (by omega) (by omega)
        obtain ⟨w, w1, w2⟩ := nar_loop (N := K + 1) (y := (x : Int)) (hi := hi) (sn := sn) (as := as) (li := li') (st := st) (ik := ik) (t := (tx, le, sp, re, rd)) (m := m) hC hR g2 g3 u2 (by omega) (by omega) c 1 (shf S f (0 + m - 1) - shf S f 0) K K (by omega) (by omega) (by omega) (by omega) (by omega)
        refine ⟨w, ((B, s, l), O', H, S, P, V, hs), (r, hi, st, sn, ik, as, li', (c : Int), tx, le, sp, re, rd), ?_, ?_, ⟨hT, hH, hS0, hK⟩⟩
        · refine (bd_q c1 (gd_q (rg_of (by first | omega | (dsimp only; omega))) (it_q2 (by first | omega | (dsimp only; omega)) (bd_q c2 (gd_q (rg_of (by first | omega | (dsimp only; omega))) (it_q2 (by first | omega | (dsimp only; omega)) (bd_q g1 (nm_q (nm_q (gd_q (rg_of (by first | omega | (dsimp only; omega))) (gd_q (rg_of (by first | omega | (dsimp only; omega))) (it_q1 (by first | omega | (dsimp only; omega)) (bd_q (a := (w, O')) ?_ (nm_q (rfl)))))))))))))))
          unfold f_X3_narrowest
          rw [f_X3_narrowest_L5]
          refine (gd_q (rg_of (by first | omega | (dsimp only; omega))) (gd_q (rg_of (by first | omega | (dsimp only; omega))) (it_q2 (by first | omega | (dsimp only; omega)) (bd_q hC1 (gd_q (rg_of (by first | omega | (dsimp only; omega))) (gd_q (rg_of (by first | omega | (dsimp only; omega))) (nm_q (?_))))))))
          dsimp only
          have : (if shf S f (0 + m - 1) - shf S f 0 < 9 then shf S f (0 + m - 1) - shf S f 0 else 9) = shf S f (0 + m - 1) - shf S f 0 := by
            split <;> omega
          rw [this]
          exact w1
        · refine (bd_q m1 (gd_q (rg_of (by first | omega | (dsimp only; omega))) (it_q2 (by first | omega | (dsimp only; omega)) (bd_q m2 (gd_q (rg_of (by first | omega | (dsimp only; omega))) (it_q2 (by first | omega | (dsimp only; omega)) (bd_q u1 (?_))))))))
          rw [f_X8_leastSpread_L33]
          exact (gd_q (rg_of (by first | omega | (dsimp only; omega))) (gd_q (rg_of (by first | omega | (dsimp only; omega))) (it_q2 (by first | omega | (dsimp only; omega)) (gd_q (rg_of (by first | omega | (dsimp only; omega))) (it_q1 rfl (bd_q hM1 (w2)))))))
      · refine ⟨-5, ((B, s, l), O', H, S, P, V, hs), (r, hi, st, sn, ik, as, li', (c : Int), tx, le, sp, re, rd), ?_, ?_, ⟨hT, hH, hS0, hK⟩⟩
        · exact (bd_q c1 (gd_q (rg_of (by first | omega | (dsimp only; omega))) (it_q2 (by first | omega | (dsimp only; omega)) (bd_q c2 (gd_q (rg_of (by first | omega | (dsimp only; omega))) (it_q2 (by first | omega | (dsimp only; omega)) (bd_q g1 (nm_q (nm_q (gd_q (rg_of (by first | omega | (dsimp only; omega))) (gd_q (rg_of (by first | omega | (dsimp only; omega))) (it_q2 (by first | omega | (dsimp only; omega)) (rfl)))))))))))))
        · refine (bd_q m1 (gd_q (rg_of (by first | omega | (dsimp only; omega))) (it_q2 (by first | omega | (dsimp only; omega)) (bd_q m2 (gd_q (rg_of (by first | omega | (dsimp only; omega))) (it_q2 (by first | omega | (dsimp only; omega)) (bd_q u1 (?_))))))))
          rw [f_X8_leastSpread_L33]
          exact (gd_q (rg_of (by first | omega | (dsimp only; omega))) (gd_q (rg_of (by first | omega | (dsimp only; omega))) (it_q1 (by first | omega | (dsimp only; omega)) (rfl))))
    · rw [if_neg e2] at c2 m2
      refine ⟨-2, ((B, s, l), O, H, S, P, V, hs), (r, hi, st, sn, ik, as, li, lm, tx, le, sp, re, rd), ?_, ?_, ⟨hT, hH, hS0, hK⟩⟩
      · exact (bd_q c1 (gd_q (rg_of (by first | omega | (dsimp only; omega))) (it_q2 (by first | omega | (dsimp only; omega)) (bd_q c2 (gd_q (rg_of (by first | omega | (dsimp only; omega))) (it_q1 (by first | omega | (dsimp only; omega)) (rfl)))))))
      · exact (bd_q m1 (gd_q (rg_of (by first | omega | (dsimp only; omega))) (it_q2 (by first | omega | (dsimp only; omega)) (bd_q m2 (gd_q (rg_of (by first | omega | (dsimp only; omega))) (it_q1 (by first | omega | (dsimp only; omega)) (rfl)))))))
  · rw [if_neg e1] at c1 m1
    refine ⟨-1, ((B, s, l), O, H, S, P, V, hs), (r, hi, st, sn, ik, as, li, lm, tx, le, sp, re, rd), ?_, ?_, ⟨hT, hH, hS0, hK⟩⟩
    · exact (bd_q c1 (gd_q (rg_of (by first | omega | (dsimp only; omega))) (it_q1 (by first | omega | (dsimp only; omega)) (rfl))))
    · exact (bd_q m1 (gd_q (rg_of (by first | omega | (dsimp only; omega))) (it_q1 (by first | omega | (dsimp only; omega)) (rfl))))
theorem sum_loop {N n c : Nat} {z : bS} {x : Int} {f : Nat → Nat} {O : bO} {r : Nat → Int} {hi sn as li : Nat → Int} {st ik : Int} {t : bl} {y : Int} (hC : CI z n) (hR : R1 z r n) (hD : OD z n x f c) (hA : OA O z f c) (hl : ∀ j, j < c → li j = (f j : Int)) : ∀ d k acc fu fu', k + d = c → d < fu → d < fu' → ∃ w, f_X3_shineSum_L4 N fu acc (k : Int) O = some (w, O) ∧ f_X8_sumOf_L9 N fu' y acc (k : Int) (r, hi, st, sn, ik, as, li, (c : Int), t) = some (w, (r, hi, st, sn, ik, as, li, (c : Int), t)) := by
  have h40 := CI_40 hC
  have hc := OD_c hD
  have hA1 := hA.1
  intro d
  induction d with
  | zero =>
    intro k acc fu fu' hk hf hf'
    obtain ⟨fu, rfl⟩ : ∃ j, fu = j + 1 := ⟨fu - 1, by omega⟩
    obtain ⟨fu', rfl⟩ : ∃ j, fu' = j + 1 := ⟨fu' - 1, by omega⟩
    refine ⟨acc, ?_, ?_⟩
    · rw [f_X3_shineSum_L4]
      exact (gd_q (rg_of (by first | omega | (dsimp only; omega))) (gd_q (rg_of (by first | omega | (dsimp only; omega))) (it_q1 (by first | omega | (dsimp only; omega)) (rfl))))
    · rw [f_X8_sumOf_L9]
      exact (gd_q (rg_of (by first | omega | (dsimp only; omega))) (gd_q (rg_of (by first | omega | (dsimp only; omega))) (it_q1 (by first | omega | (dsimp only; omega)) (rfl))))
  | succ d ih =>
    intro k acc fu fu' hk hf hf'
    obtain ⟨fu, rfl⟩ : ∃ j, fu = j + 1 := ⟨fu - 1, by omega⟩
    obtain ⟨fu', rfl⟩ : ∃ j, fu' = j + 1 := ⟨fu' - 1, by omega⟩
    have hb := (hD.1 k (by omega)).1
    have f4 : r (55 + 9 * f k + 4) = z.1.2.2.2.2.1 (f k) := R1_f hR hb (by omega)
    obtain ⟨w, g1, g2⟩ := ih (k + 1) (acc + z.1.2.2.2.2.1 (f k)) fu fu' (by omega) (by omega) (by omega)
    refine ⟨w, ?_, ?_⟩
    · rw [f_X3_shineSum_L4]
      refine (gd_q (rg_of (by first | omega | (dsimp only; omega))) (gd_q (rg_of (by first | omega | (dsimp only; omega))) (it_q2 (by first | omega | (dsimp only; omega)) (gd_q (inb_of (by first | omega | (dsimp only; omega))) (nm_q (?_))))))
      rw [tn, (hA.2 k (by omega)).2]
      exact g1
    · rw [f_X8_sumOf_L9]
      refine (gd_q (rg_of (by first | omega | (dsimp only; omega))) (gd_q (rg_of (by first | omega | (dsimp only; omega))) (it_q2 (by first | omega | (dsimp only; omega)) (gd_q (inb_of (by first | omega | (dsimp only; omega))) (bd_q (of_eq (b := f k) (k := 4) (by omega) (by omega) (hl k (by omega)) rfl) (nm_q (?_)))))))
      dsimp only
      rw [f4]
      exact g2
def ma (P : Nat → Option Nat) : Nat → Nat
  | 0 => 0
  | k + 1 => match P (k + 1) with
    | some _ => k + 1
    | none => ma P k
theorem ma_le (P : Nat → Option Nat) (k : Nat) : ma P k ≤ k := by
  induction k with
  | zero => exact Nat.le_refl _
  | succ k ih =>
    rw [ma]
    cases P (k + 1) with
    | none => show ma P k ≤ k + 1; omega
    | some j => exact Nat.le_refl _
theorem maC {N n c : Nat} {z : bS} {x : Int} {f : Nat → Nat} {O : bO} (hN : 60 ≤ N) (hC : CI z n) (hD : OD z n x f c) (hA : OA O z f c) : ∀ k fu, k ≤ 9 → k < fu → f_X3_mostAlike_L3 N fu (z.2.2.1 7) (k : Int) O = some ((ma (fun m => fa (shf z f) c m (z.2.2.1 7) (c + 1) 0) k : Int), O) := by
  have h40 := CI_40 hC
  have hc := OD_c hD
  have hs7 := SI_rg hC.2.1 7 (by omega)
  intro k
  induction k with
  | zero =>
    intro fu hk hf
    obtain ⟨fu, rfl⟩ : ∃ j, fu = j + 1 := ⟨fu - 1, by omega⟩
    rw [f_X3_mostAlike_L3]
    exact (gd_q (rg_of (by first | omega | (dsimp only; omega))) (it_q1 (by first | omega | (dsimp only; omega)) (rfl)))
  | succ k ih =>
    intro fu hk hf
    obtain ⟨fu, rfl⟩ : ∃ j, fu = j + 1 := ⟨fu - 1, by omega⟩
    have hfa := faC (N := N) (m := k + 1) (mm := ((k + 1 : Nat) : Int)) (sp := z.2.2.1 7) hN hC hD hA (by omega) (by omega) rfl (rg_of (by first | omega | (dsimp only; omega)))
    rw [f_X3_mostAlike_L3, ma]
    refine (gd_q (rg_of (by first | omega | (dsimp only; omega))) (it_q2 (by first | omega | (dsimp only; omega)) (bd_q hfa (?_))))
    cases ho : fa (shf z f) c (k + 1) (z.2.2.1 7) (c + 1) 0 with
    | none =>
      refine (gd_q (rg_of (show -2147483648 ≤ (-1 : Int) ∧ (-1 : Int) < 2147483648 by omega)) (it_q1 (show (-1 : Int) < 0 by omega) (?_)))
      dsimp only
      rw [show ((k + 1 : Nat) : Int) + (-1) = (k : Int) by omega]
      exact ih fu (by omega) (by omega)
    | some j =>
      have := fa_some _ _ _ ho
      refine (gd_q (rg_of ?_) (it_q2 ?_ (rfl)))
      · show -2147483648 ≤ (j : Int) ∧ (j : Int) < 2147483648
        omega
      · show ¬ (j : Int) < 0
        omega
theorem maM {N n c x : Nat} {z : bS} {f : Nat → Nat} {r : Nat → Int} {hi sn as : Nat → Int} {st ik : Int} {t : bl} (hN : 60 ≤ N) (hC : CI z n) (hR : R1 z r n) (hx : x < 12) (hD : OD z n (x : Int) f c) : ∀ d k fu (li : Nat → Int) (lm : Int), k + d = 9 → d < fu → ∃ (li' : Nat → Int) (lm' : Int), f_X8_mostAlike_L4 N fu (x : Int) (ma (fun m => fa (shf z f) c m (z.2.2.1 7) (c + 1) 0) k : Int) ((k : Int) + 1) (r, hi, st, sn, ik, as, li, lm, t) = some ((ma (fun m => fa (shf z f) c m (z.2.2.1 7) (c + 1) 0) 9 : Int), (r, hi, st, sn, ik, as, li', lm', t)) := by
  have h40 := CI_40 hC
  have hc := OD_c hD
  intro d
  induction d with
  | zero =>
    intro k fu li lm hk hf
    obtain ⟨fu, rfl⟩ : ∃ j, fu = j + 1 := ⟨fu - 1, by omega⟩
    obtain rfl : k = 9 := by omega
    refine ⟨li, lm, ?_⟩
    rw [f_X8_mostAlike_L4]
    exact (gd_q (rg_of (by first | omega | (dsimp only; omega))) (it_q1 (by first | omega | (dsimp only; omega)) (rfl)))
  | succ d ih =>
    intro k fu li lm hk hf
    obtain ⟨fu, rfl⟩ : ∃ j, fu = j + 1 := ⟨fu - 1, by omega⟩
    obtain ⟨li1, g1, g2⟩ := faM (N := N) (hi := hi) (sn := sn) (as := as) (li := li) (st := st) (ik := ik) (lm := lm) (t := t) (m := k + 1) (xx := (x : Int)) (mm := (k : Int) + 1) hN hC hR hx rfl hD (by omega) (by omega) (by omega)
    obtain ⟨li', lm', u1⟩ := ih (k + 1) fu li1 (c : Int) (by omega) (by omega)
    refine ⟨li', lm', ?_⟩
    rw [f_X8_mostAlike_L4]
    refine (gd_q (rg_of (by first | omega | (dsimp only; omega))) (it_q2 (by first | omega | (dsimp only; omega)) (bd_q g1 (?_))))
    rw [ma] at u1
    cases ho : fa (shf z f) c (k + 1) (z.2.2.1 7) (c + 1) 0 with
    | none =>
      rw [ho] at u1
      exact (gd_q (rg_of (show -2147483648 ≤ (-5 : Int) ∧ (-5 : Int) < 2147483648 by omega)) (it_q1 rfl (u1)))
    | some j =>
      have := fa_some _ _ _ ho
      rw [ho] at u1
      refine (gd_q (rg_of ?_) (it_q2 ?_ (u1)))
      · show -2147483648 ≤ (j : Int) ∧ (j : Int) < 2147483648
        omega
      · show ¬ (j : Int) = -5
        omega
theorem s_bin {N : Nat} (hN : 1300 ≤ N) {a v : Int} (ha : rg a = true) (hv : rg v = true) : SIM (f_X7_bin N a v) (f_X8_bin N a v) := by
  rintro ⟨⟨B, s, l⟩, O, H, S, P, V, hs⟩ ⟨r, hi, st, sn, ik, as, li, lm, tx, le, sp, re, rd⟩ ⟨hT, hH, hS, hK⟩
  dsimp only at hT hH hS hK
  have hS0 := hS
  obtain ⟨n, hC, hR⟩ := hS
  have h40 := CI_40 hC
  have c1 := isBin1 ha
  have m1 := isBin2 ha
  by_cases e1 : 0 ≤ a ∧ a ≤ 11
  · rw [if_pos e1] at c1 m1
    obtain ⟨x, rfl⟩ : ∃ q : Nat, a = (q : Int) := ⟨a.toNat, by omega⟩
    have hmi := manyR (N := N) (m := (hi, st, sn, ik, as, li, lm, tx, le, sp, re, rd)) (q := x) (qq := (x : Int)) (by omega) hC hR (by omega) rfl
    by_cases e2 : 0 ≤ v ∧ v ≤ 4
    · obtain ⟨O', f, c, g1, g2, g3⟩ := fill_eq (N := N) (O := O) (xx := (x : Int)) (by omega) hC (show x < 12 by omega) rfl
      have hc := OD_c g2
      have hA1 := g3.1
      have hmy := OD_many hC (show x < 12 by omega) g2
      have p6 : r 6 = S.2.2.1 6 := hR.1.1 6 (by omega)
      have s6 := SI_rg hC.2.1 6 (by omega)
      have s7 := SI_rg hC.2.1 7 (by omega)
      obtain ⟨li', u1, u2⟩ := order_eq (N := N) (hi := hi) (sn := sn) (as := as) (li := li) (st := st) (ik := ik) (lm := lm) (t := (tx, le, sp, re, rd)) (xx := (x : Int)) (by omega) hC hR (show x < 12 by omega) rfl g2
      by_cases w0 : v = 0
      · subst w0
        refine ⟨(c : Int), ((B, s, l), O', H, S, P, V, hs), (r, hi, st, sn, ik, as, li, lm, tx, le, sp, re, rd), ?_, ?_, ⟨hT, hH, hS0, hK⟩⟩
        · refine (bd_q c1 (gd_q (rg_of (by first | omega | (dsimp only; omega))) (it_q2 (by first | omega | (dsimp only; omega)) (gd_q hv (it_q2 (by first | omega | (dsimp only; omega)) (it_q1 (by first | omega | (dsimp only; omega)) (bd_q g1 (nm_q (nm_q (it_q1 rfl (?_)))))))))))
          dsimp only
          rw [hA1]
        · refine (bd_q m1 (gd_q (rg_of (by first | omega | (dsimp only; omega))) (it_q2 (by first | omega | (dsimp only; omega)) (bd_q hmi (gd_q hv (it_q1 rfl (?_)))))))
          dsimp only
          rw [hmy]
      by_cases w1 : v = 1
      · subst w1
        refine ⟨(if S.2.2.1 6 - (c : Int) < 0 then 0 else S.2.2.1 6 - (c : Int)), ((B, s, l), O', H, S, P, V, hs), (r, hi, st, sn, ik, as, li, lm, tx, le, sp, re, rd), ?_, ?_, ⟨hT, hH, hS0, hK⟩⟩
        · refine (bd_q c1 (gd_q (rg_of (by first | omega | (dsimp only; omega))) (it_q2 (by first | omega | (dsimp only; omega)) (gd_q hv (it_q2 (by first | omega | (dsimp only; omega)) (it_q1 (by first | omega | (dsimp only; omega)) (bd_q g1 (nm_q (nm_q (it_q2 (by first | omega | (dsimp only; omega)) (it_q1 rfl (gd_q (rg_of (by first | omega | (dsimp only; omega))) (?_)))))))))))))
          dsimp only
          rw [hA1]
        · refine (bd_q m1 (gd_q (rg_of (by first | omega | (dsimp only; omega))) (it_q2 (by first | omega | (dsimp only; omega)) (bd_q hmi (gd_q hv (it_q2 (by first | omega | (dsimp only; omega)) (it_q1 rfl (gd_q (rg_of (by first | omega | (dsimp only; omega))) (gd_q (rg_of (by first | omega | (dsimp only; omega))) (?_))))))))))
          by_cases e3 : S.2.2.1 6 ≤ (c : Int)
          · refine it_q1 (by first | omega | (dsimp only; omega)) ?_
            have : (if S.2.2.1 6 - (c : Int) < 0 then 0 else S.2.2.1 6 - (c : Int)) = 0 := by split <;> omega
            rw [this]
          · refine it_q2 (by first | omega | (dsimp only; omega)) ?_
            rw [if_neg (show ¬ S.2.2.1 6 - (c : Int) < 0 by omega)]
            dsimp only
            rw [hmy, p6]
      by_cases w2 : v = 2
      · subst w2
        obtain ⟨w, q1, q2⟩ := sum_loop (N := N) (y := (x : Int)) (hi := hi) (sn := sn) (as := as) (li := li') (st := st) (ik := ik) (t := (tx, le, sp, re, rd)) hC hR g2 g3 u2 c 0 0 N N (by omega) (by omega) (by omega)
        refine ⟨w, ((B, s, l), O', H, S, P, V, hs), (r, hi, st, sn, ik, as, li', (c : Int), tx, le, sp, re, rd), ?_, ?_, ⟨hT, hH, hS0, hK⟩⟩
        · exact (bd_q c1 (gd_q (rg_of (by first | omega | (dsimp only; omega))) (it_q2 (by first | omega | (dsimp only; omega)) (gd_q hv (it_q2 (by first | omega | (dsimp only; omega)) (it_q1 (by first | omega | (dsimp only; omega)) (bd_q g1 (nm_q (nm_q (it_q2 (by first | omega | (dsimp only; omega)) (it_q2 (by first | omega | (dsimp only; omega)) (it_q1 rfl (bd_q q1 (nm_q (rfl)))))))))))))))
        · exact (bd_q m1 (gd_q (rg_of (by first | omega | (dsimp only; omega))) (it_q2 (by first | omega | (dsimp only; omega)) (bd_q hmi (gd_q hv (it_q2 (by first | omega | (dsimp only; omega)) (it_q2 (by first | omega | (dsimp only; omega)) (it_q1 rfl (bd_q (bd_q u1 q2) (rfl))))))))))
      by_cases w3 : v = 3
      · subst w3
        have q1 := maC (N := N) (by omega) hC g2 g3 9 N (by omega) (by omega)
        obtain ⟨li2, lm2, q2⟩ := maM (N := N) (hi := hi) (sn := sn) (as := as) (st := st) (ik := ik) (t := (tx, le, sp, re, rd)) (by omega) hC hR (show x < 12 by omega) g2 9 0 N li lm (by omega) (by omega)
        refine ⟨(ma (fun m => fa (shf S f) c m (S.2.2.1 7) (c + 1) 0) 9 : Int), ((B, s, l), O', H, S, P, V, hs), (r, hi, st, sn, ik, as, li2, lm2, tx, le, sp, re, rd), ?_, ?_, ⟨hT, hH, hS0, hK⟩⟩
        · exact (bd_q c1 (gd_q (rg_of (by first | omega | (dsimp only; omega))) (it_q2 (by first | omega | (dsimp only; omega)) (gd_q hv (it_q2 (by first | omega | (dsimp only; omega)) (it_q1 (by first | omega | (dsimp only; omega)) (bd_q g1 (nm_q (nm_q (it_q2 (by first | omega | (dsimp only; omega)) (it_q2 (by first | omega | (dsimp only; omega)) (it_q2 (by first | omega | (dsimp only; omega)) (it_q1 rfl (bd_q q1 (nm_q (rfl))))))))))))))))
        · exact (bd_q m1 (gd_q (rg_of (by first | omega | (dsimp only; omega))) (it_q2 (by first | omega | (dsimp only; omega)) (bd_q hmi (gd_q hv (it_q2 (by first | omega | (dsimp only; omega)) (it_q2 (by first | omega | (dsimp only; omega)) (it_q2 (by first | omega | (dsimp only; omega)) (it_q1 rfl (bd_q q2 (rfl)))))))))))
      obtain rfl : v = 4 := by omega
      by_cases e3 : c = 0
      · refine ⟨0, ((B, s, l), O', H, S, P, V, hs), (r, hi, st, sn, ik, as, li', (c : Int), tx, le, sp, re, rd), ?_, ?_, ⟨hT, hH, hS0, hK⟩⟩
        · exact (bd_q c1 (gd_q (rg_of (by first | omega | (dsimp only; omega))) (it_q2 (by first | omega | (dsimp only; omega)) (gd_q hv (it_q2 (by first | omega | (dsimp only; omega)) (it_q1 (by first | omega | (dsimp only; omega)) (bd_q g1 (nm_q (nm_q (it_q2 (by first | omega | (dsimp only; omega)) (it_q2 (by first | omega | (dsimp only; omega)) (it_q2 (by first | omega | (dsimp only; omega)) (it_q2 (by first | omega | (dsimp only; omega)) (gd_q (rg_of (by first | omega | (dsimp only; omega))) (it_q1 (by first | omega | (dsimp only; omega)) (rfl))))))))))))))))
        · exact (bd_q m1 (gd_q (rg_of (by first | omega | (dsimp only; omega))) (it_q2 (by first | omega | (dsimp only; omega)) (bd_q hmi (gd_q hv (it_q2 (by first | omega | (dsimp only; omega)) (it_q2 (by first | omega | (dsimp only; omega)) (it_q2 (by first | omega | (dsimp only; omega)) (it_q2 (by first | omega | (dsimp only; omega)) (it_q1 rfl (bd_q (bd_q u1 (gd_q (rg_of (by first | omega | (dsimp only; omega))) (it_q1 (by first | omega | (dsimp only; omega)) rfl))) (rfl))))))))))))
      · have s1 := OD_sh hC g2 (show 0 < c by omega)
        have s2 := OD_sh hC g2 (show 0 + c - 1 < c by omega)
        have hC1 := sprC (n := n) (x := (x : Int)) (k := 0) (m := c) (kk := 0) (mm := (c : Int)) (show c ≤ 40 by omega) g3 rfl rfl (by omega) (by omega)
        have hM1 := sprM (hi := hi) (sn := sn) (as := as) (li := li') (st := st) (ik := ik) (lm := (c : Int)) (t := (tx, le, sp, re, rd)) (k := 0) (m := c) (kk := 0) (mm := (c : Int)) hC hR g2 u2 rfl rfl (by omega) (by omega)
        refine ⟨shf S f (0 + c - 1) - shf S f 0, ((B, s, l), O', H, S, P, V, hs), (r, hi, st, sn, ik, as, li', (c : Int), tx, le, sp, re, rd), ?_, ?_, ⟨hT, hH, hS0, hK⟩⟩
        · refine (bd_q c1 (gd_q (rg_of (by first | omega | (dsimp only; omega))) (it_q2 (by first | omega | (dsimp only; omega)) (gd_q hv (it_q2 (by first | omega | (dsimp only; omega)) (it_q1 (by first | omega | (dsimp only; omega)) (bd_q g1 (nm_q (nm_q (it_q2 (by first | omega | (dsimp only; omega)) (it_q2 (by first | omega | (dsimp only; omega)) (it_q2 (by first | omega | (dsimp only; omega)) (it_q2 (by first | omega | (dsimp only; omega)) (gd_q (rg_of (by first | omega | (dsimp only; omega))) (it_q2 (by first | omega | (dsimp only; omega)) (bd_q (a := (shf S f (0 + c - 1) - shf S f 0, O')) ?_ (nm_q (rfl))))))))))))))))))
          obtain ⟨K, rfl⟩ : ∃ K, N = K + 2 := ⟨N - 2, by omega⟩
          unfold f_X3_narrowest
          dsimp only
          rw [hA1, f_X3_narrowest_L5]
          refine (gd_q (rg_of (by first | omega | (dsimp only; omega))) (gd_q (rg_of (by first | omega | (dsimp only; omega))) (it_q2 (by first | omega | (dsimp only; omega)) (bd_q hC1 (gd_q (rg_of (by first | omega | (dsimp only; omega))) (gd_q (rg_of (by first | omega | (dsimp only; omega))) (nm_q (?_))))))))
          dsimp only
          have : (if shf S f (0 + c - 1) - shf S f 0 < 9 then shf S f (0 + c - 1) - shf S f 0 else 9) = shf S f (0 + c - 1) - shf S f 0 := by
            split <;> omega
          rw [this, f_X3_narrowest_L5]
          exact (gd_q (rg_of (by first | omega | (dsimp only; omega))) (gd_q (rg_of (by first | omega | (dsimp only; omega))) (it_q1 (by first | omega | (dsimp only; omega)) (rfl))))
        · exact (bd_q m1 (gd_q (rg_of (by first | omega | (dsimp only; omega))) (it_q2 (by first | omega | (dsimp only; omega)) (bd_q hmi (gd_q hv (it_q2 (by first | omega | (dsimp only; omega)) (it_q2 (by first | omega | (dsimp only; omega)) (it_q2 (by first | omega | (dsimp only; omega)) (it_q2 (by first | omega | (dsimp only; omega)) (it_q1 rfl (bd_q (bd_q u1 (gd_q (rg_of (by first | omega | (dsimp only; omega))) (it_q2 (by first | omega | (dsimp only; omega)) (bd_q hM1 rfl)))) (rfl))))))))))))
    · refine ⟨-2, ((B, s, l), O, H, S, P, V, hs), (r, hi, st, sn, ik, as, li, lm, tx, le, sp, re, rd), ?_, ?_, ⟨hT, hH, hS0, hK⟩⟩
      · by_cases e3 : v < 0
        · exact (bd_q c1 (gd_q (rg_of (by first | omega | (dsimp only; omega))) (it_q2 (by first | omega | (dsimp only; omega)) (gd_q hv (it_q1 e3 (rfl))))))
        · exact (bd_q c1 (gd_q (rg_of (by first | omega | (dsimp only; omega))) (it_q2 (by first | omega | (dsimp only; omega)) (gd_q hv (it_q2 e3 (it_q2 (by first | omega | (dsimp only; omega)) (rfl)))))))
      · exact (bd_q m1 (gd_q (rg_of (by first | omega | (dsimp only; omega))) (it_q2 (by first | omega | (dsimp only; omega)) (bd_q hmi (gd_q hv (it_q2 (by first | omega | (dsimp only; omega)) (it_q2 (by first | omega | (dsimp only; omega)) (it_q2 (by first | omega | (dsimp only; omega)) (it_q2 (by first | omega | (dsimp only; omega)) (it_q2 (by first | omega | (dsimp only; omega)) (rfl)))))))))))
  · rw [if_neg e1] at c1 m1
    refine ⟨-1, ((B, s, l), O, H, S, P, V, hs), (r, hi, st, sn, ik, as, li, lm, tx, le, sp, re, rd), ?_, ?_, ⟨hT, hH, hS0, hK⟩⟩
    · exact (bd_q c1 (gd_q (rg_of (by first | omega | (dsimp only; omega))) (it_q1 (by first | omega | (dsimp only; omega)) (rfl))))
    · exact (bd_q m1 (gd_q (rg_of (by first | omega | (dsimp only; omega))) (it_q1 (by first | omega | (dsimp only; omega)) (rfl))))
