/-! total, goesTo, pour, ifMesh -/
theorem chip_loop {N n : Nat} {z : bS} {r : Nat → Int} {m : bm} (hC : CI z n) (hR : R1 z r n) : ∀ d i, i + d = n → ∀ (acc : Int) k k', d < k → d < k' → ∃ v, f_X1_chipSum_L4 N k acc (i : Int) z.1 = some (v, z.1) ∧ f_X8_chips_L4 N k' acc (i : Int) (r, m) = some (v, (r, m)) := by
  have h40 := CI_40 hC
  have hn := hC.1.1
  have h13 := R1_n hR
  intro d
  induction d with
  | zero =>
    intro i hi acc k k' hk hk'
    obtain ⟨k, rfl⟩ : ∃ j, k = j + 1 := ⟨k - 1, by omega⟩
    obtain ⟨k', rfl⟩ : ∃ j, k' = j + 1 := ⟨k' - 1, by omega⟩
    refine ⟨acc, ?_, ?_⟩
    · rw [f_X1_chipSum_L4]
      exact gd_q (rg_of (by first | omega | (dsimp only; omega))) (gd_q (rg_of (by first | omega | (dsimp only; omega))) (it_q1 (by first | omega | (dsimp only; omega)) rfl))
    · rw [f_X8_chips_L4]
      exact gd_q (rg_of (by first | omega | (dsimp only; omega))) (gd_q (rg_of (by first | omega | (dsimp only; omega))) (it_q1 (by first | omega | (dsimp only; omega)) rfl))
  | succ d ih =>
    intro i hi acc k k' hk hk'
    obtain ⟨k, rfl⟩ : ∃ j, k = j + 1 := ⟨k - 1, by omega⟩
    obtain ⟨k', rfl⟩ : ∃ j, k' = j + 1 := ⟨k' - 1, by omega⟩
    have f3 : r (55 + 9 * i + 3) = z.1.2.2.2.1 i := R1_f hR (by omega) (by omega)
    obtain ⟨v, g1, g2⟩ := ih (i + 1) (by omega) (acc + z.1.2.2.2.1 i) k k' (by omega) (by omega)
    refine ⟨v, ?_, ?_⟩
    · rw [f_X1_chipSum_L4]
      exact gd_q (rg_of (by first | omega | (dsimp only; omega))) (gd_q (rg_of (by first | omega | (dsimp only; omega))) (it_q2 (by first | omega | (dsimp only; omega)) (gd_q (inb_of (by first | omega | (dsimp only; omega))) (nm_q g1))))
    · rw [f_X8_chips_L4]
      refine gd_q (rg_of (by first | omega | (dsimp only; omega))) (gd_q (rg_of (by first | omega | (dsimp only; omega))) (it_q2 (by first | omega | (dsimp only; omega)) (bd_q (of_eq (b := i) (k := 3) (by omega) (by omega) rfl rfl) (nm_q ?_))))
      dsimp only
      rw [f3]
      exact g2
theorem HR_st {h : bH} {hi : Nat → Int} {st : Int} (hH : HR h hi st) : h.1 = st ∧ 0 ≤ st ∧ st ≤ 4 := by
  obtain ⟨c, hc, e1, e2, _⟩ := hH
  omega
theorem s_total {N : Nat} (hN : 1300 ≤ N) {a : Int} (ha : rg a = true) : SIM (f_X7_total N a) (f_X8_total N a) := by
  rintro ⟨⟨B, s, l⟩, O, H, S, P, V, hs⟩ ⟨r, hi, st, sn, ik, as, li, lm, tx, le, sp, re, rd⟩ ⟨hT, hH, hS, hK⟩
  dsimp only at hT hH hS hK
  have hS0 := hS
  obtain ⟨n, hC, hR⟩ := hS
  have h40 := CI_40 hC
  suffices hv : ∃ v, f_X7_total N a ((B, s, l), O, H, S, P, V, hs) = some (v, ((B, s, l), O, H, S, P, V, hs)) ∧ f_X8_total N a (r, hi, st, sn, ik, as, li, lm, tx, le, sp, re, rd) = some (v, (r, hi, st, sn, ik, as, li, lm, tx, le, sp, re, rd)) by
    obtain ⟨v, g1, g2⟩ := hv
    exact ⟨v, _, _, g1, g2, ⟨hT, hH, hS0, hK⟩⟩
  have hin := in_eq ha (show rg 0 = true by decide) (show rg 23 = true by decide)
  obtain ⟨⟨r1, ⟨a1, a2, a3, a4, a5⟩, r3, r4, r5⟩, hB⟩ := hR
  have hR : R1 S r n := ⟨⟨r1, ⟨a1, a2, a3, a4, a5⟩, r3, r4, r5⟩, hB⟩
  by_cases e1 : 0 ≤ a ∧ a ≤ 23
  · rw [if_pos e1] at hin
    obtain ⟨j, rfl⟩ : ∃ j : Nat, a = (j : Int) := ⟨a.toNat, by omega⟩
    have hb2 : ∀ {v : Int} {y : bM}, (gd (rg (j : Int)) <| if 8 ≤ (j : Int) then (if (j : Int) ≤ 8 then (if (j : Int) = 8 then (some ((r, hi, st, sn, ik, as, li, lm, tx, le, sp, re, rd).1 13, (r, hi, st, sn, ik, as, li, lm, tx, le, sp, re, rd))) else if (j : Int) = 21 then (bd (f_X8_chips N (r, hi, st, sn, ik, as, li, lm, tx, le, sp, re, rd)) fun u10 => some (u10.1, u10.2)) else if (j : Int) = 22 then (some (st, (r, hi, st, sn, ik, as, li, lm, tx, le, sp, re, rd))) else if (j : Int) = 23 then (some (le, (r, hi, st, sn, ik, as, li, lm, tx, le, sp, re, rd))) else (gd (inb ((8 + (j : Int)) - 16) 415) <| some (r (((8 + (j : Int)) - 16).toNat), (r, hi, st, sn, ik, as, li, lm, tx, le, sp, re, rd)))) else (if 16 ≤ (j : Int) then (if (j : Int) = 8 then (some (r 13, (r, hi, st, sn, ik, as, li, lm, tx, le, sp, re, rd))) else if (j : Int) = 21 then (bd (f_X8_chips N (r, hi, st, sn, ik, as, li, lm, tx, le, sp, re, rd)) fun u18 => some (u18.1, u18.2)) else if (j : Int) = 22 then (some (st, (r, hi, st, sn, ik, as, li, lm, tx, le, sp, re, rd))) else if (j : Int) = 23 then (some (le, (r, hi, st, sn, ik, as, li, lm, tx, le, sp, re, rd))) else (gd (inb ((8 + (j : Int)) - 16) 415) <| some (r (((8 + (j : Int)) - 16).toNat), (r, hi, st, sn, ik, as, li, lm, tx, le, sp, re, rd)))) else (bd (f_X8_at N ((j : Int) - 9) (r, hi, st, sn, ik, as, li, lm, tx, le, sp, re, rd)) fun u23 => some (u23.1, u23.2)))) else (gd (inb (j : Int) 415) <| some (r (j : Int).toNat, (r, hi, st, sn, ik, as, li, lm, tx, le, sp, re, rd)))) = some (v, y) → f_X8_total N (j : Int) (r, hi, st, sn, ik, as, li, lm, tx, le, sp, re, rd) = some (v, y) := fun h => bd_q hin (gd_q (rg_of (by first | omega | (dsimp only; omega))) (it_q2 (by first | omega | (dsimp only; omega)) h))
    have hg : rg (j : Int) = true := (rg_of (by first | omega | (dsimp only; omega)))
    by_cases e2 : j < 8
    · refine ⟨S.2.2.1 j, gd_q hg (it_q2 (by first | omega | (dsimp only; omega)) (it_q1 (by first | omega | (dsimp only; omega)) (it_q2 (by first | omega | (dsimp only; omega)) (gd_q (inb_of (by first | omega | (dsimp only; omega))) rfl)))), hb2 (gd_q hg (it_q2 (by first | omega | (dsimp only; omega)) (gd_q (inb_of (by first | omega | (dsimp only; omega))) ?_)))⟩
      rw [tn, r1 j e2]
    by_cases e3 : j = 8
    · subst e3
      refine ⟨S.1.2.2.2.2.2.2, gd_q hg (it_q2 (by first | omega | (dsimp only; omega)) (it_q1 (by first | omega | (dsimp only; omega)) (it_q1 (by first | omega | (dsimp only; omega)) (it_q1 (by first | omega | (dsimp only; omega)) (it_q1 rfl rfl))))), hb2 (gd_q hg (it_q1 (by first | omega | (dsimp only; omega)) (it_q1 (by first | omega | (dsimp only; omega)) (it_q1 rfl ?_))))⟩
      show some (r 13, _) = _
      rw [r3, hC.1.1]
    by_cases e4 : j < 16
    · have hat := atR (N := N) (m := (hi, st, sn, ik, as, li, lm, tx, le, sp, re, rd)) (q := j - 9) (qq := (j : Int) - 9) (by omega) hC hR (by omega) (by omega)
      refine ⟨S.2.1.2.2.2.2.1 (j - 9), gd_q hg (it_q2 (by first | omega | (dsimp only; omega)) (it_q1 (by first | omega | (dsimp only; omega)) (it_q1 (by first | omega | (dsimp only; omega)) (it_q2 (by first | omega | (dsimp only; omega)) (it_q2 (by first | omega | (dsimp only; omega)) (gd_q (inb_of (by first | omega | (dsimp only; omega))) ?_)))))), hb2 (gd_q hg (it_q1 (by first | omega | (dsimp only; omega)) (it_q2 (by first | omega | (dsimp only; omega)) (it_q2 (by first | omega | (dsimp only; omega)) (bd_q hat rfl)))))⟩
      rw [show ((j : Int) - 9).toNat = j - 9 by omega]
    have hc16 : ∀ {o : Option (Int × bM)} {v : Int} {y : bM}, (if (j : Int) = 8 then (some (r 13, (r, hi, st, sn, ik, as, li, lm, tx, le, sp, re, rd))) else if (j : Int) = 21 then (bd (f_X8_chips N (r, hi, st, sn, ik, as, li, lm, tx, le, sp, re, rd)) fun u18 => some (u18.1, u18.2)) else if (j : Int) = 22 then (some (st, (r, hi, st, sn, ik, as, li, lm, tx, le, sp, re, rd))) else if (j : Int) = 23 then (some (le, (r, hi, st, sn, ik, as, li, lm, tx, le, sp, re, rd))) else (gd (inb ((8 + (j : Int)) - 16) 415) <| some (r (((8 + (j : Int)) - 16).toNat), (r, hi, st, sn, ik, as, li, lm, tx, le, sp, re, rd)))) = some (v, y) → f_X8_total N (j : Int) (r, hi, st, sn, ik, as, li, lm, tx, le, sp, re, rd) = some (v, y) := fun h => hb2 (gd_q hg (it_q1 (by first | omega | (dsimp only; omega)) (it_q2 (by first | omega | (dsimp only; omega)) (it_q1 (by first | omega | (dsimp only; omega)) h))))
    have e16 : j = 16 ∨ j = 17 ∨ j = 18 ∨ j = 19 ∨ j = 20 ∨ j = 21 ∨ j = 22 ∨ j = 23 := by omega
    rcases e16 with rfl | rfl | rfl | rfl | rfl | rfl | rfl | rfl
    · refine ⟨r 8, ?_, hc16 (o := none) (it_q2 (by first | omega | (dsimp only; omega)) (it_q2 (by first | omega | (dsimp only; omega)) (it_q2 (by first | omega | (dsimp only; omega)) (it_q2 (by first | omega | (dsimp only; omega)) (gd_q (inb_of (by first | omega | (dsimp only; omega))) rfl)))))⟩
      rw [a1]
      exact (gd_q hg (it_q2 (by first | omega | (dsimp only; omega)) (it_q1 (by first | omega | (dsimp only; omega)) (it_q1 (by first | omega | (dsimp only; omega)) (it_q2 (by first | omega | (dsimp only; omega)) (it_q1 (by first | omega | (dsimp only; omega)) (it_q2 (by first | omega | (dsimp only; omega)) (it_q2 (by first | omega | (dsimp only; omega)) (it_q2 (by first | omega | (dsimp only; omega)) (it_q2 (by first | omega | (dsimp only; omega)) (it_q2 (by first | omega | (dsimp only; omega)) (it_q2 (by first | omega | (dsimp only; omega)) (it_q2 (by first | omega | (dsimp only; omega)) (it_q2 (by first | omega | (dsimp only; omega)) (it_q1 (by first | omega | (dsimp only; omega)) (rfl))))))))))))))))
    · refine ⟨r 9, ?_, hc16 (o := none) (it_q2 (by first | omega | (dsimp only; omega)) (it_q2 (by first | omega | (dsimp only; omega)) (it_q2 (by first | omega | (dsimp only; omega)) (it_q2 (by first | omega | (dsimp only; omega)) (gd_q (inb_of (by first | omega | (dsimp only; omega))) rfl)))))⟩
      rw [a2]
      exact (gd_q hg (it_q2 (by first | omega | (dsimp only; omega)) (it_q1 (by first | omega | (dsimp only; omega)) (it_q1 (by first | omega | (dsimp only; omega)) (it_q2 (by first | omega | (dsimp only; omega)) (it_q1 (by first | omega | (dsimp only; omega)) (it_q2 (by first | omega | (dsimp only; omega)) (it_q2 (by first | omega | (dsimp only; omega)) (it_q2 (by first | omega | (dsimp only; omega)) (it_q2 (by first | omega | (dsimp only; omega)) (it_q2 (by first | omega | (dsimp only; omega)) (it_q2 (by first | omega | (dsimp only; omega)) (it_q2 (by first | omega | (dsimp only; omega)) (it_q2 (by first | omega | (dsimp only; omega)) (it_q2 (by first | omega | (dsimp only; omega)) (it_q1 (by first | omega | (dsimp only; omega)) (rfl)))))))))))))))))
    · refine ⟨r 10, ?_, hc16 (o := none) (it_q2 (by first | omega | (dsimp only; omega)) (it_q2 (by first | omega | (dsimp only; omega)) (it_q2 (by first | omega | (dsimp only; omega)) (it_q2 (by first | omega | (dsimp only; omega)) (gd_q (inb_of (by first | omega | (dsimp only; omega))) rfl)))))⟩
      rw [a3]
      exact (gd_q hg (it_q2 (by first | omega | (dsimp only; omega)) (it_q1 (by first | omega | (dsimp only; omega)) (it_q1 (by first | omega | (dsimp only; omega)) (it_q2 (by first | omega | (dsimp only; omega)) (it_q1 (by first | omega | (dsimp only; omega)) (it_q2 (by first | omega | (dsimp only; omega)) (it_q2 (by first | omega | (dsimp only; omega)) (it_q2 (by first | omega | (dsimp only; omega)) (it_q2 (by first | omega | (dsimp only; omega)) (it_q2 (by first | omega | (dsimp only; omega)) (it_q2 (by first | omega | (dsimp only; omega)) (it_q2 (by first | omega | (dsimp only; omega)) (it_q2 (by first | omega | (dsimp only; omega)) (it_q2 (by first | omega | (dsimp only; omega)) (it_q2 (by first | omega | (dsimp only; omega)) (it_q1 (by first | omega | (dsimp only; omega)) (rfl))))))))))))))))))
    · refine ⟨r 11, ?_, hc16 (o := none) (it_q2 (by first | omega | (dsimp only; omega)) (it_q2 (by first | omega | (dsimp only; omega)) (it_q2 (by first | omega | (dsimp only; omega)) (it_q2 (by first | omega | (dsimp only; omega)) (gd_q (inb_of (by first | omega | (dsimp only; omega))) rfl)))))⟩
      rw [a4]
      exact (gd_q hg (it_q2 (by first | omega | (dsimp only; omega)) (it_q1 (by first | omega | (dsimp only; omega)) (it_q1 (by first | omega | (dsimp only; omega)) (it_q2 (by first | omega | (dsimp only; omega)) (it_q1 (by first | omega | (dsimp only; omega)) (it_q2 (by first | omega | (dsimp only; omega)) (it_q2 (by first | omega | (dsimp only; omega)) (it_q2 (by first | omega | (dsimp only; omega)) (it_q2 (by first | omega | (dsimp only; omega)) (it_q2 (by first | omega | (dsimp only; omega)) (it_q2 (by first | omega | (dsimp only; omega)) (it_q2 (by first | omega | (dsimp only; omega)) (it_q2 (by first | omega | (dsimp only; omega)) (it_q2 (by first | omega | (dsimp only; omega)) (it_q2 (by first | omega | (dsimp only; omega)) (it_q2 (by first | omega | (dsimp only; omega)) (it_q1 (by first | omega | (dsimp only; omega)) (rfl)))))))))))))))))))
    · refine ⟨r 12, ?_, hc16 (o := none) (it_q2 (by first | omega | (dsimp only; omega)) (it_q2 (by first | omega | (dsimp only; omega)) (it_q2 (by first | omega | (dsimp only; omega)) (it_q2 (by first | omega | (dsimp only; omega)) (gd_q (inb_of (by first | omega | (dsimp only; omega))) rfl)))))⟩
      rw [a5]
      exact (gd_q hg (it_q2 (by first | omega | (dsimp only; omega)) (it_q1 (by first | omega | (dsimp only; omega)) (it_q1 (by first | omega | (dsimp only; omega)) (it_q2 (by first | omega | (dsimp only; omega)) (it_q1 (by first | omega | (dsimp only; omega)) (it_q2 (by first | omega | (dsimp only; omega)) (it_q2 (by first | omega | (dsimp only; omega)) (it_q2 (by first | omega | (dsimp only; omega)) (it_q2 (by first | omega | (dsimp only; omega)) (it_q2 (by first | omega | (dsimp only; omega)) (it_q2 (by first | omega | (dsimp only; omega)) (it_q2 (by first | omega | (dsimp only; omega)) (it_q2 (by first | omega | (dsimp only; omega)) (it_q2 (by first | omega | (dsimp only; omega)) (it_q2 (by first | omega | (dsimp only; omega)) (it_q2 (by first | omega | (dsimp only; omega)) (it_q2 (by first | omega | (dsimp only; omega)) (it_q1 (by first | omega | (dsimp only; omega)) (rfl))))))))))))))))))))
    · obtain ⟨v, g1, g2⟩ := chip_loop (N := N) (m := (hi, st, sn, ik, as, li, lm, tx, le, sp, re, rd)) hC hR n 0 (by omega) 0 N N (by omega) (by omega)
      refine ⟨v, ?_, hc16 (o := none) (it_q2 (by first | omega | (dsimp only; omega)) (it_q1 (by first | omega | (dsimp only; omega)) (bd_q g2 rfl)))⟩
      exact (gd_q hg (it_q2 (by first | omega | (dsimp only; omega)) (it_q1 (by first | omega | (dsimp only; omega)) (it_q1 (by first | omega | (dsimp only; omega)) (it_q2 (by first | omega | (dsimp only; omega)) (it_q1 (by first | omega | (dsimp only; omega)) (it_q2 (by first | omega | (dsimp only; omega)) (it_q2 (by first | omega | (dsimp only; omega)) (it_q2 (by first | omega | (dsimp only; omega)) (it_q2 (by first | omega | (dsimp only; omega)) (it_q2 (by first | omega | (dsimp only; omega)) (it_q2 (by first | omega | (dsimp only; omega)) (it_q2 (by first | omega | (dsimp only; omega)) (it_q2 (by first | omega | (dsimp only; omega)) (it_q2 (by first | omega | (dsimp only; omega)) (it_q2 (by first | omega | (dsimp only; omega)) (it_q2 (by first | omega | (dsimp only; omega)) (it_q2 (by first | omega | (dsimp only; omega)) (it_q2 (by first | omega | (dsimp only; omega)) (it_q1 (by first | omega | (dsimp only; omega)) (bd_q g1 (nm_q (rfl)))))))))))))))))))))))
    · refine ⟨st, ?_, hc16 (o := none) (it_q2 (by first | omega | (dsimp only; omega)) (it_q2 (by first | omega | (dsimp only; omega)) (it_q1 (by first | omega | (dsimp only; omega)) rfl)))⟩
      have := (HR_st hH).1
      refine (gd_q hg (it_q2 (by first | omega | (dsimp only; omega)) (it_q1 (by first | omega | (dsimp only; omega)) (it_q1 (by first | omega | (dsimp only; omega)) (it_q2 (by first | omega | (dsimp only; omega)) (it_q1 (by first | omega | (dsimp only; omega)) (it_q2 (by first | omega | (dsimp only; omega)) (it_q2 (by first | omega | (dsimp only; omega)) (it_q2 (by first | omega | (dsimp only; omega)) (it_q2 (by first | omega | (dsimp only; omega)) (it_q2 (by first | omega | (dsimp only; omega)) (it_q2 (by first | omega | (dsimp only; omega)) (it_q2 (by first | omega | (dsimp only; omega)) (it_q2 (by first | omega | (dsimp only; omega)) (it_q2 (by first | omega | (dsimp only; omega)) (it_q2 (by first | omega | (dsimp only; omega)) (it_q2 (by first | omega | (dsimp only; omega)) (it_q2 (by first | omega | (dsimp only; omega)) (it_q2 (by first | omega | (dsimp only; omega)) (it_q2 (by first | omega | (dsimp only; omega)) (it_q1 (by first | omega | (dsimp only; omega)) (?_))))))))))))))))))))))
      show some (H.1, _) = _
      rw [this]
    · refine ⟨le, ?_, hc16 (o := none) (it_q2 (by first | omega | (dsimp only; omega)) (it_q2 (by first | omega | (dsimp only; omega)) (it_q2 (by first | omega | (dsimp only; omega)) (it_q1 (by first | omega | (dsimp only; omega)) rfl))))⟩
      obtain ⟨L, t1, t2, t3, t4⟩ := hT
      refine (gd_q hg (it_q2 (by first | omega | (dsimp only; omega)) (it_q1 (by first | omega | (dsimp only; omega)) (it_q1 (by first | omega | (dsimp only; omega)) (it_q2 (by first | omega | (dsimp only; omega)) (it_q1 (by first | omega | (dsimp only; omega)) (it_q2 (by first | omega | (dsimp only; omega)) (it_q2 (by first | omega | (dsimp only; omega)) (it_q2 (by first | omega | (dsimp only; omega)) (it_q2 (by first | omega | (dsimp only; omega)) (it_q2 (by first | omega | (dsimp only; omega)) (it_q2 (by first | omega | (dsimp only; omega)) (it_q2 (by first | omega | (dsimp only; omega)) (it_q2 (by first | omega | (dsimp only; omega)) (it_q2 (by first | omega | (dsimp only; omega)) (it_q2 (by first | omega | (dsimp only; omega)) (it_q2 (by first | omega | (dsimp only; omega)) (it_q2 (by first | omega | (dsimp only; omega)) (it_q2 (by first | omega | (dsimp only; omega)) (it_q2 (by first | omega | (dsimp only; omega)) (it_q2 (by first | omega | (dsimp only; omega)) (?_))))))))))))))))))))))
      show some (l, _) = _
      rw [t2, t3]
  · rw [if_neg e1] at hin
    refine ⟨-2, ?_, bd_q hin (gd_q (rg_of (by first | omega | (dsimp only; omega))) (it_q1 rfl rfl))⟩
    by_cases e2 : a < 0
    · exact gd_q ha (it_q1 e2 rfl)
    · exact gd_q ha (it_q2 e2 (it_q2 (by first | omega | (dsimp only; omega)) rfl))
theorem s_goesTo {N : Nat} (hN : 1300 ≤ N) {a : Int} (ha : rg a = true) : SIM (f_X7_goesTo N a) (f_X8_goesTo N a) := by
  rintro ⟨⟨B, s, l⟩, O, H, S, P, V, hs⟩ ⟨r, hi, st, sn, ik, as, li, lm, tx, le, sp, re, rd⟩ ⟨hT, hH, hS, hK⟩
  dsimp only at hT hH hS hK
  have hS0 := hS
  obtain ⟨n, hC, hR⟩ := hS
  have h40 := CI_40 hC
  have c1 := has_eq ha hC.1.1 h40.1
  have m1 := isB_eq (m := (hi, st, sn, ik, as, li, lm, tx, le, sp, re, rd)) ha (R1_n hR) h40.1
  suffices hv : ∃ v, f_X7_goesTo N a ((B, s, l), O, H, S, P, V, hs) = some (v, ((B, s, l), O, H, S, P, V, hs)) ∧ f_X8_goesTo N a (r, hi, st, sn, ik, as, li, lm, tx, le, sp, re, rd) = some (v, (r, hi, st, sn, ik, as, li, lm, tx, le, sp, re, rd)) by
    obtain ⟨v, g1, g2⟩ := hv
    exact ⟨v, _, _, g1, g2, ⟨hT, hH, hS0, hK⟩⟩
  by_cases e1 : 0 ≤ a ∧ a < (n : Int)
  · rw [if_pos e1] at c1 m1
    obtain ⟨b, rfl⟩ : ∃ b : Nat, a = (b : Int) := ⟨a.toNat, by omega⟩
    have hb : b < n := by omega
    have hpb := bin_rg hC hb
    obtain ⟨q1, q2, q3, q4, q5⟩ := CI_b hC hb
    have f5 : r (55 + 9 * b + 5) = S.2.1.1 b := R1_f hR hb (by omega)
    have f1 : r (55 + 9 * b + 1) = S.1.2.1 b := R1_f hR hb (by omega)
    have f2 : r (55 + 9 * b + 2) = S.1.2.2.1 b := R1_f hR hb (by omega)
    have f3 : r (55 + 9 * b + 3) = S.1.2.2.2.1 b := R1_f hR hb (by omega)
    have f0 : r (55 + 9 * b + 0) = S.1.1 b := R1_f hR hb (by omega)
    have hsr := SI_rg hC.2.1
    have hset := hR.1.1
    by_cases e2 : S.2.1.1 b = 0
    · have hat := PI_at hC.2.2 (q := 2) (by omega)
      have hpc := placeFor_eq (N := N) (b := b) (bb := (b : Int)) (z := S) (by omega) (by omega) rfl hC.2.1 (by omega) q1 q4 q3 (by omega) (fun q hq => by have := PI_ib hC.2.2 hq; omega)
      have hpm := placeForM_eq (b := b) (bb := (b : Int)) (r := r) (m := (hi, st, sn, ik, as, li, lm, tx, le, sp, re, rd)) (by omega) rfl (fun k hk => by rw [hset k hk]; exact hsr k hk) (by rw [f1]; exact (rg_of (by first | omega | (dsimp only; omega)))) (by rw [f2]; exact (rg_of (by first | omega | (dsimp only; omega)))) (by rw [f3]; exact (rg_of (by first | omega | (dsimp only; omega))))
      have hma := atR (N := N) (m := (hi, st, sn, ik, as, li, lm, tx, le, sp, re, rd)) (q := 2) (qq := 2) (by omega) hC hR (by omega) rfl
      have p2 : r 2 = S.2.2.1 2 := hset 2 (by omega)
      have p3 : r 3 = S.2.2.1 3 := hset 3 (by omega)
      have p4 : r 4 = S.2.2.1 4 := hset 4 (by omega)
      have p5 : r 5 = S.2.2.1 5 := hset 5 (by omega)
      have p6 : r 6 = S.2.2.1 6 := hset 6 (by omega)
      have s5 := hsr 5 (by omega)
      have s6 := hsr 6 (by omega)
      obtain ⟨hbf, hbl⟩ := binFor_eq (N := N) (b := b) (bb := (b : Int)) (z := S) (by omega) (by omega) rfl hC.2.1 (by omega) q1
      have hbo := binOf_eq (b := b) (bb := (b : Int)) (r := r) (s := S.2.2.1) (m := (hi, st, sn, ik, as, li, lm, tx, le, sp, re, rd)) (by omega) rfl hset hsr (by omega)
      have hbinE : 4 * (mcl S.2.2.1 (r (55 + 9 * b + 1)) : Int) + r (55 + 9 * b + 0) - 1 = (binN S b : Int) := by
        rw [f0, f1]
        unfold binN
        have := mcl_lt S.2.2.1 (S.1.2.1 b)
        omega
      rw [hbinE] at hbo
      have hmi := manyR (N := N) (m := (hi, st, sn, ik, as, li, lm, tx, le, sp, re, rd)) (q := binN S b) (qq := (binN S b : Int)) (by omega) hC hR hbl rfl
      have hib := PI_ib hC.2.2 hbl
      have hx : f_X7_goesTo N (b : Int) ((B, s, l), O, H, S, P, V, hs) = some (plcS b S, ((B, s, l), O, H, S, P, V, hs)) := bd_q c1 (nm_q (gd_q (rg_of (by first | omega | (dsimp only; omega))) (it_q2 (by first | omega | (dsimp only; omega)) (gd_q (inb_of (by first | omega | (dsimp only; omega))) (gd_q (by rw [tn]; exact (rg_of (by first | omega | (dsimp only; omega)))) (it_q1 e2 (bd_q hpc (nm_q rfl))))))))
      refine ⟨_, hx, ?_⟩
      refine bd_q m1 (gd_q (rg_of (by first | omega | (dsimp only; omega))) (it_q2 (by first | omega | (dsimp only; omega)) (bd_q (of_eq (b := b) (k := 5) (by omega) (by omega) rfl rfl) (gd_q (rg_of (by first | omega | (dsimp only; omega))) (it_q1 (by first | omega | (dsimp only; omega)) (bd_q hpm ?_))))))
      dsimp only
      by_cases c1 : S.2.2.1 3 < S.1.2.2.2.1 b
      · have t1 : plcS b S = 1 := by unfold plcS; rw [if_pos c1]
        have t2 : plcM b r = 1 := by unfold plcM; rw [if_pos (by omega)]
        rw [t1, t2]
        exact gd_q (by decide) (it_q2 (by decide) (it_q2 (by decide) rfl))
      by_cases c2 : S.2.2.1 4 ≤ S.1.2.2.1 b
      · have t2 : plcM b r = 2 := by unfold plcM; rw [if_neg (by omega), if_pos (by omega)]
        rw [t2]
        refine gd_q (by decide) (it_q1 (by decide) (bd_q hma (gd_q (rg_of (by first | omega | (dsimp only; omega))) (gd_q (rg_of (by first | omega | (dsimp only; omega))) ?_))))
        by_cases c3 : S.2.2.1 5 ≤ S.2.1.2.2.2.2.1 2 + 1
        · have t1 : plcS b S = 3 := by unfold plcS; rw [if_neg c1, if_pos c2, if_pos c3]
          rw [t1]
          exact it_q2 (by first | omega | (dsimp only; omega)) rfl
        · have t1 : plcS b S = 2 := by unfold plcS; rw [if_neg c1, if_pos c2, if_neg c3]
          rw [t1]
          exact it_q1 (by first | omega | (dsimp only; omega)) rfl
      by_cases c3 : S.2.2.1 2 < S.1.2.1 b
      · have t1 : plcS b S = 4 := by unfold plcS; rw [if_neg c1, if_neg c2, if_pos c3]
        have t2 : plcM b r = 4 := by unfold plcM; rw [if_neg (by omega), if_neg (by omega), if_pos (by omega)]
        rw [t1, t2]
        exact gd_q (by decide) (it_q2 (by decide) (it_q2 (by decide) rfl))
      have t2 : plcM b r = 5 := by unfold plcM; rw [if_neg (by omega), if_neg (by omega), if_neg (by omega)]
      rw [t2]
      refine gd_q (by decide) (it_q2 (by decide) (it_q1 (by decide) (bd_q hbo (bd_q hmi (gd_q (rg_of (by first | omega | (dsimp only; omega))) (gd_q (rg_of (by first | omega | (dsimp only; omega))) ?_))))))
      by_cases c4 : S.2.1.2.2.2.2.2 (binN S b) < S.2.2.1 6
      · have t1 : plcS b S = 5 := by unfold plcS; rw [if_neg c1, if_neg c2, if_neg c3, if_pos c4]
        rw [t1]
        exact it_q1 (by first | omega | (dsimp only; omega)) rfl
      · have t1 : plcS b S = 0 := by unfold plcS; rw [if_neg c1, if_neg c2, if_neg c3, if_neg c4]
        rw [t1]
        exact it_q2 (by first | omega | (dsimp only; omega)) rfl
    · refine ⟨-4, ?_, ?_⟩
      · exact bd_q c1 (nm_q (gd_q (rg_of (by first | omega | (dsimp only; omega))) (it_q2 (by first | omega | (dsimp only; omega)) (gd_q (inb_of (by first | omega | (dsimp only; omega))) (gd_q (by rw [tn]; exact (rg_of (by first | omega | (dsimp only; omega)))) (it_q2 e2 rfl))))))
      · exact bd_q m1 (gd_q (rg_of (by first | omega | (dsimp only; omega))) (it_q2 (by first | omega | (dsimp only; omega)) (bd_q (of_eq (b := b) (k := 5) (by omega) (by omega) rfl rfl) (gd_q (rg_of (by first | omega | (dsimp only; omega))) (it_q2 (by first | omega | (dsimp only; omega)) rfl)))))
  · rw [if_neg e1] at c1 m1
    refine ⟨-1, ?_, ?_⟩
    · exact bd_q c1 (nm_q (gd_q (rg_of (by first | omega | (dsimp only; omega))) (it_q1 rfl rfl)))
    · exact bd_q m1 (gd_q (rg_of (by first | omega | (dsimp only; omega))) (it_q1 rfl rfl))
