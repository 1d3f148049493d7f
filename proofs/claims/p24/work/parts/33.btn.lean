/-! calls about one button -/
theorem has_eq {a : Int} {u : bU} {n : Nat} (ha : rg a = true) (hn : u.2.2.2.2.2.2 = (n : Int)) (h40 : n ≤ 40) : f_X1_has a u = some (if 0 ≤ a ∧ a < (n : Int) then 1 else 0, u) := by
  unfold f_X1_has
  refine gd_q ha ?_
  by_cases e : a < 0
  · rw [if_neg (show ¬ (0 ≤ a ∧ a < (n : Int)) by omega)]
    exact it_q1 e rfl
  · refine it_q2 e (gd_q (rg_of (by first | omega | (dsimp only; omega))) ?_)
    by_cases e2 : u.2.2.2.2.2.2 ≤ a
    · rw [if_neg (show ¬ (0 ≤ a ∧ a < (n : Int)) by omega)]
      exact it_q1 e2 rfl
    · rw [if_pos (show 0 ≤ a ∧ a < (n : Int) by omega)]
      exact it_q2 e2 rfl
theorem isB_eq {a : Int} {r : Nat → Int} {m : bm} {n : Nat} (ha : rg a = true) (hn : r 13 = (n : Int)) (h40 : n ≤ 40) : f_X8_isButton a (r, m) = some (if 0 ≤ a ∧ a < (n : Int) then 1 else 0, (r, m)) := by
  unfold f_X8_isButton
  dsimp only
  rw [hn]
  refine bd_q (in_eq ha (by decide) (rg_of (by first | omega | (dsimp only; omega)))) ?_
  by_cases e : 0 ≤ a ∧ a < (n : Int)
  · rw [if_pos (show 0 ≤ a ∧ a ≤ (n : Int) - 1 by omega), if_pos e]
    exact gd_q (by decide) rfl
  · rw [if_neg (show ¬ (0 ≤ a ∧ a ≤ (n : Int) - 1) by omega), if_neg e]
    exact gd_q (by decide) rfl
def brS (b : Nat) (z : bS) : bS := ((z.1.1, z.1.2.1, z.1.2.2.1, up z.1.2.2.2.1 b (if z.1.2.2.2.1 b ≤ 0 then 0 else z.1.2.2.2.1 b - 1), up z.1.2.2.2.2.1 b (z.1.2.2.2.2.1 b + 1), z.1.2.2.2.2.2), z.2)
theorem brighten_eq {b n : Nat} {bb : Int} {z : bS} (hC : CI z n) (hb : b < n) (e : bb = (b : Int)) : f_X1_brighten bb z.1 = some (brS b z).1 := by
  subst e
  have h40 := CI_40 hC
  obtain ⟨q1, q2, q3, q4, q5⟩ := CI_b hC hb
  unfold f_X1_brighten brS
  refine gd_q (inb_of (by first | omega | (dsimp only; omega))) (nm_q ?_)
  dsimp only [tn]
  refine gd_q (rg_of (by omega)) ?_
  by_cases c : z.1.2.2.2.1 b ≤ 0
  · refine it_q1 c ?_
    have : up z.1.2.2.2.1 b 0 = z.1.2.2.2.1 := by rw [show (0 : Int) = z.1.2.2.2.1 b by omega, up_id]
    rw [if_pos c, this]
  · refine it_q2 c (nm_q ?_)
    rw [if_neg c]
theorem br_RS {n b : Nat} {z : bS} {r : Nat → Int} (hC : CI z n) (hR : R1 z r n) (hb : b < n) (h9 : z.1.2.2.2.2.1 b < 9) : CI (brS b z) n ∧ R1 (brS b z) (up (up r (55 + 9 * b + 4) (z.1.2.2.2.2.1 b + 1)) (55 + 9 * b + 3) (if z.1.2.2.2.1 b ≤ 0 then 0 else z.1.2.2.2.1 b - 1)) n := by
  have h40 := CI_40 hC
  have hq := CI_b hC hb
  refine ⟨⟨⟨hC.1.1, hC.1.2.1, fun x hx => ?_⟩, hC.2.1, hC.2.2⟩, ?_, ?_⟩
  · obtain ⟨q1, q2, q3, q4, q5⟩ := CI_b hC hx
    refine ⟨q1, q2, q3, ?_, ?_⟩
    · show 0 ≤ up z.1.2.2.2.1 b (if z.1.2.2.2.1 b ≤ 0 then 0 else z.1.2.2.2.1 b - 1) x ∧ up z.1.2.2.2.1 b (if z.1.2.2.2.1 b ≤ 0 then 0 else z.1.2.2.2.1 b - 1) x ≤ 9
      by_cases e : x = b
      · subst e
        rw [up_s]
        split <;> omega
      · rw [up_n _ _ e]
        exact q4
    · show 0 ≤ up z.1.2.2.2.2.1 b (z.1.2.2.2.2.1 b + 1) x ∧ up z.1.2.2.2.2.1 b (z.1.2.2.2.2.1 b + 1) x ≤ 9
      by_cases e : x = b
      · subst e
        rw [up_s]
        omega
      · rw [up_n _ _ e]
        exact q5
  · exact RH_eq (z := brS b z) hR.1 h40.2.2 (fun j hj => by rw [up_hi hj, up_hi hj])
  · have h1' := RB_put (b0 := b) (k0 := 4) (v := z.1.2.2.2.2.1 b + 1) (F' := fun k x => if x = b ∧ k = 4 then z.1.2.2.2.2.1 b + 1 else fld z k x) hR.2 (by omega) (fun _ _ _ _ => rfl)
    have h2' := RB_put (b0 := b) (k0 := 3) (v := (if z.1.2.2.2.1 b ≤ 0 then 0 else z.1.2.2.2.1 b - 1)) (F' := fun k x => if x = b ∧ k = 3 then (if z.1.2.2.2.1 b ≤ 0 then 0 else z.1.2.2.2.1 b - 1) else if x = b ∧ k = 4 then z.1.2.2.2.2.1 b + 1 else fld z k x) h1' (by omega) (fun _ _ _ _ => rfl)
    refine RB_F h2' (fun x k hx hk => ?_)
    by_cases e : x = b
    · subst e
      rcases (show k = 0 ∨ k = 1 ∨ k = 2 ∨ k = 3 ∨ k = 4 ∨ k = 5 ∨ k = 6 ∨ k = 7 ∨ k = 8 by omega) with rfl | rfl | rfl | rfl | rfl | rfl | rfl | rfl | rfl <;> simp [fld, brS, up_s]
    · rcases (show k = 0 ∨ k = 1 ∨ k = 2 ∨ k = 3 ∨ k = 4 ∨ k = 5 ∨ k = 6 ∨ k = 7 ∨ k = 8 by omega) with rfl | rfl | rfl | rfl | rfl | rfl | rfl | rfl | rfl <;> simp [fld, brS, up_n _ _ e, e]
theorem s_polish {N : Nat} (hN : 1300 ≤ N) {a : Int} (ha : rg a = true) : SIM (f_X7_polish a) (f_X8_polish N a) := by
  rintro ⟨⟨B, s, l⟩, O, H, S, P, V, hs⟩ ⟨r, hi, st, sn, ik, as, li, lm, tx, le, sp, re, rd⟩ ⟨hT, hH, hS, hK⟩
  dsimp only at hT hH hS hK
  have hS0 := hS
  obtain ⟨n, hC, hR⟩ := hS
  have h40 := CI_40 hC
  have c1 := has_eq ha hC.1.1 h40.1
  have m1 := isB_eq (m := (hi, st, sn, ik, as, li, lm, tx, le, sp, re, rd)) ha (R1_n hR) h40.1
  by_cases e1 : 0 ≤ a ∧ a < (n : Int)
  · rw [if_pos e1] at c1 m1
    obtain ⟨b, rfl⟩ : ∃ b : Nat, a = (b : Int) := ⟨a.toNat, by omega⟩
    have hb : b < n := by omega
    have f5 : r (55 + 9 * b + 5) = S.2.1.1 b := R1_f hR hb (by omega)
    have f4 : r (55 + 9 * b + 4) = S.1.2.2.2.2.1 b := R1_f hR hb (by omega)
    have f3 : r (55 + 9 * b + 3) = S.1.2.2.2.1 b := R1_f hR hb (by omega)
    have hpb := bin_rg hC hb
    obtain ⟨q1, q2, q3, q4, q5⟩ := CI_b hC hb
    by_cases e2 : S.2.1.1 b = 6
    · refine ⟨-4, ((B, s, l), O, H, S, P, V, hs), (r, hi, st, sn, ik, as, li, lm, tx, le, sp, re, rd), ?_, ?_, ⟨hT, hH, hS0, hK⟩⟩
      · exact bd_q c1 (nm_q (gd_q (rg_of (by first | omega | (dsimp only; omega))) (it_q2 (by first | omega | (dsimp only; omega)) (gd_q (inb_of (by first | omega | (dsimp only; omega))) (gd_q (by rw [tn]; exact (rg_of (by first | omega | (dsimp only; omega)))) (it_q1 e2 rfl))))))
      · exact bd_q m1 (gd_q (rg_of (by first | omega | (dsimp only; omega))) (it_q2 (by first | omega | (dsimp only; omega)) (bd_q (of_eq (b := b) (k := 5) (by omega) (by omega) rfl rfl) (gd_q (rg_of (by first | omega | (dsimp only; omega))) (it_q1 (by first | omega | (dsimp only; omega)) rfl)))))
    · by_cases e3 : S.1.2.2.2.2.1 b < 9
      · obtain ⟨h', hi', st', g1, g2, g3⟩ := rem_eq (t := (sn, ik, as, li, lm, tx, le, sp, re, rd)) hN hH hS0
        obtain ⟨w1, w2⟩ := br_RS hC hR hb e3
        have w3 := brighten_eq (bb := (b : Int)) hC hb rfl
        refine ⟨S.1.2.2.2.2.1 b + 1, ((B, s, l), O, h', brS b S, P, V, hs), (up (up r (55 + 9 * b + 4) (S.1.2.2.2.2.1 b + 1)) (55 + 9 * b + 3) (if S.1.2.2.2.1 b ≤ 0 then 0 else S.1.2.2.2.1 b - 1), hi', st', sn, ik, as, li, lm, tx, le, sp, re, rd), ?_, ?_, ⟨hT, g3, ⟨n, w1, w2⟩, hK⟩⟩
        · refine bd_q c1 (nm_q (gd_q (rg_of (by first | omega | (dsimp only; omega))) (it_q2 (by first | omega | (dsimp only; omega)) (gd_q (inb_of (by first | omega | (dsimp only; omega))) (gd_q (by rw [tn]; exact (rg_of (by first | omega | (dsimp only; omega)))) (it_q2 e2 (gd_q (by rw [tn]; exact (rg_of (by first | omega | (dsimp only; omega)))) (it_q1 e3 (bd_q g1 (nm_q (nm_q (bd_q w3 (nm_q ?_)))))))))))))
          show some (up S.1.2.2.2.2.1 b (S.1.2.2.2.2.1 b + 1) b, _) = _
          rw [up_s]
          rfl
        · refine bd_q m1 (gd_q (rg_of (by first | omega | (dsimp only; omega))) (it_q2 (by first | omega | (dsimp only; omega)) (bd_q (of_eq (b := b) (k := 5) (by omega) (by omega) rfl rfl) (gd_q (rg_of (by first | omega | (dsimp only; omega))) (it_q2 (by first | omega | (dsimp only; omega)) (bd_q (of_eq (b := b) (k := 4) (by omega) (by omega) rfl rfl) (gd_q (rg_of (by first | omega | (dsimp only; omega))) (it_q2 (by first | omega | (dsimp only; omega)) (bd_q g2 ?_)))))))))
          refine bd_q (of_eq (b := b) (k := 4) (by omega) (by omega) rfl rfl) ?_
          refine bd_q (put_eq (b := b) (k := 4) (by omega) (by omega) rfl rfl) ?_
          dsimp only
          rw [f4]
          refine bd_q (of_eq (b := b) (k := 3) (by omega) (by omega) rfl rfl) ?_
          dsimp only
          rw [up_n _ _ (show 55 + 9 * b + 3 ≠ 55 + 9 * b + 4 by omega), f3]
          refine gd_q (rg_of (by first | omega | (dsimp only; omega))) ?_
          by_cases c : S.1.2.2.2.1 b ≤ 0
          · refine it_q1 c ?_
            rw [if_pos c]
            refine bd_q (put_eq (b := b) (k := 3) (by omega) (by omega) rfl rfl) ?_
            refine bd_q (of_eq (b := b) (k := 4) (by omega) (by omega) rfl rfl) ?_
            dsimp only
            rw [up_n _ _ (show 55 + 9 * b + 4 ≠ 55 + 9 * b + 3 by omega), up_s]
          · refine it_q2 c ?_
            rw [if_neg c]
            refine bd_q (of_eq (b := b) (k := 3) (by omega) (by omega) rfl rfl) ?_
            dsimp only
            rw [up_n _ _ (show 55 + 9 * b + 3 ≠ 55 + 9 * b + 4 by omega), f3]
            refine bd_q (put_eq (b := b) (k := 3) (by omega) (by omega) rfl rfl) ?_
            refine bd_q (of_eq (b := b) (k := 4) (by omega) (by omega) rfl rfl) ?_
            dsimp only
            rw [up_n _ _ (show 55 + 9 * b + 4 ≠ 55 + 9 * b + 3 by omega), up_s]
      · refine ⟨-4, ((B, s, l), O, H, S, P, V, hs), (r, hi, st, sn, ik, as, li, lm, tx, le, sp, re, rd), ?_, ?_, ⟨hT, hH, hS0, hK⟩⟩
        · exact bd_q c1 (nm_q (gd_q (rg_of (by first | omega | (dsimp only; omega))) (it_q2 (by first | omega | (dsimp only; omega)) (gd_q (inb_of (by first | omega | (dsimp only; omega))) (gd_q (by rw [tn]; exact (rg_of (by first | omega | (dsimp only; omega)))) (it_q2 e2 (gd_q (by rw [tn]; exact (rg_of (by first | omega | (dsimp only; omega)))) (it_q2 e3 rfl))))))))
        · exact bd_q m1 (gd_q (rg_of (by first | omega | (dsimp only; omega))) (it_q2 (by first | omega | (dsimp only; omega)) (bd_q (of_eq (b := b) (k := 5) (by omega) (by omega) rfl rfl) (gd_q (rg_of (by first | omega | (dsimp only; omega))) (it_q2 (by first | omega | (dsimp only; omega)) (bd_q (of_eq (b := b) (k := 4) (by omega) (by omega) rfl rfl) (gd_q (rg_of (by first | omega | (dsimp only; omega))) (it_q1 (by first | omega | (dsimp only; omega)) rfl))))))))
  · rw [if_neg e1] at c1 m1
    refine ⟨-1, ((B, s, l), O, H, S, P, V, hs), (r, hi, st, sn, ik, as, li, lm, tx, le, sp, re, rd), ?_, ?_, ⟨hT, hH, hS0, hK⟩⟩
    · exact bd_q c1 (nm_q (gd_q (rg_of (by first | omega | (dsimp only; omega))) (it_q1 rfl rfl)))
    · exact bd_q m1 (gd_q (rg_of (by first | omega | (dsimp only; omega))) (it_q1 rfl rfl))
/-- the rank in the hopper: the class stops at the first, the model takes the last -/
theorem rkM_none {N n : Nat} {z : bS} {r : Nat → Int} {m : bm} {b : Nat} (hC : CI z n) (hR : R1 z r n) (hb : b < n) (w : Nat) (hw : z.2.1.2.2.2.2.1 0 = (w : Int)) (acc : Int) : ∀ d i, i + d = w → (∀ j, i ≤ j → j < w → z.2.1.2.2.2.1 j ≠ (b : Int)) → ∀ k, d < k → f_X8_rankInHopper_L5 N k (b : Int) acc (i : Int) (r, m) = some (acc, (r, m)) := by
  have h40 := CI_40 hC
  have h14 : r 14 = (w : Int) := hR.1.2.2.2.1.trans hw
  intro d
  induction d with
  | zero =>
    intro i hi hj k hk
    obtain ⟨k, rfl⟩ : ∃ j, k = j + 1 := ⟨k - 1, by omega⟩
    rw [f_X8_rankInHopper_L5]
    exact gd_q (rg_of (by first | omega | (dsimp only; omega))) (gd_q (rg_of (by first | omega | (dsimp only; omega))) (it_q1 (by first | omega | (dsimp only; omega)) rfl))
  | succ d ih =>
    intro i hi hj k hk
    obtain ⟨k, rfl⟩ : ∃ j, k = j + 1 := ⟨k - 1, by omega⟩
    have hh : r (15 + i) = z.2.1.2.2.2.1 i := hR.1.2.2.2.2 i (by omega)
    obtain ⟨w', w1, w2, w3⟩ := hC.2.2.2.2
    obtain ⟨x, x1, x2, x3⟩ := w2 i (by omega)
    have hne := hj i (by omega) (by omega)
    rw [f_X8_rankInHopper_L5]
    refine gd_q (rg_of (by first | omega | (dsimp only; omega))) (gd_q (rg_of (by first | omega | (dsimp only; omega))) (it_q2 (by first | omega | (dsimp only; omega)) (gd_q (inb_of (by first | omega | (dsimp only; omega))) ?_)))
    dsimp only
    rw [show (15 + (i : Int)).toNat = 15 + i by omega]
    exact gd_q (rg_of (by first | omega | (dsimp only; omega))) (gd_q (rg_of (by first | omega | (dsimp only; omega))) (it_q2 (fun hc => hne (hh.symm.trans hc)) (ih (i + 1) (by omega) (fun j h1 h2 => hj j (by omega) h2) k (by omega))))
theorem rank_loop {N n : Nat} {z : bS} {r : Nat → Int} {m : bm} {b : Nat} (hC : CI z n) (hR : R1 z r n) (hb : b < n) (w : Nat) (hw : z.2.1.2.2.2.2.1 0 = (w : Int)) : ∀ d i, i + d = w → ∀ k k', d < k → d < k' → ∃ v, f_X4_rankInHopper_L2 N k (b : Int) (i : Int) z.2.1 = some (v, z.2.1) ∧ f_X8_rankInHopper_L5 N k' (b : Int) (-5) (i : Int) (r, m) = some (v, (r, m)) := by
  have h40 := CI_40 hC
  have h14 : r 14 = (w : Int) := hR.1.2.2.2.1.trans hw
  intro d
  induction d with
  | zero =>
    intro i hi k k' hk hk'
    obtain ⟨k, rfl⟩ : ∃ j, k = j + 1 := ⟨k - 1, by omega⟩
    obtain ⟨k', rfl⟩ : ∃ j, k' = j + 1 := ⟨k' - 1, by omega⟩
    refine ⟨-5, ?_, ?_⟩
    · rw [f_X4_rankInHopper_L2]
      by_cases c40 : (40 : Int) ≤ (i : Int)
      · exact (gd_q (rg_of (by first | omega | (dsimp only; omega))) (it_q1 c40 (rfl)))
      · exact (gd_q (rg_of (by first | omega | (dsimp only; omega))) (it_q2 c40 (gd_q (rg_of (by first | omega | (dsimp only; omega))) (it_q1 (by first | omega | (dsimp only; omega)) (rfl)))))
    · rw [f_X8_rankInHopper_L5]
      exact gd_q (rg_of (by first | omega | (dsimp only; omega))) (gd_q (rg_of (by first | omega | (dsimp only; omega))) (it_q1 (by first | omega | (dsimp only; omega)) rfl))
  | succ d ih =>
    intro i hi k k' hk hk'
    obtain ⟨k, rfl⟩ : ∃ j, k = j + 1 := ⟨k - 1, by omega⟩
    obtain ⟨k', rfl⟩ : ∃ j, k' = j + 1 := ⟨k' - 1, by omega⟩
    have hh : r (15 + i) = z.2.1.2.2.2.1 i := hR.1.2.2.2.2 i (by omega)
    obtain ⟨w', w1, w2, w3⟩ := hC.2.2.2.2
    obtain ⟨x, x1, x2, x3⟩ := w2 i (by omega)
    by_cases e : z.2.1.2.2.2.1 i = (b : Int)
    · refine ⟨(i : Int), ?_, ?_⟩
      · rw [f_X4_rankInHopper_L2]
        exact gd_q (rg_of (by first | omega | (dsimp only; omega))) (it_q2 (by first | omega | (dsimp only; omega)) (gd_q (rg_of (by first | omega | (dsimp only; omega))) (it_q2 (by first | omega | (dsimp only; omega)) (gd_q (inb_of (by first | omega | (dsimp only; omega))) (gd_q (by rw [tn]; exact (rg_of (by first | omega | (dsimp only; omega)))) (gd_q (rg_of (by first | omega | (dsimp only; omega))) (it_q1 e rfl)))))))
      · rw [f_X8_rankInHopper_L5]
        refine gd_q (rg_of (by first | omega | (dsimp only; omega))) (gd_q (rg_of (by first | omega | (dsimp only; omega))) (it_q2 (by first | omega | (dsimp only; omega)) (gd_q (inb_of (by first | omega | (dsimp only; omega))) ?_)))
        dsimp only
        rw [show (15 + (i : Int)).toNat = 15 + i by omega]
        refine gd_q (rg_of (by first | omega | (dsimp only; omega))) (gd_q (rg_of (by first | omega | (dsimp only; omega))) (it_q1 (hh.trans e) ?_))
        refine rkM_none (N := N) (m := m) hC hR hb w hw (i : Int) d (i + 1) (by omega) (fun j h1 h2 => ?_) k' (by omega)
        have := w3 i j (by omega) (by omega)
        rw [e] at this
        exact fun h => this h.symm
    · obtain ⟨v, g1, g2⟩ := ih (i + 1) (by omega) k k' (by omega) (by omega)
      refine ⟨v, ?_, ?_⟩
      · rw [f_X4_rankInHopper_L2]
        exact gd_q (rg_of (by first | omega | (dsimp only; omega))) (it_q2 (by first | omega | (dsimp only; omega)) (gd_q (rg_of (by first | omega | (dsimp only; omega))) (it_q2 (by first | omega | (dsimp only; omega)) (gd_q (inb_of (by first | omega | (dsimp only; omega))) (gd_q (by rw [tn]; exact (rg_of (by first | omega | (dsimp only; omega)))) (gd_q (rg_of (by first | omega | (dsimp only; omega))) (it_q2 e g1)))))))
      · rw [f_X8_rankInHopper_L5]
        refine gd_q (rg_of (by first | omega | (dsimp only; omega))) (gd_q (rg_of (by first | omega | (dsimp only; omega))) (it_q2 (by first | omega | (dsimp only; omega)) (gd_q (inb_of (by first | omega | (dsimp only; omega))) ?_)))
        dsimp only
        rw [show (15 + (i : Int)).toNat = 15 + i by omega]
        exact gd_q (rg_of (by first | omega | (dsimp only; omega))) (gd_q (rg_of (by first | omega | (dsimp only; omega))) (it_q2 (fun hc => e (hh.symm.trans hc)) g2))
theorem s_button {N : Nat} (hN : 1300 ≤ N) {a w : Int} (ha : rg a = true) (hw : rg w = true) : SIM (f_X7_button N a w) (f_X8_button N a w) := by
  rintro ⟨⟨B, s, l⟩, O, H, S, P, V, hs⟩ ⟨r, hi, st, sn, ik, as, li, lm, tx, le, sp, re, rd⟩ ⟨hT, hH, hS, hK⟩
  dsimp only at hT hH hS hK
  have hS0 := hS
  obtain ⟨n, hC, hR⟩ := hS
  have h40 := CI_40 hC
  have c1 := has_eq ha hC.1.1 h40.1
  have m1 := isB_eq (m := (hi, st, sn, ik, as, li, lm, tx, le, sp, re, rd)) ha (R1_n hR) h40.1
  suffices hv : ∃ v, f_X7_button N a w ((B, s, l), O, H, S, P, V, hs) = some (v, ((B, s, l), O, H, S, P, V, hs)) ∧ f_X8_button N a w (r, hi, st, sn, ik, as, li, lm, tx, le, sp, re, rd) = some (v, (r, hi, st, sn, ik, as, li, lm, tx, le, sp, re, rd)) by
    obtain ⟨v, g1, g2⟩ := hv
    exact ⟨v, _, _, g1, g2, ⟨hT, hH, hS0, hK⟩⟩
  by_cases e1 : 0 ≤ a ∧ a < (n : Int)
  · rw [if_pos e1] at c1 m1
    obtain ⟨b, rfl⟩ : ∃ b : Nat, a = (b : Int) := ⟨a.toNat, by omega⟩
    have hb : b < n := by omega
    have hf : ∀ k, k < 9 → r (55 + 9 * b + k) = fld S k b := fun k hk => R1_f hR hb hk
    have ho : ∀ (k : Nat) (kk : Int), k < 9 → kk = (k : Int) → f_X8_of (b : Int) kk (r, hi, st, sn, ik, as, li, lm, tx, le, sp, re, rd) = some (fld S k b, (r, hi, st, sn, ik, as, li, lm, tx, le, sp, re, rd)) := fun k kk hk e => by
      rw [← hf k hk]
      exact of_eq (by omega) hk rfl e
    have hib : inb (b : Int) 40 = true := (inb_of (by first | omega | (dsimp only; omega)))
    by_cases e2 : 0 ≤ w ∧ w ≤ 9
    · by_cases w0 : w = 0
      · subst w0
        refine ⟨fld S 0 b, ?_, ?_⟩
        · exact bd_q c1 (nm_q (gd_q (rg_of (by first | omega | (dsimp only; omega))) (it_q2 (by first | omega | (dsimp only; omega)) (gd_q hw (it_q2 (by first | omega | (dsimp only; omega)) (it_q1 (by first | omega | (dsimp only; omega)) (it_q1 rfl (gd_q hib rfl))))))))
        · exact bd_q m1 (gd_q (rg_of (by first | omega | (dsimp only; omega))) (it_q2 (by first | omega | (dsimp only; omega)) (gd_q hw (it_q1 rfl (bd_q (ho 0 0 (by omega) rfl) rfl)))))
      by_cases w1 : w = 1
      · subst w1
        refine ⟨fld S 1 b, ?_, ?_⟩
        · exact bd_q c1 (nm_q (gd_q (rg_of (by first | omega | (dsimp only; omega))) (it_q2 (by first | omega | (dsimp only; omega)) (gd_q hw (it_q2 (by first | omega | (dsimp only; omega)) (it_q1 (by first | omega | (dsimp only; omega)) (it_q2 (by first | omega | (dsimp only; omega)) (it_q1 rfl (gd_q hib rfl)))))))))
        · exact bd_q m1 (gd_q (rg_of (by first | omega | (dsimp only; omega))) (it_q2 (by first | omega | (dsimp only; omega)) (gd_q hw (it_q2 (by first | omega | (dsimp only; omega)) (it_q1 rfl (bd_q (ho 1 1 (by omega) rfl) rfl))))))
      by_cases w2 : w = 2
      · subst w2
        refine ⟨fld S 2 b, ?_, ?_⟩
        · exact bd_q c1 (nm_q (gd_q (rg_of (by first | omega | (dsimp only; omega))) (it_q2 (by first | omega | (dsimp only; omega)) (gd_q hw (it_q2 (by first | omega | (dsimp only; omega)) (it_q1 (by first | omega | (dsimp only; omega)) (it_q2 (by first | omega | (dsimp only; omega)) (it_q2 (by first | omega | (dsimp only; omega)) (it_q1 rfl (gd_q hib rfl))))))))))
        · exact bd_q m1 (gd_q (rg_of (by first | omega | (dsimp only; omega))) (it_q2 (by first | omega | (dsimp only; omega)) (gd_q hw (it_q2 (by first | omega | (dsimp only; omega)) (it_q2 (by first | omega | (dsimp only; omega)) (it_q1 rfl (bd_q (ho 2 2 (by omega) rfl) rfl)))))))
      by_cases w3 : w = 3
      · subst w3
        refine ⟨fld S 3 b, ?_, ?_⟩
        · exact bd_q c1 (nm_q (gd_q (rg_of (by first | omega | (dsimp only; omega))) (it_q2 (by first | omega | (dsimp only; omega)) (gd_q hw (it_q2 (by first | omega | (dsimp only; omega)) (it_q1 (by first | omega | (dsimp only; omega)) (it_q2 (by first | omega | (dsimp only; omega)) (it_q2 (by first | omega | (dsimp only; omega)) (it_q2 (by first | omega | (dsimp only; omega)) (it_q1 rfl (gd_q hib rfl)))))))))))
        · exact bd_q m1 (gd_q (rg_of (by first | omega | (dsimp only; omega))) (it_q2 (by first | omega | (dsimp only; omega)) (gd_q hw (it_q2 (by first | omega | (dsimp only; omega)) (it_q2 (by first | omega | (dsimp only; omega)) (it_q2 (by first | omega | (dsimp only; omega)) (it_q1 rfl (bd_q (ho 3 3 (by omega) rfl) rfl))))))))
      by_cases w4 : w = 4
      · subst w4
        refine ⟨fld S 4 b, ?_, ?_⟩
        · exact bd_q c1 (nm_q (gd_q (rg_of (by first | omega | (dsimp only; omega))) (it_q2 (by first | omega | (dsimp only; omega)) (gd_q hw (it_q2 (by first | omega | (dsimp only; omega)) (it_q1 (by first | omega | (dsimp only; omega)) (it_q2 (by first | omega | (dsimp only; omega)) (it_q2 (by first | omega | (dsimp only; omega)) (it_q2 (by first | omega | (dsimp only; omega)) (it_q2 (by first | omega | (dsimp only; omega)) (it_q1 rfl (gd_q hib rfl))))))))))))
        · exact bd_q m1 (gd_q (rg_of (by first | omega | (dsimp only; omega))) (it_q2 (by first | omega | (dsimp only; omega)) (gd_q hw (it_q2 (by first | omega | (dsimp only; omega)) (it_q2 (by first | omega | (dsimp only; omega)) (it_q2 (by first | omega | (dsimp only; omega)) (it_q2 (by first | omega | (dsimp only; omega)) (it_q1 rfl (bd_q (ho 4 4 (by omega) rfl) rfl)))))))))
      by_cases w5 : w = 5
      · subst w5
        refine ⟨fld S 5 b, ?_, ?_⟩
        · exact bd_q c1 (nm_q (gd_q (rg_of (by first | omega | (dsimp only; omega))) (it_q2 (by first | omega | (dsimp only; omega)) (gd_q hw (it_q2 (by first | omega | (dsimp only; omega)) (it_q1 (by first | omega | (dsimp only; omega)) (it_q2 (by first | omega | (dsimp only; omega)) (it_q2 (by first | omega | (dsimp only; omega)) (it_q2 (by first | omega | (dsimp only; omega)) (it_q2 (by first | omega | (dsimp only; omega)) (it_q2 (by first | omega | (dsimp only; omega)) (it_q1 rfl (gd_q hib rfl)))))))))))))
        · exact bd_q m1 (gd_q (rg_of (by first | omega | (dsimp only; omega))) (it_q2 (by first | omega | (dsimp only; omega)) (gd_q hw (it_q2 (by first | omega | (dsimp only; omega)) (it_q2 (by first | omega | (dsimp only; omega)) (it_q2 (by first | omega | (dsimp only; omega)) (it_q2 (by first | omega | (dsimp only; omega)) (it_q2 (by first | omega | (dsimp only; omega)) (it_q1 rfl (bd_q (ho 5 5 (by omega) rfl) rfl))))))))))
      by_cases w6 : w = 6
      · subst w6
        refine ⟨fld S 6 b, ?_, ?_⟩
        · exact bd_q c1 (nm_q (gd_q (rg_of (by first | omega | (dsimp only; omega))) (it_q2 (by first | omega | (dsimp only; omega)) (gd_q hw (it_q2 (by first | omega | (dsimp only; omega)) (it_q1 (by first | omega | (dsimp only; omega)) (it_q2 (by first | omega | (dsimp only; omega)) (it_q2 (by first | omega | (dsimp only; omega)) (it_q2 (by first | omega | (dsimp only; omega)) (it_q2 (by first | omega | (dsimp only; omega)) (it_q2 (by first | omega | (dsimp only; omega)) (it_q2 (by first | omega | (dsimp only; omega)) (it_q1 rfl (gd_q hib rfl))))))))))))))
        · exact bd_q m1 (gd_q (rg_of (by first | omega | (dsimp only; omega))) (it_q2 (by first | omega | (dsimp only; omega)) (gd_q hw (it_q2 (by first | omega | (dsimp only; omega)) (it_q2 (by first | omega | (dsimp only; omega)) (it_q2 (by first | omega | (dsimp only; omega)) (it_q2 (by first | omega | (dsimp only; omega)) (it_q2 (by first | omega | (dsimp only; omega)) (it_q2 (by first | omega | (dsimp only; omega)) (it_q1 rfl (bd_q (ho 6 6 (by omega) rfl) rfl)))))))))))
      by_cases w7 : w = 7
      · subst w7
        obtain ⟨wn, x1, x2, x3⟩ := hC.2.2.2.2
        obtain ⟨v, g1, g2⟩ := rank_loop (N := N) (m := (hi, st, sn, ik, as, li, lm, tx, le, sp, re, rd)) hC hR hb wn x1 wn 0 (by omega) N N (by omega) (by omega)
        refine ⟨v, ?_, ?_⟩
        · exact bd_q c1 (nm_q (gd_q (rg_of (by first | omega | (dsimp only; omega))) (it_q2 (by first | omega | (dsimp only; omega)) (gd_q hw (it_q2 (by first | omega | (dsimp only; omega)) (it_q1 (by first | omega | (dsimp only; omega)) (it_q2 (by first | omega | (dsimp only; omega)) (it_q2 (by first | omega | (dsimp only; omega)) (it_q2 (by first | omega | (dsimp only; omega)) (it_q2 (by first | omega | (dsimp only; omega)) (it_q2 (by first | omega | (dsimp only; omega)) (it_q2 (by first | omega | (dsimp only; omega)) (it_q2 (by first | omega | (dsimp only; omega)) (it_q1 rfl (bd_q g1 (nm_q rfl))))))))))))))))
        · exact bd_q m1 (gd_q (rg_of (by first | omega | (dsimp only; omega))) (it_q2 (by first | omega | (dsimp only; omega)) (gd_q hw (it_q2 (by first | omega | (dsimp only; omega)) (it_q2 (by first | omega | (dsimp only; omega)) (it_q2 (by first | omega | (dsimp only; omega)) (it_q2 (by first | omega | (dsimp only; omega)) (it_q2 (by first | omega | (dsimp only; omega)) (it_q2 (by first | omega | (dsimp only; omega)) (it_q2 (by first | omega | (dsimp only; omega)) (it_q1 rfl (bd_q g2 rfl))))))))))))
      by_cases w8 : w = 8
      · subst w8
        refine ⟨fld S 7 b, ?_, ?_⟩
        · exact bd_q c1 (nm_q (gd_q (rg_of (by first | omega | (dsimp only; omega))) (it_q2 (by first | omega | (dsimp only; omega)) (gd_q hw (it_q2 (by first | omega | (dsimp only; omega)) (it_q1 (by first | omega | (dsimp only; omega)) (it_q2 (by first | omega | (dsimp only; omega)) (it_q2 (by first | omega | (dsimp only; omega)) (it_q2 (by first | omega | (dsimp only; omega)) (it_q2 (by first | omega | (dsimp only; omega)) (it_q2 (by first | omega | (dsimp only; omega)) (it_q2 (by first | omega | (dsimp only; omega)) (it_q2 (by first | omega | (dsimp only; omega)) (it_q2 (by first | omega | (dsimp only; omega)) (it_q1 rfl (gd_q hib rfl))))))))))))))))
        · exact bd_q m1 (gd_q (rg_of (by first | omega | (dsimp only; omega))) (it_q2 (by first | omega | (dsimp only; omega)) (gd_q hw (it_q2 (by first | omega | (dsimp only; omega)) (it_q2 (by first | omega | (dsimp only; omega)) (it_q2 (by first | omega | (dsimp only; omega)) (it_q2 (by first | omega | (dsimp only; omega)) (it_q2 (by first | omega | (dsimp only; omega)) (it_q2 (by first | omega | (dsimp only; omega)) (it_q2 (by first | omega | (dsimp only; omega)) (it_q2 (by first | omega | (dsimp only; omega)) (it_q1 rfl (bd_q (ho 7 7 (by omega) rfl) rfl)))))))))))))
      obtain rfl : w = 9 := by omega
      refine ⟨fld S 8 b, ?_, ?_⟩
      · exact bd_q c1 (nm_q (gd_q (rg_of (by first | omega | (dsimp only; omega))) (it_q2 (by first | omega | (dsimp only; omega)) (gd_q hw (it_q2 (by first | omega | (dsimp only; omega)) (it_q1 (by first | omega | (dsimp only; omega)) (it_q2 (by first | omega | (dsimp only; omega)) (it_q2 (by first | omega | (dsimp only; omega)) (it_q2 (by first | omega | (dsimp only; omega)) (it_q2 (by first | omega | (dsimp only; omega)) (it_q2 (by first | omega | (dsimp only; omega)) (it_q2 (by first | omega | (dsimp only; omega)) (it_q2 (by first | omega | (dsimp only; omega)) (it_q2 (by first | omega | (dsimp only; omega)) (it_q2 (by first | omega | (dsimp only; omega)) (gd_q hib rfl))))))))))))))))
      · exact bd_q m1 (gd_q (rg_of (by first | omega | (dsimp only; omega))) (it_q2 (by first | omega | (dsimp only; omega)) (gd_q hw (it_q2 (by first | omega | (dsimp only; omega)) (it_q2 (by first | omega | (dsimp only; omega)) (it_q2 (by first | omega | (dsimp only; omega)) (it_q2 (by first | omega | (dsimp only; omega)) (it_q2 (by first | omega | (dsimp only; omega)) (it_q2 (by first | omega | (dsimp only; omega)) (it_q2 (by first | omega | (dsimp only; omega)) (it_q2 (by first | omega | (dsimp only; omega)) (it_q2 (by first | omega | (dsimp only; omega)) (it_q1 rfl (bd_q (ho 8 8 (by omega) rfl) rfl))))))))))))))
    · refine ⟨-2, ?_, ?_⟩
      · by_cases e3 : w < 0
        · exact bd_q c1 (nm_q (gd_q (rg_of (by first | omega | (dsimp only; omega))) (it_q2 (by first | omega | (dsimp only; omega)) (gd_q hw (it_q1 e3 rfl)))))
        · exact bd_q c1 (nm_q (gd_q (rg_of (by first | omega | (dsimp only; omega))) (it_q2 (by first | omega | (dsimp only; omega)) (gd_q hw (it_q2 e3 (it_q2 (by first | omega | (dsimp only; omega)) rfl))))))
      · exact bd_q m1 (gd_q (rg_of (by first | omega | (dsimp only; omega))) (it_q2 (by first | omega | (dsimp only; omega)) (gd_q hw (it_q2 (by first | omega | (dsimp only; omega)) (it_q2 (by first | omega | (dsimp only; omega)) (it_q2 (by first | omega | (dsimp only; omega)) (it_q2 (by first | omega | (dsimp only; omega)) (it_q2 (by first | omega | (dsimp only; omega)) (it_q2 (by first | omega | (dsimp only; omega)) (it_q2 (by first | omega | (dsimp only; omega)) (it_q2 (by first | omega | (dsimp only; omega)) (it_q2 (by first | omega | (dsimp only; omega)) (it_q2 (by first | omega | (dsimp only; omega)) rfl)))))))))))))
  · rw [if_neg e1] at c1 m1
    refine ⟨-1, ?_, ?_⟩
    · exact bd_q c1 (nm_q (gd_q (rg_of (by first | omega | (dsimp only; omega))) (it_q1 rfl rfl)))
    · exact bd_q m1 (gd_q (rg_of (by first | omega | (dsimp only; omega))) (it_q1 rfl rfl))
