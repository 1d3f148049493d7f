theorem soK_bin {N n b : Nat} {m : bm} {r s : Nat → Int} (hb : b < 40) (hs : ∀ k, k < 8 → r k = s k) (hr : ∀ k, k < 8 → -1000 ≤ s k ∧ s k ≤ 1000) (h1 : -1000 ≤ r (55 + 9 * b + 1) ∧ r (55 + 9 * b + 1) ≤ 1000) (h3 : -1000 ≤ r (55 + 9 * b + 3) ∧ r (55 + 9 * b + 3) ≤ 1000) : soK N (b : Int) 5 (r, m) = soT N (b : Int) (rubM b s r, m) := by
  have hm := mcl_lt s (r (55 + 9 * b + 1))
  have hsm := hs (mcl s (r (55 + 9 * b + 1))) (by omega)
  have hrm := hr (mcl s (r (55 + 9 * b + 1))) (by omega)
  unfold soK rubM
  refine gd_q (by decide) ?_
  refine it_q1 rfl ?_
  refine bd_q (of_eq (k := 1) hb (by omega) rfl rfl) ?_
  refine bd_q (classOf_eq hb rfl hs hr h1) ?_
  dsimp only
  refine gd_q (inb_of (by omega)) ?_
  rw [tn]
  refine gd_q (rg_of (by omega)) ?_
  refine gd_q (rg_of (by omega)) ?_
  by_cases e : r (55 + 9 * b + 1) = s (mcl s (r (55 + 9 * b + 1)))
  · rw [if_pos e]
    refine it_q1 (by omega) ?_
    refine bd_q (of_eq (k := 3) hb (by omega) rfl rfl) ?_
    dsimp only
    refine gd_q (rg_of (by omega)) ?_
    by_cases e9 : 9 ≤ r (55 + 9 * b + 3)
    · rw [if_pos e9, if_pos e9]
      refine bd_q (put_eq (k := 3) hb (by omega) rfl rfl) ?_
      refine nm_q ?_
      dsimp only
      rw [up_hi (show 12 < 55 by omega)]
      rfl
    · rw [if_neg e9, if_neg e9]
      refine bd_q (of_eq (k := 3) hb (by omega) rfl rfl) ?_
      refine bd_q (put_eq (k := 3) hb (by omega) rfl rfl) ?_
      refine nm_q ?_
      dsimp only
      rw [up_hi (show 12 < 55 by omega)]
      rfl
  · rw [if_neg e]
    refine it_q2 (by omega) ?_
    rfl
theorem rub_keep {b : Nat} {z : bS} : (rubS b z).2.1 = z.2.1 ∧ (rubS b z).2.2.1 = z.2.2.1 ∧ (rubS b z).1.1 = z.1.1 ∧ (rubS b z).1.2.1 = z.1.2.1 := by
  unfold rubS
  split
  · exact ⟨rfl, rfl, rfl, rfl⟩
  · exact ⟨rfl, rfl, rfl, rfl⟩
theorem rub_BI {b n : Nat} {z : bS} (h : BI z.1 n) : BI (rubS b z).1 n := by
  unfold rubS
  split
  · obtain ⟨h1, h2, h3⟩ := h
    refine ⟨h1, h2, fun x hx => ?_⟩
    obtain ⟨q1, q2, q3, q4, q5⟩ := h3 x hx
    refine ⟨q1, q2, q3, ?_, q5⟩
    show 0 ≤ up z.1.2.2.2.1 b (if 9 ≤ z.1.2.2.2.1 b then 9 else z.1.2.2.2.1 b + 1) x ∧ up z.1.2.2.2.1 b (if 9 ≤ z.1.2.2.2.1 b then 9 else z.1.2.2.2.1 b + 1) x ≤ 9
    by_cases e : x = b
    · subst e
      rw [up_s]
      split <;> omega
    · rw [up_n _ _ e]
      exact q4
  · exact h
theorem binN_rub {b : Nat} {z : bS} : binN (rubS b z) b = binN z b := by
  unfold binN
  rw [rub_keep.2.1, rub_keep.2.2.1, rub_keep.2.2.2]
/-- what the row says of the buttons' places, when b0 is between -/
theorem tail_cnt {N n b0 x : Nat} {m : bm} {z : bS} {r : Nat → Int} (hN : 50 ≤ N) (hR : R1 z r n) (hn40 : n ≤ 40) (hL : LI z.2.1 n b0) (hb : b0 < n) (h5 : z.2.1.1 b0 = 0) (h6 : z.2.1.2.1 b0 = -5) (hx : x < 12) : f_X8_manyIn N (x : Int) (r, m) = some (z.2.1.2.2.2.2.2 x, (r, m)) := by
  have fb : ∀ b, b < n → r (55 + 9 * b + 5) = z.2.1.1 b ∧ r (55 + 9 * b + 6) = z.2.1.2.1 b := fun b hb => ⟨hR.2 b 5 hb (by omega), hR.2 b 6 hb (by omega)⟩
  have pb : ∀ b, b < n → -5 ≤ z.2.1.1 b ∧ z.2.1.1 b ≤ 6 ∧ -5 ≤ z.2.1.2.1 b ∧ z.2.1.2.1 b ≤ 11 ∧ (z.2.1.1 b ≠ 5 → z.2.1.2.1 b < 0) := by
    intro b hbn
    by_cases e : b = b0
    · subst e
      omega
    · have := hL.1 b hbn e
      unfold PB at this
      by_cases e5 : z.2.1.1 b = 5
      · have := this.2.2.1 e5
        omega
      · have := this.2.2.2.1 e5
        omega
  refine Eq.trans (manyIn_eq hN (R1_n hR) hn40 (by omega) (fun b hb => ?_) (fun b hb => ?_) (fun b hb h => ?_)) ?_
  · rw [(fb b hb).1]
    have := pb b hb
    exact rg_of (by omega)
  · rw [(fb b hb).2]
    have := pb b hb
    exact rg_of (by omega)
  · rw [(fb b hb).1] at h
    rw [(fb b hb).2]
    exact (pb b hb).2.2.2.2 h
  · rw [hL.2.1.2 x hx, cnt_eq (g := up z.2.1.2.1 b0 (-5)) (fun b hb => ?_)]
    rw [(fb b hb).2, ← h6, up_id]
theorem sort_step {N n : Nat} {m : bm} {z : bS} {r : Nat → Int} (hN : 50 ≤ N) (hC : CI z n) (hR : R1 z r n) (h0 : 0 < z.2.1.2.2.2.2.1 0) : ∃ (z' : bS) (r' : Nat → Int), f_X5_sortFirst N z = some z' ∧ f_X8_sortOne N (r, m) = some (r', m) ∧ CI z' n ∧ R1 z' r' n ∧ z.2.1.2.2.2.2.1 0 - 1 ≤ z'.2.1.2.2.2.2.1 0 := by
  have hn40 := hC.1.2.1
  obtain ⟨b0, w, hb, hw40, e1, e2, e3, hS, hL⟩ := sf_pre hN hC h0
  have hM := so_pre (m := m) hN hR hC hb e1 e3
  have hR2 := tak_R (b0 := b0) hR e3 hw40
  obtain ⟨q1, q2, q3, q4, q5⟩ := CI_b hC hb
  have hpb := CI_p hC hb
  unfold PB at hpb
  have hsr := SI_rg hC.2.1
  have hB2 : BI (takS b0 w z).1 n := hC.1
  have a0 : (takS b0 w z).2.1.2.2.2.2.1 0 = (w : Int) := by
    show up z.2.1.2.2.2.2.1 0 (w : Int) 0 = (w : Int)
    exact up_s _ _ _
  generalize hz2 : takS b0 w z = z2 at *
  generalize hr2 : takM b0 w r = r2 at *
  have k1 : z2.1.1 = z.1.1 ∧ z2.1.2.1 = z.1.2.1 ∧ z2.1.2.2.1 = z.1.2.2.1 ∧ z2.1.2.2.2.1 = z.1.2.2.2.1 ∧ z2.2.2.1 = z.2.2.1 ∧ z2.2.1.1 = z.2.1.1 ∧ z2.2.1.2.1 = z.2.1.2.1 ∧ z2.2.1.2.2.1 = z.2.1.2.2.1 := by
    rw [← hz2]
    exact ⟨rfl, rfl, rfl, rfl, rfl, rfl, rfl, rfl⟩
  obtain ⟨k1, k2, k3, k4, k5, k6, k7, k8⟩ := k1
  have hst : z2.2.1.2.2.1 b0 = -5 := by rw [k8]; exact hpb.2.2.2.2 (by omega)
  have hbi : z2.2.1.2.1 b0 = -5 := by rw [k7]; exact hpb.2.2.2.1 (by omega)
  have hpl : z2.2.1.1 b0 = 0 := by rw [k6]; exact e2
  have f1 : r2 (55 + 9 * b0 + 1) = z2.1.2.1 b0 := hR2.2 b0 1 hb (by omega)
  have f2 : r2 (55 + 9 * b0 + 2) = z2.1.2.2.1 b0 := hR2.2 b0 2 hb (by omega)
  have f3 : r2 (55 + 9 * b0 + 3) = z2.1.2.2.2.1 b0 := hR2.2 b0 3 hb (by omega)
  have hset := hR2.1.1
  have hSI : SI z2.2.2.1 := by rw [k5]; exact hC.2.1
  have hsr2 := SI_rg hSI
  have l2 := LI_at hL (q := 2) (by omega)
  rw [hS, hM]
  have p3 : r2 3 = z2.2.2.1 3 := hset 3 (by omega)
  have p4 : r2 4 = z2.2.2.1 4 := hset 4 (by omega)
  have p2 : r2 2 = z2.2.2.1 2 := hset 2 (by omega)
  have p5 : r2 5 = z2.2.2.1 5 := hset 5 (by omega)
  have p6 : r2 6 = z2.2.2.1 6 := hset 6 (by omega)
  rw [← k1] at q1
  rw [← k2] at q2
  rw [← k3] at q3
  rw [← k4] at q4
  -- a plain bringing to q
  have plain : ∀ q : Nat, q < 7 → q ≠ 0 → q ≠ 3 → q ≠ 5 → q ≠ 2 → plcS b0 z2 = (q : Int) → plcM b0 r2 = (q : Int) → ∃ (z' : bS) (r' : Nat → Int), sfK N (b0 : Int) (plcS b0 z2) z2 = some z' ∧ soK N (b0 : Int) (plcM b0 r2) (r2, m) = some (r', m) ∧ CI z' n ∧ R1 z' r' n ∧ z.2.1.2.2.2.2.1 0 - 1 ≤ z'.2.1.2.2.2.2.1 0 := by
    intro q hq h0' h3' h5' h2' hp hpM
    rw [hp, hpM]
    have hP := bring_PI hL hb hq h0' h5'
    refine ⟨(z2.1, bringS b0 (q : Int) z2.2.1, z2.2.2), _, ?_, ?_, ⟨hB2, hSI, hP⟩, bring_R (q := (q : Int)) (p' := z2.2.1) hR2 ⟨rfl, rfl, rfl, rfl, rfl⟩ (by omega) hst (by omega), ?_⟩
    · unfold sfK
      refine gd_q (rg_of (by omega)) ?_
      refine it_q2 (by omega) ?_
      refine it_q2 (by omega) ?_
      refine it_q2 (by omega) ?_
      exact bd_q (bring_eq (b := b0) (by omega) rfl (by omega)) rfl
    · unfold soK
      refine gd_q (rg_of (by omega)) ?_
      refine it_q2 (by omega) ?_
      refine bd_q (bringM_eq (b := b0) (by omega) rfl) ?_
      exact it_q2 (by omega) rfl
    · show z.2.1.2.2.2.2.1 0 - 1 ≤ up z2.2.1.2.2.2.2.1 (q : Int).toNat (z2.2.1.2.2.2.2.1 (q : Int).toNat + 1) 0
      rw [up_n _ _ (by omega)]
      omega
  by_cases c1 : z2.2.2.1 3 < z2.1.2.2.2.1 b0
  · exact plain 1 (by omega) (by omega) (by omega) (by omega) (by omega) (by unfold plcS; rw [if_pos c1]; rfl) (by unfold plcM; rw [if_pos (by omega)]; rfl)
  by_cases c2 : z2.2.2.1 4 ≤ z2.1.2.2.1 b0
  · have hpM : plcM b0 r2 = 2 := by unfold plcM; rw [if_neg (by omega), if_pos (by omega)]
    have hP := bring_PI (q := 2) hL hb (by omega) (by omega) (by omega)
    have hR3 := bring_R (q := 2) (p' := z2.2.1) hR2 ⟨rfl, rfl, rfl, rfl, rfl⟩ (by decide) hst (by omega)
    have hC3 : CI (z2.1, bringS b0 2 z2.2.1, z2.2.2) n := ⟨hB2, hSI, hP⟩
    have a2 : (bringS b0 2 z2.2.1).2.2.2.2.1 2 = z2.2.1.2.2.2.2.1 2 + 1 := by
      show up z2.2.1.2.2.2.2.1 2 (z2.2.1.2.2.2.2.1 2 + 1) 2 = _
      exact up_s _ _ _
    have a0' : (bringS b0 2 z2.2.1).2.2.2.2.1 0 = (w : Int) := by
      show up z2.2.1.2.2.2.2.1 2 (z2.2.1.2.2.2.2.1 2 + 1) 0 = (w : Int)
      rw [up_n _ _ (by omega)]
      exact a0
    have hat : f_X8_at N 2 (up (up r2 (55 + 9 * b0 + 5) 2) (55 + 9 * b0 + 6) (-5), m) = some (z2.2.1.2.2.2.2.1 2 + 1, (up (up r2 (55 + 9 * b0 + 5) 2) (55 + 9 * b0 + 6) (-5), m)) := by
      have fb : ∀ b, b < n → up (up r2 (55 + 9 * b0 + 5) 2) (55 + 9 * b0 + 6) (-5) (55 + 9 * b + 5) = (bringS b0 2 z2.2.1).1 b := fun b hb => hR3.2 b 5 hb (by omega)
      refine Eq.trans (at_eq (n := n) hN (R1_n hR3) hn40 (by decide) (fun b hb => ?_)) ?_
      · rw [fb b hb]
        have := hP.1 b hb
        unfold PB at this
        exact rg_of (by show -2147483648 ≤ (bringS b0 2 z2.2.1).1 b ∧ (bringS b0 2 z2.2.1).1 b < 2147483648; have h1 := this.1; have h2 := this.2.1; exact ⟨Int.le_trans (by decide) h1, Int.lt_of_le_of_lt h2 (by decide)⟩)
      · rw [cnt_eq (g := (bringS b0 2 z2.2.1).1) (fun b hb => fb b hb)]
        have := hP.2.1.1 2 (by omega)
        rw [← a2]
        have e2' : ((2 : Nat) : Int) = 2 := rfl
        rw [e2'] at this
        rw [← this]
    by_cases c3 : z2.2.2.1 5 ≤ z2.2.1.2.2.2.2.1 2 + 1
    · have hp : plcS b0 z2 = 3 := by unfold plcS; rw [if_neg c1, if_pos c2, if_pos c3]
      obtain ⟨p', r', g1, g2, g3, g4, g5⟩ := magnet_eq (m := m) hN hC3 hR3
      refine ⟨(z2.1, p', z2.2.2), r', ?_, ?_, g3, g4, by show _ ≤ p'.2.2.2.2.1 0; rw [g5]; show _ ≤ (bringS b0 2 z2.2.1).2.2.2.2.1 0; rw [a0']; omega⟩
      · rw [hp]
        unfold sfK
        refine gd_q (by decide) ?_
        refine it_q2 (by decide) ?_
        refine it_q1 rfl ?_
        refine bd_q (bring_eq (b := b0) (by omega) rfl (by omega)) ?_
        refine nm_q ?_
        exact bd_q g1 rfl
      · rw [hpM]
        unfold soK
        refine gd_q (by decide) ?_
        refine it_q2 (by decide) ?_
        refine bd_q (bringM_eq (b := b0) (by omega) rfl) ?_
        refine it_q1 rfl ?_
        refine bd_q hat ?_
        have h5e : up (up r2 (55 + 9 * b0 + 5) 2) (55 + 9 * b0 + 6) (-5) 5 = z2.2.2.1 5 := by rw [up_hi (by omega), up_hi (by omega)]; exact p5
        have := hsr2 5 (by omega)
        refine gd_q (rg_of (by dsimp only; omega)) ?_
        refine gd_q (rg_of (by dsimp only; omega)) ?_
        refine it_q2 (by dsimp only; omega) ?_
        exact bd_q g2 rfl
    · have hp : plcS b0 z2 = 2 := by unfold plcS; rw [if_neg c1, if_pos c2, if_neg c3]
      refine ⟨(z2.1, bringS b0 2 z2.2.1, z2.2.2), _, ?_, ?_, hC3, hR3, by show _ ≤ (bringS b0 2 z2.2.1).2.2.2.2.1 0; rw [a0']; omega⟩
      · rw [hp]
        unfold sfK
        refine gd_q (by decide) ?_
        refine it_q2 (by decide) ?_
        refine it_q2 (by decide) ?_
        refine it_q2 (by decide) ?_
        exact bd_q (bring_eq (b := b0) (by omega) rfl (by omega)) rfl
      · rw [hpM]
        unfold soK
        refine gd_q (by decide) ?_
        refine it_q2 (by decide) ?_
        refine bd_q (bringM_eq (b := b0) (by omega) rfl) ?_
        refine it_q1 rfl ?_
        refine bd_q hat ?_
        have h5e : up (up r2 (55 + 9 * b0 + 5) 2) (55 + 9 * b0 + 6) (-5) 5 = z2.2.2.1 5 := by rw [up_hi (by omega), up_hi (by omega)]; exact p5
        have := hsr2 5 (by omega)
        refine gd_q (rg_of (by dsimp only; omega)) ?_
        refine gd_q (rg_of (by dsimp only; omega)) ?_
        exact it_q1 (by dsimp only; omega) rfl
  by_cases c3 : z2.2.2.1 2 < z2.1.2.1 b0
  · exact plain 4 (by omega) (by omega) (by omega) (by omega) (by omega) (by unfold plcS; rw [if_neg c1, if_neg c2, if_pos c3]; rfl) (by unfold plcM; rw [if_neg (by omega), if_neg (by omega), if_pos (by omega)]; rfl)
  -- a bin
  have hpM : plcM b0 r2 = 5 := by unfold plcM; rw [if_neg (by omega), if_neg (by omega), if_neg (by omega)]
  obtain ⟨hbf, hbl⟩ := binFor_eq (N := N) (b := b0) (z := rubS b0 z2) hN (by omega) rfl (by rw [rub_keep.2.1]; exact hSI) (by rw [rub_keep.2.2.2]; omega) (by rw [rub_keep.2.2.1]; exact q1)
  have hR3 := rub_R hR2 hb (by omega)
  have hsoT : soK N (b0 : Int) (plcM b0 r2) (r2, m) = soT N (b0 : Int) (rubM b0 z2.2.2.1 r2, m) := by
    rw [hpM]
    exact soK_bin (n := n) (by omega) hset hsr2 (by omega) (by omega)
  have hrub := rub_eq (N := N) (b := b0) (z := z2) hN (by omega) rfl hSI (by omega) (by omega)
  have hB3 := rub_BI (b := b0) hB2
  rw [hsoT]
  obtain ⟨g1, g2, g3, g4⟩ := rub_keep (b := b0) (z := z2)
  rw [binN_rub] at hbf hbl
  generalize hz3 : rubS b0 z2 = z3 at *
  generalize hr3 : rubM b0 z2.2.2.1 r2 = r3 at *
  have hL3 : LI z3.2.1 n b0 := by rw [g1]; exact hL
  have hcnt := tail_cnt (N := N) (m := m) (x := binN z2 b0) hN hR3 hn40 hL3 hb (by rw [g1]; exact hpl) (by rw [g1]; exact hbi) hbl
  rw [g1] at hcnt
  have hst3 : z3.2.1.2.2.1 b0 = -5 := by rw [g1]; exact hst
  have hset3 := hR3.1.1
  have t0 : r3 (55 + 9 * b0 + 0) = z3.1.1 b0 := hR3.2 b0 0 hb (by omega)
  have t1 : r3 (55 + 9 * b0 + 1) = z3.1.2.1 b0 := hR3.2 b0 1 hb (by omega)
  have hsr3 : ∀ k, k < 8 → -1000 ≤ z3.2.2.1 k ∧ z3.2.2.1 k ≤ 1000 := by rw [g2]; exact hsr2
  have hbinE : 4 * (mcl z3.2.2.1 (r3 (55 + 9 * b0 + 1)) : Int) + r3 (55 + 9 * b0 + 0) - 1 = (binN z2 b0 : Int) := by
    rw [t0, t1, g2, g3, g4]
    unfold binN
    have := mcl_lt z2.2.2.1 (z2.1.2.1 b0)
    omega
  have hbo := binOf_eq (b := b0) (bb := (b0 : Int)) (r := r3) (s := z3.2.2.1) (m := m) (by omega) rfl hset3 hsr3 (by rw [t1, g4]; omega)
  rw [hbinE] at hbo
  have lib := LI_ib hL hbl
  have p6' : r3 6 = z2.2.2.1 6 := by rw [hset3 6 (by omega), g2]
  have s6 := hsr2 6 (by omega)
  by_cases c4 : z2.2.1.2.2.2.2.2 (binN z2 b0) < z2.2.2.1 6
  · have hp : plcS b0 z2 = 5 := by unfold plcS; rw [if_neg c1, if_neg c2, if_neg c3, if_pos c4]
    have hR4 := place_R (b0 := b0) (q := 5) (v := (binN z2 b0 : Int)) (p' := (up z3.2.1.1 b0 5, up z3.2.1.2.1 b0 (binN z2 b0 : Int), up z3.2.1.2.2.1 b0 (-5), z3.2.1.2.2.2.1, up z3.2.1.2.2.2.2.1 5 (z3.2.1.2.2.2.2.1 5 + 1), up z3.2.1.2.2.2.2.2 (binN z2 b0) (z3.2.1.2.2.2.2.2 (binN z2 b0) + 1))) hR3 rfl rfl (st_same hst3) rfl (show up z3.2.1.2.2.2.2.1 5 (z3.2.1.2.2.2.2.1 5 + 1) 0 = z3.2.1.2.2.2.2.1 0 from up_n _ _ (by omega)) (by rw [g1, a0]; omega)
    refine ⟨(z3.1, (up z3.2.1.1 b0 5, up z3.2.1.2.1 b0 (binN z2 b0 : Int), up z3.2.1.2.2.1 b0 (-5), z3.2.1.2.2.2.1, up z3.2.1.2.2.2.2.1 5 (z3.2.1.2.2.2.2.1 5 + 1), up z3.2.1.2.2.2.2.2 (binN z2 b0) (z3.2.1.2.2.2.2.2 (binN z2 b0) + 1)), z3.2.2), _, ?_, ?_, ⟨hB3, by show SI z3.2.2.1; rw [g2]; exact hSI, bin_PI hL3 hb hbl⟩, hR4, ?_⟩
    · rw [hp]
      unfold sfK
      refine gd_q (by decide) ?_
      refine it_q2 (by decide) ?_
      refine it_q2 (by decide) ?_
      refine it_q1 rfl ?_
      refine bd_q hrub ?_
      refine bd_q hbf ?_
      refine bd_q (bringToBin_eq (b := b0) (k := binN z2 b0) (by omega) rfl hbl rfl) ?_
      rfl
    · unfold soT
      refine bd_q hbo ?_
      refine bd_q hcnt ?_
      refine gd_q (rg_of (by dsimp only; omega)) ?_
      refine gd_q (rg_of (by dsimp only; omega)) ?_
      refine it_q2 (by dsimp only; omega) ?_
      refine bd_q (put_eq (b := b0) (k := 5) (by omega) (by omega) rfl rfl) ?_
      have hbo2 := binOf_eq (b := b0) (bb := (b0 : Int)) (r := up r3 (55 + 9 * b0 + 5) 5) (s := z3.2.2.1) (m := m) (by omega) rfl (fun k hk => by rw [up_hi (by omega)]; exact hset3 k hk) hsr3 (by rw [up_n _ _ (by omega), t1, g4]; omega)
      rw [up_n _ _ (show 55 + 9 * b0 + 1 ≠ 55 + 9 * b0 + 5 by omega), up_n _ _ (show 55 + 9 * b0 + 0 ≠ 55 + 9 * b0 + 5 by omega), hbinE] at hbo2
      refine bd_q hbo2 ?_
      exact bd_q (put_eq (b := b0) (k := 6) (by omega) (by omega) rfl rfl) rfl
    · show z.2.1.2.2.2.2.1 0 - 1 ≤ up z3.2.1.2.2.2.2.1 5 (z3.2.1.2.2.2.2.1 5 + 1) 0
      rw [up_n _ _ (by omega), g1, a0]
      omega
  · have hp : plcS b0 z2 = 0 := by unfold plcS; rw [if_neg c1, if_neg c2, if_neg c3, if_neg c4]
    have hw3 : z3.2.1.2.2.2.2.1 0 = (w : Int) := by rw [g1]; exact a0
    have hR4 := R1_11 (hop_R hR3 hw3 hw40 hst3)
    refine ⟨(z3.1, bringS b0 0 (z3.2.1.1, z3.2.1.2.1, z3.2.1.2.2.1, up z3.2.1.2.2.2.1 w (b0 : Int), z3.2.1.2.2.2.2), z3.2.2.1, z3.2.2.2.1, z3.2.2.2.2.1, z3.2.2.2.2.2.1, z3.2.2.2.2.2.2.1 + 1, z3.2.2.2.2.2.2.2), _, ?_, ?_, ⟨hB3, by show SI z3.2.2.1; rw [g2]; exact hSI, hop_PI hL3 hb hw3⟩, hR4, ?_⟩
    · rw [hp]
      unfold sfK
      refine gd_q (by decide) ?_
      refine it_q1 rfl ?_
      refine bd_q hrub ?_
      refine nm_q ?_
      refine bd_q (bringToHopper_eq (b := b0) (w := w) (by omega) rfl hw3 hw40) ?_
      rfl
    · unfold soT
      refine bd_q hbo ?_
      refine bd_q hcnt ?_
      refine gd_q (rg_of (by dsimp only; omega)) ?_
      refine gd_q (rg_of (by dsimp only; omega)) ?_
      refine it_q1 (by dsimp only; omega) ?_
      refine bd_q (toHopper_eq (b := b0) (w := w) (by omega) rfl (by rw [hR3.1.2.2.2.1]; exact hw3) hw40) ?_
      rfl
    · show z.2.1.2.2.2.2.1 0 - 1 ≤ up z3.2.1.2.2.2.2.1 0 (z3.2.1.2.2.2.2.1 0 + 1) 0
      rw [up_s, hw3]
      omega
