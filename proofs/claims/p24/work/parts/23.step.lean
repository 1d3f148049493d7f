/-! classes, bins, places; letting go; one button sorted -/
def mcl (s : Nat → Int) (x : Int) : Nat := if x ≤ s 0 then 0 else if x ≤ s 1 then 1 else 2
theorem mcl_lt (s : Nat → Int) (x : Int) : mcl s x < 3 := by
  unfold mcl
  split
  · omega
  · split <;> omega
def binN (z : bS) (b : Nat) : Nat := (4 * (mcl z.2.2.1 (z.1.2.1 b) : Int) + z.1.1 b - 1).toNat
theorem SI_rg {s : Nat → Int} (h : SI s) : ∀ k, k < 8 → -1000 ≤ s k ∧ s k ≤ 1000 := by
  intro k hk
  unfold SI at h
  match k, hk with
  | 0, _ => omega
  | 1, _ => omega
  | 2, _ => omega
  | 3, _ => omega
  | 4, _ => omega
  | 5, _ => omega
  | 6, _ => omega
  | 7, _ => omega
  | k + 8, hk => omega
theorem meshClass_eq {N b : Nat} {bb : Int} {z : bS} (hN : 50 ≤ N) (hb : b < 40) (e : bb = (b : Int)) (hs : SI z.2.2.1) (hz : -1000 ≤ z.1.2.1 b ∧ z.1.2.1 b ≤ 1000) : f_X5_meshClass N bb z = some ((mcl z.2.2.1 (z.1.2.1 b) : Int), z) := by
  subst e
  obtain ⟨k, rfl⟩ : ∃ k, N = k + 3 := ⟨N - 3, by omega⟩
  have hr := SI_rg hs
  have r0 := hr 0 (by omega)
  have r1 := hr 1 (by omega)
  unfold f_X5_meshClass mcl
  rw [f_X5_meshClass_L2]
  refine gd_q (rg_of (by omega)) ?_
  refine it_q2 (by omega) ?_
  refine gd_q (inb_of (by omega)) ?_
  refine gd_q (inb_of (by omega)) ?_
  refine gd_q (rg_of (by show -2147483648 ≤ z.2.2.1 0 ∧ z.2.2.1 0 < 2147483648; omega)) ?_
  refine gd_q (rg_of (by rw [tn]; omega)) ?_
  rw [tn]
  by_cases e0 : z.1.2.1 b ≤ z.2.2.1 0
  · rw [if_pos e0]
    exact it_q1 e0 rfl
  · rw [if_neg e0]
    refine it_q2 e0 ?_
    rw [f_X5_meshClass_L2]
    refine gd_q (rg_of (by omega)) ?_
    refine it_q2 (by omega) ?_
    refine gd_q (inb_of (by omega)) ?_
    refine gd_q (inb_of (by omega)) ?_
    refine gd_q (rg_of (by show -2147483648 ≤ z.2.2.1 1 ∧ z.2.2.1 1 < 2147483648; omega)) ?_
    refine gd_q (rg_of (by rw [tn]; omega)) ?_
    rw [tn]
    by_cases e1 : z.1.2.1 b ≤ z.2.2.1 1
    · rw [if_pos e1]
      exact it_q1 e1 rfl
    · rw [if_neg e1]
      refine it_q2 e1 ?_
      rw [f_X5_meshClass_L2]
      refine gd_q (rg_of (by omega)) ?_
      exact it_q1 (by omega) rfl
theorem binFor_eq {N b : Nat} {bb : Int} {z : bS} (hN : 50 ≤ N) (hb : b < 40) (e : bb = (b : Int)) (hs : SI z.2.2.1) (hz : -1000 ≤ z.1.2.1 b ∧ z.1.2.1 b ≤ 1000) (hh : 1 ≤ z.1.1 b ∧ z.1.1 b ≤ 4) : f_X5_binFor N bb z = some ((binN z b : Int), z) ∧ binN z b < 12 := by
  have hm := mcl_lt z.2.2.1 (z.1.2.1 b)
  refine ⟨?_, by unfold binN; omega⟩
  unfold f_X5_binFor
  refine bd_q (meshClass_eq hN hb e hs hz) ?_
  subst e
  refine gd_q (inb_of (by omega)) ?_
  dsimp only
  rw [tn]
  have : (4 * (mcl z.2.2.1 (z.1.2.1 b) : Int) + z.1.1 b - 1) = (binN z b : Int) := by unfold binN; omega
  rw [this]
def rubS (b : Nat) (z : bS) : bS := if z.1.2.1 b = z.2.2.1 (mcl z.2.2.1 (z.1.2.1 b)) then ((z.1.1, z.1.2.1, z.1.2.2.1, up z.1.2.2.2.1 b (if 9 ≤ z.1.2.2.2.1 b then 9 else z.1.2.2.2.1 b + 1), z.1.2.2.2.2), z.2.1, z.2.2.1, z.2.2.2.1, z.2.2.2.2.1, z.2.2.2.2.2.1, z.2.2.2.2.2.2.1, z.2.2.2.2.2.2.2 + 1) else z
theorem rub_eq {N b : Nat} {bb : Int} {z : bS} (hN : 50 ≤ N) (hb : b < 40) (e : bb = (b : Int)) (hs : SI z.2.2.1) (hz : -1000 ≤ z.1.2.1 b ∧ z.1.2.1 b ≤ 1000) (hc : 0 ≤ z.1.2.2.2.1 b ∧ z.1.2.2.2.1 b ≤ 9) : f_X5_rub N bb z = some (rubS b z) := by
  have hm := mcl_lt z.2.2.1 (z.1.2.1 b)
  have hr := SI_rg hs (mcl z.2.2.1 (z.1.2.1 b)) (by omega)
  unfold f_X5_rub rubS
  refine gd_q (inb_of (by omega)) ?_
  refine bd_q (meshClass_eq hN hb e hs hz) ?_
  subst e
  dsimp only
  refine gd_q (inb_of (by omega)) ?_
  rw [tn, tn]
  refine gd_q (rg_of (by omega)) ?_
  refine gd_q (rg_of (by omega)) ?_
  by_cases e1 : z.1.2.1 b = z.2.2.1 (mcl z.2.2.1 (z.1.2.1 b))
  · rw [if_pos e1, if_pos e1]
    refine nm_q ?_
    dsimp only
    unfold f_X1_chip
    by_cases e9 : 9 ≤ z.1.2.2.2.1 b
    · refine bd_q (a := z.1) ?_ ?_
      · refine gd_q (inb_of (by omega)) ?_
        rw [tn]
        refine gd_q (rg_of (by omega)) ?_
        exact it_q1 e9 rfl
      · refine nm_q ?_
        rw [if_pos e9]
        have : up z.1.2.2.2.1 b 9 = z.1.2.2.2.1 := by rw [show (9 : Int) = z.1.2.2.2.1 b by omega, up_id]
        rw [this]
    · refine bd_q (a := (z.1.1, z.1.2.1, z.1.2.2.1, up z.1.2.2.2.1 b (z.1.2.2.2.1 b + 1), z.1.2.2.2.2)) ?_ ?_
      · refine gd_q (inb_of (by omega)) ?_
        rw [tn]
        refine gd_q (rg_of (by omega)) ?_
        refine it_q2 e9 ?_
        exact nm_q rfl
      · refine nm_q ?_
        rw [if_neg e9]
  · rw [if_neg e1, if_neg e1]
/-- where a button is brought: as the class has it -/
def plcS (b : Nat) (z : bS) : Int := if z.2.2.1 3 < z.1.2.2.2.1 b then 1 else if z.2.2.1 4 ≤ z.1.2.2.1 b then (if z.2.2.1 5 ≤ z.2.1.2.2.2.2.1 2 + 1 then 3 else 2) else if z.2.2.1 2 < z.1.2.1 b then 4 else if z.2.1.2.2.2.2.2 (binN z b) < z.2.2.1 6 then 5 else 0
theorem placeFor_eq {N b : Nat} {bb : Int} {z : bS} (hN : 50 ≤ N) (hb : b < 40) (e : bb = (b : Int)) (hs : SI z.2.2.1) (hz : -1000 ≤ z.1.2.1 b ∧ z.1.2.1 b ≤ 1000) (hh : 1 ≤ z.1.1 b ∧ z.1.1 b ≤ 4) (hc : 0 ≤ z.1.2.2.2.1 b ∧ z.1.2.2.2.1 b ≤ 9) (hi : 0 ≤ z.1.2.2.1 b ∧ z.1.2.2.1 b ≤ 9) (ha : 0 ≤ z.2.1.2.2.2.2.1 2 ∧ z.2.1.2.2.2.2.1 2 ≤ 40) (hib : ∀ q, q < 12 → 0 ≤ z.2.1.2.2.2.2.2 q ∧ z.2.1.2.2.2.2.2 q ≤ 40) : f_X5_placeFor N bb z = some (plcS b z, z) := by
  have hr := SI_rg hs
  have r2 := hr 2 (by omega)
  have r3 := hr 3 (by omega)
  have r4 := hr 4 (by omega)
  have r5 := hr 5 (by omega)
  have r6 := hr 6 (by omega)
  obtain ⟨hbf, hbl⟩ := binFor_eq (N := N) hN hb e hs hz hh
  have hi2 := hib _ hbl
  unfold f_X5_placeFor plcS
  have et : bb.toNat = b := by omega
  rw [et]
  refine gd_q (inb_of (by omega)) ?_
  refine gd_q (rg_of (by omega)) ?_
  refine gd_q (rg_of (by omega)) ?_
  by_cases e1 : z.2.2.1 3 < z.1.2.2.2.1 b
  · rw [if_pos e1]
    exact it_q2 (by omega) rfl
  · rw [if_neg e1]
    refine it_q1 (by omega) ?_
    refine gd_q (rg_of (by omega)) ?_
    refine gd_q (rg_of (by omega)) ?_
    by_cases e2 : z.2.2.1 4 ≤ z.1.2.2.1 b
    · rw [if_pos e2]
      refine it_q2 (by omega) ?_
      refine gd_q (rg_of (by omega)) ?_
      refine gd_q (rg_of (by omega)) ?_
      by_cases e3 : z.2.2.1 5 ≤ z.2.1.2.2.2.2.1 2 + 1
      · rw [if_pos e3]
        exact it_q2 (by omega) rfl
      · rw [if_neg e3]
        exact it_q1 (by omega) rfl
    · rw [if_neg e2]
      refine it_q1 (by omega) ?_
      refine gd_q (rg_of (by omega)) ?_
      refine gd_q (rg_of (by omega)) ?_
      by_cases e3 : z.2.2.1 2 < z.1.2.1 b
      · rw [if_pos e3]
        exact it_q2 (by omega) rfl
      · rw [if_neg e3]
        refine it_q1 (by omega) ?_
        refine bd_q hbf ?_
        dsimp only
        have hroom : f_X5_hasRoom (binN z b : Int) z = some ((if z.2.1.2.2.2.2.2 (binN z b) < z.2.2.1 6 then 1 else 0), z) := by
          unfold f_X5_hasRoom
          refine bd_q (isBin_1 (by omega)) (gd_q (by decide) (it_q2 (by decide) (gd_q (inb_of (by omega)) ?_)))
          rw [tn]
          refine gd_q (rg_of (by omega)) (gd_q (rg_of (by omega)) ?_)
          by_cases e4 : z.2.1.2.2.2.2.2 (binN z b) < z.2.2.1 6
          · rw [if_pos e4]
            exact it_q2 (by omega) rfl
          · rw [if_neg e4]
            exact it_q1 (by omega) rfl
        refine bd_q hroom ?_
        dsimp only
        by_cases e4 : z.2.1.2.2.2.2.2 (binN z b) < z.2.2.1 6
        · rw [if_pos e4, if_pos e4]
          exact gd_q (by decide) (it_q2 (by decide) rfl)
        · rw [if_neg e4, if_neg e4]
          exact gd_q (by decide) (it_q1 rfl rfl)
/-! the model's -/
theorem classOf_eq {b : Nat} {bb : Int} {r s : Nat → Int} {m : bm} (hb : b < 40) (e : bb = (b : Int)) (hs : ∀ k, k < 8 → r k = s k) (hr : ∀ k, k < 8 → -1000 ≤ s k ∧ s k ≤ 1000) (hz : -1000 ≤ r (55 + 9 * b + 1) ∧ r (55 + 9 * b + 1) ≤ 1000) : f_X8_classOf bb (r, m) = some ((mcl s (r (55 + 9 * b + 1)) : Int), (r, m)) := by
  have r0 := hr 0 (by omega)
  have r1 := hr 1 (by omega)
  unfold f_X8_classOf mcl
  refine bd_q (of_eq (k := 1) hb (by omega) e rfl) ?_
  dsimp only
  have h0 := hs 0 (by omega)
  have h1 := hs 1 (by omega)
  refine gd_q (rg_of (by omega)) ?_
  refine gd_q (rg_of (by omega)) ?_
  by_cases e0 : r (55 + 9 * b + 1) ≤ s 0
  · rw [if_pos e0]
    exact it_q2 (by omega) rfl
  · rw [if_neg e0]
    refine it_q1 (by omega) ?_
    refine gd_q (rg_of (by omega)) ?_
    by_cases e1 : r (55 + 9 * b + 1) ≤ s 1
    · rw [if_pos e1]
      exact it_q2 (by omega) rfl
    · rw [if_neg e1]
      exact it_q1 (by omega) rfl
theorem binOf_eq {b : Nat} {bb : Int} {r s : Nat → Int} {m : bm} (hb : b < 40) (e : bb = (b : Int)) (hs : ∀ k, k < 8 → r k = s k) (hr : ∀ k, k < 8 → -1000 ≤ s k ∧ s k ≤ 1000) (hz : -1000 ≤ r (55 + 9 * b + 1) ∧ r (55 + 9 * b + 1) ≤ 1000) : f_X8_binOf bb (r, m) = some (4 * (mcl s (r (55 + 9 * b + 1)) : Int) + r (55 + 9 * b + 0) - 1, (r, m)) := by
  unfold f_X8_binOf
  refine bd_q (classOf_eq hb e hs hr hz) ?_
  exact bd_q (of_eq (k := 0) hb (by omega) e rfl) rfl
def plcM (b : Nat) (r : Nat → Int) : Int := if r 3 < r (55 + 9 * b + 3) then 1 else if r 4 ≤ r (55 + 9 * b + 2) then 2 else if r 2 < r (55 + 9 * b + 1) then 4 else 5
theorem placeForM_eq {b : Nat} {bb : Int} {r : Nat → Int} {m : bm} (hb : b < 40) (e : bb = (b : Int)) (hr : ∀ k, k < 8 → -1000 ≤ r k ∧ r k ≤ 1000) (h1 : rg (r (55 + 9 * b + 1)) = true) (h2 : rg (r (55 + 9 * b + 2)) = true) (h3 : rg (r (55 + 9 * b + 3)) = true) : f_X8_placeFor bb (r, m) = some (plcM b r, (r, m)) := by
  have r2 := hr 2 (by omega)
  have r3 := hr 3 (by omega)
  have r4 := hr 4 (by omega)
  unfold f_X8_placeFor plcM
  refine bd_q (of_eq (k := 3) hb (by omega) e rfl) ?_
  dsimp only
  refine gd_q h3 ?_
  refine gd_q (rg_of (by omega)) ?_
  by_cases e1 : r 3 < r (55 + 9 * b + 3)
  · rw [if_pos e1]
    exact it_q2 (by omega) rfl
  · rw [if_neg e1]
    refine it_q1 (by omega) ?_
    refine bd_q (of_eq (k := 2) hb (by omega) e rfl) ?_
    dsimp only
    refine gd_q h2 ?_
    refine gd_q (rg_of (by omega)) ?_
    by_cases e2 : r 4 ≤ r (55 + 9 * b + 2)
    · rw [if_pos e2]
      exact it_q2 (by omega) rfl
    · rw [if_neg e2]
      refine it_q1 (by omega) ?_
      refine bd_q (of_eq (k := 1) hb (by omega) e rfl) ?_
      dsimp only
      refine gd_q h1 ?_
      refine gd_q (rg_of (by omega)) ?_
      by_cases e3 : r 2 < r (55 + 9 * b + 1)
      · rw [if_pos e3]
        exact it_q2 (by omega) rfl
      · rw [if_neg e3]
        exact it_q1 (by omega) rfl
