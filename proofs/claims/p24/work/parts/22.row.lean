/-! the model's row beside the class's state -/
abbrev bm : Type := (Nat → Int) × Int × (Nat → Int) × Int × (Nat → Int) × (Nat → Int) × Int × (Nat → Int) × Int × Int × Int × (Nat → Int)
/-- the numbers of a button, as the row has them -/
def fld (z : bS) (k b : Nat) : Int := match k with
  | 0 => z.1.1 b
  | 1 => z.1.2.1 b
  | 2 => z.1.2.2.1 b
  | 3 => z.1.2.2.2.1 b
  | 4 => z.1.2.2.2.2.1 b
  | 5 => z.2.1.1 b
  | 6 => z.2.1.2.1 b
  | 7 => z.2.1.2.2.1 b
  | _ => z.1.2.2.2.2.2.1 b
def RB (r : Nat → Int) (n : Nat) (F : Nat → Nat → Int) : Prop := ∀ b k, b < n → k < 9 → r (55 + 9 * b + k) = F k b
theorem RB_put {r : Nat → Int} {n b0 k0 : Nat} {F F' : Nat → Nat → Int} {v : Int} (h : RB r n F) (hk0 : k0 < 9) (hF : ∀ b k, b < n → k < 9 → F' k b = if b = b0 ∧ k = k0 then v else F k b) : RB (up r (55 + 9 * b0 + k0) v) n F' := by
  intro b k hb hk
  rw [hF b k hb hk]
  by_cases e : b = b0 ∧ k = k0
  · rw [if_pos e, e.1, e.2, up_s]
  · rw [if_neg e, up_n _ _ (by omega)]
    exact h b k hb hk
theorem RB_low {r : Nat → Int} {n j : Nat} {F : Nat → Nat → Int} {v : Int} (h : RB r n F) (hj : j < 55) : RB (up r j v) n F := by
  intro b k hb hk
  rw [up_n _ _ (by omega)]
  exact h b k hb hk
theorem RB_eq {r r' : Nat → Int} {n : Nat} {F : Nat → Nat → Int} (h : RB r n F) (hr : ∀ j, 55 ≤ j → r' j = r j) : RB r' n F := by
  intro b k hb hk
  rw [hr _ (by omega)]
  exact h b k hb hk
theorem RB_F {r : Nat → Int} {n : Nat} {F F' : Nat → Nat → Int} (h : RB r n F) (hF : ∀ b k, b < n → k < 9 → F' k b = F k b) : RB r n F' := by
  intro b k hb hk
  rw [hF b k hb hk]
  exact h b k hb hk
/-- the head of the row: settings, sums, the hopper -/
def RH (z : bS) (r : Nat → Int) (n : Nat) : Prop := (∀ k, k < 8 → r k = z.2.2.1 k) ∧ (r 8 = z.2.2.2.1 ∧ r 9 = z.2.2.2.2.1 ∧ r 10 = z.2.2.2.2.2.1 ∧ r 11 = z.2.2.2.2.2.2.1 ∧ r 12 = z.2.2.2.2.2.2.2) ∧ r 13 = (n : Int) ∧ r 14 = z.2.1.2.2.2.2.1 0 ∧ ∀ k : Nat, (k : Int) < z.2.1.2.2.2.2.1 0 → r (15 + k) = z.2.1.2.2.2.1 k
def R1 (z : bS) (r : Nat → Int) (n : Nat) : Prop := RH z r n ∧ RB r n (fld z)
theorem RH_eq {z : bS} {r r' : Nat → Int} {n : Nat} (h : RH z r n) (hn : z.2.1.2.2.2.2.1 0 ≤ 40) (hr : ∀ j, j < 55 → r' j = r j) : RH z r' n := by
  obtain ⟨h1, ⟨a1, a2, a3, a4, a5⟩, h3, h4, h5⟩ := h
  exact ⟨fun k hk => by rw [hr k (by omega)]; exact h1 k hk, ⟨by rw [hr _ (by omega)]; exact a1, by rw [hr _ (by omega)]; exact a2, by rw [hr _ (by omega)]; exact a3, by rw [hr _ (by omega)]; exact a4, by rw [hr _ (by omega)]; exact a5⟩, by rw [hr _ (by omega)]; exact h3, by rw [hr _ (by omega)]; exact h4, fun k hk => by rw [hr _ (by omega)]; exact h5 k hk⟩
theorem up_hi {r : Nat → Int} {b k j : Nat} {v : Int} (h : j < 55) : up r (55 + 9 * b + k) v j = r j := up_n _ _ (by omega)
/-- counting at a place -/
theorem at_loop (N : Nat) (r : Nat → Int) (m : bm) (n : Nat) (q : Int) (hn : r 13 = (n : Int)) (hn40 : n ≤ 40) (hq : rg q = true) (hr : ∀ b, b < n → rg (r (55 + 9 * b + 5)) = true) : ∀ d i k, i + d = n → d < k → f_X8_at_L4 N k q (cnt i (fun b => r (55 + 9 * b + 5)) q) (i : Int) (r, m) = some (cnt n (fun b => r (55 + 9 * b + 5)) q, (r, m)) := by
  intro d
  induction d with
  | zero =>
    intro i k hi hk
    obtain ⟨k, rfl⟩ : ∃ j, k = j + 1 := ⟨k - 1, by omega⟩
    have e : i = n := by omega
    subst e
    rw [f_X8_at_L4]
    refine gd_q (rg_of (by omega)) ?_
    refine gd_q (by dsimp only; rw [hn]; exact rg_of (by omega)) ?_
    exact it_q1 (by dsimp only; rw [hn]; omega) rfl
  | succ d ih =>
    intro i k hi hk
    obtain ⟨k, rfl⟩ : ∃ j, k = j + 1 := ⟨k - 1, by omega⟩
    rw [f_X8_at_L4]
    refine gd_q (rg_of (by omega)) ?_
    refine gd_q (by dsimp only; rw [hn]; exact rg_of (by omega)) ?_
    refine it_q2 (by dsimp only; rw [hn]; omega) ?_
    refine bd_q (of_eq (b := i) (k := 5) (by omega) (by omega) rfl rfl) ?_
    refine gd_q (hr i (by omega)) ?_
    refine gd_q hq ?_
    have h1 := ih (i + 1) k (by omega) (by omega)
    rw [cnt_s] at h1
    by_cases e : r (55 + 9 * i + 5) = q
    · refine it_q1 e ?_
      refine nm_q ?_
      rw [if_pos e] at h1
      exact h1
    · refine it_q2 e ?_
      refine nm_q ?_
      rw [if_neg e] at h1
      exact h1
theorem at_eq {N : Nat} {r : Nat → Int} {m : bm} {n : Nat} {q : Int} (hN : 50 ≤ N) (hn : r 13 = (n : Int)) (hn40 : n ≤ 40) (hq : rg q = true) (hr : ∀ b, b < n → rg (r (55 + 9 * b + 5)) = true) : f_X8_at N q (r, m) = some (cnt n (fun b => r (55 + 9 * b + 5)) q, (r, m)) := at_loop N r m n q hn hn40 hq hr n 0 N (by omega) (by omega)
theorem isIn_eq {r : Nat → Int} {m : bm} {b : Nat} {bb x : Int} (hb : b < 40) (e : bb = (b : Int)) (h5 : rg (r (55 + 9 * b + 5)) = true) (h6 : rg (r (55 + 9 * b + 6)) = true) (hx : 0 ≤ x ∧ x < 12) (hv : r (55 + 9 * b + 5) ≠ 5 → r (55 + 9 * b + 6) < 0) : f_X8_isIn bb x (r, m) = some ((if r (55 + 9 * b + 6) = x then 1 else 0), (r, m)) := by
  unfold f_X8_isIn
  refine bd_q (of_eq (k := 5) hb (by omega) e rfl) ?_
  refine gd_q h5 ?_
  by_cases e5 : r (55 + 9 * b + 5) = 5
  · refine it_q1 e5 ?_
    refine bd_q (of_eq (k := 6) hb (by omega) e rfl) ?_
    refine gd_q h6 ?_
    refine gd_q (rg_of (by omega)) ?_
    by_cases e6 : r (55 + 9 * b + 6) = x
    · rw [if_pos e6, if_pos e6]
    · rw [if_neg e6, if_neg e6]
  · refine it_q2 e5 ?_
    have := hv e5
    rw [if_neg (by omega)]
theorem manyIn_loop (N : Nat) (r : Nat → Int) (m : bm) (n : Nat) (x : Int) (hn : r 13 = (n : Int)) (hn40 : n ≤ 40) (hx : 0 ≤ x ∧ x < 12) (h5 : ∀ b, b < n → rg (r (55 + 9 * b + 5)) = true) (h6 : ∀ b, b < n → rg (r (55 + 9 * b + 6)) = true) (hv : ∀ b, b < n → r (55 + 9 * b + 5) ≠ 5 → r (55 + 9 * b + 6) < 0) : ∀ d i k, i + d = n → d < k → f_X8_manyIn_L4 N k x (cnt i (fun b => r (55 + 9 * b + 6)) x) (i : Int) (r, m) = some (cnt n (fun b => r (55 + 9 * b + 6)) x, (r, m)) := by
  intro d
  induction d with
  | zero =>
    intro i k hi hk
    obtain ⟨k, rfl⟩ : ∃ j, k = j + 1 := ⟨k - 1, by omega⟩
    have e : i = n := by omega
    subst e
    rw [f_X8_manyIn_L4]
    refine gd_q (rg_of (by omega)) ?_
    refine gd_q (by dsimp only; rw [hn]; exact rg_of (by omega)) ?_
    exact it_q1 (by dsimp only; rw [hn]; omega) rfl
  | succ d ih =>
    intro i k hi hk
    obtain ⟨k, rfl⟩ : ∃ j, k = j + 1 := ⟨k - 1, by omega⟩
    rw [f_X8_manyIn_L4]
    refine gd_q (rg_of (by omega)) ?_
    refine gd_q (by dsimp only; rw [hn]; exact rg_of (by omega)) ?_
    refine it_q2 (by dsimp only; rw [hn]; omega) ?_
    refine bd_q (isIn_eq (b := i) (by omega) rfl (h5 i (by omega)) (h6 i (by omega)) hx (hv i (by omega))) ?_
    have h1 := ih (i + 1) k (by omega) (by omega)
    rw [cnt_s] at h1
    by_cases e : r (55 + 9 * i + 6) = x
    · rw [if_pos e] at h1
      dsimp only
      rw [if_pos e]
      refine gd_q (by decide) ?_
      refine it_q2 (by decide) ?_
      exact nm_q h1
    · rw [if_neg e] at h1
      dsimp only
      rw [if_neg e]
      refine gd_q (by decide) ?_
      refine it_q1 (by decide) ?_
      exact nm_q h1
theorem manyIn_eq {N : Nat} {r : Nat → Int} {m : bm} {n : Nat} {x : Int} (hN : 50 ≤ N) (hn : r 13 = (n : Int)) (hn40 : n ≤ 40) (hx : 0 ≤ x ∧ x < 12) (h5 : ∀ b, b < n → rg (r (55 + 9 * b + 5)) = true) (h6 : ∀ b, b < n → rg (r (55 + 9 * b + 6)) = true) (hv : ∀ b, b < n → r (55 + 9 * b + 5) ≠ 5 → r (55 + 9 * b + 6) < 0) : f_X8_manyIn N x (r, m) = some (cnt n (fun b => r (55 + 9 * b + 6)) x, (r, m)) := manyIn_loop N r m n x hn hn40 hx h5 h6 hv n 0 N (by omega) (by omega)
theorem toHopper_eq {b w : Nat} {bb : Int} {r : Nat → Int} {m : bm} (hb : b < 40) (e : bb = (b : Int)) (hw : r 14 = (w : Int)) (hw1 : w < 40) : f_X8_toHopper bb (r, m) = some (up (up (up (up r (55 + 9 * b + 5) 0) (55 + 9 * b + 6) (-5)) (15 + w) (b : Int)) 14 ((w : Int) + 1), m) := by
  subst e
  unfold f_X8_toHopper
  refine bd_q (bringM_eq hb rfl) ?_
  have e1 : up (up r (55 + 9 * b + 5) 0) (55 + 9 * b + 6) (-5) 14 = (w : Int) := by rw [up_hi (by omega), up_hi (by omega)]; exact hw
  dsimp only
  rw [e1]
  refine gd_q (inb_of (by omega)) ?_
  refine nm_q ?_
  refine nm_q ?_
  dsimp only
  rw [show (15 + (w : Int)).toNat = 15 + w by omega]
  rw [show up (up (up r (55 + 9 * b + 5) 0) (55 + 9 * b + 6) (-5)) (15 + w) (b : Int) 14 = (w : Int) by rw [up_n _ _ (by omega)]; exact e1]
