/-! letting go, and one button sorted: class and model in step -/
theorem cnt_none {n : Nat} {f : Nat → Int} {q : Int} (h : ∀ b, b < n → f b ≠ q) : cnt n f q = 0 := by
  induction n with
  | zero => rfl
  | succ n ih =>
    rw [cnt_s, ih (fun b hb => h b (by omega)), if_neg (h n (by omega))]
    rfl
theorem R1_n {z : bS} {r : Nat → Int} {n : Nat} (h : R1 z r n) : r 13 = (n : Int) := h.1.2.2.1
theorem R1_f {z : bS} {r : Nat → Int} {n b k : Nat} (h : R1 z r n) (hb : b < n) (hk : k < 9) : r (55 + 9 * b + k) = fld z k b := h.2 b k hb hk
/-- b0 is brought to q: the row's side; the shirt's number was NONE -/
theorem bring_R {z : bS} {r : Nat → Int} {n b0 : Nat} {q : Int} {p' : bP} (h : R1 z r n) (hp : p'.1 = z.2.1.1 ∧ p'.2.1 = z.2.1.2.1 ∧ p'.2.2.1 = z.2.1.2.2.1 ∧ p'.2.2.2.1 = z.2.1.2.2.2.1 ∧ p'.2.2.2.2.1 0 = z.2.1.2.2.2.2.1 0) (hq : q.toNat ≠ 0) (hst : z.2.1.2.2.1 b0 = -5) (hw : z.2.1.2.2.2.2.1 0 ≤ 40) : R1 (z.1, bringS b0 q p', z.2.2) (up (up r (55 + 9 * b0 + 5) q) (55 + 9 * b0 + 6) (-5)) n := by
  obtain ⟨e1, e2, e3, e4, e5⟩ := hp
  obtain ⟨⟨h1, ⟨a1, a2, a3, a4, a5⟩, h3, h4, h5⟩, hB⟩ := h
  have hat : (bringS b0 q p').2.2.2.2.1 0 = z.2.1.2.2.2.2.1 0 := by
    show up p'.2.2.2.2.1 q.toNat (p'.2.2.2.2.1 q.toNat + 1) 0 = _
    rw [up_n _ _ (by omega)]
    exact e5
  have u : ∀ j, j < 55 → up (up r (55 + 9 * b0 + 5) q) (55 + 9 * b0 + 6) (-5) j = r j := fun j hj => by rw [up_hi hj, up_hi hj]
  refine ⟨⟨fun k hk => by rw [u k (by omega)]; exact h1 k hk, ⟨by rw [u _ (by omega)]; exact a1, by rw [u _ (by omega)]; exact a2, by rw [u _ (by omega)]; exact a3, by rw [u _ (by omega)]; exact a4, by rw [u _ (by omega)]; exact a5⟩, by rw [u _ (by omega)]; exact h3, by rw [u _ (by omega), hat]; exact h4, fun k hk => ?_⟩, ?_⟩
  · dsimp only at hk
    rw [hat] at hk
    show up (up r (55 + 9 * b0 + 5) q) (55 + 9 * b0 + 6) (-5) (15 + k) = p'.2.2.2.1 k
    rw [e4, ← h5 k hk]
    exact u _ (by omega)
  · have h1' := RB_put (b0 := b0) (k0 := 5) (v := q) (F' := fun k x => if x = b0 ∧ k = 5 then q else fld z k x) hB (by omega) (fun _ _ _ _ => rfl)
    have h2' := RB_put (b0 := b0) (k0 := 6) (v := -5) (F' := fun k x => if x = b0 ∧ k = 6 then -5 else if x = b0 ∧ k = 5 then q else fld z k x) h1' (by omega) (fun _ _ _ _ => rfl)
    refine RB_F h2' (fun x k hx hk => ?_)
    by_cases e : x = b0
    · subst e
      rcases (show k = 0 ∨ k = 1 ∨ k = 2 ∨ k = 3 ∨ k = 4 ∨ k = 5 ∨ k = 6 ∨ k = 7 ∨ k = 8 by omega) with rfl | rfl | rfl | rfl | rfl | rfl | rfl | rfl | rfl <;> simp [fld, bringS, up_s, hst]
    · rcases (show k = 0 ∨ k = 1 ∨ k = 2 ∨ k = 3 ∨ k = 4 ∨ k = 5 ∨ k = 6 ∨ k = 7 ∨ k = 8 by omega) with rfl | rfl | rfl | rfl | rfl | rfl | rfl | rfl | rfl <;> simp [fld, bringS, up_n _ _ e, e, e1, e2, e3]

theorem leave_at0 {p : bP} {b : Nat} (h : 0 < p.1 b) : (leaveS b p).2.2.2.2.1 0 = p.2.2.2.2.1 0 := by
  show up p.2.2.2.2.1 (p.1 b).toNat (p.2.2.2.2.1 (p.1 b).toNat - 1) 0 = _
  exact up_n _ _ (by omega)
theorem CI_b {z : bS} {n b : Nat} (h : CI z n) (hb : b < n) : (1 ≤ z.1.1 b ∧ z.1.1 b ≤ 4) ∧ (1 ≤ z.1.2.1 b ∧ z.1.2.1 b ≤ 30) ∧ (0 ≤ z.1.2.2.1 b ∧ z.1.2.2.1 b ≤ 9) ∧ (0 ≤ z.1.2.2.2.1 b ∧ z.1.2.2.2.1 b ≤ 9) ∧ (0 ≤ z.1.2.2.2.2.1 b ∧ z.1.2.2.2.2.1 b ≤ 9) := h.1.2.2 b hb
theorem CI_p {z : bS} {n b : Nat} (h : CI z n) (hb : b < n) : PB z.2.1.1 z.2.1.2.1 z.2.1.2.2.1 b := h.2.2.1 b hb
theorem magnet_loop (N : Nat) (m : bm) (n : Nat) : ∀ d i, i + d = n → ∀ (z : bS) (r : Nat → Int) (c : Int) (k k' : Nat), CI z n → R1 z r n → (∀ b, b < i → z.2.1.1 b ≠ 2) → d < k → d < k' → ∃ (p' : bP) (r' : Nat → Int), f_X5_emptyMagnet_L2 N k (i : Int) z = some (z.1, p', z.2.2) ∧ f_X8_letGoNow_L4 N k' c (i : Int) (r, m) = some (c + z.2.1.2.2.2.2.1 2, (r', m)) ∧ CI (z.1, p', z.2.2) n ∧ R1 (z.1, p', z.2.2) r' n ∧ p'.2.2.2.2.1 0 = z.2.1.2.2.2.2.1 0 := by
  intro d
  induction d with
  | zero =>
    intro i hi z r c k k' hC hR hb hk hk'
    obtain ⟨k, rfl⟩ : ∃ j, k = j + 1 := ⟨k - 1, by omega⟩
    obtain ⟨k', rfl⟩ : ∃ j, k' = j + 1 := ⟨k' - 1, by omega⟩
    have e : i = n := by omega
    subst e
    have hn := hC.1.1
    have hn40 := hC.1.2.1
    have h0 : z.2.1.2.2.2.2.1 2 = 0 := by rw [hC.2.2.2.1.1 2 (by omega)]; exact cnt_none hb
    refine ⟨z.2.1, r, ?_, ?_, hC, hR, rfl⟩
    · rw [f_X5_emptyMagnet_L2]
      refine gd_q (rg_of (by omega)) ?_
      refine gd_q (rg_of (by omega)) ?_
      exact it_q1 (by omega) rfl
    · rw [f_X8_letGoNow_L4]
      have := R1_n hR
      refine gd_q (rg_of (by omega)) ?_
      refine gd_q (by dsimp only; exact rg_of (by omega)) ?_
      refine it_q1 (by dsimp only; omega) ?_
      rw [h0, Int.add_zero]
  | succ d ih =>
    intro i hi z r c k k' hC hR hb hk hk'
    obtain ⟨k, rfl⟩ : ∃ j, k = j + 1 := ⟨k - 1, by omega⟩
    obtain ⟨k', rfl⟩ : ∃ j, k' = j + 1 := ⟨k' - 1, by omega⟩
    have hn := hC.1.1
    have hn40 := hC.1.2.1
    have hrn := R1_n hR
    have hpb := CI_p hC (show i < n by omega)
    have hf5 : r (55 + 9 * i + 5) = z.2.1.1 i := R1_f hR (by omega) (by omega)
    unfold PB at hpb
    by_cases e : z.2.1.1 i = 2
    · have hL := leave_LI hC.2.2 (show i < n by omega) (by omega)
      have hP' := bring_PI (q := 3) hL (by omega) (by omega) (by omega) (by omega)
      have hw := (PI_w hC.2.2).2
      have hR' := bring_R (q := 3) (p' := leaveS i z.2.1) hR ⟨rfl, rfl, rfl, rfl, leave_at0 (by omega)⟩ (by decide) (hpb.2.2.2.2 (by omega)) (by omega)
      have hC' : CI (z.1, bringS i 3 (leaveS i z.2.1), z.2.2) n := ⟨hC.1, hC.2.1, hP'⟩
      have hb' : ∀ b, b < i + 1 → (z.1, bringS i 3 (leaveS i z.2.1), z.2.2).2.1.1 b ≠ 2 := fun b hbi => by
        show up z.2.1.1 i 3 b ≠ 2
        by_cases eb : b = i
        · subst eb
          rw [up_s]
          omega
        · rw [up_n _ _ eb]
          exact hb b (by omega)
      obtain ⟨p', r', g1, g2, g3, g4, g5⟩ := ih (i + 1) (by omega) _ _ (c + 1) k k' hC' hR' hb' (by omega) (by omega)
      have a2 : (bringS i 3 (leaveS i z.2.1)).2.2.2.2.1 2 = z.2.1.2.2.2.2.1 2 - 1 := by
        unfold bringS leaveS
        dsimp only
        rw [up_n _ _ (by decide), e]
        exact up_s _ _ _
      have a0 : (bringS i 3 (leaveS i z.2.1)).2.2.2.2.1 0 = z.2.1.2.2.2.2.1 0 := by
        unfold bringS leaveS
        dsimp only
        rw [up_n _ _ (by decide), e]
        exact up_n _ _ (by decide)
      refine ⟨p', r', ?_, ?_, g3, g4, by rw [g5]; exact a0⟩
      · rw [f_X5_emptyMagnet_L2]
        refine gd_q (rg_of (by omega)) ?_
        refine gd_q (rg_of (by omega)) ?_
        refine it_q2 (by omega) ?_
        refine gd_q (inb_of (by omega)) ?_
        refine gd_q (by rw [tn]; exact rg_of (by omega)) ?_
        refine it_q1 (by rw [tn]; exact e) ?_
        refine bd_q (leave_eq (b := i) (by omega) rfl (by omega) (by omega)) ?_
        refine nm_q ?_
        refine bd_q (bring_eq (b := i) (by omega) rfl (by omega)) ?_
        exact nm_q g1
      · rw [f_X8_letGoNow_L4]
        refine gd_q (rg_of (by omega)) ?_
        refine gd_q (by dsimp only; exact rg_of (by omega)) ?_
        refine it_q2 (by dsimp only; omega) ?_
        refine bd_q (of_eq (b := i) (k := 5) (by omega) (by omega) rfl rfl) ?_
        dsimp only
        refine gd_q (rg_of (by omega)) ?_
        refine it_q1 (by omega) ?_
        refine bd_q (bringM_eq (b := i) (by omega) rfl) ?_
        refine Eq.trans g2 ?_
        dsimp only
        rw [a2, show c + 1 + (z.2.1.2.2.2.2.1 2 - 1) = c + z.2.1.2.2.2.2.1 2 by omega]
    · have hb' : ∀ b, b < i + 1 → z.2.1.1 b ≠ 2 := fun b hbi => by
        by_cases eb : b = i
        · subst eb
          exact e
        · exact hb b (by omega)
      obtain ⟨p', r', g1, g2, g3, g4, g5⟩ := ih (i + 1) (by omega) z r c k k' hC hR hb' (by omega) (by omega)
      refine ⟨p', r', ?_, ?_, g3, g4, g5⟩
      · rw [f_X5_emptyMagnet_L2]
        refine gd_q (rg_of (by omega)) ?_
        refine gd_q (rg_of (by omega)) ?_
        refine it_q2 (by omega) ?_
        refine gd_q (inb_of (by omega)) ?_
        refine gd_q (by rw [tn]; exact rg_of (by omega)) ?_
        exact it_q2 (by rw [tn]; exact e) g1
      · rw [f_X8_letGoNow_L4]
        refine gd_q (rg_of (by omega)) ?_
        refine gd_q (by dsimp only; exact rg_of (by omega)) ?_
        refine it_q2 (by dsimp only; omega) ?_
        refine bd_q (of_eq (b := i) (k := 5) (by omega) (by omega) rfl rfl) ?_
        dsimp only
        refine gd_q (rg_of (by omega)) ?_
        exact it_q2 (by omega) g2
theorem magnet_eq {N : Nat} {m : bm} {n : Nat} {z : bS} {r : Nat → Int} (hN : 50 ≤ N) (hC : CI z n) (hR : R1 z r n) : ∃ (p' : bP) (r' : Nat → Int), f_X5_emptyMagnet N z = some (z.1, p', z.2.2) ∧ f_X8_letGoNow N (r, m) = some (z.2.1.2.2.2.2.1 2, (r', m)) ∧ CI (z.1, p', z.2.2) n ∧ R1 (z.1, p', z.2.2) r' n ∧ p'.2.2.2.2.1 0 = z.2.1.2.2.2.2.1 0 := by
  have hn40 := hC.1.2.1
  obtain ⟨p', r', g1, g2, g3, g4, g5⟩ := magnet_loop N m n n 0 (by omega) z r 0 N N hC hR (fun b hb => absurd hb (by omega)) (by omega) (by omega)
  rw [Int.zero_add] at g2
  exact ⟨p', r', g1, g2, g3, g4, g5⟩
/-- the row moves up by one place behind the first of the hopper -/
theorem shift_loop (N : Nat) (m : bm) (b : Int) (w : Nat) (hw : w ≤ 40) : ∀ d i k, i + d = w → ∀ r : Nat → Int, r 14 = (w : Int) → f_X8_sortOne_L21 N (d + (k + 1)) b (i : Int) (r, m) = f_X8_sortOne_L21 N (k + 1) b (w : Int) ((fun j => if 15 + i ≤ j ∧ j < 15 + w then r (j + 1) else r j), m) := by
  intro d
  induction d with
  | zero =>
    intro i k hi r hr
    have e : i = w := by omega
    subst e
    have : (fun j => if 15 + i ≤ j ∧ j < 15 + i then r (j + 1) else r j) = r := by
      funext j
      rw [if_neg (by omega)]
    rw [this, Nat.zero_add]
  | succ d ih =>
    intro i k hi r hr
    rw [show d + 1 + (k + 1) = (d + (k + 1)) + 1 by omega, f_X8_sortOne_L21]
    refine gd_q (rg_of (by omega)) ?_
    refine gd_q (by dsimp only; rw [hr]; exact rg_of (by omega)) ?_
    refine it_q2 (by dsimp only; rw [hr]; omega) ?_
    refine gd_q (inb_of (by omega)) ?_
    refine gd_q (inb_of (by omega)) ?_
    refine nm_q ?_
    dsimp only
    have e := ih (i + 1) k (by omega) (up r (15 + i) (r (15 + i + 1))) (by rw [up_n _ _ (by omega)]; exact hr)
    rw [show (15 + (i : Int)).toNat = 15 + i by omega]
    have hfun : (fun j => if 15 + (i + 1) ≤ j ∧ j < 15 + w then up r (15 + i) (r (15 + i + 1)) (j + 1) else up r (15 + i) (r (15 + i + 1)) j) = fun j => if 15 + i ≤ j ∧ j < 15 + w then r (j + 1) else r j := by
      funext j
      by_cases h1 : 15 + i ≤ j ∧ j < 15 + w
      · rw [if_pos h1]
        by_cases h2 : j = 15 + i
        · subst h2
          rw [if_neg (by omega), up_s]
        · rw [if_pos (by omega), up_n _ _ (by omega)]
      · rw [if_neg h1, if_neg (by omega), up_n _ _ (by omega)]
    rw [hfun] at e
    refine Eq.trans ?_ e
    rw [show ((15 + (i : Int)) + 1).toNat = 15 + i + 1 by omega]
    rfl
