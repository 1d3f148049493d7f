/-! class and model side by side: the relation, the first calls -/
def RT (s : Nat → Int) (l : Int) (tx : Nat → Int) (le : Int) : Prop := ∃ L : Nat, L ≤ 60 ∧ l = (L : Int) ∧ le = (L : Int) ∧ ∀ k, k < L → s k = tx k ∧ 0 ≤ s k ∧ s k ≤ 65535
def RK (s : bS) (h : Int) (r : Nat → Int) (ik : Int) : Prop := (h = 0 ∧ ik = 0) ∨ (h = 1 ∧ ik = 1 ∧ RS s r)
def RX (x : bX) (y : bM) : Prop := RT x.1.2.1 x.1.2.2 y.2.2.2.2.2.2.2.2.1 y.2.2.2.2.2.2.2.2.2.1 ∧ HR x.2.2.1 y.2.1 y.2.2.1 ∧ RS x.2.2.2.1 y.1 ∧ RK x.2.2.2.2.1 x.2.2.2.2.2.2 y.2.2.2.1 y.2.2.2.2.1
def SIM (fx : bX → Option (Int × bX)) (fm : bM → Option (Int × bM)) : Prop := ∀ x y, RX x y → ∃ v x' y', fx x = some (v, x') ∧ fm y = some (v, y') ∧ RX x' y'
theorem s_undo {N : Nat} (hN : 1300 ≤ N) : SIM f_X7_undo (f_X8_undo N) := by
  rintro ⟨⟨B, s, l⟩, O, H, S, P, V, hs⟩ ⟨r, hi, st, sn, ik, as, li, lm, tx, le, sp, re, rd⟩ ⟨hT, hH, hS, hK⟩
  dsimp only at hT hH hS hK
  by_cases h0 : 0 < H.1
  · obtain ⟨c, a, hc, e1, g1, ha, hH'⟩ := takeBack_eq (z := S) hH h0
    subst e1
    obtain ⟨r', u1, u2⟩ := undo_loop N hi c hc (sn, ik, as, li, lm, tx, le, sp, re, rd) 415 0 (by omega) N r (by omega) (fun j hj => absurd hj (by omega))
    refine ⟨(c : Int), ((B, s, l), O, ((c : Int), H.2), cpyS S a, P, V, hs), (r', hi, (c : Int), sn, ik, as, li, lm, tx, le, sp, re, rd), ?_, ?_, ⟨hT, hH', RS_cpy ha u2, hK⟩⟩
    · unfold f_X7_undo
      exact bd_q g1 (nm_q (nm_q (gd_q (rg_of (by first | omega | (dsimp only; omega))) (it_q2 (by first | omega | (dsimp only; omega)) rfl))))
    · unfold f_X8_undo
      refine gd_q (rg_of (by first | omega | (dsimp only; omega))) (it_q2 (by first | omega | (dsimp only; omega)) (nm_q ?_))
      dsimp only
      rw [show (c : Int) + 1 - 1 = (c : Int) by omega]
      exact u1
  · obtain ⟨c, hc, e1, e2, hj⟩ := hH
    have ec : c = 0 := by omega
    subst ec
    subst e2
    refine ⟨-5, ((B, s, l), O, H, S, P, V, hs), (r, hi, ((0 : Nat) : Int), sn, ik, as, li, lm, tx, le, sp, re, rd), ?_, ?_, ⟨hT, ⟨0, by omega, e1, rfl, hj⟩, hS, hK⟩⟩
    · unfold f_X7_undo f_X2_takeBack
      dsimp only
      refine bd_q (gd_q (rg_of (by first | omega | (dsimp only; omega))) (it_q2 h0 rfl)) (nm_q (nm_q (gd_q (rg_of (by first | omega | (dsimp only; omega))) (it_q1 rfl rfl))))
    · unfold f_X8_undo
      exact gd_q (rg_of (by first | omega | (dsimp only; omega))) (it_q1 rfl rfl)
theorem s_keep {N : Nat} (hN : 1300 ≤ N) : SIM f_X7_keep (f_X8_keep N) := by
  rintro ⟨⟨B, s, l⟩, O, H, S, P, V, hs⟩ ⟨r, hi, st, sn, ik, as, li, lm, tx, le, sp, re, rd⟩ ⟨hT, hH, hS, hK⟩
  dsimp only at hT hH hS hK
  have hS0 := hS
  obtain ⟨n, hC, hR⟩ := hS
  obtain ⟨x', u1, u2⟩ := keep_loop N r hi st ik (as, li, lm, tx, le, sp, re, rd) 415 0 (by omega) N sn (by omega) (fun j hj => absurd hj (by omega))
  refine ⟨(n : Int), ((B, s, l), O, H, S, cpyS P S, V, 1), (r, hi, st, x', 1, as, li, lm, tx, le, sp, re, rd), ?_, ?_, ⟨hT, hH, hS0, Or.inr ⟨rfl, rfl, RS_cpy hS0 u2⟩⟩⟩
  · unfold f_X7_keep
    refine bd_q (copyFrom_eq hC) (nm_q (nm_q (nm_q ?_)))
    dsimp only
    rw [hC.1.1]
  · unfold f_X8_keep
    rw [← R1_n hR]
    exact u1
theorem s_restore {N : Nat} (hN : 1300 ≤ N) : SIM f_X7_restore (f_X8_restore N) := by
  rintro ⟨⟨B, s, l⟩, O, H, S, P, V, hs⟩ ⟨r, hi, st, sn, ik, as, li, lm, tx, le, sp, re, rd⟩ ⟨hT, hH, hS, hK⟩
  dsimp only at hT hH hS hK
  rcases hK with ⟨k1, k2⟩ | ⟨k1, k2, k3⟩
  · subst k1
    subst k2
    refine ⟨-5, ((B, s, l), O, H, S, P, V, 0), (r, hi, st, sn, 0, as, li, lm, tx, le, sp, re, rd), ?_, ?_, ⟨hT, hH, hS, Or.inl ⟨rfl, rfl⟩⟩⟩
    · exact gd_q (rg_of (by first | omega | (dsimp only; omega))) (it_q1 rfl rfl)
    · exact gd_q (rg_of (by first | omega | (dsimp only; omega))) (it_q1 rfl rfl)
  · subst k1
    subst k2
    obtain ⟨h', hi', st', g1, g2, g3⟩ := rem_eq (t := (sn, 1, as, li, lm, tx, le, sp, re, rd)) hN hH hS
    obtain ⟨n, hC, hR⟩ := k3
    obtain ⟨r', u1, u2⟩ := rest_loop N hi' sn st' (1, as, li, lm, tx, le, sp, re, rd) 415 0 (by omega) N r (by omega) (fun j hj => absurd hj (by omega))
    have hrow := RS_row ⟨n, hC, hR⟩ u2
    have e13 : r' 13 = (n : Int) := by rw [u2 13 (by omega)]; exact R1_n hR
    refine ⟨(n : Int), ((B, s, l), O, h', cpyS S P, P, V, 1), (r', hi', st', sn, 1, as, li, lm, tx, le, sp, re, rd), ?_, ?_, ⟨hT, g3, RS_cpy hrow (fun _ _ => rfl), Or.inr ⟨rfl, rfl, ⟨n, hC, hR⟩⟩⟩⟩
    · unfold f_X7_restore
      refine gd_q (rg_of (by first | omega | (dsimp only; omega))) (it_q2 (by first | omega | (dsimp only; omega)) ?_)
      refine bd_q g1 (nm_q (nm_q (bd_q (copyFrom_eq hC) (nm_q (nm_q ?_)))))
      dsimp only
      rw [show (cpyS S P).1.2.2.2.2.2.2 = P.1.2.2.2.2.2.2 from rfl, hC.1.1]
    · unfold f_X8_restore
      refine gd_q (rg_of (by first | omega | (dsimp only; omega))) (it_q2 (by first | omega | (dsimp only; omega)) ?_)
      refine bd_q g2 ?_
      rw [← e13]
      exact u1
theorem s_clearText : SIM f_X7_clearText f_X8_clearText := by
  rintro ⟨⟨B, s, l⟩, O, H, S, P, V, hs⟩ ⟨r, hi, st, sn, ik, as, li, lm, tx, le, sp, re, rd⟩ ⟨hT, hH, hS, hK⟩
  dsimp only at hT hH hS hK
  obtain ⟨L, t1, t2, t3, t4⟩ := hT
  subst t2
  subst t3
  exact ⟨(L : Int), ((B, s, 0), O, H, S, P, V, hs), (r, hi, st, sn, ik, as, li, lm, tx, 0, sp, re, rd), rfl, rfl, ⟨⟨0, by omega, rfl, rfl, fun k hk => absurd hk (by omega)⟩, hH, hS, hK⟩⟩
theorem s_type {c : Int} (hc : 0 ≤ c ∧ c < 65536) : SIM (f_X7_type c) (f_X8_type c) := by
  rintro ⟨⟨B, s, l⟩, O, H, S, P, V, hs⟩ ⟨r, hi, st, sn, ik, as, li, lm, tx, le, sp, re, rd⟩ ⟨hT, hH, hS, hK⟩
  dsimp only at hT hH hS hK
  obtain ⟨L, t1, t2, t3, t4⟩ := hT
  subst t2
  subst t3
  by_cases e : L = 60
  · refine ⟨-3, ((B, s, (L : Int)), O, H, S, P, V, hs), (r, hi, st, sn, ik, as, li, lm, tx, (L : Int), sp, re, rd), ?_, ?_, ⟨⟨L, t1, rfl, rfl, t4⟩, hH, hS, hK⟩⟩
    · unfold f_X7_type f_X6_append
      dsimp only
      exact bd_q (gd_q (rg_of (by first | omega | (dsimp only; omega))) (it_q2 (by omega) rfl)) (nm_q (gd_q (rg_of (by first | omega | (dsimp only; omega))) (it_q1 rfl rfl)))
    · unfold f_X8_type
      dsimp only
      exact gd_q (rg_of (by first | omega | (dsimp only; omega))) (it_q1 (by omega) rfl)
  · refine ⟨(L : Int) + 1, ((B, up s L c, (L : Int) + 1), O, H, S, P, V, hs), (r, hi, st, sn, ik, as, li, lm, up tx L c, (L : Int) + 1, sp, re, rd), ?_, ?_, ⟨⟨L + 1, by omega, rfl, rfl, fun k hk => ?_⟩, hH, hS, hK⟩⟩
    · unfold f_X7_type f_X6_append
      dsimp only
      exact bd_q (gd_q (rg_of (by first | omega | (dsimp only; omega))) (it_q1 (by omega) (gd_q (inb_of (by first | omega | (dsimp only; omega))) (gd_q (inb_of (by first | omega | (dsimp only; omega))) (nm_q (nm_q rfl)))))) (nm_q (gd_q (rg_of (by first | omega | (dsimp only; omega))) (it_q2 (by first | omega | (dsimp only; omega)) rfl)))
    · unfold f_X8_type
      dsimp only
      exact gd_q (rg_of (by first | omega | (dsimp only; omega))) (it_q2 (by omega) (gd_q (inb_of (by first | omega | (dsimp only; omega))) (nm_q (nm_q rfl))))
    · dsimp only
      by_cases ek : k = L
      · subst ek
        rw [up_s, up_s]
        omega
      · rw [up_n _ _ ek, up_n _ _ ek]
        exact t4 k (by omega)
/-- counting in the model, by the class's counts -/
theorem atR {N n : Nat} {z : bS} {r : Nat → Int} {m : bm} {q : Nat} {qq : Int} (hN : 50 ≤ N) (hC : CI z n) (hR : R1 z r n) (hq : q < 7) (e : qq = (q : Int)) : f_X8_at N qq (r, m) = some (z.2.1.2.2.2.2.1 q, (r, m)) := by
  subst e
  have hn40 := hC.1.2.1
  refine Eq.trans (at_eq (n := n) hN (R1_n hR) hn40 (rg_of (by first | omega | (dsimp only; omega))) (fun b hb => ?_)) ?_
  · have hf : r (55 + 9 * b + 5) = z.2.1.1 b := R1_f hR hb (by omega)
    have := CI_p hC hb
    unfold PB at this
    rw [hf]
    exact rg_of (by omega)
  · rw [hC.2.2.2.1.1 q hq, cnt_eq (g := z.2.1.1) (fun b hb => (R1_f hR hb (by omega) : r (55 + 9 * b + 5) = z.2.1.1 b))]
theorem bin_rg {z : bS} {n b : Nat} (hC : CI z n) (hb : b < n) : -5 ≤ z.2.1.1 b ∧ z.2.1.1 b ≤ 6 ∧ -5 ≤ z.2.1.2.1 b ∧ z.2.1.2.1 b ≤ 11 ∧ (z.2.1.1 b ≠ 5 → z.2.1.2.1 b < 0) ∧ (0 ≤ z.2.1.2.1 b → z.2.1.1 b = 5) := by
  have := CI_p hC hb
  unfold PB at this
  by_cases e5 : z.2.1.1 b = 5
  · have := this.2.2.1 e5
    omega
  · have := this.2.2.2.1 e5
    omega
theorem isInR {n b : Nat} {z : bS} {r : Nat → Int} {m : bm} {bb x : Int} (hC : CI z n) (hR : R1 z r n) (hb : b < n) (e : bb = (b : Int)) (hx : 0 ≤ x ∧ x < 12) : f_X8_isIn bb x (r, m) = some ((if z.2.1.2.1 b = x then 1 else 0), (r, m)) := by
  have hn40 := hC.1.2.1
  have h5 : r (55 + 9 * b + 5) = z.2.1.1 b := R1_f hR hb (by omega)
  have h6 : r (55 + 9 * b + 6) = z.2.1.2.1 b := R1_f hR hb (by omega)
  have hb' := bin_rg hC hb
  rw [← h6]
  exact isIn_eq (by omega) e (by rw [h5]; exact rg_of (by omega)) (by rw [h6]; exact rg_of (by omega)) hx (by rw [h5, h6]; exact hb'.2.2.2.2.1)
theorem manyR {N n : Nat} {z : bS} {r : Nat → Int} {m : bm} {q : Nat} {qq : Int} (hN : 50 ≤ N) (hC : CI z n) (hR : R1 z r n) (hq : q < 12) (e : qq = (q : Int)) : f_X8_manyIn N qq (r, m) = some (z.2.1.2.2.2.2.2 q, (r, m)) := by
  subst e
  have hn40 := hC.1.2.1
  have h5 : ∀ b, b < n → r (55 + 9 * b + 5) = z.2.1.1 b := fun b hb => R1_f hR hb (by omega)
  have h6 : ∀ b, b < n → r (55 + 9 * b + 6) = z.2.1.2.1 b := fun b hb => R1_f hR hb (by omega)
  refine Eq.trans (manyIn_eq (n := n) hN (R1_n hR) hn40 (by omega) (fun b hb => ?_) (fun b hb => ?_) (fun b hb h => ?_)) ?_
  · have := bin_rg hC hb
    rw [h5 b hb]
    exact rg_of (by omega)
  · have := bin_rg hC hb
    rw [h6 b hb]
    exact rg_of (by omega)
  · have := bin_rg hC hb
    rw [h6 b hb]
    rw [h5 b hb] at h
    exact this.2.2.2.2.1 h
  · rw [hC.2.2.2.1.2 q hq, cnt_eq h6]
theorem RS_CI {z : bS} {n : Nat} {r : Nat → Int} (h1 : CI z n) (h2 : R1 z r n) : RS z r := ⟨n, h1, h2⟩
theorem sort_loop {N : Nat} (hN : 50 ≤ N) (bt : bBT) (O : bO) (H : bH) (m : bm) (px : bS × bS × Int) (M : Nat) (hM : M ≤ 99) : ∀ d i, i + d = M → ∀ (S : bS) (r : Nat → Int) (k k' : Nat), RS S r → d < k → d < k' → ∃ (v : Int) (S' : bS) (r' : Nat → Int), f_X7_sort_L45 N k (M : Int) (i : Int) (bt, O, H, S, px) = some (v, (bt, O, H, S', px)) ∧ f_X8_sort_L32 N k' (M : Int) (i : Int) (r, m) = some (v, (r', m)) ∧ RS S' r' := by
  intro d
  induction d with
  | zero =>
    intro i hi S r k k' hS hk hk'
    obtain ⟨k, rfl⟩ : ∃ j, k = j + 1 := ⟨k - 1, by omega⟩
    obtain ⟨k', rfl⟩ : ∃ j, k' = j + 1 := ⟨k' - 1, by omega⟩
    refine ⟨(i : Int), S, r, ?_, ?_, hS⟩
    · rw [f_X7_sort_L45]
      exact gd_q (rg_of (by first | omega | (dsimp only; omega))) (gd_q (rg_of (by first | omega | (dsimp only; omega))) (it_q1 (by omega) rfl))
    · rw [f_X8_sort_L32]
      exact gd_q (rg_of (by first | omega | (dsimp only; omega))) (gd_q (rg_of (by first | omega | (dsimp only; omega))) (it_q1 (by omega) rfl))
  | succ d ih =>
    intro i hi S r k k' hS hk hk'
    obtain ⟨k, rfl⟩ : ∃ j, k = j + 1 := ⟨k - 1, by omega⟩
    obtain ⟨k', rfl⟩ : ∃ j, k' = j + 1 := ⟨k' - 1, by omega⟩
    obtain ⟨n, hC, hR⟩ := hS
    have h40 := CI_40 hC
    have h14 : r 14 = S.2.1.2.2.2.2.1 0 := hR.1.2.2.2.1
    by_cases e : S.2.1.2.2.2.2.1 0 ≤ 0
    · refine ⟨(i : Int), S, r, ?_, ?_, ⟨n, hC, hR⟩⟩
      · rw [f_X7_sort_L45]
        exact gd_q (rg_of (by first | omega | (dsimp only; omega))) (gd_q (rg_of (by first | omega | (dsimp only; omega))) (it_q2 (by omega) (gd_q (rg_of (by first | omega | (dsimp only; omega))) (it_q1 e rfl))))
      · rw [f_X8_sort_L32]
        exact gd_q (rg_of (by first | omega | (dsimp only; omega))) (gd_q (rg_of (by first | omega | (dsimp only; omega))) (it_q2 (by omega) (gd_q (rg_of (by first | omega | (dsimp only; omega))) (it_q1 (by first | omega | (dsimp only; omega)) rfl))))
    · obtain ⟨S1, r1, g1, g2, g3, g4, g5⟩ := sort_step (m := m) hN hC hR (by omega)
      obtain ⟨v, S', r', u1, u2, u3⟩ := ih (i + 1) (by omega) S1 r1 k k' ⟨n, g3, g4⟩ (by omega) (by omega)
      refine ⟨v, S', r', ?_, ?_, u3⟩
      · rw [f_X7_sort_L45]
        exact gd_q (rg_of (by first | omega | (dsimp only; omega))) (gd_q (rg_of (by first | omega | (dsimp only; omega))) (it_q2 (by omega) (gd_q (rg_of (by first | omega | (dsimp only; omega))) (it_q2 e (bd_q g1 (nm_q u1))))))
      · rw [f_X8_sort_L32]
        exact gd_q (rg_of (by first | omega | (dsimp only; omega))) (gd_q (rg_of (by first | omega | (dsimp only; omega))) (it_q2 (by omega) (gd_q (rg_of (by first | omega | (dsimp only; omega))) (it_q2 (by first | omega | (dsimp only; omega)) (bd_q g2 u2)))))
/-- the model's bounds -/
theorem in_eq {x a b : Int} (hx : rg x = true) (ha : rg a = true) (hb : rg b = true) : f_X8_in x a b = some (if a ≤ x ∧ x ≤ b then 1 else 0) := by
  unfold f_X8_in
  refine gd_q hx (gd_q ha ?_)
  by_cases e : x < a
  · rw [if_neg (show ¬ (a ≤ x ∧ x ≤ b) by omega)]
    exact it_q1 e rfl
  · refine it_q2 e (gd_q hb ?_)
    by_cases e2 : b < x
    · rw [if_neg (show ¬ (a ≤ x ∧ x ≤ b) by omega)]
      exact it_q1 e2 rfl
    · rw [if_pos (show a ≤ x ∧ x ≤ b by omega)]
      exact it_q2 e2 rfl
theorem s_sort {N : Nat} (hN : 1300 ≤ N) {a : Int} (ha : rg a = true) : SIM (f_X7_sort N a) (f_X8_sort N a) := by
  rintro ⟨⟨B, s, l⟩, O, H, S, P, V, hs⟩ ⟨r, hi, st, sn, ik, as, li, lm, tx, le, sp, re, rd⟩ ⟨hT, hH, hS, hK⟩
  dsimp only at hT hH hS hK
  have hS0 := hS
  obtain ⟨n, hC, hR⟩ := hS
  have h40 := CI_40 hC
  have h14 : r 14 = S.2.1.2.2.2.2.1 0 := hR.1.2.2.2.1
  have hin := in_eq ha (show rg 1 = true by decide) (show rg 99 = true by decide)
  by_cases e1 : 1 ≤ a ∧ a ≤ 99
  · rw [if_pos e1] at hin
    by_cases e2 : S.2.1.2.2.2.2.1 0 = 0
    · refine ⟨-5, ((B, s, l), O, H, S, P, V, hs), (r, hi, st, sn, ik, as, li, lm, tx, le, sp, re, rd), ?_, ?_, ⟨hT, hH, hS0, hK⟩⟩
      · exact gd_q ha (it_q2 (by omega) (it_q1 (by omega) (gd_q (rg_of (by first | omega | (dsimp only; omega))) (it_q1 e2 rfl))))
      · exact bd_q hin (gd_q (rg_of (by first | omega | (dsimp only; omega))) (it_q2 (by first | omega | (dsimp only; omega)) (gd_q (rg_of (by first | omega | (dsimp only; omega))) (it_q1 (by first | omega | (dsimp only; omega)) rfl))))
    · obtain ⟨h', hi', st', g1, g2, g3⟩ := rem_eq (t := (sn, ik, as, li, lm, tx, le, sp, re, rd)) hN hH hS0
      obtain ⟨v, S', r', u1, u2, u3⟩ := sort_loop (N := N) (by omega) (B, s, l) O h' (hi', st', sn, ik, as, li, lm, tx, le, sp, re, rd) (P, V, hs) a.toNat (by omega) a.toNat 0 (by omega) S r N N hS0 (by omega) (by omega)
      rw [show (a.toNat : Int) = a by omega] at u1 u2
      refine ⟨v, ((B, s, l), O, h', S', P, V, hs), (r', hi', st', sn, ik, as, li, lm, tx, le, sp, re, rd), ?_, ?_, ⟨hT, g3, u3, hK⟩⟩
      · exact gd_q ha (it_q2 (by omega) (it_q1 (by omega) (gd_q (rg_of (by first | omega | (dsimp only; omega))) (it_q2 e2 (bd_q g1 (nm_q (nm_q u1)))))))
      · exact bd_q hin (gd_q (rg_of (by first | omega | (dsimp only; omega))) (it_q2 (by first | omega | (dsimp only; omega)) (gd_q (rg_of (by first | omega | (dsimp only; omega))) (it_q2 (by first | omega | (dsimp only; omega)) (bd_q g2 u2)))))
  · rw [if_neg e1] at hin
    refine ⟨-2, ((B, s, l), O, H, S, P, V, hs), (r, hi, st, sn, ik, as, li, lm, tx, le, sp, re, rd), ?_, ?_, ⟨hT, hH, hS0, hK⟩⟩
    · by_cases e2 : a < 1
      · exact gd_q ha (it_q1 e2 rfl)
      · exact gd_q ha (it_q2 e2 (it_q2 (by omega) rfl))
    · exact bd_q hin (gd_q (rg_of (by first | omega | (dsimp only; omega))) (it_q1 rfl rfl))
theorem s_letGo {N : Nat} (hN : 1300 ≤ N) : SIM (f_X7_letGo N) (f_X8_letGo N) := by
  rintro ⟨⟨B, s, l⟩, O, H, S, P, V, hs⟩ ⟨r, hi, st, sn, ik, as, li, lm, tx, le, sp, re, rd⟩ ⟨hT, hH, hS, hK⟩
  dsimp only at hT hH hS hK
  have hS0 := hS
  obtain ⟨n, hC, hR⟩ := hS
  have h40 := CI_40 hC
  have hat := PI_at hC.2.2 (q := 2) (by omega)
  have hm := atR (N := N) (m := (hi, st, sn, ik, as, li, lm, tx, le, sp, re, rd)) (q := 2) (qq := 2) (by omega) hC hR (by omega) rfl
  by_cases e2 : S.2.1.2.2.2.2.1 2 = 0
  · refine ⟨-5, ((B, s, l), O, H, S, P, V, hs), (r, hi, st, sn, ik, as, li, lm, tx, le, sp, re, rd), ?_, ?_, ⟨hT, hH, hS0, hK⟩⟩
    · exact nm_q (gd_q (rg_of (by first | omega | (dsimp only; omega))) (it_q1 e2 rfl))
    · exact bd_q hm (gd_q (rg_of (by first | omega | (dsimp only; omega))) (it_q1 e2 rfl))
  · obtain ⟨h', hi', st', g1, g2, g3⟩ := rem_eq (t := (sn, ik, as, li, lm, tx, le, sp, re, rd)) hN hH hS0
    obtain ⟨p', r', u1, u2, u3, u4, u5⟩ := magnet_eq (N := N) (m := (hi', st', sn, ik, as, li, lm, tx, le, sp, re, rd)) (by omega) hC hR
    refine ⟨S.2.1.2.2.2.2.1 2, ((B, s, l), O, h', (S.1, p', S.2.2), P, V, hs), (r', hi', st', sn, ik, as, li, lm, tx, le, sp, re, rd), ?_, ?_, ⟨hT, g3, ⟨n, u3, u4⟩, hK⟩⟩
    · exact nm_q (gd_q (rg_of (by first | omega | (dsimp only; omega))) (it_q2 e2 (bd_q g1 (nm_q (nm_q (bd_q u1 (nm_q rfl)))))))
    · exact bd_q hm (gd_q (rg_of (by first | omega | (dsimp only; omega))) (it_q2 e2 (bd_q g2 (bd_q u2 rfl))))
