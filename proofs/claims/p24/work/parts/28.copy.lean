/-! copies of states; the model's rows that are copied -/
def SEq (a b : bS) (n : Nat) : Prop := a.1.2.2.2.2.2.2 = b.1.2.2.2.2.2.2 ∧ (∀ k x, x < n → k < 9 → fld a k x = fld b k x) ∧ (∀ k, k < 8 → a.2.2.1 k = b.2.2.1 k) ∧ a.2.2.2 = b.2.2.2 ∧ (∀ q, q < 7 → a.2.1.2.2.2.2.1 q = b.2.1.2.2.2.2.1 q) ∧ (∀ q, q < 12 → a.2.1.2.2.2.2.2 q = b.2.1.2.2.2.2.2 q) ∧ ∀ k : Nat, (k : Int) < b.2.1.2.2.2.2.1 0 → a.2.1.2.2.2.1 k = b.2.1.2.2.2.1 k
theorem SEq_CI {a b : bS} {n : Nat} (h : SEq a b n) (hC : CI b n) : CI a n := by
  obtain ⟨h1, h2, h3, h4, h5, h6, h7⟩ := h
  obtain ⟨⟨b1, b2, b3⟩, hs, hV, ⟨c1, c2⟩, w, w1, w2, w3⟩ := hC
  have e5 : ∀ x, x < n → a.2.1.1 x = b.2.1.1 x := fun x hx => h2 5 x hx (by omega)
  have e6 : ∀ x, x < n → a.2.1.2.1 x = b.2.1.2.1 x := fun x hx => h2 6 x hx (by omega)
  have e7 : ∀ x, x < n → a.2.1.2.2.1 x = b.2.1.2.2.1 x := fun x hx => h2 7 x hx (by omega)
  refine ⟨⟨h1.trans b1, b2, fun x hx => ?_⟩, ?_, fun x hx => ?_, ⟨fun q hq => ?_, fun q hq => ?_⟩, w, (h5 0 (by omega)).trans w1, fun k hk => ?_, fun i j hij hj => ?_⟩
  · have g0 : a.1.1 x = b.1.1 x := h2 0 x hx (by omega)
    have g1 : a.1.2.1 x = b.1.2.1 x := h2 1 x hx (by omega)
    have g2 : a.1.2.2.1 x = b.1.2.2.1 x := h2 2 x hx (by omega)
    have g3 : a.1.2.2.2.1 x = b.1.2.2.2.1 x := h2 3 x hx (by omega)
    have g4 : a.1.2.2.2.2.1 x = b.1.2.2.2.2.1 x := h2 4 x hx (by omega)
    rw [g0, g1, g2, g3, g4]
    exact b3 x hx
  · have s0 := h3 0 (by omega)
    have s1 := h3 1 (by omega)
    have s2 := h3 2 (by omega)
    have s3 := h3 3 (by omega)
    have s4 := h3 4 (by omega)
    have s5 := h3 5 (by omega)
    have s6 := h3 6 (by omega)
    have s7 := h3 7 (by omega)
    unfold SI at hs ⊢
    omega
  · have := hV x hx
    unfold PB at this ⊢
    rw [e5 x hx, e6 x hx, e7 x hx]
    exact this
  · rw [h5 q hq, c1 q hq]
    exact (cnt_eq e5 _).symm
  · rw [h6 q hq, c2 q hq]
    exact (cnt_eq e6 _).symm
  · obtain ⟨x, x1, x2, x3⟩ := w2 k hk
    exact ⟨x, x1, by rw [h7 k (by omega)]; exact x2, by rw [e5 x x1]; exact x3⟩
  · rw [h7 i (by omega), h7 j (by omega)]
    exact w3 i j hij hj
theorem SEq_R1 {a b : bS} {n : Nat} {r : Nat → Int} (h : SEq a b n) (hR : R1 b r n) : R1 a r n := by
  obtain ⟨h1, h2, h3, h4, h5, h6, h7⟩ := h
  obtain ⟨⟨r1, ⟨a1, a2, a3, a4, a5⟩, r3, r4, r5⟩, hB⟩ := hR
  refine ⟨⟨fun k hk => by rw [h3 k hk]; exact r1 k hk, by rw [h4]; exact ⟨a1, a2, a3, a4, a5⟩, r3, by rw [h5 0 (by omega)]; exact r4, fun k hk => ?_⟩, RB_F hB (fun x k hx hk => h2 k x hx hk)⟩
  rw [h5 0 (by omega)] at hk
  rw [h7 k hk]
  exact r5 k hk
theorem R1_row {z : bS} {n : Nat} {r r' : Nat → Int} (hR : R1 z r n) (hn : n ≤ 40) (hw : z.2.1.2.2.2.2.1 0 ≤ 40) (h : ∀ j, j < 415 → r' j = r j) : R1 z r' n := by
  refine ⟨RH_eq hR.1 hw (fun j hj => h j (by omega)), fun b k hb hk => ?_⟩
  rw [h _ (by omega)]
  exact hR.2 b k hb hk
theorem cpy_lt {f g : Nat → Int} {n x : Nat} (h : x < n) : va_cpy f g 0 0 n x = f x := by
  rw [va_cpy, if_pos (by omega)]
  congr 1
  omega
def cpyS (a b : bS) : bS := ((va_cpy b.1.1 a.1.1 0 0 40, va_cpy b.1.2.1 a.1.2.1 0 0 40, va_cpy b.1.2.2.1 a.1.2.2.1 0 0 40, va_cpy b.1.2.2.2.1 a.1.2.2.2.1 0 0 40, va_cpy b.1.2.2.2.2.1 a.1.2.2.2.2.1 0 0 40, va_cpy b.1.2.2.2.2.2.1 a.1.2.2.2.2.2.1 0 0 40, b.1.2.2.2.2.2.2), (va_cpy b.2.1.1 a.2.1.1 0 0 40, va_cpy b.2.1.2.1 a.2.1.2.1 0 0 40, va_cpy b.2.1.2.2.1 a.2.1.2.2.1 0 0 40, va_cpy b.2.1.2.2.2.1 a.2.1.2.2.2.1 0 0 40, va_cpy b.2.1.2.2.2.2.1 a.2.1.2.2.2.2.1 0 0 7, va_cpy b.2.1.2.2.2.2.2 a.2.1.2.2.2.2.2 0 0 12), va_cpy b.2.2.1 a.2.2.1 0 0 8, b.2.2.2)
theorem copyFrom_eq {a b : bS} {n : Nat} (hC : CI b n) : f_X5_copyFrom (a, b) = some (cpyS a b, b) := by
  unfold f_X5_copyFrom f_X1_copyFrom f_X4_copyFrom
  dsimp only
  refine bd_q (nm_q (nm_q (nm_q (nm_q (nm_q (nm_q (nm_q rfl))))))) ?_
  refine nm_q (nm_q ?_)
  refine bd_q (nm_q (nm_q (nm_q (nm_q (nm_q (nm_q rfl)))))) ?_
  exact nm_q (nm_q (nm_q (nm_q (nm_q (nm_q (nm_q (nm_q rfl)))))))
theorem cpyS_SEq {a b : bS} {n : Nat} (hC : CI b n) : SEq (cpyS a b) b n := by
  have hn40 := hC.1.2.1
  have hw := PI_w hC.2.2
  refine ⟨rfl, fun k x hx hk => ?_, fun k hk => cpy_lt hk, rfl, fun q hq => cpy_lt hq, fun q hq => cpy_lt hq, fun k hk => cpy_lt (by omega)⟩
  have hx' : x < 40 := by omega
  rcases (show k = 0 ∨ k = 1 ∨ k = 2 ∨ k = 3 ∨ k = 4 ∨ k = 5 ∨ k = 6 ∨ k = 7 ∨ k = 8 by omega) with rfl | rfl | rfl | rfl | rfl | rfl | rfl | rfl | rfl <;> exact cpy_lt hx'

/-! the model's copying loops -/
theorem aside_loop (N : Nat) (hi s5 : Nat → Int) (m : Int × (Nat → Int) × Int × (Nat → Int)) (t : (Nat → Int) × Int × (Nat → Int) × Int × Int × Int × (Nat → Int)) (r : Nat → Int) : ∀ d i, i + d = 415 → ∀ (k : Nat) (x : Nat → Int), d < k → (∀ j, j < i → x j = r j) → ∃ x' : Nat → Int, f_X8_putAside_L2 N k (i : Int) (r, hi, m.1, m.2.1, m.2.2.1, x, t) = some (r, hi, m.1, m.2.1, m.2.2.1, x', t) ∧ ∀ j, j < 415 → x' j = r j := by
  intro d
  induction d with
  | zero =>
    intro i hi k x hk hx
    obtain ⟨k, rfl⟩ : ∃ j, k = j + 1 := ⟨k - 1, by omega⟩
    refine ⟨x, ?_, fun j hj => hx j (by omega)⟩
    rw [f_X8_putAside_L2]
    exact gd_q (rg_of (by omega)) (it_q1 (by omega) rfl)
  | succ d ih =>
    intro i hi k x hk hx
    obtain ⟨k, rfl⟩ : ∃ j, k = j + 1 := ⟨k - 1, by omega⟩
    obtain ⟨x', g1, g2⟩ := ih (i + 1) (by omega) k (up x i (r i)) (by omega) (fun j hj => by
      by_cases e : j = i
      · subst e
        exact up_s _ _ _
      · rw [up_n _ _ e]
        exact hx j (by omega))
    refine ⟨x', ?_, g2⟩
    rw [f_X8_putAside_L2]
    exact gd_q (rg_of (by omega)) (it_q2 (by omega) (gd_q (inb_of (by omega)) (nm_q g1)))
theorem back_loop (N : Nat) (hi s5 : Nat → Int) (m : Int × (Nat → Int) × Int) (x : Nat → Int) (t : (Nat → Int) × Int × (Nat → Int) × Int × Int × Int × (Nat → Int)) : ∀ d i, i + d = 415 → ∀ (k : Nat) (r : Nat → Int), d < k → (∀ j, j < i → r j = x j) → ∃ r' : Nat → Int, f_X8_putBack_L2 N k (i : Int) (r, hi, m.1, m.2.1, m.2.2, x, t) = some (r', hi, m.1, m.2.1, m.2.2, x, t) ∧ ∀ j, j < 415 → r' j = x j := by
  intro d
  induction d with
  | zero =>
    intro i hi k r hk hx
    obtain ⟨k, rfl⟩ : ∃ j, k = j + 1 := ⟨k - 1, by omega⟩
    refine ⟨r, ?_, fun j hj => hx j (by omega)⟩
    rw [f_X8_putBack_L2]
    exact gd_q (rg_of (by omega)) (it_q1 (by omega) rfl)
  | succ d ih =>
    intro i hi k r hk hx
    obtain ⟨k, rfl⟩ : ∃ j, k = j + 1 := ⟨k - 1, by omega⟩
    obtain ⟨r', g1, g2⟩ := ih (i + 1) (by omega) k (up r i (x i)) (by omega) (fun j hj => by
      by_cases e : j = i
      · subst e
        exact up_s _ _ _
      · rw [up_n _ _ e]
        exact hx j (by omega))
    refine ⟨r', ?_, g2⟩
    rw [f_X8_putBack_L2]
    exact gd_q (rg_of (by omega)) (it_q2 (by omega) (gd_q (inb_of (by omega)) (nm_q g1)))
theorem rec_loop (N : Nat) (r : Nat → Int) (st : Nat) (hst : st < 4) (t : (Nat → Int) × Int × (Nat → Int) × (Nat → Int) × Int × (Nat → Int) × Int × Int × Int × (Nat → Int)) : ∀ d i, i + d = 415 → ∀ (k : Nat) (h : Nat → Int), d < k → (∀ j, j < i → h (415 * st + j) = r j) → ∃ h' : Nat → Int, f_X8_record_L51 N k (i : Int) (r, h, (st : Int), t) = some (r, h', (st : Int) + 1, t) ∧ (∀ j, j < 415 → h' (415 * st + j) = r j) ∧ ∀ j, j < 415 * st → h' j = h j := by
  intro d
  induction d with
  | zero =>
    intro i hi k h hk hx
    obtain ⟨k, rfl⟩ : ∃ j, k = j + 1 := ⟨k - 1, by omega⟩
    refine ⟨h, ?_, fun j hj => hx j (by omega), fun _ _ => rfl⟩
    rw [f_X8_record_L51]
    exact gd_q (rg_of (by omega)) (it_q1 (by omega) rfl)
  | succ d ih =>
    intro i hi k h hk hx
    obtain ⟨k, rfl⟩ : ∃ j, k = j + 1 := ⟨k - 1, by omega⟩
    obtain ⟨h', g1, g2, g3⟩ := ih (i + 1) (by omega) k (up h (415 * st + i) (r i)) (by omega) (fun j hj => by
      by_cases e : j = i
      · subst e
        exact up_s _ _ _
      · rw [up_n _ _ (by omega)]
        exact hx j (by omega))
    refine ⟨h', ?_, g2, fun j hj => by rw [g3 j hj, up_n _ _ (by omega)]⟩
    rw [f_X8_record_L51]
    refine gd_q (rg_of (by omega)) (it_q2 (by omega) (gd_q (inb_of (by omega)) (gd_q (inb_of (by dsimp only; omega)) (nm_q ?_))))
    dsimp only
    rw [show (415 * (st : Int) + (i : Int)).toNat = 415 * st + i by omega]
    exact g1
theorem drop_loop (N : Nat) (r : Nat → Int) (s0 : Int) (t : (Nat → Int) × Int × (Nat → Int) × (Nat → Int) × Int × (Nat → Int) × Int × Int × Int × (Nat → Int)) (h0 : Nat → Int) : ∀ d i, i + d = 1245 → ∀ (k : Nat) (h : Nat → Int), d < k → (∀ j, j < i → h j = h0 (j + 415)) → (∀ j, i ≤ j → h j = h0 j) → ∃ h' : Nat → Int, f_X8_record_L10 N k (i : Int) (r, h, s0, t) = f_X8_record_L51 N N 0 (r, h', s0 - 1, t) ∧ ∀ j, j < 1245 → h' j = h0 (j + 415) := by
  intro d
  induction d with
  | zero =>
    intro i hi k h hk hx hy
    obtain ⟨k, rfl⟩ : ∃ j, k = j + 1 := ⟨k - 1, by omega⟩
    refine ⟨h, ?_, fun j hj => hx j (by omega)⟩
    rw [f_X8_record_L10]
    exact gd_q (rg_of (by omega)) (it_q1 (by omega) rfl)
  | succ d ih =>
    intro i hi k h hk hx hy
    obtain ⟨k, rfl⟩ : ∃ j, k = j + 1 := ⟨k - 1, by omega⟩
    obtain ⟨h', g1, g2⟩ := ih (i + 1) (by omega) k (up h i (h (i + 415))) (by omega) (fun j hj => by
      by_cases e : j = i
      · subst e
        rw [up_s]
        exact hy _ (by omega)
      · rw [up_n _ _ e]
        exact hx j (by omega)) (fun j hj => by rw [up_n _ _ (by omega)]; exact hy j (by omega))
    refine ⟨h', ?_, g2⟩
    rw [f_X8_record_L10]
    refine gd_q (rg_of (by omega)) (it_q2 (by omega) (gd_q (inb_of (by omega)) (gd_q (inb_of (by omega)) (nm_q ?_))))
    dsimp only
    rw [show ((i : Int) + 415).toNat = i + 415 by omega]
    exact g1
theorem undo_loop (N : Nat) (h : Nat → Int) (st : Nat) (hst : st < 4) (t : (Nat → Int) × Int × (Nat → Int) × (Nat → Int) × Int × (Nat → Int) × Int × Int × Int × (Nat → Int)) : ∀ d i, i + d = 415 → ∀ (k : Nat) (r : Nat → Int), d < k → (∀ j, j < i → r j = h (415 * st + j)) → ∃ r' : Nat → Int, f_X8_undo_L22 N k (i : Int) (r, h, (st : Int), t) = some ((st : Int), (r', h, (st : Int), t)) ∧ ∀ j, j < 415 → r' j = h (415 * st + j) := by
  intro d
  induction d with
  | zero =>
    intro i hi k r hk hx
    obtain ⟨k, rfl⟩ : ∃ j, k = j + 1 := ⟨k - 1, by omega⟩
    refine ⟨r, ?_, fun j hj => hx j (by omega)⟩
    rw [f_X8_undo_L22]
    exact gd_q (rg_of (by omega)) (it_q1 (by omega) rfl)
  | succ d ih =>
    intro i hi k r hk hx
    obtain ⟨k, rfl⟩ : ∃ j, k = j + 1 := ⟨k - 1, by omega⟩
    obtain ⟨r', g1, g2⟩ := ih (i + 1) (by omega) k (up r i (h (415 * st + i))) (by omega) (fun j hj => by
      by_cases e : j = i
      · subst e
        exact up_s _ _ _
      · rw [up_n _ _ e]
        exact hx j (by omega))
    refine ⟨r', ?_, g2⟩
    rw [f_X8_undo_L22]
    refine gd_q (rg_of (by omega)) (it_q2 (by omega) (gd_q (inb_of (by dsimp only; omega)) (gd_q (inb_of (by omega)) (nm_q ?_))))
    dsimp only
    rw [show (415 * (st : Int) + (i : Int)).toNat = 415 * st + i by omega]
    exact g1
theorem keep_loop (N : Nat) (r h : Nat → Int) (st ik : Int) (t : (Nat → Int) × (Nat → Int) × Int × (Nat → Int) × Int × Int × Int × (Nat → Int)) : ∀ d i, i + d = 415 → ∀ (k : Nat) (x : Nat → Int), d < k → (∀ j, j < i → x j = r j) → ∃ x' : Nat → Int, f_X8_keep_L2 N k (i : Int) (r, h, st, x, ik, t) = some (r 13, (r, h, st, x', 1, t)) ∧ ∀ j, j < 415 → x' j = r j := by
  intro d
  induction d with
  | zero =>
    intro i hi k x hk hx
    obtain ⟨k, rfl⟩ : ∃ j, k = j + 1 := ⟨k - 1, by omega⟩
    refine ⟨x, ?_, fun j hj => hx j (by omega)⟩
    rw [f_X8_keep_L2]
    exact gd_q (rg_of (by omega)) (it_q1 (by omega) rfl)
  | succ d ih =>
    intro i hi k x hk hx
    obtain ⟨k, rfl⟩ : ∃ j, k = j + 1 := ⟨k - 1, by omega⟩
    obtain ⟨x', g1, g2⟩ := ih (i + 1) (by omega) k (up x i (r i)) (by omega) (fun j hj => by
      by_cases e : j = i
      · subst e
        exact up_s _ _ _
      · rw [up_n _ _ e]
        exact hx j (by omega))
    refine ⟨x', ?_, g2⟩
    rw [f_X8_keep_L2]
    exact gd_q (rg_of (by omega)) (it_q2 (by omega) (gd_q (inb_of (by omega)) (nm_q g1)))
theorem rest_loop (N : Nat) (h x : Nat → Int) (st : Int) (t : Int × (Nat → Int) × (Nat → Int) × Int × (Nat → Int) × Int × Int × Int × (Nat → Int)) : ∀ d i, i + d = 415 → ∀ (k : Nat) (r : Nat → Int), d < k → (∀ j, j < i → r j = x j) → ∃ r' : Nat → Int, f_X8_restore_L16 N k (i : Int) (r, h, st, x, t) = some (r' 13, (r', h, st, x, t)) ∧ ∀ j, j < 415 → r' j = x j := by
  intro d
  induction d with
  | zero =>
    intro i hi k r hk hx
    obtain ⟨k, rfl⟩ : ∃ j, k = j + 1 := ⟨k - 1, by omega⟩
    refine ⟨r, ?_, fun j hj => hx j (by omega)⟩
    rw [f_X8_restore_L16]
    exact gd_q (rg_of (by omega)) (it_q1 (by omega) rfl)
  | succ d ih =>
    intro i hi k r hk hx
    obtain ⟨k, rfl⟩ : ∃ j, k = j + 1 := ⟨k - 1, by omega⟩
    obtain ⟨r', g1, g2⟩ := ih (i + 1) (by omega) k (up r i (x i)) (by omega) (fun j hj => by
      by_cases e : j = i
      · subst e
        exact up_s _ _ _
      · rw [up_n _ _ e]
        exact hx j (by omega))
    refine ⟨r', ?_, g2⟩
    rw [f_X8_restore_L16]
    exact gd_q (rg_of (by omega)) (it_q2 (by omega) (gd_q (inb_of (by omega)) (nm_q g1)))
