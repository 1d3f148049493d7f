/-! invariants of the class's state -/
def BI (u : bU) (n : Nat) : Prop := u.2.2.2.2.2.2 = (n : Int) ∧ n ≤ 40 ∧ ∀ b, b < n → (1 ≤ u.1 b ∧ u.1 b ≤ 4) ∧ (1 ≤ u.2.1 b ∧ u.2.1 b ≤ 30) ∧ (0 ≤ u.2.2.1 b ∧ u.2.2.1 b ≤ 9) ∧ (0 ≤ u.2.2.2.1 b ∧ u.2.2.2.1 b ≤ 9) ∧ (0 ≤ u.2.2.2.2.1 b ∧ u.2.2.2.2.1 b ≤ 9)
def SI (s : Nat → Int) : Prop := 1 ≤ s 0 ∧ s 0 ≤ s 1 ∧ s 1 ≤ s 2 ∧ s 2 ≤ 30 ∧ (0 ≤ s 3 ∧ s 3 ≤ 9) ∧ (1 ≤ s 4 ∧ s 4 ≤ 10) ∧ (1 ≤ s 5 ∧ s 5 ≤ 9) ∧ (0 ≤ s 6 ∧ s 6 ≤ 20) ∧ (0 ≤ s 7 ∧ s 7 ≤ 9)
def PB (pl bi st : Nat → Int) (b : Nat) : Prop := 0 ≤ pl b ∧ pl b ≤ 6 ∧ (pl b = 5 → 0 ≤ bi b ∧ bi b ≤ 11) ∧ (pl b ≠ 5 → bi b = -5) ∧ (pl b ≠ 6 → st b = -5)
def PC (n : Nat) (pl bi at_ ib : Nat → Int) : Prop := (∀ q : Nat, q < 7 → at_ q = cnt n pl (q : Int)) ∧ (∀ q : Nat, q < 12 → ib q = cnt n bi (q : Int))
def PI (p : bP) (n : Nat) : Prop := (∀ b, b < n → PB p.1 p.2.1 p.2.2.1 b) ∧ PC n p.1 p.2.1 p.2.2.2.2.1 p.2.2.2.2.2 ∧ ∃ w : Nat, p.2.2.2.2.1 0 = (w : Int) ∧ (∀ k, k < w → ∃ b, b < n ∧ p.2.2.2.1 k = (b : Int) ∧ p.1 b = 0) ∧ ∀ i j, i < j → j < w → p.2.2.2.1 i ≠ p.2.2.2.1 j
/-- the same, while the button b0 is at no place -/
def LI (p : bP) (n b0 : Nat) : Prop := (∀ b, b < n → b ≠ b0 → PB p.1 p.2.1 p.2.2.1 b) ∧ PC n (up p.1 b0 (-1)) (up p.2.1 b0 (-5)) p.2.2.2.2.1 p.2.2.2.2.2 ∧ ∃ w : Nat, p.2.2.2.2.1 0 = (w : Int) ∧ (∀ k, k < w → ∃ b, b < n ∧ b ≠ b0 ∧ p.2.2.2.1 k = (b : Int) ∧ p.1 b = 0) ∧ ∀ i j, i < j → j < w → p.2.2.2.1 i ≠ p.2.2.2.1 j
def CI (z : bS) (n : Nat) : Prop := BI z.1 n ∧ SI z.2.2.1 ∧ PI z.2.1 n
theorem PI_w {p : bP} {n : Nat} (h : PI p n) : 0 ≤ p.2.2.2.2.1 0 ∧ p.2.2.2.2.1 0 ≤ (n : Int) := by
  rw [h.2.1.1 0 (by omega)]
  exact cnt_nn n p.1 _
theorem PI_at {p : bP} {n : Nat} (h : PI p n) {q : Nat} (hq : q < 7) : 0 ≤ p.2.2.2.2.1 q ∧ p.2.2.2.2.1 q ≤ (n : Int) := by
  rw [h.2.1.1 q hq]
  exact cnt_nn n p.1 _
theorem PI_ib {p : bP} {n : Nat} (h : PI p n) {q : Nat} (hq : q < 12) : 0 ≤ p.2.2.2.2.2 q ∧ p.2.2.2.2.2 q ≤ (n : Int) := by
  rw [h.2.1.2 q hq]
  exact cnt_nn n p.2.1 _
theorem LI_w {p : bP} {n b0 : Nat} (h : LI p n b0) (hb : b0 < n) : 0 ≤ p.2.2.2.2.1 0 ∧ p.2.2.2.2.1 0 < (n : Int) := by
  have h1 := h.2.1.1 0 (by omega)
  have h2 := cnt_up (up p.1 b0 (-1)) 0 0 hb
  rw [up_up, up_s] at h2
  have h3 := (cnt_nn n (up p.1 b0 0) 0).2
  have h4 := (cnt_nn n (up p.1 b0 (-1)) 0).1
  simp only [Int.reduceEq, if_false, if_true, Int.reduceNeg] at h2
  rw [h1]
  show 0 ≤ cnt n (up p.1 b0 (-1)) 0 ∧ cnt n (up p.1 b0 (-1)) 0 < (n : Int)
  omega
theorem LI_at {p : bP} {n b0 : Nat} (h : LI p n b0) {q : Nat} (hq : q < 7) : 0 ≤ p.2.2.2.2.1 q ∧ p.2.2.2.2.1 q ≤ (n : Int) := by
  rw [h.2.1.1 q hq]
  exact cnt_nn n _ _
theorem LI_ib {p : bP} {n b0 : Nat} (h : LI p n b0) {q : Nat} (hq : q < 12) : 0 ≤ p.2.2.2.2.2 q ∧ p.2.2.2.2.2 q ≤ (n : Int) := by
  rw [h.2.1.2 q hq]
  exact cnt_nn n _ _
theorem leave_LI {p : bP} {n b0 : Nat} (h : PI p n) (hb : b0 < n) (h0 : p.1 b0 ≠ 0) : LI (leaveS b0 p) n b0 := by
  obtain ⟨hV, ⟨hC1, hC2⟩, w, hw, hh, hd⟩ := h
  have hV0 := hV b0 hb
  obtain ⟨v1, v2, v3, v4, v5⟩ := hV0
  refine ⟨fun b hb _ => hV b hb, ⟨fun q hq => ?_, fun q hq => ?_⟩, w, ?_, fun k hk => ?_, hd⟩
  · show up p.2.2.2.2.1 (p.1 b0).toNat (p.2.2.2.2.1 (p.1 b0).toNat - 1) q = cnt n (up p.1 b0 (-1)) q
    rw [cnt_up p.1 (-1) q hb, if_neg (show ¬ (-1 : Int) = (q : Int) by omega)]
    by_cases e : q = (p.1 b0).toNat
    · subst e
      rw [up_s, hC1 _ hq, if_pos (by omega)]
      omega
    · rw [up_n _ _ e, hC1 q hq, if_neg (by omega)]
      omega
  · show (if p.2.1 b0 < 0 then p.2.2.2.2.2 else up p.2.2.2.2.2 (p.2.1 b0).toNat (p.2.2.2.2.2 (p.2.1 b0).toNat - 1)) q = cnt n (up p.2.1 b0 (-5)) q
    rw [cnt_up p.2.1 (-5) q hb, if_neg (show ¬ (-5 : Int) = (q : Int) by omega)]
    by_cases e5 : p.2.1 b0 < 0
    · rw [if_pos e5, hC2 q hq, if_neg (by omega)]
      omega
    · rw [if_neg e5]
      by_cases e : q = (p.2.1 b0).toNat
      · subst e
        rw [up_s, hC2 _ hq, if_pos (by omega)]
        omega
      · rw [up_n _ _ e, hC2 q hq, if_neg (by omega)]
        omega
  · show up p.2.2.2.2.1 (p.1 b0).toNat (p.2.2.2.2.1 (p.1 b0).toNat - 1) 0 = (w : Int)
    rw [up_n _ _ (by omega)]
    exact hw
  · obtain ⟨b, e1, e2, e3⟩ := hh k hk
    exact ⟨b, e1, fun e => h0 (by rw [← e]; exact e3), e2, e3⟩
/-- the counts, when the button is brought to q, and its bin is v -/
theorem PC_bring {n b0 : Nat} {pl bi at_ ib : Nat → Int} {q : Nat} (hb : b0 < n) (h : PC n (up pl b0 (-1)) (up bi b0 (-5)) at_ ib) (hq : q < 7) : PC n (up pl b0 (q : Int)) (up bi b0 (-5)) (up at_ q (at_ q + 1)) ib := by
  refine ⟨fun x hx => ?_, h.2⟩
  have e := cnt_up (up pl b0 (-1)) (q : Int) (x : Int) hb
  rw [up_up, up_s, if_neg (show ¬ (-1 : Int) = (x : Int) by omega)] at e
  by_cases ex : x = q
  · subst ex
    rw [up_s, h.1 x hx, e, if_pos rfl]
    omega
  · rw [up_n _ _ ex, h.1 x hx, e, if_neg (by omega)]
    omega
theorem bring_PI {p : bP} {n b0 q : Nat} (h : LI p n b0) (hb : b0 < n) (hq : q < 7) (h0 : q ≠ 0) (h5 : q ≠ 5) : PI (bringS b0 (q : Int) p) n := by
  obtain ⟨hV, hC, w, hw, hh, hd⟩ := h
  refine ⟨fun b hbn => ?_, PC_bring hb hC hq, w, ?_, fun k hk => ?_, hd⟩
  · show PB (up p.1 b0 (q : Int)) (up p.2.1 b0 (-5)) (up p.2.2.1 b0 (-5)) b
    by_cases e : b = b0
    · subst e
      unfold PB
      rw [up_s, up_s, up_s]
      omega
    · have := hV b hbn e
      unfold PB at this ⊢
      rw [up_n _ _ e, up_n _ _ e, up_n _ _ e]
      exact this
  · show up p.2.2.2.2.1 q (p.2.2.2.2.1 q + 1) 0 = (w : Int)
    rw [up_n _ _ (by omega)]
    exact hw
  · obtain ⟨b, e1, e2, e3, e4⟩ := hh k hk
    exact ⟨b, e1, e3, by show up p.1 b0 (q : Int) b = 0; rw [up_n _ _ e2]; exact e4⟩
theorem shirt_PI {p : bP} {n b0 : Nat} {v : Int} (h : LI p n b0) (hb : b0 < n) : PI (up p.1 b0 6, up p.2.1 b0 (-5), up p.2.2.1 b0 v, p.2.2.2.1, up p.2.2.2.2.1 6 (p.2.2.2.2.1 6 + 1), p.2.2.2.2.2) n := by
  obtain ⟨hV, hC, w, hw, hh, hd⟩ := h
  refine ⟨fun b hbn => ?_, PC_bring (q := 6) hb hC (by omega), w, ?_, fun k hk => ?_, hd⟩
  · show PB (up p.1 b0 6) (up p.2.1 b0 (-5)) (up p.2.2.1 b0 v) b
    by_cases e : b = b0
    · subst e
      unfold PB
      rw [up_s, up_s, up_s]
      omega
    · have := hV b hbn e
      unfold PB at this ⊢
      rw [up_n _ _ e, up_n _ _ e, up_n _ _ e]
      exact this
  · show up p.2.2.2.2.1 6 (p.2.2.2.2.1 6 + 1) 0 = (w : Int)
    rw [up_n _ _ (by omega)]
    exact hw
  · obtain ⟨b, e1, e2, e3, e4⟩ := hh k hk
    exact ⟨b, e1, e3, by show up p.1 b0 6 b = 0; rw [up_n _ _ e2]; exact e4⟩
theorem bin_PI {p : bP} {n b0 k : Nat} (h : LI p n b0) (hb : b0 < n) (hk : k < 12) : PI (up p.1 b0 5, up p.2.1 b0 (k : Int), up p.2.2.1 b0 (-5), p.2.2.2.1, up p.2.2.2.2.1 5 (p.2.2.2.2.1 5 + 1), up p.2.2.2.2.2 k (p.2.2.2.2.2 k + 1)) n := by
  obtain ⟨hV, hC, w, hw, hh, hd⟩ := h
  have hC' := PC_bring (q := 5) hb hC (by omega)
  refine ⟨fun b hbn => ?_, ⟨hC'.1, fun x hx => ?_⟩, w, ?_, fun i hi => ?_, hd⟩
  · show PB (up p.1 b0 5) (up p.2.1 b0 (k : Int)) (up p.2.2.1 b0 (-5)) b
    by_cases e : b = b0
    · subst e
      unfold PB
      rw [up_s, up_s, up_s]
      omega
    · have := hV b hbn e
      unfold PB at this ⊢
      rw [up_n _ _ e, up_n _ _ e, up_n _ _ e]
      exact this
  · show up p.2.2.2.2.2 k (p.2.2.2.2.2 k + 1) x = cnt n (up p.2.1 b0 (k : Int)) x
    have e := cnt_up (up p.2.1 b0 (-5)) (k : Int) (x : Int) hb
    rw [up_up, up_s, if_neg (show ¬ (-5 : Int) = (x : Int) by omega)] at e
    by_cases ex : x = k
    · subst ex
      rw [up_s, hC.2 x hx, e, if_pos rfl]
      omega
    · rw [up_n _ _ ex, hC.2 x hx, e, if_neg (by omega)]
      omega
  · show up p.2.2.2.2.1 5 (p.2.2.2.2.1 5 + 1) 0 = (w : Int)
    rw [up_n _ _ (by omega)]
    exact hw
  · obtain ⟨b, e1, e2, e3, e4⟩ := hh i hi
    exact ⟨b, e1, e3, by show up p.1 b0 5 b = 0; rw [up_n _ _ e2]; exact e4⟩
theorem hop_PI {p : bP} {n b0 w : Nat} (h : LI p n b0) (hb : b0 < n) (hw0 : p.2.2.2.2.1 0 = (w : Int)) : PI (bringS b0 0 (p.1, p.2.1, p.2.2.1, up p.2.2.2.1 w (b0 : Int), p.2.2.2.2)) n := by
  obtain ⟨hV, hC, w', hw, hh, hd⟩ := h
  have ew : w' = w := by omega
  subst ew
  refine ⟨fun b hbn => ?_, PC_bring (q := 0) hb hC (by omega), w' + 1, ?_, fun k hk => ?_, fun i j hij hj => ?_⟩
  · show PB (up p.1 b0 0) (up p.2.1 b0 (-5)) (up p.2.2.1 b0 (-5)) b
    by_cases e : b = b0
    · subst e
      unfold PB
      rw [up_s, up_s, up_s]
      omega
    · have := hV b hbn e
      unfold PB at this ⊢
      rw [up_n _ _ e, up_n _ _ e, up_n _ _ e]
      exact this
  · show up p.2.2.2.2.1 0 (p.2.2.2.2.1 0 + 1) 0 = ((w' + 1 : Nat) : Int)
    rw [up_s]
    omega
  · show ∃ b, b < n ∧ up p.2.2.2.1 w' (b0 : Int) k = (b : Int) ∧ up p.1 b0 0 b = 0
    by_cases e : k = w'
    · subst e
      exact ⟨b0, hb, up_s _ _ _, up_s _ _ _⟩
    · obtain ⟨b, e1, e2, e3, e4⟩ := hh k (by omega)
      exact ⟨b, e1, by rw [up_n _ _ e]; exact e3, by rw [up_n _ _ e2]; exact e4⟩
  · show up p.2.2.2.1 w' (b0 : Int) i ≠ up p.2.2.2.1 w' (b0 : Int) j
    rw [up_n _ _ (show i ≠ w' by omega)]
    by_cases e : j = w'
    · subst e
      rw [up_s]
      obtain ⟨b, e1, e2, e3, e4⟩ := hh i (by omega)
      rw [e3]
      omega
    · rw [up_n _ _ e]
      exact hd i j hij (by omega)
/-- the first of the hopper is taken -/
theorem take_eq {p : bP} {n : Nat} (h : PI p n) (hn : n ≤ 40) (h0 : 0 < p.2.2.2.2.1 0) : ∃ (b0 w : Nat), b0 < n ∧ p.2.2.2.1 0 = (b0 : Int) ∧ p.1 b0 = 0 ∧ p.2.2.2.2.1 0 = ((w + 1 : Nat) : Int) ∧ f_X4_takeFirst p = some ((b0 : Int), (p.1, p.2.1, p.2.2.1, va_cpy p.2.2.2.1 p.2.2.2.1 1 0 39, up p.2.2.2.2.1 0 (w : Int), p.2.2.2.2.2)) ∧ LI (p.1, p.2.1, p.2.2.1, va_cpy p.2.2.2.1 p.2.2.2.1 1 0 39, up p.2.2.2.2.1 0 (w : Int), p.2.2.2.2.2) n b0 := by
  have hi := h
  obtain ⟨hV, ⟨hC1, hC2⟩, w', hw, hh, hd⟩ := h
  obtain ⟨w, rfl⟩ : ∃ w, w' = w + 1 := ⟨w' - 1, by omega⟩
  obtain ⟨b0, e1, e2, e3⟩ := hh 0 (by omega)
  have v0 := hV b0 e1
  have hbi : p.2.1 b0 = -5 := v0.2.2.2.1 (by omega)
  have hwn := (PI_w hi).2
  refine ⟨b0, w, e1, e2, e3, hw, ?_, fun b hb _ => hV b hb, ⟨fun q hq => ?_, fun q hq => ?_⟩, w, (show up p.2.2.2.2.1 0 (w : Int) 0 = (w : Int) from up_s _ _ _), fun k hk => ?_, fun i j hij hj => ?_⟩
  · unfold f_X4_takeFirst
    refine gd_q (rg_of (by omega)) (it_q1 (by omega) (nm_q ?_))
    rw [e2]
    refine bd_q (leave_eq (by omega) rfl (by omega) (by omega)) (nm_q ?_)
    unfold leaveS
    rw [e3, hbi]
    dsimp only
    rw [if_pos (by omega)]
    show some ((b0 : Int), _, _, _, _, up p.2.2.2.2.1 0 (p.2.2.2.2.1 0 - 1), _) = _
    rw [show p.2.2.2.2.1 0 - 1 = (w : Int) by omega]
  · show up p.2.2.2.2.1 0 (w : Int) q = cnt n (up p.1 b0 (-1)) q
    rw [cnt_up p.1 (-1) q e1, if_neg (show ¬ (-1 : Int) = (q : Int) by omega)]
    by_cases e : q = 0
    · subst e
      have := hC1 0 hq
      rw [up_s, if_pos (by omega)]
      omega
    · rw [up_n _ _ e, hC1 q hq, if_neg (by omega)]
      omega
  · show p.2.2.2.2.2 q = cnt n (up p.2.1 b0 (-5)) q
    rw [← hbi, up_id]
    exact hC2 q hq
  · show ∃ b, b < n ∧ b ≠ b0 ∧ va_cpy p.2.2.2.1 p.2.2.2.1 1 0 39 k = (b : Int) ∧ p.1 b = 0
    have ek : va_cpy p.2.2.2.1 p.2.2.2.1 1 0 39 k = p.2.2.2.1 (k + 1) := by
      rw [va_cpy, if_pos (by omega), show 1 + (k - 0) = k + 1 by omega]
    obtain ⟨b, f1, f2, f3⟩ := hh (k + 1) (by omega)
    refine ⟨b, f1, fun e => ?_, by rw [ek]; exact f2, f3⟩
    have := hd 0 (k + 1) (by omega) (by omega)
    rw [e2, f2, e] at this
    exact this rfl
  · show va_cpy p.2.2.2.1 p.2.2.2.1 1 0 39 i ≠ va_cpy p.2.2.2.1 p.2.2.2.1 1 0 39 j
    rw [va_cpy, va_cpy, if_pos (by omega), if_pos (by omega)]
    have := hd (i + 1) (j + 1) (by omega) (by omega)
    rw [show 1 + (i - 0) = i + 1 by omega, show 1 + (j - 0) = j + 1 by omega]
    exact this
