/-! the pure functions, brought to closed forms -/
theorem gd_q {α : Type} {b : Bool} {k r : Option α} (h : b = true) (hk : k = r) : gd b k = r := by
  subst h
  exact hk
theorem bd_q {α β : Type} {o : Option α} {a : α} {k : α → Option β} {r : Option β} (h : o = some a) (hk : k a = r) : bd o k = r := by
  subst h
  exact hk
theorem nm_q {α β : Type} {a : α} {k : α → Option β} {r : Option β} (hk : k a = r) : nm a k = r := hk
theorem it_q1 {α : Type} {c : Prop} {d : Decidable c} {a b r : α} (hc : c) (h : a = r) : @ite α c d a b = r := by rw [if_pos hc]; exact h
theorem it_q2 {α : Type} {c : Prop} {d : Decidable c} {a b r : α} (hc : ¬ c) (h : b = r) : @ite α c d a b = r := by rw [if_neg hc]; exact h
theorem up_s (f : Nat → Int) (k : Nat) (v : Int) : up f k v k = v := by simp [up]
theorem up_n (f : Nat → Int) {k j : Nat} (v : Int) (h : j ≠ k) : up f k v j = f j := by simp [up, h]
theorem up_up (f : Nat → Int) (k : Nat) (v w : Int) : up (up f k v) k w = up f k w := by
  funext j
  by_cases h : j = k
  · simp [up, h]
  · simp [up, h]
theorem up_id (f : Nat → Int) (k : Nat) : up f k (f k) = f := by
  funext j
  by_cases h : j = k
  · simp [up, h]
  · simp [up, h]
/-- how many below n have the value q -/
def cnt : Nat → (Nat → Int) → Int → Int
  | 0, _, _ => 0
  | n + 1, f, q => cnt n f q + (if f n = q then 1 else 0)
theorem cnt_0 (f : Nat → Int) (q : Int) : cnt 0 f q = 0 := rfl
theorem cnt_s (n : Nat) (f : Nat → Int) (q : Int) : cnt (n + 1) f q = cnt n f q + (if f n = q then 1 else 0) := rfl
theorem cnt_nn (n : Nat) (f : Nat → Int) (q : Int) : 0 ≤ cnt n f q ∧ cnt n f q ≤ (n : Int) := by
  induction n with
  | zero => simp [cnt]
  | succ n ih =>
    rw [cnt_s]
    split <;> omega
theorem cnt_eq {n : Nat} {f g : Nat → Int} (h : ∀ b, b < n → f b = g b) (q : Int) : cnt n f q = cnt n g q := by
  induction n with
  | zero => rfl
  | succ n ih =>
    rw [cnt_s, cnt_s, ih (fun b hb => h b (by omega)), h n (by omega)]
theorem cnt_out {n b : Nat} (f : Nat → Int) (v q : Int) (h : n ≤ b) : cnt n (up f b v) q = cnt n f q := cnt_eq (fun c hc => up_n f v (by omega)) q
theorem cnt_up {n b : Nat} (f : Nat → Int) (v q : Int) (h : b < n) : cnt n (up f b v) q = cnt n f q - (if f b = q then 1 else 0) + (if v = q then 1 else 0) := by
  induction n with
  | zero => omega
  | succ n ih =>
    rw [cnt_s, cnt_s]
    by_cases hb : b = n
    · subst hb
      rw [cnt_out f v q (Nat.le_refl _), up_s]
      omega
    · rw [ih (by omega), up_n f v (show n ≠ b by omega)]
      omega
theorem cnt_pos {n b : Nat} {f : Nat → Int} {q : Int} (h : b < n) (hq : f b = q) : 1 ≤ cnt n f q := by
  have h1 := cnt_up f (q + 1) q h
  have h2 := (cnt_nn n (up f b (q + 1)) q).1
  rw [if_pos hq, if_neg (by omega)] at h1
  omega
theorem cnt_zero {n : Nat} {f : Nat → Int} {q : Int} (h : cnt n f q = 0) : ∀ b, b < n → f b ≠ q := fun b hb hq => by
  have := cnt_pos hb hq
  omega
/-- loops that copy -/
theorem tn (b : Nat) : ((b : Nat) : Int).toNat = b := rfl
/-- of, put: a number of a button in the model's row -/
theorem of_eq {b k : Nat} {bb kk : Int} {r : Nat → Int} {m : (Nat → Int) × Int × (Nat → Int) × Int × (Nat → Int) × (Nat → Int) × Int × (Nat → Int) × Int × Int × Int × (Nat → Int)} (hb : b < 40) (hk : k < 9) (e1 : bb = (b : Int)) (e2 : kk = (k : Int)) : f_X8_of bb kk (r, m) = some (r (55 + 9 * b + k), (r, m)) := by
  subst e1
  subst e2
  unfold f_X8_of
  refine gd_q (inb_of (by omega)) ?_
  dsimp only
  rw [show ((55 + 9 * (b : Int)) + (k : Int)).toNat = 55 + 9 * b + k by omega]
theorem put_eq {b k : Nat} {bb kk v : Int} {r : Nat → Int} {m : (Nat → Int) × Int × (Nat → Int) × Int × (Nat → Int) × (Nat → Int) × Int × (Nat → Int) × Int × Int × Int × (Nat → Int)} (hb : b < 40) (hk : k < 9) (e1 : bb = (b : Int)) (e2 : kk = (k : Int)) : f_X8_put bb kk v (r, m) = some (up r (55 + 9 * b + k) v, m) := by
  subst e1
  subst e2
  unfold f_X8_put
  refine gd_q (inb_of (by omega)) ?_
  refine nm_q ?_
  dsimp only
  rw [show ((55 + 9 * (b : Int)) + (k : Int)).toNat = 55 + 9 * b + k by omega]
theorem bringM_eq {b : Nat} {bb q : Int} {r : Nat → Int} {m : (Nat → Int) × Int × (Nat → Int) × Int × (Nat → Int) × (Nat → Int) × Int × (Nat → Int) × Int × Int × Int × (Nat → Int)} (hb : b < 40) (e1 : bb = (b : Int)) : f_X8_bring bb q (r, m) = some (up (up r (55 + 9 * b + 5) q) (55 + 9 * b + 6) (-5), m) := by
  unfold f_X8_bring
  refine bd_q (put_eq (k := 5) hb (by omega) e1 rfl) ?_
  exact bd_q (put_eq (k := 6) hb (by omega) e1 rfl) rfl
/-! the class's places -/
def leaveS (b : Nat) (p : bP) : bP := (p.1, p.2.1, p.2.2.1, p.2.2.2.1, up p.2.2.2.2.1 (p.1 b).toNat (p.2.2.2.2.1 (p.1 b).toNat - 1), if p.2.1 b < 0 then p.2.2.2.2.2 else up p.2.2.2.2.2 (p.2.1 b).toNat (p.2.2.2.2.2 (p.2.1 b).toNat - 1))
def bringS (b : Nat) (q : Int) (p : bP) : bP := (up p.1 b q, up p.2.1 b (-5), up p.2.2.1 b (-5), p.2.2.2.1, up p.2.2.2.2.1 q.toNat (p.2.2.2.2.1 q.toNat + 1), p.2.2.2.2.2)
theorem isNum_eq {b : Nat} {bb : Int} (hb : b < 40) (e : bb = (b : Int)) : f_X4_isNumber bb = some 1 := by
  unfold f_X4_isNumber
  exact gd_q (rg_of (by omega)) (it_q2 (by omega) (it_q2 (by omega) rfl))
theorem isPl_eq {q : Int} (h : 0 ≤ q ∧ q < 7) : f_X7_isPlace q = some 1 := by
  unfold f_X7_isPlace
  exact gd_q (rg_of (by omega)) (it_q2 (by omega) (it_q2 (by omega) rfl))
theorem isBin_1 {q : Int} (h : 0 ≤ q ∧ q < 12) : f_X7_isBin q = some 1 := by
  unfold f_X7_isBin
  exact gd_q (rg_of (by omega)) (it_q2 (by omega) (it_q2 (by omega) rfl))
theorem isBin_0 {q : Int} (h : -100 ≤ q ∧ q < 0) : f_X7_isBin q = some 0 := by
  unfold f_X7_isBin
  exact gd_q (rg_of (by omega)) (it_q1 (by omega) rfl)
theorem plput_0 {b : Nat} {bb q v w : Int} {p : bP} (hb : b < 40) (e : bb = (b : Int)) (hq : 0 ≤ q ∧ q < 7) (hv : -100 ≤ v ∧ v < 0) : f_X4_put bb q v w p = some (up p.1 b q, up p.2.1 b v, up p.2.2.1 b w, p.2.2.2.1, up p.2.2.2.2.1 q.toNat (p.2.2.2.2.1 q.toNat + 1), p.2.2.2.2.2) := by
  subst e
  unfold f_X4_put
  refine bd_q (isNum_eq hb rfl) (gd_q (by decide) (it_q2 (by decide) (bd_q (isPl_eq hq) (gd_q (by decide) (it_q2 (by decide) (gd_q (inb_of (by omega)) (nm_q (nm_q (nm_q (gd_q (inb_of (by omega)) (nm_q ?_)))))))))))
  exact bd_q (isBin_0 hv) (gd_q (by decide) (it_q1 rfl rfl))
theorem plput_1 {b k : Nat} {bb q v w : Int} {p : bP} (hb : b < 40) (e : bb = (b : Int)) (hq : 0 ≤ q ∧ q < 7) (hk : k < 12) (e2 : v = (k : Int)) : f_X4_put bb q v w p = some (up p.1 b q, up p.2.1 b (k : Int), up p.2.2.1 b w, p.2.2.2.1, up p.2.2.2.2.1 q.toNat (p.2.2.2.2.1 q.toNat + 1), up p.2.2.2.2.2 k (p.2.2.2.2.2 k + 1)) := by
  subst e
  subst e2
  unfold f_X4_put
  refine bd_q (isNum_eq hb rfl) (gd_q (by decide) (it_q2 (by decide) (bd_q (isPl_eq hq) (gd_q (by decide) (it_q2 (by decide) (gd_q (inb_of (by omega)) (nm_q (nm_q (nm_q (gd_q (inb_of (by omega)) (nm_q ?_)))))))))))
  exact bd_q (isBin_1 (by omega)) (gd_q (by decide) (it_q2 (by decide) (gd_q (inb_of (by omega)) rfl)))
theorem leave_eq {b : Nat} {bb : Int} {p : bP} (hb : b < 40) (e : bb = (b : Int)) (h1 : 0 ≤ p.1 b ∧ p.1 b < 7) (h2 : -100 ≤ p.2.1 b ∧ p.2.1 b < 12) : f_X4_leave bb p = some (leaveS b p) := by
  subst e
  unfold f_X4_leave leaveS
  refine bd_q (isNum_eq hb rfl) (gd_q (by decide) (it_q2 (by decide) (gd_q (inb_of (by omega)) ?_)))
  dsimp only [tn]
  refine bd_q (isPl_eq h1) (gd_q (by decide) (it_q2 (by decide) (gd_q (inb_of (by simpa [tn] using h1)) (nm_q ?_))))
  dsimp only [tn]
  by_cases h : p.2.1 b < 0
  · rw [if_pos h]
    exact bd_q (isBin_0 (by omega)) (gd_q (by decide) (it_q1 rfl rfl))
  · rw [if_neg h]
    exact bd_q (isBin_1 (by omega)) (gd_q (by decide) (it_q2 (by decide) (gd_q (inb_of (by omega)) rfl)))
theorem bring_eq {b : Nat} {bb q : Int} {p : bP} (hb : b < 40) (e : bb = (b : Int)) (hq : 0 ≤ q ∧ q < 7) : f_X4_bring bb q p = some (bringS b q p) := by
  unfold f_X4_bring
  exact bd_q (plput_0 hb e hq (by omega)) rfl
theorem bringToHopper_eq {b w : Nat} {bb : Int} {p : bP} (hb : b < 40) (e : bb = (b : Int)) (hw : p.2.2.2.2.1 0 = (w : Int)) (hw1 : w < 40) : f_X4_bringToHopper bb p = some (bringS b 0 (p.1, p.2.1, p.2.2.1, up p.2.2.2.1 w (b : Int), p.2.2.2.2)) := by
  subst e
  unfold f_X4_bringToHopper
  rw [hw]
  refine nm_q (gd_q (rg_of (by omega)) (it_q2 (by omega) (it_q1 (by omega) (gd_q (inb_of (by omega)) (nm_q ?_)))))
  exact bd_q (bring_eq hb rfl (by omega)) rfl
theorem bringToBin_eq {b k : Nat} {bb kk : Int} {p : bP} (hb : b < 40) (e : bb = (b : Int)) (hk : k < 12) (e2 : kk = (k : Int)) : f_X4_bringToBin bb kk p = some (up p.1 b 5, up p.2.1 b (k : Int), up p.2.2.1 b (-5), p.2.2.2.1, up p.2.2.2.2.1 5 (p.2.2.2.2.1 5 + 1), up p.2.2.2.2.2 k (p.2.2.2.2.2 k + 1)) := by
  unfold f_X4_bringToBin
  exact bd_q (plput_1 hb e (by omega) hk e2) rfl
theorem bringToShirt_eq {b : Nat} {bb v : Int} {p : bP} (hb : b < 40) (e : bb = (b : Int)) : f_X4_bringToShirt bb v p = some (up p.1 b 6, up p.2.1 b (-5), up p.2.2.1 b v, p.2.2.2.1, up p.2.2.2.2.1 6 (p.2.2.2.2.1 6 + 1), p.2.2.2.2.2) := by
  unfold f_X4_bringToShirt
  exact bd_q (plput_0 hb e (by omega) (by omega)) rfl
