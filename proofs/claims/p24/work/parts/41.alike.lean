/-! the first that are alike; calls that only look at a bin -/
def fa (s : Nat → Int) (c m : Nat) (sp : Int) : Nat → Nat → Option Nat
  | 0, _ => none
  | d + 1, k => if k + m ≤ c then (if s (k + m - 1) - s k ≤ sp then some k else fa s c m sp d (k + 1)) else none
def shf (z : bS) (f : Nat → Nat) : Nat → Int := fun j => z.1.2.2.2.2.1 (f j)
def oN (e : Int) (o : Option Nat) : Int := match o with
  | some k => (k : Int)
  | none => e
theorem fa_some {s : Nat → Int} {c m : Nat} {sp : Int} : ∀ d k j, fa s c m sp d k = some j → k ≤ j ∧ j + m ≤ c ∧ s (j + m - 1) - s j ≤ sp ∧ ∀ i, k ≤ i → i < j → ¬ s (i + m - 1) - s i ≤ sp := by
  intro d
  induction d with
  | zero => intro k j h; simp [fa] at h
  | succ d ih =>
    intro k j h
    rw [fa] at h
    by_cases e : k + m ≤ c
    · rw [if_pos e] at h
      by_cases e2 : s (k + m - 1) - s k ≤ sp
      · rw [if_pos e2] at h
        obtain rfl : k = j := by injection h
        exact ⟨by omega, e, e2, fun i h1 h2 => absurd h1 (by omega)⟩
      · rw [if_neg e2] at h
        obtain ⟨g1, g2, g3, g4⟩ := ih (k + 1) j h
        refine ⟨by omega, g2, g3, fun i h1 h2 => ?_⟩
        by_cases ei : i = k
        · subst ei
          exact e2
        · exact g4 i (by omega) h2
    · rw [if_neg e] at h
      exact absurd h (by simp)
theorem fa_none {s : Nat → Int} {c m : Nat} {sp : Int} (hm : 1 ≤ m) : ∀ d k, c < k + d → fa s c m sp d k = none → ∀ i, k ≤ i → i + m ≤ c → ¬ s (i + m - 1) - s i ≤ sp := by
  intro d
  induction d with
  | zero => intro k hk _ i h1 h2; omega
  | succ d ih =>
    intro k hk h i h1 h2
    rw [fa, if_pos (show k + m ≤ c by omega)] at h
    by_cases e2 : s (k + m - 1) - s k ≤ sp
    · rw [if_pos e2] at h
      exact absurd h (by simp)
    · rw [if_neg e2] at h
      by_cases ei : i = k
      · subst ei
        exact e2
      · exact ih (k + 1) (by omega) h i (by omega) h2
theorem OD_sh {z : bS} {n c : Nat} {x : Int} {f : Nat → Nat} (hC : CI z n) (hD : OD z n x f c) {j : Nat} (hj : j < c) : 0 ≤ shf z f j ∧ shf z f j ≤ 9 := (CI_b hC (hD.1 j hj).1).2.2.2.2
theorem OD_le {z : bS} {n c : Nat} {x : Int} {f : Nat → Nat} (hD : OD z n x f c) {j k : Nat} (hjk : j ≤ k) (hk : k < c) : shf z f j ≤ shf z f k := by
  by_cases e : j = k
  · subst e
    omega
  · have := hD.2.1 j k (by omega) hk
    unfold shf
    omega
theorem sprC {n c m k : Nat} {z : bS} {x : Int} {f : Nat → Nat} {O : bO} {kk mm : Int} (hc : c ≤ 40) (hA : OA O z f c) (e1 : kk = (k : Int)) (e2 : mm = (m : Int)) (hm : 1 ≤ m) (h : k + m ≤ c) : f_X3_spreadFrom kk mm O = some (shf z f (k + m - 1) - shf z f k, O) := by
  subst e1
  subst e2
  unfold f_X3_spreadFrom
  refine (gd_q (inb_of (by first | omega | (dsimp only; omega))) (gd_q (inb_of (by first | omega | (dsimp only; omega))) (?_)))
  rw [show ((k : Int) + (m : Int) - 1).toNat = k + m - 1 by omega, tn, (hA.2 (k + m - 1) (by omega)).2, (hA.2 k (by omega)).2]
  rfl
theorem faC_loop {N n c m : Nat} {z : bS} {x : Int} {f : Nat → Nat} {O : bO} {sp : Int} (hC : CI z n) (hD : OD z n x f c) (hA : OA O z f c) (hm : 1 ≤ m) (hm9 : m ≤ 100) (hsp : rg sp = true) : ∀ d k fu, k + d = c + 1 → d < fu → f_X3_firstAlike_L2 N fu (m : Int) sp (k : Int) O = some (oN (-1) (fa (shf z f) c m sp d k), O) := by
  have h40 := CI_40 hC
  have hc := OD_c hD
  have hA1 := hA.1
  intro d
  induction d with
  | zero =>
    intro k fu hk hf
    obtain ⟨fu, rfl⟩ : ∃ j, fu = j + 1 := ⟨fu - 1, by omega⟩
    rw [f_X3_firstAlike_L2, fa]
    exact (gd_q (rg_of (by first | omega | (dsimp only; omega))) (gd_q (rg_of (by first | omega | (dsimp only; omega))) (it_q1 (by first | omega | (dsimp only; omega)) (rfl))))
  | succ d ih =>
    intro k fu hk hf
    obtain ⟨fu, rfl⟩ : ∃ j, fu = j + 1 := ⟨fu - 1, by omega⟩
    rw [f_X3_firstAlike_L2, fa]
    by_cases e : k + m ≤ c
    · rw [if_pos e]
      have s1 := OD_sh hC hD (show k < c by omega)
      have s2 := OD_sh hC hD (show k + m - 1 < c by omega)
      refine (gd_q (rg_of (by first | omega | (dsimp only; omega))) (gd_q (rg_of (by first | omega | (dsimp only; omega))) (it_q2 (by first | omega | (dsimp only; omega)) (bd_q (sprC (n := n) (x := x) (by omega) hA rfl rfl hm e) (gd_q (rg_of (by first | omega | (dsimp only; omega))) (gd_q hsp (?_)))))))
      by_cases e2 : shf z f (k + m - 1) - shf z f k ≤ sp
      · rw [if_pos e2]
        exact it_q2 (by first | omega | (dsimp only; omega)) rfl
      · rw [if_neg e2]
        exact it_q1 (by first | omega | (dsimp only; omega)) (ih (k + 1) fu (by omega) (by omega))
    · rw [if_neg e]
      exact (gd_q (rg_of (by first | omega | (dsimp only; omega))) (gd_q (rg_of (by first | omega | (dsimp only; omega))) (it_q1 (by first | omega | (dsimp only; omega)) (rfl))))
theorem faC {N n c m : Nat} {z : bS} {x : Int} {f : Nat → Nat} {O : bO} {sp mm : Int} (hN : 60 ≤ N) (hC : CI z n) (hD : OD z n x f c) (hA : OA O z f c) (hm : 1 ≤ m) (hm9 : m ≤ 100) (e : mm = (m : Int)) (hsp : rg sp = true) : f_X3_firstAlike N mm sp O = some (oN (-1) (fa (shf z f) c m sp (c + 1) 0), O) := by
  subst e
  have h40 := CI_40 hC
  have hc := OD_c hD
  exact faC_loop (N := N) hC hD hA hm hm9 hsp (c + 1) 0 N (by omega) (by omega)
theorem sprM {n c m k : Nat} {z : bS} {x : Int} {f : Nat → Nat} {r : Nat → Int} {hi sn as li : Nat → Int} {st ik lm : Int} {t : bl} {kk mm : Int} (hC : CI z n) (hR : R1 z r n) (hD : OD z n x f c) (hl : ∀ j, j < c → li j = (f j : Int)) (e1 : kk = (k : Int)) (e2 : mm = (m : Int)) (hm : 1 ≤ m) (h : k + m ≤ c) : f_X8_spread kk mm (r, hi, st, sn, ik, as, li, lm, t) = some (shf z f (k + m - 1) - shf z f k, (r, hi, st, sn, ik, as, li, lm, t)) := by
  subst e1
  subst e2
  have h40 := CI_40 hC
  have hc := OD_c hD
  have b1 := (hD.1 (k + m - 1) (by omega)).1
  have b2 := (hD.1 k (by omega)).1
  have l1 := hl (k + m - 1) (by omega)
  have l2 := hl k (by omega)
  have f1 : r (55 + 9 * f (k + m - 1) + 4) = shf z f (k + m - 1) := R1_f hR b1 (by omega)
  have f2 : r (55 + 9 * f k + 4) = shf z f k := R1_f hR b2 (by omega)
  unfold f_X8_spread
  refine (gd_q (inb_of (by first | omega | (dsimp only; omega))) (?_))
  dsimp only
  rw [show ((k : Int) + (m : Int) - 1).toNat = k + m - 1 by omega, tn]
  refine (bd_q (of_eq (b := f (k + m - 1)) (k := 4) (by omega) (by omega) l1 rfl) (gd_q (inb_of (by first | omega | (dsimp only; omega))) (bd_q (of_eq (b := f k) (k := 4) (by omega) (by omega) l2 rfl) (?_))))
  dsimp only
  rw [f1, f2]
theorem faM_loop {N n c m : Nat} {z : bS} {x : Int} {f : Nat → Nat} {r : Nat → Int} {hi sn as li : Nat → Int} {st ik : Int} {t : bl} {y : Int} (hC : CI z n) (hR : R1 z r n) (hD : OD z n x f c) (hl : ∀ j, j < c → li j = (f j : Int)) (hm : 1 ≤ m) (hm9 : m ≤ 100) : ∀ d k fu, k + d = c + 1 → d < fu → f_X8_firstAlike_L7 N fu y (m : Int) (k : Int) (r, hi, st, sn, ik, as, li, (c : Int), t) = some (oN (-5) (fa (shf z f) c m (z.2.2.1 7) d k), (r, hi, st, sn, ik, as, li, (c : Int), t)) := by
  have h40 := CI_40 hC
  have hc := OD_c hD
  have h7 : r 7 = z.2.2.1 7 := hR.1.1 7 (by omega)
  have hs7 := SI_rg hC.2.1 7 (by omega)
  intro d
  induction d with
  | zero =>
    intro k fu hk hf
    obtain ⟨fu, rfl⟩ : ∃ j, fu = j + 1 := ⟨fu - 1, by omega⟩
    rw [f_X8_firstAlike_L7, fa]
    exact (gd_q (rg_of (by first | omega | (dsimp only; omega))) (gd_q (rg_of (by first | omega | (dsimp only; omega))) (it_q1 (by first | omega | (dsimp only; omega)) (rfl))))
  | succ d ih =>
    intro k fu hk hf
    obtain ⟨fu, rfl⟩ : ∃ j, fu = j + 1 := ⟨fu - 1, by omega⟩
    rw [f_X8_firstAlike_L7, fa]
    by_cases e : k + m ≤ c
    · rw [if_pos e]
      have s1 := OD_sh hC hD (show k < c by omega)
      have s2 := OD_sh hC hD (show k + m - 1 < c by omega)
      refine (gd_q (rg_of (by first | omega | (dsimp only; omega))) (gd_q (rg_of (by first | omega | (dsimp only; omega))) (it_q2 (by first | omega | (dsimp only; omega)) (bd_q (sprM hC hR hD hl rfl rfl hm e) (gd_q (rg_of (by first | omega | (dsimp only; omega))) (gd_q (rg_of (by first | omega | (dsimp only; omega))) (?_)))))))
      by_cases e2 : shf z f (k + m - 1) - shf z f k ≤ z.2.2.1 7
      · rw [if_pos e2]
        exact it_q2 (by first | omega | (dsimp only; omega)) rfl
      · rw [if_neg e2]
        exact it_q1 (by first | omega | (dsimp only; omega)) (ih (k + 1) fu (by omega) (by omega))
    · rw [if_neg e]
      exact (gd_q (rg_of (by first | omega | (dsimp only; omega))) (gd_q (rg_of (by first | omega | (dsimp only; omega))) (it_q1 (by first | omega | (dsimp only; omega)) (rfl))))
theorem faM {N n c m x : Nat} {z : bS} {f : Nat → Nat} {r : Nat → Int} {hi sn as li : Nat → Int} {st ik lm : Int} {t : bl} {xx mm : Int} (hN : 60 ≤ N) (hC : CI z n) (hR : R1 z r n) (hx : x < 12) (e1 : xx = (x : Int)) (hD : OD z n (x : Int) f c) (hm : 1 ≤ m) (hm9 : m ≤ 100) (e2 : mm = (m : Int)) : ∃ li' : Nat → Int, f_X8_firstAlike N xx mm (r, hi, st, sn, ik, as, li, lm, t) = some (oN (-5) (fa (shf z f) c m (z.2.2.1 7) (c + 1) 0), (r, hi, st, sn, ik, as, li', (c : Int), t)) ∧ ∀ j, j < c → li' j = (f j : Int) := by
  subst e2
  have h40 := CI_40 hC
  have hc := OD_c hD
  obtain ⟨li', g1, g2⟩ := order_eq (N := N) (hi := hi) (sn := sn) (as := as) (li := li) (st := st) (ik := ik) (lm := lm) (t := t) (by omega) hC hR hx e1 hD
  exact ⟨li', bd_q g1 (faM_loop (N := N) hC hR hD g2 hm hm9 (c + 1) 0 N (by omega) (by omega)), g2⟩
theorem isW {a : Int} (ha : rg a = true) : f_X7_isWanted a = some (if 1 ≤ a ∧ a ≤ 9 then 1 else 0) := by
  unfold f_X7_isWanted
  refine gd_q ha ?_
  by_cases e : a < 1
  · rw [if_neg (show ¬ (1 ≤ a ∧ a ≤ 9) by omega)]
    exact it_q1 e rfl
  · refine it_q2 e ?_
    by_cases e2 : 9 < a
    · rw [if_neg (show ¬ (1 ≤ a ∧ a ≤ 9) by omega)]
      exact it_q1 e2 rfl
    · rw [if_pos (show 1 ≤ a ∧ a ≤ 9 by omega)]
      exact it_q2 e2 rfl
theorem OD_many {z : bS} {n c x : Nat} {f : Nat → Nat} (hC : CI z n) (hx : x < 12) (hD : OD z n (x : Int) f c) : z.2.1.2.2.2.2.2 x = (c : Int) := by
  rw [hC.2.2.2.1.2 x hx]
  exact hD.2.2.2.symm
/-- why there would be no shirt: both -/
def why (c m : Nat) (o : Option Nat) : Int := if m ≤ c then (match o with
  | some _ => 0
  | none => 2) else 1
theorem refC {N n c m x : Nat} {z : bS} {f : Nat → Nat} {bt : bBT} {O : bO} {H : bH} {p : bS × bS × Int} {mm : Int} (hN : 60 ≤ N) (hC : CI z n) (hD : OD z n (x : Int) f c) (hA : OA O z f c) (hm : 1 ≤ m) (hm9 : m ≤ 100) (e : mm = (m : Int)) : f_X7_refusalOf N mm (bt, O, H, z, p) = some (why c m (fa (shf z f) c m (z.2.2.1 7) (c + 1) 0), (bt, O, H, z, p)) := by
  subst e
  have h40 := CI_40 hC
  have hc := OD_c hD
  have hA1 := hA.1
  have hs7 := SI_rg hC.2.1 7 (by omega)
  have hfa := faC (N := N) (mm := (m : Int)) (sp := z.2.2.1 7) hN hC hD hA hm hm9 rfl (rg_of (by first | omega | (dsimp only; omega)))
  unfold f_X7_refusalOf why
  refine (gd_q (rg_of (by first | omega | (dsimp only; omega))) (gd_q (rg_of (by first | omega | (dsimp only; omega))) (?_)))
  by_cases e : m ≤ c
  · rw [if_pos e]
    refine (it_q1 (by first | omega | (dsimp only; omega)) (bd_q hfa (nm_q (?_))))
    cases ho : fa (shf z f) c m (z.2.2.1 7) (c + 1) 0 with
    | none => exact (gd_q (rg_of (show -2147483648 ≤ (-1 : Int) ∧ (-1 : Int) < 2147483648 by omega)) (it_q1 (show (-1 : Int) < 0 by omega) (rfl)))
    | some k =>
      have := fa_some _ _ _ ho
      refine (gd_q (rg_of ?_) (it_q2 ?_ (rfl)))
      · show -2147483648 ≤ (k : Int) ∧ (k : Int) < 2147483648
        omega
      · show ¬ (k : Int) < 0
        omega
  · rw [if_neg e]
    exact it_q2 (by first | omega | (dsimp only; omega)) rfl
theorem reaM {N n c m x : Nat} {z : bS} {f : Nat → Nat} {r : Nat → Int} {hi sn as li : Nat → Int} {st ik lm : Int} {t : bl} {xx mm : Int} (hN : 60 ≤ N) (hC : CI z n) (hR : R1 z r n) (hx : x < 12) (e1 : xx = (x : Int)) (hD : OD z n (x : Int) f c) (hm : 1 ≤ m) (hm9 : m ≤ 100) (e2 : mm = (m : Int)) : ∃ (li' : Nat → Int) (lm' : Int), f_X8_reasonFor N xx mm (r, hi, st, sn, ik, as, li, lm, t) = some (why c m (fa (shf z f) c m (z.2.2.1 7) (c + 1) 0), (r, hi, st, sn, ik, as, li', lm', t)) := by
  subst e2
  have h40 := CI_40 hC
  have hc := OD_c hD
  have hmi := manyR (N := N) (m := (hi, st, sn, ik, as, li, lm, t)) (q := x) (qq := xx) (by omega) hC hR hx e1
  have hmy := OD_many hC hx hD
  obtain ⟨li', g1, g2⟩ := faM (N := N) (hi := hi) (sn := sn) (as := as) (li := li) (st := st) (ik := ik) (lm := lm) (t := t) (xx := xx) (mm := (m : Int)) hN hC hR hx e1 hD hm hm9 rfl
  unfold f_X8_reasonFor why
  by_cases e : m ≤ c
  · rw [if_pos e]
    refine ⟨li', (c : Int), ?_⟩
    refine (bd_q hmi (gd_q (rg_of (by first | omega | (dsimp only; omega))) (gd_q (rg_of (by first | omega | (dsimp only; omega))) (it_q1 (by first | omega | (dsimp only; omega)) (bd_q g1 (?_))))))
    cases ho : fa (shf z f) c m (z.2.2.1 7) (c + 1) 0 with
    | none => exact (gd_q (rg_of (show -2147483648 ≤ (-5 : Int) ∧ (-5 : Int) < 2147483648 by omega)) (it_q1 rfl (rfl)))
    | some k =>
      have := fa_some _ _ _ ho
      refine (gd_q (rg_of ?_) (it_q2 ?_ (rfl)))
      · show -2147483648 ≤ (k : Int) ∧ (k : Int) < 2147483648
        omega
      · show ¬ (k : Int) = -5
        omega
  · rw [if_neg e]
    exact ⟨li, lm, (bd_q hmi (gd_q (rg_of (by first | omega | (dsimp only; omega))) (gd_q (rg_of (by first | omega | (dsimp only; omega))) (it_q2 (by first | omega | (dsimp only; omega)) (rfl)))))⟩
theorem s_reason {N : Nat} (hN : 1300 ≤ N) {a v : Int} (ha : rg a = true) (hv : rg v = true) : SIM (f_X7_reason N a v) (f_X8_reason N a v) := by
  rintro ⟨⟨B, s, l⟩, O, H, S, P, V, hs⟩ ⟨r, hi, st, sn, ik, as, li, lm, tx, le, sp, re, rd⟩ ⟨hT, hH, hS, hK⟩
  dsimp only at hT hH hS hK
  have hS0 := hS
  obtain ⟨n, hC, hR⟩ := hS
  have c1 := isBin1 ha
  have m1 := isBin2 ha
  have c2 := isW hv
  have m2 := in_eq hv (show rg 1 = true by decide) (show rg 9 = true by decide)
  by_cases e1 : 0 ≤ a ∧ a ≤ 11
  · rw [if_pos e1] at c1 m1
    obtain ⟨x, rfl⟩ : ∃ q : Nat, a = (q : Int) := ⟨a.toNat, by omega⟩
    by_cases e2 : 1 ≤ v ∧ v ≤ 9
    · rw [if_pos e2] at c2 m2
      obtain ⟨m, rfl⟩ : ∃ q : Nat, v = (q : Int) := ⟨v.toNat, by omega⟩
      obtain ⟨O', f, c, g1, g2, g3⟩ := fill_eq (N := N) (O := O) (xx := (x : Int)) (by omega) hC (show x < 12 by omega) rfl
      have u1 := refC (N := N) (bt := (B, s, l)) (H := H) (p := (P, V, hs)) (mm := (m : Int)) (by omega) hC g2 g3 (by omega) (by omega) rfl
      obtain ⟨li', lm', u2⟩ := reaM (N := N) (hi := hi) (sn := sn) (as := as) (li := li) (st := st) (ik := ik) (lm := lm) (t := (tx, le, sp, re, rd)) (xx := (x : Int)) (mm := (m : Int)) (by omega) hC hR (show x < 12 by omega) rfl g2 (by omega) (by omega) rfl
      refine ⟨why c m (fa (shf S f) c m (S.2.2.1 7) (c + 1) 0), ((B, s, l), O', H, S, P, V, hs), (r, hi, st, sn, ik, as, li', lm', tx, le, sp, re, rd), ?_, ?_, ⟨hT, hH, hS0, hK⟩⟩
      · exact (bd_q c1 (gd_q (rg_of (by first | omega | (dsimp only; omega))) (it_q2 (by first | omega | (dsimp only; omega)) (bd_q c2 (gd_q (rg_of (by first | omega | (dsimp only; omega))) (it_q2 (by first | omega | (dsimp only; omega)) (bd_q g1 (nm_q (nm_q (bd_q u1 (rfl)))))))))))
      · exact (bd_q m1 (gd_q (rg_of (by first | omega | (dsimp only; omega))) (it_q2 (by first | omega | (dsimp only; omega)) (bd_q m2 (gd_q (rg_of (by first | omega | (dsimp only; omega))) (it_q2 (by first | omega | (dsimp only; omega)) (bd_q u2 (rfl))))))))
    · rw [if_neg e2] at c2 m2
      refine ⟨-2, ((B, s, l), O, H, S, P, V, hs), (r, hi, st, sn, ik, as, li, lm, tx, le, sp, re, rd), ?_, ?_, ⟨hT, hH, hS0, hK⟩⟩
      · exact (bd_q c1 (gd_q (rg_of (by first | omega | (dsimp only; omega))) (it_q2 (by first | omega | (dsimp only; omega)) (bd_q c2 (gd_q (rg_of (by first | omega | (dsimp only; omega))) (it_q1 (by first | omega | (dsimp only; omega)) (rfl)))))))
      · exact (bd_q m1 (gd_q (rg_of (by first | omega | (dsimp only; omega))) (it_q2 (by first | omega | (dsimp only; omega)) (bd_q m2 (gd_q (rg_of (by first | omega | (dsimp only; omega))) (it_q1 (by first | omega | (dsimp only; omega)) (rfl)))))))
  · rw [if_neg e1] at c1 m1
    refine ⟨-1, ((B, s, l), O, H, S, P, V, hs), (r, hi, st, sn, ik, as, li, lm, tx, le, sp, re, rd), ?_, ?_, ⟨hT, hH, hS0, hK⟩⟩
    · exact (bd_q c1 (gd_q (rg_of (by first | omega | (dsimp only; omega))) (it_q1 (by first | omega | (dsimp only; omega)) (rfl))))
    · exact (bd_q m1 (gd_q (rg_of (by first | omega | (dsimp only; omega))) (it_q1 (by first | omega | (dsimp only; omega)) (rfl))))
theorem s_inBin {N : Nat} (hN : 1300 ≤ N) {a v : Int} (ha : rg a = true) (hv : rg v = true) : SIM (f_X7_inBin N a v) (f_X8_inBin N a v) := by
  rintro ⟨⟨B, s, l⟩, O, H, S, P, V, hs⟩ ⟨r, hi, st, sn, ik, as, li, lm, tx, le, sp, re, rd⟩ ⟨hT, hH, hS, hK⟩
  dsimp only at hT hH hS hK
  have hS0 := hS
  obtain ⟨n, hC, hR⟩ := hS
  have h40 := CI_40 hC
  have c1 := isBin1 ha
  have m1 := isBin2 ha
  by_cases e1 : 0 ≤ a ∧ a ≤ 11
  · rw [if_pos e1] at c1 m1
    obtain ⟨x, rfl⟩ : ∃ q : Nat, a = (q : Int) := ⟨a.toNat, by omega⟩
    by_cases e2 : 0 ≤ v
    · obtain ⟨O', f, c, g1, g2, g3⟩ := fill_eq (N := N) (O := O) (xx := (x : Int)) (by omega) hC (show x < 12 by omega) rfl
      have hc := OD_c g2
      have hA1 := g3.1
      obtain ⟨li', u1, u2⟩ := order_eq (N := N) (hi := hi) (sn := sn) (as := as) (li := li) (st := st) (ik := ik) (lm := lm) (t := (tx, le, sp, re, rd)) (xx := (x : Int)) (by omega) hC hR (show x < 12 by omega) rfl g2
      by_cases e3 : (c : Int) ≤ v
      · refine ⟨-5, ((B, s, l), O', H, S, P, V, hs), (r, hi, st, sn, ik, as, li', (c : Int), tx, le, sp, re, rd), ?_, ?_, ⟨hT, hH, hS0, hK⟩⟩
        · exact (bd_q c1 (gd_q (rg_of (by first | omega | (dsimp only; omega))) (it_q2 (by first | omega | (dsimp only; omega)) (gd_q hv (it_q1 (by first | omega | (dsimp only; omega)) (bd_q g1 (nm_q (nm_q (bd_q (numAt_0 hA1 (by omega) hv e3) (nm_q (rfl)))))))))))
        · exact (bd_q m1 (gd_q (rg_of (by first | omega | (dsimp only; omega))) (it_q2 (by first | omega | (dsimp only; omega)) (gd_q hv (it_q1 (by first | omega | (dsimp only; omega)) (bd_q u1 (gd_q (rg_of (by first | omega | (dsimp only; omega))) (it_q1 (by first | omega | (dsimp only; omega)) (rfl)))))))))
      · obtain ⟨j, rfl⟩ : ∃ q : Nat, v = (q : Int) := ⟨v.toNat, by omega⟩
        refine ⟨(f j : Int), ((B, s, l), O', H, S, P, V, hs), (r, hi, st, sn, ik, as, li', (c : Int), tx, le, sp, re, rd), ?_, ?_, ⟨hT, hH, hS0, hK⟩⟩
        · refine (bd_q c1 (gd_q (rg_of (by first | omega | (dsimp only; omega))) (it_q2 (by first | omega | (dsimp only; omega)) (gd_q hv (it_q1 (by first | omega | (dsimp only; omega)) (bd_q g1 (nm_q (nm_q (bd_q (numAt_1 (j := j) hA1 (by omega) (by omega) rfl) (nm_q (?_)))))))))))
          dsimp only
          rw [(g3.2 j (by omega)).1]
        · refine (bd_q m1 (gd_q (rg_of (by first | omega | (dsimp only; omega))) (it_q2 (by first | omega | (dsimp only; omega)) (gd_q hv (it_q1 (by first | omega | (dsimp only; omega)) (bd_q u1 (gd_q (rg_of (by first | omega | (dsimp only; omega))) (it_q2 (by first | omega | (dsimp only; omega)) (gd_q (inb_of (by first | omega | (dsimp only; omega))) (?_))))))))))
          dsimp only [tn]
          rw [u2 j (by omega)]
    · refine ⟨-2, ((B, s, l), O, H, S, P, V, hs), (r, hi, st, sn, ik, as, li, lm, tx, le, sp, re, rd), ?_, ?_, ⟨hT, hH, hS0, hK⟩⟩
      · exact (bd_q c1 (gd_q (rg_of (by first | omega | (dsimp only; omega))) (it_q2 (by first | omega | (dsimp only; omega)) (gd_q hv (it_q2 (by first | omega | (dsimp only; omega)) (rfl))))))
      · exact (bd_q m1 (gd_q (rg_of (by first | omega | (dsimp only; omega))) (it_q2 (by first | omega | (dsimp only; omega)) (gd_q hv (it_q2 (by first | omega | (dsimp only; omega)) (rfl))))))
  · rw [if_neg e1] at c1 m1
    refine ⟨-1, ((B, s, l), O, H, S, P, V, hs), (r, hi, st, sn, ik, as, li, lm, tx, le, sp, re, rd), ?_, ?_, ⟨hT, hH, hS0, hK⟩⟩
    · exact (bd_q c1 (gd_q (rg_of (by first | omega | (dsimp only; omega))) (it_q1 (by first | omega | (dsimp only; omega)) (rfl))))
    · exact (bd_q m1 (gd_q (rg_of (by first | omega | (dsimp only; omega))) (it_q1 (by first | omega | (dsimp only; omega)) (rfl))))
