/-! p24: the class's state beside the law's rows -/
theorem t3 (i : Nat) : (3 * (i : Int)).toNat = 3 * i := by omega
theorem t31 (i : Nat) : (3 * (i : Int) + 1).toNat = 3 * i + 1 := by omega
theorem t32 (i : Nat) : (3 * (i : Int) + 2).toNat = 3 * i + 2 := by omega
theorem up3 (p : Nat → Int) (v : Int) {b0 k0 b k : Nat} (h : k0 < 3) (h' : k < 3) : up p (3 * b0 + k0) v (3 * b + k) = if b = b0 ∧ k = k0 then v else p (3 * b + k) := by
  by_cases e : b = b0 ∧ k = k0
  · rw [if_pos e, e.1, e.2, up_s]
  · rw [if_neg e, up_n _ _ (by omega)]
theorem up30 (p : Nat → Int) (v : Int) {b0 b : Nat} : up p (3 * b0) v (3 * b) = (if b = b0 then v else p (3 * b)) := by
  by_cases e : b = b0
  · rw [if_pos e, e, up_s]
  · rw [if_neg e, up_n _ _ (by omega)]
def GN (z : bS) (nn : Nat → Int) (n : Nat) : Prop := (∀ k, k < 8 → nn k = z.2.2.1 k) ∧ (nn 8 = z.2.2.2.1 ∧ nn 9 = z.2.2.2.2.1 ∧ nn 10 = z.2.2.2.2.2.1 ∧ nn 11 = z.2.2.2.2.2.2.1 ∧ nn 12 = z.2.2.2.2.2.2.2) ∧ nn 13 = (n : Int) ∧ nn 14 = z.2.1.2.2.2.2.1 0
def GG (z : bS) (g : Nat → Int) (n : Nat) : Prop := ∀ b, b < n → g (3 * b) = z.1.1 b ∧ g (3 * b + 1) = z.1.2.1 b ∧ g (3 * b + 2) = z.1.2.2.1 b
def GM (z : bS) (m : Nat → Int) (n : Nat) : Prop := ∀ b, b < n → m (3 * b) = z.1.2.2.2.1 b ∧ m (3 * b + 1) = z.1.2.2.2.2.1 b ∧ m (3 * b + 2) = z.1.2.2.2.2.2.1 b
def GP (z : bS) (p : Nat → Int) (n : Nat) : Prop := ∀ b, b < n → p (3 * b) = z.2.1.1 b ∧ p (3 * b + 1) = z.2.1.2.1 b ∧ p (3 * b + 2) = z.2.1.2.2.1 b
def GW (z : bS) (w : Nat → Int) : Prop := ∀ k : Nat, (k : Int) < z.2.1.2.2.2.2.1 0 → w k = z.2.1.2.2.2.1 k
/-- class and law's rows say the same -/
def GA (z : bS) (g m p w nn : Nat → Int) (n : Nat) : Prop := n ≤ 20 ∧ CI z n ∧ GN z nn n ∧ GG z g n ∧ GM z m n ∧ GP z p n ∧ GW z w
/-- the counters are small -/
def LM (z : bS) (n : Nat) (K : Int) : Prop := (0 ≤ z.2.2.2.1 ∧ z.2.2.2.1 ≤ K) ∧ (0 ≤ z.2.2.2.2.1 ∧ z.2.2.2.2.1 ≤ K) ∧ (0 ≤ z.2.2.2.2.2.1 ∧ z.2.2.2.2.2.1 ≤ K) ∧ (0 ≤ z.2.2.2.2.2.2.1 ∧ z.2.2.2.2.2.2.1 ≤ K) ∧ (0 ≤ z.2.2.2.2.2.2.2 ∧ z.2.2.2.2.2.2.2 ≤ K) ∧ ∀ b, b < n → (0 ≤ z.1.2.2.2.2.2.1 b ∧ z.1.2.2.2.2.2.1 b ≤ K) ∧ (-5 ≤ z.2.1.2.2.1 b ∧ z.2.1.2.2.1 b ≤ K)
theorem LM_mono {z : bS} {n : Nat} {K K' : Int} (h : LM z n K) (hk : K ≤ K') : LM z n K' := by
  obtain ⟨h1, h2, h3, h4, h5, h6⟩ := h
  refine ⟨by omega, by omega, by omega, by omega, by omega, fun b hb => ?_⟩
  have := h6 b hb
  omega
/-- counting in the law -/
theorem lat_loop (N : Nat) (p nn : Nat → Int) (n : Nat) (q : Int) (kt : Int → Int → Int → Option Int) (hn : nn 13 = (n : Int)) (hn20 : n ≤ 20) (hq : rg q = true) (hp : ∀ b, b < n → rg (p (3 * b)) = true) : ∀ d i k, i + d = n → d < k → f_L_at_L5 N (p, nn) kt k q (cnt i (fun b => p (3 * b)) q) (i : Int) = kt q (cnt n (fun b => p (3 * b)) q) (n : Int) := by
  intro d
  induction d with
  | zero =>
    intro i k hi hk
    obtain ⟨k, rfl⟩ : ∃ j, k = j + 1 := ⟨k - 1, by omega⟩
    obtain rfl : i = n := by omega
    rw [f_L_at_L5]
    exact (gd_q (rg_of (by first | omega | (dsimp only; omega))) (gd_q (rg_of (by first | omega | (dsimp only; omega))) (it_q1 (by first | omega | (dsimp only; omega)) (rfl))))
  | succ d ih =>
    intro i k hi hk
    obtain ⟨k, rfl⟩ : ∃ j, k = j + 1 := ⟨k - 1, by omega⟩
    have h1 := ih (i + 1) k (by omega) (by omega)
    rw [cnt_s] at h1
    rw [f_L_at_L5]
    refine (gd_q (rg_of (by first | omega | (dsimp only; omega))) (gd_q (rg_of (by first | omega | (dsimp only; omega))) (it_q2 (by first | omega | (dsimp only; omega)) (gd_q (inb_of (by first | omega | (dsimp only; omega))) (gd_q (hp i (by omega)) (gd_q hq (jn1_q (?_))))))))
    by_cases e : p (3 * i) = q
    · rw [if_pos e] at h1
      exact (it_q1 e (nm_q (h1)))
    · rw [if_neg e] at h1
      exact (it_q2 e (nm_q (h1)))
theorem lat_eq {N n : Nat} {p nn : Nat → Int} {q : Int} (hN : 50 ≤ N) (hn : nn 13 = (n : Int)) (hn20 : n ≤ 20) (hq : rg q = true) (hp : ∀ b, b < n → rg (p (3 * b)) = true) : f_L_at N q (p, nn) = some (cnt n (fun b => p (3 * b)) q) := lat_loop N p nn n q _ hn hn20 hq hp n 0 N (by omega) (by omega)
theorem lin_loop (N : Nat) (p nn : Nat → Int) (n : Nat) (q : Int) (kt : Int → Int → Int → Option Int) (hn : nn 13 = (n : Int)) (hn20 : n ≤ 20) (hq : 0 ≤ q ∧ q < 12) (hp : ∀ b, b < n → rg (p (3 * b)) = true) (hp1 : ∀ b, b < n → rg (p (3 * b + 1)) = true) (hv : ∀ b, b < n → p (3 * b) ≠ 5 → p (3 * b + 1) < 0) : ∀ d i k, i + d = n → d < k → f_L_in_L5 N (p, nn) kt k q (cnt i (fun b => p (3 * b + 1)) q) (i : Int) = kt q (cnt n (fun b => p (3 * b + 1)) q) (n : Int) := by
  intro d
  induction d with
  | zero =>
    intro i k hi hk
    obtain ⟨k, rfl⟩ : ∃ j, k = j + 1 := ⟨k - 1, by omega⟩
    obtain rfl : i = n := by omega
    rw [f_L_in_L5]
    exact (gd_q (rg_of (by first | omega | (dsimp only; omega))) (gd_q (rg_of (by first | omega | (dsimp only; omega))) (it_q1 (by first | omega | (dsimp only; omega)) (rfl))))
  | succ d ih =>
    intro i k hi hk
    obtain ⟨k, rfl⟩ : ∃ j, k = j + 1 := ⟨k - 1, by omega⟩
    have h1 := ih (i + 1) k (by omega) (by omega)
    rw [cnt_s] at h1
    rw [f_L_in_L5]
    refine (gd_q (rg_of (by first | omega | (dsimp only; omega))) (gd_q (rg_of (by first | omega | (dsimp only; omega))) (it_q2 (by first | omega | (dsimp only; omega)) (gd_q (inb_of (by first | omega | (dsimp only; omega))) (gd_q (hp i (by omega)) (jn1_q (?_)))))))
    by_cases e5 : p (3 * i) = 5
    · refine (it_q1 e5 (gd_q (inb_of (by first | omega | (dsimp only; omega))) (gd_q (hp1 i (by omega)) (gd_q (rg_of (by first | omega | (dsimp only; omega))) (?_)))))
      by_cases e : p (3 * i + 1) = q
      · rw [if_pos e] at h1
        exact (it_q1 e (nm_q (h1)))
      · rw [if_neg e] at h1
        exact (it_q2 e (nm_q (h1)))
    · have := hv i (by omega) e5
      rw [if_neg (by omega)] at h1
      exact (it_q2 e5 (nm_q (h1)))
theorem lin_eq {N n : Nat} {p nn : Nat → Int} {q : Int} (hN : 50 ≤ N) (hn : nn 13 = (n : Int)) (hn20 : n ≤ 20) (hq : 0 ≤ q ∧ q < 12) (hp : ∀ b, b < n → rg (p (3 * b)) = true) (hp1 : ∀ b, b < n → rg (p (3 * b + 1)) = true) (hv : ∀ b, b < n → p (3 * b) ≠ 5 → p (3 * b + 1) < 0) : f_L_in N q (p, nn) = some (cnt n (fun b => p (3 * b + 1)) q) := lin_loop N p nn n q _ hn hn20 hq hp hp1 hv n 0 N (by omega) (by omega)
/-- the bounds of the law's rows -/
theorem GP_rg {z : bS} {p : Nat → Int} {n b : Nat} (hC : CI z n) (hP : GP z p n) (hb : b < n) : -5 ≤ p (3 * b) ∧ p (3 * b) ≤ 6 ∧ -5 ≤ p (3 * b + 1) ∧ p (3 * b + 1) ≤ 11 ∧ (p (3 * b) ≠ 5 → p (3 * b + 1) < 0) ∧ (0 ≤ p (3 * b + 1) → p (3 * b) = 5) := by
  obtain ⟨e1, e2, e3⟩ := hP b hb
  rw [e1, e2]
  exact bin_rg hC hb
theorem atG {N n : Nat} {z : bS} {p nn : Nat → Int} {q : Nat} {qq : Int} (hN : 50 ≤ N) (hn20 : n ≤ 20) (hC : CI z n) (hn : nn 13 = (n : Int)) (hP : GP z p n) (hq : q < 7) (e : qq = (q : Int)) : f_L_at N qq (p, nn) = some (z.2.1.2.2.2.2.1 q) := by
  subst e
  refine Eq.trans (lat_eq hN hn hn20 (rg_of (by first | omega | (dsimp only; omega))) (fun b hb => ?_)) ?_
  · have := GP_rg hC hP hb
    exact (rg_of (by first | omega | (dsimp only; omega)))
  · rw [hC.2.2.2.1.1 q hq, cnt_eq (g := z.2.1.1) (fun b hb => (hP b hb).1)]
theorem inG {N n : Nat} {z : bS} {p nn : Nat → Int} {q : Nat} {qq : Int} (hN : 50 ≤ N) (hn20 : n ≤ 20) (hC : CI z n) (hn : nn 13 = (n : Int)) (hP : GP z p n) (hq : q < 12) (e : qq = (q : Int)) : f_L_in N qq (p, nn) = some (z.2.1.2.2.2.2.2 q) := by
  subst e
  refine Eq.trans (lin_eq hN hn hn20 (by omega) (fun b hb => ?_) (fun b hb => ?_) (fun b hb => ?_)) ?_
  · have := GP_rg hC hP hb
    exact (rg_of (by first | omega | (dsimp only; omega)))
  · have := GP_rg hC hP hb
    exact (rg_of (by first | omega | (dsimp only; omega)))
  · exact (GP_rg hC hP hb).2.2.2.2.1
  · rw [hC.2.2.2.1.2 q hq, cnt_eq (g := z.2.1.2.1) (fun b hb => (hP b hb).2.1)]
theorem dvN {x k : Nat} {y w : Int} (e : y = (x : Int)) (e2 : w = (k : Int)) (hx : x < 100000) (hk : 0 < k) (hk2 : k < 1000) : dvI y w = ((x / k : Nat) : Int) := by
  subst e
  subst e2
  unfold dvI
  have h1 : rg (x : Int) = true := (rg_of (by first | omega | (dsimp only; omega)))
  have h2 : rg (k : Int) = true := (rg_of (by first | omega | (dsimp only; omega)))
  rw [Int32.toInt_div_of_ne_right _ _ (fun h => by
    have := congrArg Int32.toInt h
    rw [zi_toInt h2, show (-1 : Int32).toInt = -1 by decide] at this
    omega), zi_toInt h1, zi_toInt h2]
  rfl
/-- where a button goes, in the law -/
def plcG (b : Nat) (z : bS) : Int := if z.2.2.1 3 < z.1.2.2.2.1 b then 1 else if z.2.2.1 4 ≤ z.1.2.2.1 b then 2 else if z.2.2.1 2 < z.1.2.1 b then 4 else 5
theorem goesG {n b : Nat} {z : bS} {g m nn : Nat → Int} {bb : Int} (hn20 : n ≤ 20) (hC : CI z n) (hs : ∀ k, k < 8 → nn k = z.2.2.1 k) (hG : GG z g n) (hm : m (3 * b) = z.1.2.2.2.1 b) (hb : b < n) (e : bb = (b : Int)) : f_L_goes bb (g, m, nn) = some (plcG b z) := by
  subst e
  obtain ⟨q1, q2, q3, q4, q5⟩ := CI_b hC hb
  obtain ⟨g1, g2, g3⟩ := hG b hb
  have hr := SI_rg hC.2.1
  have r2 := hr 2 (by omega)
  have r3 := hr 3 (by omega)
  have r4 := hr 4 (by omega)
  have s2 := hs 2 (by omega)
  have s3 := hs 3 (by omega)
  have s4 := hs 4 (by omega)
  unfold f_L_goes plcG
  simp only [t3, t31, t32]
  rw [hm, g2, g3, s2, s3, s4]
  refine (gd_q (inb_of (by first | omega | (dsimp only; omega))) (gd_q (rg_of (by first | omega | (dsimp only; omega))) (gd_q (rg_of (by first | omega | (dsimp only; omega))) (?_))))
  by_cases c1 : z.2.2.1 3 < z.1.2.2.2.1 b
  · rw [if_pos c1]
    exact (it_q2 (by first | omega | (dsimp only; omega)) (rfl))
  · rw [if_neg c1]
    refine (it_q1 (by first | omega | (dsimp only; omega)) (gd_q (inb_of (by first | omega | (dsimp only; omega))) (gd_q (rg_of (by first | omega | (dsimp only; omega))) (gd_q (rg_of (by first | omega | (dsimp only; omega))) (?_)))))
    by_cases c2 : z.2.2.1 4 ≤ z.1.2.2.1 b
    · rw [if_pos c2]
      exact (it_q2 (by first | omega | (dsimp only; omega)) (rfl))
    · rw [if_neg c2]
      refine (it_q1 (by first | omega | (dsimp only; omega)) (gd_q (inb_of (by first | omega | (dsimp only; omega))) (gd_q (rg_of (by first | omega | (dsimp only; omega))) (gd_q (rg_of (by first | omega | (dsimp only; omega))) (jn1_q (?_))))))
      by_cases c3 : z.2.2.1 2 < z.1.2.1 b
      · rw [if_pos c3]
        exact (it_q2 (by first | omega | (dsimp only; omega)) (rfl))
      · rw [if_neg c3]
        exact (it_q1 (by first | omega | (dsimp only; omega)) (rfl))
theorem binOfG {N n b : Nat} {z : bS} {g nn : Nat → Int} {bb : Int} (hN : 50 ≤ N) (hn20 : n ≤ 20) (hC : CI z n) (hs : ∀ k, k < 8 → nn k = z.2.2.1 k) (hG : GG z g n) (hb : b < n) (e : bb = (b : Int)) (hsz : z.1.2.1 b ≤ z.2.2.1 2) : f_L_binOf N bb (g, nn) = some (binN z b : Int) := by
  subst e
  obtain ⟨N, rfl⟩ : ∃ k, N = k + 3 := ⟨N - 3, by omega⟩
  obtain ⟨q1, q2, q3, q4, q5⟩ := CI_b hC hb
  obtain ⟨g1, g2, g3⟩ := hG b hb
  have hr := SI_rg hC.2.1
  have r0 := hr 0 (by omega)
  have r1 := hr 1 (by omega)
  have r2 := hr 2 (by omega)
  have s0 := hs 0 (by omega)
  have s1 := hs 1 (by omega)
  have s2 := hs 2 (by omega)
  have hm := mcl_lt z.2.2.1 (z.1.2.1 b)
  have hbn : (4 * (mcl z.2.2.1 (z.1.2.1 b) : Int) + z.1.1 b - 1) = (binN z b : Int) := by unfold binN; omega
  rw [← hbn]
  unfold f_L_binOf mcl
  rw [f_L_binOf_L2]
  simp only [t3, t31]
  rw [g2]
  refine (gd_q (inb_of (by first | omega | (dsimp only; omega))) (gd_q (inb_of (by first | omega | (dsimp only; omega))) (gd_q (by show rg (nn 0) = true; rw [s0]; exact (rg_of (by first | omega | (dsimp only; omega)))) (gd_q (rg_of (by first | omega | (dsimp only; omega))) (?_)))))
  by_cases c0 : z.1.2.1 b ≤ z.2.2.1 0
  · rw [if_pos c0]
    refine (it_q1 (by show z.1.2.1 b ≤ nn 0; omega) (gd_q (inb_of (by first | omega | (dsimp only; omega))) (?_)))
    rw [g1]
    rfl
  · rw [if_neg c0]
    refine (it_q2 (by show ¬ z.1.2.1 b ≤ nn 0; omega) (?_))
    rw [f_L_binOf_L2]
    simp only [t3, t31]
    rw [g2]
    refine (gd_q (inb_of (by first | omega | (dsimp only; omega))) (gd_q (inb_of (by first | omega | (dsimp only; omega))) (gd_q (by show rg (nn 1) = true; rw [s1]; exact (rg_of (by first | omega | (dsimp only; omega)))) (gd_q (rg_of (by first | omega | (dsimp only; omega))) (?_)))))
    by_cases c1 : z.1.2.1 b ≤ z.2.2.1 1
    · rw [if_pos c1]
      refine (it_q1 (by show z.1.2.1 b ≤ nn 1; omega) (gd_q (inb_of (by first | omega | (dsimp only; omega))) (?_)))
      rw [g1]
      rfl
    · rw [if_neg c1]
      refine (it_q2 (by show ¬ z.1.2.1 b ≤ nn 1; omega) (?_))
      rw [f_L_binOf_L2]
      simp only [t3, t31]
      rw [g2]
      refine (gd_q (inb_of (by first | omega | (dsimp only; omega))) (gd_q (inb_of (by first | omega | (dsimp only; omega))) (gd_q (by show rg (nn 2) = true; rw [s2]; exact (rg_of (by first | omega | (dsimp only; omega)))) (gd_q (rg_of (by first | omega | (dsimp only; omega))) (it_q1 (by show z.1.2.1 b ≤ nn 2; omega) (gd_q (inb_of (by first | omega | (dsimp only; omega))) (?_)))))))
      rw [g1]
      rfl
