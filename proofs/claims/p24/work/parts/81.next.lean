/-! p24: the next one of a bin, how they differ, the first that are alike -/
abbrev lo (m : Nat → Int) (a b : Nat) : Prop := m (3 * a + 1) < m (3 * b + 1) ∨ (m (3 * a + 1) = m (3 * b + 1) ∧ a < b)
abbrev bh (m : Nat → Int) (a : Int) (b : Nat) : Prop := a < 0 ∨ lo m a.toNat b
theorem bhE {β : Type} {m : Nat → Int} {n i : Nat} {a : Int} {F : Int → Option β} (hi : i < n) (hn20 : n ≤ 20) (ha : a = -5 ∨ ∃ af : Nat, a = (af : Int) ∧ af < n) (hm : ∀ b, b < n → 0 ≤ m (3 * b + 1) ∧ m (3 * b + 1) ≤ 9) : jn1 F (fun (j : Int → Option β) => (if a < 0 then (j 1) else (gd (inb ((3 * (i : Int)) + 1) 60) <| gd (inb ((3 * a) + 1) 60) <| gd (rg (m (((3 * (i : Int)) + 1).toNat))) <| gd (rg (m (((3 * a) + 1).toNat))) <| if (m (((3 * a) + 1).toNat)) < (m (((3 * (i : Int)) + 1).toNat)) then (j 1) else (if (m (((3 * (i : Int)) + 1).toNat)) = (m (((3 * a) + 1).toNat)) then (if (i : Int) ≤ a then (j 0) else (j 1)) else (j 0))))) = F (if bh m a i then 1 else 0) := by
  refine jn1_q ?_
  rcases ha with rfl | ⟨af, rfl, haf⟩
  · rw [if_pos (show bh m (-5) i from Or.inl (by decide))]
    exact it_q1 (by decide) rfl
  · have h1 := hm i hi
    have h2 := hm af haf
    simp only [t31]
    refine (it_q2 (by first | omega | (dsimp only; omega)) (gd_q (inb_of (by first | omega | (dsimp only; omega))) (gd_q (inb_of (by first | omega | (dsimp only; omega))) (gd_q (rg_of (by first | omega | (dsimp only; omega))) (gd_q (rg_of (by first | omega | (dsimp only; omega))) (?_))))))
    by_cases c1 : m (3 * af + 1) < m (3 * i + 1)
    · rw [if_pos (show bh m (af : Int) i from Or.inr (Or.inl c1))]
      exact it_q1 c1 rfl
    · refine it_q2 c1 ?_
      by_cases c2 : m (3 * i + 1) = m (3 * af + 1)
      · refine it_q1 c2 ?_
        by_cases c3 : i ≤ af
        · rw [if_neg (show ¬ bh m (af : Int) i from fun h => by
            rcases h with h | h | h
            · omega
            · exact c1 h
            · have := h.2
              rw [tn] at this
              omega)]
          exact it_q1 (by omega) rfl
        · rw [if_pos (show bh m (af : Int) i from Or.inr (Or.inr ⟨c2.symm, by rw [tn]; omega⟩))]
          exact it_q2 (by omega) rfl
      · rw [if_neg (show ¬ bh m (af : Int) i from fun h => by
          rcases h with h | h | h
          · omega
          · exact c1 h
          · exact c2 h.1.symm)]
        exact it_q2 c2 rfl
def NR (m p : Nat → Int) (x a : Int) (i : Nat) (v : Int) : Prop := (v = -5 ∧ ∀ b, b < i → p (3 * b + 1) = x → ¬ bh m a b) ∨ ∃ b : Nat, v = (b : Int) ∧ b < i ∧ p (3 * b + 1) = x ∧ bh m a b ∧ ∀ b', b' < i → p (3 * b' + 1) = x → bh m a b' → b' ≠ b → lo m b b'
theorem NR_skip {m p : Nat → Int} {x a v : Int} {i : Nat} (h : NR m p x a i v) (hs : p (3 * i + 1) = x → ¬ bh m a i) : NR m p x a (i + 1) v := by
  rcases h with ⟨h1, h2⟩ | ⟨b, h1, h2, h3, h4, h5⟩
  · refine Or.inl ⟨h1, fun b hb e => ?_⟩
    by_cases eb : b = i
    · subst eb
      exact hs e
    · exact h2 b (by omega) e
  · refine Or.inr ⟨b, h1, by omega, h3, h4, fun b' hb' e1 e2 e3 => ?_⟩
    by_cases eb : b' = i
    · subst eb
      exact absurd e2 (hs e1)
    · exact h5 b' (by omega) e1 e2 e3
theorem NR_take0 {m p : Nat → Int} {x a v : Int} {i : Nat} (h : NR m p x a i v) (hv : v < 0) (h1 : p (3 * i + 1) = x) (h2 : bh m a i) : NR m p x a (i + 1) (i : Int) := by
  rcases h with ⟨g1, g2⟩ | ⟨b, g1, g2, g3, g4, g5⟩
  · refine Or.inr ⟨i, rfl, by omega, h1, h2, fun b' hb' e1 e2 e3 => absurd e2 (g2 b' (by omega) e1)⟩
  · omega
theorem NR_take {m p : Nat → Int} {x a : Int} {i b : Nat} (h : NR m p x a i (b : Int)) (h1 : p (3 * i + 1) = x) (h2 : bh m a i) (h3 : m (3 * i + 1) < m (3 * b + 1)) : NR m p x a (i + 1) (i : Int) := by
  rcases h with ⟨g1, g2⟩ | ⟨b0, g1, g2, g3, g4, g5⟩
  · omega
  · obtain rfl : b = b0 := by omega
    refine Or.inr ⟨i, rfl, by omega, h1, h2, fun b' hb' e1 e2 e3 => ?_⟩
    by_cases eb : b' = b
    · subst eb
      exact Or.inl h3
    · have := g5 b' (by omega) e1 e2 eb
      unfold lo at this ⊢
      omega
theorem NR_keep {m p : Nat → Int} {x a : Int} {i b : Nat} (h : NR m p x a i (b : Int)) (h3 : m (3 * b + 1) ≤ m (3 * i + 1)) : NR m p x a (i + 1) (b : Int) := by
  rcases h with ⟨g1, g2⟩ | ⟨b0, g1, g2, g3, g4, g5⟩
  · omega
  · obtain rfl : b = b0 := by omega
    refine Or.inr ⟨b, rfl, by omega, g3, g4, fun b' hb' e1 e2 e3 => ?_⟩
    by_cases eb : b' = i
    · subst eb
      unfold lo
      omega
    · exact g5 b' (by omega) e1 e2 e3
theorem next_loop {N n : Nat} {m p nn : Nat → Int} {x a : Int} {kt : Int → Int → Int → Int → Option Int} (hn : nn 13 = (n : Int)) (hn20 : n ≤ 20) (hx : 0 ≤ x ∧ x < 12) (ha : a = -5 ∨ ∃ af : Nat, a = (af : Int) ∧ af < n) (hm : ∀ b, b < n → 0 ≤ m (3 * b + 1) ∧ m (3 * b + 1) ≤ 9) (hp : ∀ b, b < n → rg (p (3 * b)) = true) (hp1 : ∀ b, b < n → rg (p (3 * b + 1)) = true) (hv : ∀ b, b < n → p (3 * b) ≠ 5 → p (3 * b + 1) < 0) : ∀ d i k v, i + d = n → d < k → NR m p x a i v → ∃ v', f_L_next_L7 N (m, p, nn) kt k x a v (i : Int) = kt x a v' (n : Int) ∧ NR m p x a n v' := by
  have hra : rg a = true := by
    rcases ha with rfl | ⟨af, rfl, haf⟩
    · decide
    · exact (rg_of (by first | omega | (dsimp only; omega)))
  intro d
  induction d with
  | zero =>
    intro i k v hi hk hR
    obtain ⟨k, rfl⟩ : ∃ j, k = j + 1 := ⟨k - 1, by omega⟩
    obtain rfl : i = n := by omega
    refine ⟨v, ?_, hR⟩
    rw [f_L_next_L7]
    exact (gd_q (rg_of (by first | omega | (dsimp only; omega))) (gd_q (rg_of (by first | omega | (dsimp only; omega))) (it_q1 (by first | omega | (dsimp only; omega)) (rfl))))
  | succ d ih =>
    intro i k v hi hk hR
    obtain ⟨k, rfl⟩ : ∃ j, k = j + 1 := ⟨k - 1, by omega⟩
    have hin : i < n := by omega
    have hmi := hm i hin
    by_cases e : p (3 * i + 1) = x
    · have e5 : p (3 * i) = 5 := by
        by_cases e5 : p (3 * i) = 5
        · exact e5
        · have := hv i hin e5
          omega
      by_cases eb : bh m a i
      · by_cases ev : v < 0
        · obtain ⟨v', g1, g2⟩ := ih (i + 1) k (i : Int) (by omega) (by omega) (NR_take0 hR ev e eb)
          refine ⟨v', ?_, g2⟩
          rw [f_L_next_L7]
          refine (gd_q (rg_of (by first | omega | (dsimp only; omega))) (gd_q (rg_of (by first | omega | (dsimp only; omega))) (it_q2 (by first | omega | (dsimp only; omega)) (gd_q (inb_of (by first | omega | (dsimp only; omega))) (gd_q (hp i hin) (jn1_q (it_q1 e5 (gd_q (inb_of (by first | omega | (dsimp only; omega))) (gd_q (hp1 i hin) (gd_q (rg_of (by first | omega | (dsimp only; omega))) (it_q1 e (gd_q hra (?_)))))))))))))
          refine Eq.trans (bhE hin hn20 ha hm) ?_
          rw [if_pos eb]
          have hv5 : v = -5 := by
            rcases hR with ⟨h, -⟩ | ⟨b, h, -⟩
            · exact h
            · omega
          subst hv5
          exact (gd_q (rg_of (by first | omega | (dsimp only; omega))) (jn1_q (it_q2 (by first | omega | (dsimp only; omega)) (gd_q (rg_of (by first | omega | (dsimp only; omega))) (it_q2 (by first | omega | (dsimp only; omega)) (gd_q (rg_of (by first | omega | (dsimp only; omega))) (it_q1 (by first | omega | (dsimp only; omega)) (g1))))))))
        · obtain ⟨b, rfl⟩ : ∃ b : Nat, v = (b : Int) := ⟨v.toNat, by omega⟩
          have hbn : b < n := by
            rcases hR with ⟨h, -⟩ | ⟨b0, h, h2, -⟩
            · omega
            · omega
          have hmb := hm b hbn
          by_cases el : m (3 * b + 1) ≤ m (3 * i + 1)
          · obtain ⟨v', g1, g2⟩ := ih (i + 1) k (b : Int) (by omega) (by omega) (NR_keep hR el)
            refine ⟨v', ?_, g2⟩
            rw [f_L_next_L7]
            refine (gd_q (rg_of (by first | omega | (dsimp only; omega))) (gd_q (rg_of (by first | omega | (dsimp only; omega))) (it_q2 (by first | omega | (dsimp only; omega)) (gd_q (inb_of (by first | omega | (dsimp only; omega))) (gd_q (hp i hin) (jn1_q (it_q1 e5 (gd_q (inb_of (by first | omega | (dsimp only; omega))) (gd_q (hp1 i hin) (gd_q (rg_of (by first | omega | (dsimp only; omega))) (it_q1 e (gd_q hra (?_)))))))))))))
            refine Eq.trans (bhE hin hn20 ha hm) ?_
            rw [if_pos eb]
            refine (gd_q (rg_of (by first | omega | (dsimp only; omega))) (jn1_q (it_q2 (by first | omega | (dsimp only; omega)) (gd_q (rg_of (by first | omega | (dsimp only; omega))) (it_q2 (by first | omega | (dsimp only; omega)) (gd_q (rg_of (by first | omega | (dsimp only; omega))) (it_q2 (by first | omega | (dsimp only; omega)) (gd_q (inb_of (by first | omega | (dsimp only; omega))) (gd_q (inb_of (by first | omega | (dsimp only; omega))) (?_))))))))))
            simp only [t31]
            exact (gd_q (rg_of (by first | omega | (dsimp only; omega))) (gd_q (rg_of (by first | omega | (dsimp only; omega))) (it_q1 el (g1))))
          · obtain ⟨v', g1, g2⟩ := ih (i + 1) k (i : Int) (by omega) (by omega) (NR_take hR e eb (by omega))
            refine ⟨v', ?_, g2⟩
            rw [f_L_next_L7]
            refine (gd_q (rg_of (by first | omega | (dsimp only; omega))) (gd_q (rg_of (by first | omega | (dsimp only; omega))) (it_q2 (by first | omega | (dsimp only; omega)) (gd_q (inb_of (by first | omega | (dsimp only; omega))) (gd_q (hp i hin) (jn1_q (it_q1 e5 (gd_q (inb_of (by first | omega | (dsimp only; omega))) (gd_q (hp1 i hin) (gd_q (rg_of (by first | omega | (dsimp only; omega))) (it_q1 e (gd_q hra (?_)))))))))))))
            refine Eq.trans (bhE hin hn20 ha hm) ?_
            rw [if_pos eb]
            refine (gd_q (rg_of (by first | omega | (dsimp only; omega))) (jn1_q (it_q2 (by first | omega | (dsimp only; omega)) (gd_q (rg_of (by first | omega | (dsimp only; omega))) (it_q2 (by first | omega | (dsimp only; omega)) (gd_q (rg_of (by first | omega | (dsimp only; omega))) (it_q2 (by first | omega | (dsimp only; omega)) (gd_q (inb_of (by first | omega | (dsimp only; omega))) (gd_q (inb_of (by first | omega | (dsimp only; omega))) (?_))))))))))
            simp only [t31]
            exact (gd_q (rg_of (by first | omega | (dsimp only; omega))) (gd_q (rg_of (by first | omega | (dsimp only; omega))) (it_q2 el (g1))))
      · obtain ⟨v', g1, g2⟩ := ih (i + 1) k v (by omega) (by omega) (NR_skip hR (fun _ => eb))
        refine ⟨v', ?_, g2⟩
        rw [f_L_next_L7]
        refine (gd_q (rg_of (by first | omega | (dsimp only; omega))) (gd_q (rg_of (by first | omega | (dsimp only; omega))) (it_q2 (by first | omega | (dsimp only; omega)) (gd_q (inb_of (by first | omega | (dsimp only; omega))) (gd_q (hp i hin) (jn1_q (it_q1 e5 (gd_q (inb_of (by first | omega | (dsimp only; omega))) (gd_q (hp1 i hin) (gd_q (rg_of (by first | omega | (dsimp only; omega))) (it_q1 e (gd_q hra (?_)))))))))))))
        refine Eq.trans (bhE hin hn20 ha hm) ?_
        rw [if_neg eb]
        exact (gd_q (rg_of (by first | omega | (dsimp only; omega))) (jn1_q (it_q2 (by first | omega | (dsimp only; omega)) (gd_q (rg_of (by first | omega | (dsimp only; omega))) (it_q1 (by first | omega | (dsimp only; omega)) (g1))))))
    · obtain ⟨v', g1, g2⟩ := ih (i + 1) k v (by omega) (by omega) (NR_skip hR (fun h => absurd h e))
      refine ⟨v', ?_, g2⟩
      rw [f_L_next_L7]
      refine (gd_q (rg_of (by first | omega | (dsimp only; omega))) (gd_q (rg_of (by first | omega | (dsimp only; omega))) (it_q2 (by first | omega | (dsimp only; omega)) (gd_q (inb_of (by first | omega | (dsimp only; omega))) (gd_q (hp i hin) (jn1_q (?_)))))))
      by_cases e5 : p (3 * i) = 5
      · refine (it_q1 e5 (gd_q (inb_of (by first | omega | (dsimp only; omega))) (gd_q (hp1 i hin) (gd_q (rg_of (by first | omega | (dsimp only; omega))) (it_q2 e (gd_q hra (?_)))))))
        refine Eq.trans (bhE hin hn20 ha hm) ?_
        exact (gd_q (rg_of (by first | omega | (dsimp only; omega))) (jn1_q (it_q1 (by first | omega | (dsimp only; omega)) (g1))))
      · refine (it_q2 e5 (gd_q hra (?_)))
        refine Eq.trans (bhE hin hn20 ha hm) ?_
        exact (gd_q (rg_of (by first | omega | (dsimp only; omega))) (jn1_q (it_q1 (by first | omega | (dsimp only; omega)) (g1))))
/-- what the rows must keep that bins can be read -/
def BR (m p nn : Nat → Int) (n : Nat) : Prop := nn 13 = (n : Int) ∧ n ≤ 20 ∧ (∀ b, b < n → 0 ≤ m (3 * b + 1) ∧ m (3 * b + 1) ≤ 9) ∧ (∀ b, b < n → -5 ≤ p (3 * b) ∧ p (3 * b) ≤ 6 ∧ -5 ≤ p (3 * b + 1) ∧ p (3 * b + 1) ≤ 11 ∧ (p (3 * b) ≠ 5 → p (3 * b + 1) < 0))
theorem nextJ {N n c J x : Nat} {m p nn : Nat → Int} {a xx : Int} {f : Nat → Nat} (hN : 50 ≤ N) (hB : BR m p nn n) (hx : x < 12) (ex : xx = (x : Int)) (ha : a = -5 ∨ ∃ af : Nat, a = (af : Int) ∧ af < n) (hf : ∀ j, j < c → f j < n) (hE : ∀ b, b < n → ((p (3 * b + 1) = (x : Int) ∧ bh m a b) ↔ ∃ j, J ≤ j ∧ j < c ∧ f j = b)) (hlt : ∀ j k, J ≤ j → j < k → k < c → lo m (f j) (f k)) : f_L_next N xx a (m, p, nn) = some (if J < c then (f J : Int) else -5) := by
  subst ex
  obtain ⟨b1, b2, b3, b4⟩ := hB
  obtain ⟨v', g1, g2⟩ := next_loop (N := N) (kt := fun v44 v45 v46 v47 => some v46) (nn := nn) (x := (x : Int)) (a := a) b1 b2 (by omega) ha b3 (fun b hb => by have := b4 b hb; exact (rg_of (by first | omega | (dsimp only; omega)))) (fun b hb => by have := b4 b hb; exact (rg_of (by first | omega | (dsimp only; omega)))) (fun b hb => (b4 b hb).2.2.2.2) n 0 N (-5) (by omega) (by omega) (Or.inl ⟨rfl, fun b hb => absurd hb (by omega)⟩)
  refine Eq.trans g1 ?_
  congr 1
  rcases g2 with ⟨h1, h2⟩ | ⟨b, h1, h2, h3, h4, h5⟩
  · by_cases e : J < c
    · have := (hE (f J) (hf J e)).mpr ⟨J, Nat.le_refl _, e, rfl⟩
      exact absurd this.2 (h2 (f J) (hf J e) this.1)
    · rw [if_neg e, h1]
  · obtain ⟨j, j1, j2, j3⟩ := (hE b h2).mp ⟨h3, h4⟩
    rw [if_pos (by omega), h1]
    by_cases e : j = J
    · rw [← j3, e]
    · have h6 := (hE (f J) (hf J (by omega))).mpr ⟨J, Nat.le_refl _, by omega, rfl⟩
      have h7 := hlt J j (Nat.le_refl _) (by omega) j2
      by_cases eb : f J = b
      · rw [eb]
      · have h8 := h5 (f J) (hf J (by omega)) h6.1 h6.2 eb
        rw [j3] at h7
        exfalso
        unfold lo at h7 h8
        omega
/-- a bin as its order tells -/
def OL (m p : Nat → Int) (n x : Nat) (f : Nat → Nat) (c : Nat) : Prop := (∀ j, j < c → f j < n ∧ p (3 * f j + 1) = (x : Int)) ∧ (∀ j k, j < k → k < c → lo m (f j) (f k)) ∧ (∀ b, b < n → p (3 * b + 1) = (x : Int) → ∃ j, j < c ∧ f j = b)
theorem OL_of {z : bS} {m p : Nat → Int} {n x c : Nat} {f : Nat → Nat} (hD : OD z n (x : Int) f c) (hM : ∀ b, b < n → m (3 * b + 1) = z.1.2.2.2.2.1 b) (hP : ∀ b, b < n → p (3 * b + 1) = z.2.1.2.1 b) : OL m p n x f c := by
  obtain ⟨d1, d2, d3, d4⟩ := hD
  refine ⟨fun j hj => ⟨(d1 j hj).1, by rw [hP _ (d1 j hj).1]; exact (d1 j hj).2⟩, fun j k hjk hk => ?_, fun b hb e => d3 b hb (by rw [← hP b hb]; exact e)⟩
  have := d2 j k hjk hk
  unfold lo
  rw [hM _ (d1 j (by omega)).1, hM _ (d1 k hk).1]
  exact this
theorem nextO {N n c x : Nat} {m p nn : Nat → Int} {xx : Int} {f : Nat → Nat} (hN : 50 ≤ N) (hB : BR m p nn n) (hx : x < 12) (ex : xx = (x : Int)) (hO : OL m p n x f c) : f_L_next N xx (-5) (m, p, nn) = some (if 0 < c then (f 0 : Int) else -5) := by
  obtain ⟨o1, o2, o3⟩ := hO
  refine nextJ hN hB hx ex (Or.inl rfl) (fun j hj => (o1 j hj).1) (fun b hb => ⟨fun h => ?_, fun h => ?_⟩) (fun j k _ h1 h2 => o2 j k h1 h2)
  · obtain ⟨j, j1, j2⟩ := o3 b hb h.1
    exact ⟨j, by omega, j1, j2⟩
  · obtain ⟨j, -, j1, j2⟩ := h
    rw [← j2]
    exact ⟨(o1 j j1).2, Or.inl (by decide)⟩
theorem lo_as {m : Nat → Int} {a b : Nat} (h : lo m a b) (h' : lo m b a) : False := by
  unfold lo at h h'
  omega
theorem nextK {N n c x k : Nat} {m p nn : Nat → Int} {a xx : Int} {f : Nat → Nat} (hN : 50 ≤ N) (hB : BR m p nn n) (hx : x < 12) (ex : xx = (x : Int)) (hO : OL m p n x f c) (hk : k < c) (ea : a = (f k : Int)) : f_L_next N xx a (m, p, nn) = some (if k + 1 < c then (f (k + 1) : Int) else -5) := by
  subst ea
  obtain ⟨o1, o2, o3⟩ := hO
  refine nextJ hN hB hx ex (Or.inr ⟨f k, rfl, (o1 k hk).1⟩) (fun j hj => (o1 j hj).1) (fun b hb => ⟨fun h => ?_, fun h => ?_⟩) (fun j k _ h1 h2 => o2 j k h1 h2)
  · obtain ⟨j, j1, j2⟩ := o3 b hb h.1
    refine ⟨j, ?_, j1, j2⟩
    rcases h.2 with h2 | h2
    · omega
    · rw [tn, ← j2] at h2
      rcases Nat.lt_trichotomy j k with g | g | g
      · exact absurd (o2 j k g hk) (fun q => lo_as q h2)
      · subst g
        exact absurd h2 (fun q => lo_as q q)
      · omega
  · obtain ⟨j, j0, j1, j2⟩ := h
    rw [← j2]
    exact ⟨(o1 j j1).2, Or.inr (by rw [tn]; exact o2 k j (by omega) j1)⟩
/-- how much so many differ, from one on -/
def shm (m : Nat → Int) (f : Nat → Nat) : Nat → Int := fun j => m (3 * f j + 1)
theorem dif_loop {N n c x k many : Nat} {m p nn : Nat → Int} {xx : Int} {f : Nat → Nat} {kt : Int → Int → Int → Int → Int → Option Int} (hN : 50 ≤ N) (hB : BR m p nn n) (hx : x < 12) (ex : xx = (x : Int)) (hO : OL m p n x f c) (hk : k < c) (hm : 1 ≤ many) (hm9 : many ≤ 9) : ∀ d i fu, i + d = many → 1 ≤ i → k + i - 1 < c → d + 1 < fu → ∃ i' : Int, f_L_differs_L7 N (m, p, nn) kt fu xx (f k : Int) (many : Int) (f (k + i - 1) : Int) (i : Int) = kt xx (f k : Int) (many : Int) (if k + many ≤ c then (f (k + many - 1) : Int) else -5) i' := by
  have hn20 := hB.2.1
  have hfn : ∀ j, j < c → f j < n := fun j hj => (hO.1 j hj).1
  intro d
  induction d with
  | zero =>
    intro i fu hi h1 h2 hf
    obtain ⟨fu, rfl⟩ : ∃ j, fu = j + 1 := ⟨fu - 1, by omega⟩
    obtain rfl : i = many := by omega
    refine ⟨(i : Int), ?_⟩
    rw [f_L_differs_L7, if_pos (show k + i ≤ c by omega)]
    exact (gd_q (rg_of (by first | omega | (dsimp only; omega))) (gd_q (rg_of (by first | omega | (dsimp only; omega))) (it_q1 (by first | omega | (dsimp only; omega)) (rfl))))
  | succ d ih =>
    intro i fu hi h1 h2 hf
    obtain ⟨fu, rfl⟩ : ∃ j, fu = j + 1 := ⟨fu - 1, by omega⟩
    have hl := hfn _ h2
    have hnx := nextK (a := (f (k + i - 1) : Int)) hN hB hx ex hO h2 rfl
    rw [show k + i - 1 + 1 = k + i by omega] at hnx
    by_cases e : k + i < c
    · rw [if_pos e] at hnx
      obtain ⟨i', g⟩ := ih (i + 1) fu (by omega) (by omega) (by omega) (by omega)
      rw [show k + (i + 1) - 1 = k + i by omega] at g
      refine ⟨i', ?_⟩
      rw [f_L_differs_L7]
      exact (gd_q (rg_of (by first | omega | (dsimp only; omega))) (gd_q (rg_of (by first | omega | (dsimp only; omega))) (it_q2 (by first | omega | (dsimp only; omega)) (gd_q (rg_of (by first | omega | (dsimp only; omega))) (it_q2 (by first | omega | (dsimp only; omega)) (bd_q hnx (g)))))))
    · rw [if_neg e] at hnx
      refine ⟨(i : Int) + 1, ?_⟩
      rw [f_L_differs_L7, if_neg (show ¬ k + many ≤ c by omega)]
      refine (gd_q (rg_of (by first | omega | (dsimp only; omega))) (gd_q (rg_of (by first | omega | (dsimp only; omega))) (it_q2 (by first | omega | (dsimp only; omega)) (gd_q (rg_of (by first | omega | (dsimp only; omega))) (it_q2 (by first | omega | (dsimp only; omega)) (bd_q hnx (?_)))))))
      obtain ⟨fu, rfl⟩ : ∃ j, fu = j + 1 := ⟨fu - 1, by omega⟩
      rw [f_L_differs_L7]
      by_cases e2 : (many : Int) ≤ (i : Int) + 1
      · exact (gd_q (rg_of (by first | omega | (dsimp only; omega))) (gd_q (rg_of (by first | omega | (dsimp only; omega))) (it_q1 e2 (rfl))))
      · exact (gd_q (rg_of (by first | omega | (dsimp only; omega))) (gd_q (rg_of (by first | omega | (dsimp only; omega))) (it_q2 e2 (gd_q (rg_of (by first | omega | (dsimp only; omega))) (it_q1 (by first | omega | (dsimp only; omega)) (rfl))))))
theorem difG {N n c x k many : Nat} {m p nn : Nat → Int} {a xx mm : Int} {f : Nat → Nat} (hN : 50 ≤ N) (hB : BR m p nn n) (hx : x < 12) (ex : xx = (x : Int)) (hO : OL m p n x f c) (hk : k < c) (hm : 1 ≤ many) (hm9 : many ≤ 9) (ea : a = (f k : Int)) (em : mm = (many : Int)) : f_L_differs N xx a mm (m, p, nn) = some (if k + many ≤ c then shm m f (k + many - 1) - shm m f k else -5) := by
  subst ea
  subst em
  have hn20 := hB.2.1
  have hfk := (hO.1 k hk).1
  obtain ⟨i', g⟩ := dif_loop (N := N) (kt := fun v13 v14 v15 v16 v17 => gd (rg v14) <| jn1 (fun (v19 : Int) => some v19) fun j20 => if v14 < 0 then (j20 (-5)) else (gd (rg v16) <| if 0 ≤ v16 then (gd (inb ((3 * v16) + 1) 60) <| gd (inb ((3 * v14) + 1) 60) <| j20 ((m (((3 * v16) + 1).toNat)) - (m (((3 * v14) + 1).toNat)))) else (j20 (-5)))) hN hB hx ex hO hk hm hm9 (many - 1) 1 N (by omega) (by omega) (by omega) (by omega)
  refine Eq.trans g ?_
  by_cases e : k + many ≤ c
  · rw [if_pos e, if_pos e]
    have hfl := (hO.1 (k + many - 1) (by omega)).1
    refine (gd_q (rg_of (by first | omega | (dsimp only; omega))) (jn1_q (it_q2 (by first | omega | (dsimp only; omega)) (gd_q (rg_of (by first | omega | (dsimp only; omega))) (it_q1 (by first | omega | (dsimp only; omega)) (gd_q (inb_of (by first | omega | (dsimp only; omega))) (gd_q (inb_of (by first | omega | (dsimp only; omega))) (?_))))))))
    simp only [t31]
    rfl
  · rw [if_neg e, if_neg e]
    exact (gd_q (rg_of (by first | omega | (dsimp only; omega))) (jn1_q (it_q2 (by first | omega | (dsimp only; omega)) (gd_q (rg_of (by first | omega | (dsimp only; omega))) (it_q2 (by first | omega | (dsimp only; omega)) (rfl))))))
def oF (f : Nat → Nat) (o : Option Nat) : Int := match o with
  | some k => (f k : Int)
  | none => -5
theorem first_loop {N n c x many : Nat} {m p nn : Nat → Int} {xx mm sp : Int} {f : Nat → Nat} {kt : Int → Int → Int → Option Int} (hN : 50 ≤ N) (hB : BR m p nn n) (hx : x < 12) (ex : xx = (x : Int)) (hO : OL m p n x f c) (hm : 1 ≤ many) (hm9 : many ≤ 9) (em : mm = (many : Int)) (hsp : nn 7 = sp) (hsp2 : 0 ≤ sp ∧ sp ≤ 9) (hcn : c ≤ n) (hmono : ∀ j k, j ≤ k → k < c → shm m f j ≤ shm m f k) : ∀ d k fu, k + d = c + 1 → d < fu → f_L_first_L11 N (m, p, nn) kt fu xx mm (if k < c then (f k : Int) else -5) = kt xx mm (oF f (fa (shm m f) c many sp d k)) := by
  have hn20 := hB.2.1
  intro d
  induction d with
  | zero =>
    intro k fu hk hf
    obtain ⟨fu, rfl⟩ : ∃ j, fu = j + 1 := ⟨fu - 1, by omega⟩
    rw [f_L_first_L11, fa, if_neg (show ¬ k < c by omega)]
    exact (gd_q (rg_of (by first | omega | (dsimp only; omega))) (it_q1 (by first | omega | (dsimp only; omega)) (rfl)))
  | succ d ih =>
    intro k fu hk hf
    obtain ⟨fu, rfl⟩ : ∃ j, fu = j + 1 := ⟨fu - 1, by omega⟩
    have ih' := ih (k + 1) fu (by omega) (by omega)
    by_cases ekc : k < c
    · have hfk := (hO.1 k ekc).1
      have hdf := difG (a := (f k : Int)) (mm := mm) hN hB hx ex hO ekc hm hm9 rfl em
      have hnx := nextK (a := (f k : Int)) hN hB hx ex hO ekc rfl
      rw [f_L_first_L11, fa, if_pos ekc]
      refine (gd_q (rg_of (by first | omega | (dsimp only; omega))) (it_q2 (by first | omega | (dsimp only; omega)) (bd_q hdf (?_))))
      by_cases e : k + many ≤ c
      · have hs1 := hB.2.2.1 _ (hO.1 (k + many - 1) (by omega)).1
        have hs2 := hB.2.2.1 _ hfk
        have hmo := hmono k (k + many - 1) (by omega) (by omega)
        have hb1 : 0 ≤ shm m f (k + many - 1) ∧ shm m f (k + many - 1) ≤ 9 := hs1
        have hb2 : 0 ≤ shm m f k ∧ shm m f k ≤ 9 := hs2
        rw [if_pos e, if_pos e]
        refine (gd_q (rg_of (by first | omega | (dsimp only; omega))) (it_q2 (by first | omega | (dsimp only; omega)) (?_)))
        rw [if_pos e] at hdf
        refine (bd_q hdf (gd_q (rg_of (by first | omega | (dsimp only; omega))) (gd_q (by show rg (nn 7) = true; rw [hsp]; exact (rg_of (by first | omega | (dsimp only; omega)))) (?_))))
        by_cases e2 : shm m f (k + many - 1) - shm m f k ≤ sp
        · rw [if_pos e2]
          exact it_q1 (by show _ ≤ nn 7; rw [hsp]; exact e2) rfl
        · rw [if_neg e2]
          exact (it_q2 (by show ¬ _ ≤ nn 7; rw [hsp]; exact e2) (bd_q hnx (ih')))
      · rw [if_neg e, if_neg e]
        refine (gd_q (rg_of (by first | omega | (dsimp only; omega))) (it_q1 (by first | omega | (dsimp only; omega)) (bd_q hnx (?_))))
        refine Eq.trans ih' ?_
        cases d with
        | zero => rfl
        | succ d => rw [fa, if_neg (show ¬ k + 1 + many ≤ c by omega)]
    · rw [f_L_first_L11, fa, if_neg ekc, if_neg (show ¬ k + many ≤ c by omega)]
      exact (gd_q (rg_of (by first | omega | (dsimp only; omega))) (it_q1 (by first | omega | (dsimp only; omega)) (rfl)))
theorem shm_mono {m p : Nat → Int} {n x c : Nat} {f : Nat → Nat} (hO : OL m p n x f c) : ∀ j k, j ≤ k → k < c → shm m f j ≤ shm m f k := by
  intro j k h1 h2
  by_cases e : j = k
  · subst e
    omega
  · have := hO.2.1 j k (by omega) h2
    unfold shm
    unfold lo at this
    omega
theorem firstG {N n c x many : Nat} {m p nn : Nat → Int} {xx mm sp : Int} {f : Nat → Nat} (hN : 60 ≤ N) (hB : BR m p nn n) (hx : x < 12) (ex : xx = (x : Int)) (hO : OL m p n x f c) (hm : 1 ≤ many) (hm9 : many ≤ 9) (em : mm = (many : Int)) (hsp : nn 7 = sp) (hsp2 : 0 ≤ sp ∧ sp ≤ 9) (hcn : c ≤ n) : f_L_first N xx mm (m, p, nn) = some (oF f (fa (shm m f) c many sp (c + 1) 0)) := by
  have hn20 := hB.2.1
  unfold f_L_first
  refine bd_q (nextO (by omega) hB hx ex hO) ?_
  exact first_loop (N := N) (kt := fun v21 v22 v23 => some v23) (by omega) hB hx ex hO hm hm9 em hsp hsp2 hcn (shm_mono hO) (c + 1) 0 N (by omega) (by omega)
