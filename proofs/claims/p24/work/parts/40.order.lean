/-! the order of a bin's buttons: by shine, then by number -/
def OD (z : bS) (i : Nat) (x : Int) (f : Nat → Nat) (c : Nat) : Prop := (∀ j, j < c → f j < i ∧ z.2.1.2.1 (f j) = x) ∧ (∀ j k, j < k → k < c → z.1.2.2.2.2.1 (f j) < z.1.2.2.2.2.1 (f k) ∨ (z.1.2.2.2.2.1 (f j) = z.1.2.2.2.2.1 (f k) ∧ f j < f k)) ∧ (∀ b, b < i → z.2.1.2.1 b = x → ∃ j, j < c ∧ f j = b) ∧ (c : Int) = cnt i z.2.1.2.1 x
theorem OD_c {z : bS} {i c : Nat} {x : Int} {f : Nat → Nat} (h : OD z i x f c) : c ≤ i := by
  have := cnt_nn i z.2.1.2.1 x
  have := h.2.2.2
  omega
theorem OD_inj {z : bS} {i c : Nat} {x : Int} {f : Nat → Nat} (h : OD z i x f c) {j k : Nat} (hj : j < c) (hk : k < c) (e : f j = f k) : j = k := by
  rcases Nat.lt_trichotomy j k with h1 | h1 | h1
  · have := h.2.1 j k h1 hk
    rw [e] at this
    omega
  · exact h1
  · have := h.2.1 k j h1 hj
    rw [e] at this
    omega
theorem OD_0 {z : bS} {x : Int} {f : Nat → Nat} : OD z 0 x f 0 := ⟨fun j hj => absurd hj (by omega), fun j k hj hk => absurd hk (by omega), fun b hb => absurd hb (by omega), rfl⟩
theorem OD_skip {z : bS} {i c : Nat} {x : Int} {f : Nat → Nat} (h : OD z i x f c) (hx : z.2.1.2.1 i ≠ x) : OD z (i + 1) x f c := by
  obtain ⟨h1, h2, h3, h4⟩ := h
  refine ⟨fun j hj => ⟨by have := (h1 j hj).1; omega, (h1 j hj).2⟩, h2, fun b hb e => ?_, ?_⟩
  · by_cases eb : b = i
    · subst eb
      exact absurd e hx
    · exact h3 b (by omega) e
  · rw [cnt_s, if_neg hx]
    omega
def insF (f : Nat → Nat) (p b : Nat) : Nat → Nat := fun j => if j < p then f j else if j = p then b else f (j - 1)
theorem insF_lt {f : Nat → Nat} {p b j : Nat} (h : j < p) : insF f p b j = f j := by unfold insF; rw [if_pos h]
theorem insF_eq {f : Nat → Nat} {p b : Nat} : insF f p b p = b := by unfold insF; rw [if_neg (by omega), if_pos rfl]
theorem insF_gt {f : Nat → Nat} {p b j : Nat} (h : p < j) : insF f p b j = f (j - 1) := by unfold insF; rw [if_neg (by omega), if_neg (by omega)]
theorem OD_ins {z : bS} {i c p : Nat} {x : Int} {f : Nat → Nat} (h : OD z i x f c) (hx : z.2.1.2.1 i = x) (hp : p ≤ c) (h0 : p = 0 ∨ z.1.2.2.2.2.1 (f (p - 1)) ≤ z.1.2.2.2.2.1 i) (h1 : ∀ j, p ≤ j → j < c → z.1.2.2.2.2.1 i < z.1.2.2.2.2.1 (f j)) : OD z (i + 1) x (insF f p i) (c + 1) := by
  obtain ⟨o1, o2, o3, o4⟩ := h
  have lo : ∀ j, j < p → z.1.2.2.2.2.1 (f j) ≤ z.1.2.2.2.2.1 i := by
    intro j hj
    rcases h0 with h0 | h0
    · omega
    · by_cases e : j = p - 1
      · subst e
        exact h0
      · have := o2 j (p - 1) (by omega) (by omega)
        omega
  refine ⟨fun j hj => ?_, fun j k hjk hk => ?_, fun b hb e => ?_, ?_⟩
  · rcases Nat.lt_trichotomy j p with h | h | h
    · rw [insF_lt h]
      have := o1 j (by omega)
      exact ⟨by omega, this.2⟩
    · subst h
      rw [insF_eq]
      exact ⟨by omega, hx⟩
    · rw [insF_gt h]
      have := o1 (j - 1) (by omega)
      exact ⟨by omega, this.2⟩
  · rcases Nat.lt_trichotomy j p with h | h | h
    · rw [insF_lt h]
      rcases Nat.lt_trichotomy k p with g | g | g
      · rw [insF_lt g]
        exact o2 j k hjk (by omega)
      · subst g
        rw [insF_eq]
        have := lo j h
        have := (o1 j (by omega)).1
        omega
      · rw [insF_gt g]
        by_cases e : j = k - 1
        · omega
        · exact o2 j (k - 1) (by omega) (by omega)
    · subst h
      rw [insF_eq, insF_gt hjk]
      have := h1 (k - 1) (by omega) (by omega)
      omega
    · rw [insF_gt h, insF_gt (show p < k by omega)]
      exact o2 (j - 1) (k - 1) (by omega) (by omega)
  · by_cases eb : b = i
    · subst eb
      exact ⟨p, by omega, insF_eq⟩
    · obtain ⟨j, j1, j2⟩ := o3 b (by omega) e
      by_cases ej : j < p
      · exact ⟨j, by omega, by rw [insF_lt ej]; exact j2⟩
      · exact ⟨j + 1, by omega, by rw [insF_gt (by omega)]; exact j2⟩
  · rw [cnt_s, if_pos hx]
    omega
theorem OD_half {z : bS} {n c d : Nat} {x : Int} {f g : Nat → Nat} (h : OD z n x f c) (k : OD z n x g d) : ∀ j, j < c → j < d ∧ f j = g j := by
  obtain ⟨a1, a2, a3, a4⟩ := h
  obtain ⟨b1, b2, b3, b4⟩ := k
  intro j
  induction j using Nat.strongRecOn with
  | _ j ih =>
    intro hj
    have hf := a1 j hj
    obtain ⟨k, k1, k2⟩ := b3 (f j) hf.1 hf.2
    have hk : ¬ k < j := fun hk => by
      have := ih k hk (by omega)
      have := a2 k j hk hj
      have e : f k = f j := by omega
      rw [e] at this
      omega
    have hk2 : ¬ j < k := fun hk2 => by
      have hgj := b1 j (by omega)
      obtain ⟨m, m1, m2⟩ := a3 (g j) hgj.1 hgj.2
      have l1 := b2 j k hk2 k1
      rw [k2] at l1
      rw [← m2] at l1
      by_cases e : m < j
      · have := ih m e (by omega)
        have l2 := b2 m j e (by omega)
        have e3 : g m = g j := by omega
        rw [e3] at l2
        omega
      · by_cases e2 : m = j
        · subst e2
          omega
        · have := a2 j m (by omega) m1
          omega
    have ek : k = j := by omega
    subst ek
    exact ⟨k1, k2.symm⟩
theorem OD_uniq {z : bS} {n c d : Nat} {x : Int} {f g : Nat → Nat} (h : OD z n x f c) (k : OD z n x g d) : c = d ∧ ∀ j, j < c → f j = g j := by
  have := h.2.2.2
  have := k.2.2.2
  exact ⟨by omega, fun j hj => (OD_half h k j hj).2⟩
/-! the class's order -/
def OA (O : bO) (z : bS) (f : Nat → Nat) (c : Nat) : Prop := O.2.2 = (c : Int) ∧ ∀ j, j < c → O.1 j = (f j : Int) ∧ O.2.1 j = z.1.2.2.2.2.1 (f j)
theorem ins_loop {N n b c : Nat} {z : bS} {f : Nat → Nat} (hC : CI z n) (hb : b < n) (hf : ∀ j, j < c → f j < n) (hc : c < n) : ∀ p k (O : bO), p ≤ c → p < k → O.2.2 = (c : Int) → (∀ j, j < p → O.1 j = (f j : Int) ∧ O.2.1 j = z.1.2.2.2.2.1 (f j)) → (∀ j, p < j → j ≤ c → O.1 j = (f (j - 1) : Int) ∧ O.2.1 j = z.1.2.2.2.2.1 (f (j - 1))) → (∀ j, p ≤ j → j < c → z.1.2.2.2.2.1 b < z.1.2.2.2.2.1 (f j)) → ∃ (p' : Nat) (O' : bO), p' ≤ c ∧ f_X3_insert_L5 N k (b : Int) (z.1.2.2.2.2.1 b) (p : Int) O = some O' ∧ OA O' z (insF f p' b) (c + 1) ∧ (p' = 0 ∨ z.1.2.2.2.2.1 (f (p' - 1)) ≤ z.1.2.2.2.2.1 b) ∧ ∀ j, p' ≤ j → j < c → z.1.2.2.2.2.1 b < z.1.2.2.2.2.1 (f j) := by
  have h40 := CI_40 hC
  have hsb := (CI_b hC hb).2.2.2.2
  have stop : ∀ p (O : bO), p ≤ c → O.2.2 = (c : Int) → (∀ j, j < p → O.1 j = (f j : Int) ∧ O.2.1 j = z.1.2.2.2.2.1 (f j)) → (∀ j, p < j → j ≤ c → O.1 j = (f (j - 1) : Int) ∧ O.2.1 j = z.1.2.2.2.2.1 (f (j - 1))) → OA (up O.1 p (b : Int), up O.2.1 p (z.1.2.2.2.2.1 b), O.2.2 + 1) z (insF f p b) (c + 1) := by
    intro p O hp e1 e2 e3
    refine ⟨by show O.2.2 + 1 = ((c + 1 : Nat) : Int); omega, fun j hj => ?_⟩
    dsimp only
    rcases Nat.lt_trichotomy j p with h | h | h
    · rw [up_n _ _ (by omega), up_n _ _ (by omega), insF_lt h]
      exact e2 j h
    · subst h
      rw [up_s, up_s, insF_eq]
      exact ⟨rfl, rfl⟩
    · rw [up_n _ _ (by omega), up_n _ _ (by omega), insF_gt h]
      exact e3 j h (by omega)
  intro p
  induction p with
  | zero =>
    intro k O hp hk e1 e2 e3 e4
    obtain ⟨k, rfl⟩ : ∃ j, k = j + 1 := ⟨k - 1, by omega⟩
    refine ⟨0, _, by omega, ?_, stop 0 O (by omega) e1 e2 e3, Or.inl rfl, e4⟩
    rw [f_X3_insert_L5]
    exact (gd_q (rg_of (by first | omega | (dsimp only; omega))) (it_q1 (by first | omega | (dsimp only; omega)) (gd_q (inb_of (by first | omega | (dsimp only; omega))) (nm_q (nm_q (nm_q (rfl)))))))
  | succ p ih =>
    intro k O hp hk e1 e2 e3 e4
    obtain ⟨k, rfl⟩ : ∃ j, k = j + 1 := ⟨k - 1, by omega⟩
    have hfp := hf p (by omega)
    have hsp := (CI_b hC hfp).2.2.2.2
    have e2p := e2 p (by omega)
    have et : (((p + 1 : Nat) : Int) - 1).toNat = p := by omega
    by_cases e : z.1.2.2.2.2.1 (f p) ≤ z.1.2.2.2.2.1 b
    · refine ⟨p + 1, _, by omega, ?_, stop (p + 1) O hp e1 e2 e3, Or.inr e, e4⟩
      rw [f_X3_insert_L5]
      refine (gd_q (rg_of (by first | omega | (dsimp only; omega))) (it_q2 (by first | omega | (dsimp only; omega)) (gd_q (inb_of (by first | omega | (dsimp only; omega))) (?_))))
      rw [et]
      exact (gd_q (rg_of (by first | omega | (dsimp only; omega))) (gd_q (rg_of (by first | omega | (dsimp only; omega))) (it_q1 (by first | omega | (dsimp only; omega)) (gd_q (inb_of (by first | omega | (dsimp only; omega))) (nm_q (nm_q (nm_q (rfl))))))))
    · obtain ⟨p', O', g1, g2, g3, g4, g5⟩ := ih k (up O.1 (p + 1) (O.1 p), up O.2.1 (p + 1) (O.2.1 p), O.2.2) (by omega) (by omega) e1 (fun j hj => by
        dsimp only
        rw [up_n _ _ (by omega), up_n _ _ (by omega)]
        exact e2 j (by omega)) (fun j h1 h2 => by
        dsimp only
        by_cases ej : j = p + 1
        · subst ej
          rw [up_s, up_s]
          exact e2p
        · rw [up_n _ _ ej, up_n _ _ ej]
          exact e3 j (by omega) h2) (fun j h1 h2 => by
        by_cases ej : j = p
        · subst ej
          omega
        · exact e4 j (by omega) h2)
      refine ⟨p', O', g1, ?_, g3, g4, g5⟩
      rw [f_X3_insert_L5]
      refine (gd_q (rg_of (by first | omega | (dsimp only; omega))) (it_q2 (by first | omega | (dsimp only; omega)) (gd_q (inb_of (by first | omega | (dsimp only; omega))) (?_))))
      rw [et]
      refine (gd_q (rg_of (by first | omega | (dsimp only; omega))) (gd_q (rg_of (by first | omega | (dsimp only; omega))) (it_q2 (by first | omega | (dsimp only; omega)) (gd_q (inb_of (by first | omega | (dsimp only; omega))) (nm_q (nm_q (?_)))))))
      rw [show ((p + 1 : Nat) : Int) + (-1) = (p : Int) by omega]
      exact g2
theorem fill_loop {N n x : Nat} {z : bS} (hN : 50 ≤ N) (hC : CI z n) (hx : x < 12) : ∀ d i, i + d = n → ∀ (k : Nat) (O : bO) (f : Nat → Nat) (c : Nat), d < k → OD z i (x : Int) f c → OA O z f c → ∃ (O' : bO) (f' : Nat → Nat) (c' : Nat), f_X3_fill_L7 N k (x : Int) (i : Int) (O, z) = some (O', z) ∧ OD z n (x : Int) f' c' ∧ OA O' z f' c' := by
  have h40 := CI_40 hC
  have hn := hC.1.1
  intro d
  induction d with
  | zero =>
    intro i hi k O f c hk hD hA
    obtain ⟨k, rfl⟩ : ∃ j, k = j + 1 := ⟨k - 1, by omega⟩
    obtain rfl : i = n := by omega
    refine ⟨O, f, c, ?_, hD, hA⟩
    rw [f_X3_fill_L7]
    by_cases c40 : (40 : Int) ≤ (i : Int)
    · exact (gd_q (rg_of (by first | omega | (dsimp only; omega))) (it_q1 c40 (rfl)))
    · exact (gd_q (rg_of (by first | omega | (dsimp only; omega))) (it_q2 c40 (gd_q (rg_of (by first | omega | (dsimp only; omega))) (it_q1 (by first | omega | (dsimp only; omega)) (rfl)))))
  | succ d ih =>
    intro i hi k O f c hk hD hA
    obtain ⟨k, rfl⟩ : ∃ j, k = j + 1 := ⟨k - 1, by omega⟩
    have hpb := bin_rg hC (show i < n by omega)
    have hc := OD_c hD
    by_cases e : z.2.1.2.1 i = (x : Int)
    · obtain ⟨p', O', g1, g2, g3, g4, g5⟩ := ins_loop (N := N) (b := i) (c := c) hC (by omega) (fun j hj => by have := (hD.1 j hj).1; omega) (by omega) c N O (by omega) (by omega) hA.1 hA.2 (fun j h1 h2 => absurd h1 (by omega)) (fun j h1 h2 => absurd h1 (by omega))
      obtain ⟨O2, f2, c2, u1, u2, u3⟩ := ih (i + 1) (by omega) k O' _ _ (by omega) (OD_ins hD e g1 g4 g5) g3
      refine ⟨O2, f2, c2, ?_, u2, u3⟩
      rw [f_X3_fill_L7]
      refine (gd_q (rg_of (by first | omega | (dsimp only; omega))) (it_q2 (by first | omega | (dsimp only; omega)) (gd_q (rg_of (by first | omega | (dsimp only; omega))) (it_q2 (by first | omega | (dsimp only; omega)) (gd_q (inb_of (by first | omega | (dsimp only; omega))) (gd_q (by rw [tn]; exact (rg_of (by first | omega | (dsimp only; omega)))) (gd_q (rg_of (by first | omega | (dsimp only; omega))) (it_q1 e (bd_q (a := O') ?_ (nm_q (u1)))))))))))
      unfold f_X3_insert
      dsimp only [tn]
      rw [hA.1]
      exact g2
    · obtain ⟨O2, f2, c2, u1, u2, u3⟩ := ih (i + 1) (by omega) k O f c (by omega) (OD_skip hD e) hA
      refine ⟨O2, f2, c2, ?_, u2, u3⟩
      rw [f_X3_fill_L7]
      exact (gd_q (rg_of (by first | omega | (dsimp only; omega))) (it_q2 (by first | omega | (dsimp only; omega)) (gd_q (rg_of (by first | omega | (dsimp only; omega))) (it_q2 (by first | omega | (dsimp only; omega)) (gd_q (inb_of (by first | omega | (dsimp only; omega))) (gd_q (by rw [tn]; exact (rg_of (by first | omega | (dsimp only; omega)))) (gd_q (rg_of (by first | omega | (dsimp only; omega))) (it_q2 e (u1)))))))))
theorem fill_eq {N n x : Nat} {z : bS} {O : bO} {xx : Int} (hN : 50 ≤ N) (hC : CI z n) (hx : x < 12) (e : xx = (x : Int)) : ∃ (O' : bO) (f : Nat → Nat) (c : Nat), f_X3_fill N xx (O, z) = some (O', z) ∧ OD z n (x : Int) f c ∧ OA O' z f c := by
  subst e
  have h40 := CI_40 hC
  obtain ⟨O', f, c, g1, g2, g3⟩ := fill_loop (N := N) hN hC hx n 0 (by omega) N (O.1, O.2.1, 0) (fun _ => 0) 0 (by omega) OD_0 ⟨rfl, fun j hj => absurd hj (by omega)⟩
  exact ⟨O', f, c, nm_q g1, g2, g3⟩
theorem numAt_0 {O : bO} {c : Nat} {v : Int} (hc : O.2.2 = (c : Int)) (h40 : c ≤ 40) (hv : rg v = true) (h : (c : Int) ≤ v) : f_X3_numberAt v O = some (-5, O) := by
  unfold f_X3_numberAt
  exact (gd_q hv (it_q2 (by first | omega | (dsimp only; omega)) (gd_q (rg_of (by first | omega | (dsimp only; omega))) (it_q1 (by first | omega | (dsimp only; omega)) (rfl)))))
theorem numAt_1 {O : bO} {c j : Nat} {v : Int} (hc : O.2.2 = (c : Int)) (h40 : c ≤ 40) (hj : j < c) (e : v = (j : Int)) : f_X3_numberAt v O = some (O.1 j, O) := by
  subst e
  unfold f_X3_numberAt
  exact (gd_q (rg_of (by first | omega | (dsimp only; omega))) (it_q2 (by first | omega | (dsimp only; omega)) (gd_q (rg_of (by first | omega | (dsimp only; omega))) (it_q2 (by first | omega | (dsimp only; omega)) (gd_q (inb_of (by first | omega | (dsimp only; omega))) (rfl))))))
/-! the model's order -/
abbrev bl : Type := (Nat → Int) × Int × Int × Int × (Nat → Int)
theorem mins_loop {N n b c : Nat} {z : bS} {r : Nat → Int} {f : Nat → Nat} {kt : Int → Int → Int → bM → Option bM} {x : Int} {hi sn as : Nat → Int} {st ik lm : Int} {t : bl} (hC : CI z n) (hR : R1 z r n) (hb : b < n) (hf : ∀ j, j < c → f j < n) (hc : c < n) : ∀ p k (li : Nat → Int), p ≤ c → p < k → (∀ j, j < p → li j = (f j : Int)) → (∀ j, p < j → j ≤ c → li j = (f (j - 1) : Int)) → (∀ j, p ≤ j → j < c → z.1.2.2.2.2.1 b < z.1.2.2.2.2.1 (f j)) → ∃ (p' : Nat) (li' : Nat → Int), p' ≤ c ∧ f_X8_order_L32 N kt k x (b : Int) (p : Int) (r, hi, st, sn, ik, as, li, lm, t) = kt x (b : Int) (p' : Int) (r, hi, st, sn, ik, as, li', lm, t) ∧ (∀ j, j < p' → li' j = (f j : Int)) ∧ (∀ j, p' < j → j ≤ c → li' j = (f (j - 1) : Int)) ∧ (p' = 0 ∨ z.1.2.2.2.2.1 (f (p' - 1)) ≤ z.1.2.2.2.2.1 b) ∧ ∀ j, p' ≤ j → j < c → z.1.2.2.2.2.1 b < z.1.2.2.2.2.1 (f j) := by
  have h40 := CI_40 hC
  have hsb := (CI_b hC hb).2.2.2.2
  have fb : r (55 + 9 * b + 4) = z.1.2.2.2.2.1 b := R1_f hR hb (by omega)
  intro p
  induction p with
  | zero =>
    intro k li hp hk e2 e3 e4
    obtain ⟨k, rfl⟩ : ∃ j, k = j + 1 := ⟨k - 1, by omega⟩
    refine ⟨0, li, by omega, ?_, e2, e3, Or.inl rfl, e4⟩
    rw [f_X8_order_L32]
    exact (gd_q (rg_of (by first | omega | (dsimp only; omega))) (it_q1 (by first | omega | (dsimp only; omega)) (rfl)))
  | succ p ih =>
    intro k li hp hk e2 e3 e4
    obtain ⟨k, rfl⟩ : ∃ j, k = j + 1 := ⟨k - 1, by omega⟩
    have hfp := hf p (by omega)
    have hsp := (CI_b hC hfp).2.2.2.2
    have e2p := e2 p (by omega)
    have ff : r (55 + 9 * f p + 4) = z.1.2.2.2.2.1 (f p) := R1_f hR hfp (by omega)
    have et : (((p + 1 : Nat) : Int) - 1).toNat = p := by omega
    by_cases e : z.1.2.2.2.2.1 (f p) ≤ z.1.2.2.2.2.1 b
    · refine ⟨p + 1, li, by omega, ?_, e2, e3, Or.inr e, e4⟩
      rw [f_X8_order_L32]
      refine (gd_q (rg_of (by first | omega | (dsimp only; omega))) (it_q2 (by first | omega | (dsimp only; omega)) (gd_q (inb_of (by first | omega | (dsimp only; omega))) (?_))))
      dsimp only
      rw [et]
      exact (bd_q (of_eq (b := f p) (k := 4) (by omega) (by omega) e2p rfl) (bd_q (of_eq (b := b) (k := 4) (by omega) (by omega) rfl rfl) (gd_q (rg_of (by first | omega | (dsimp only; omega))) (gd_q (rg_of (by first | omega | (dsimp only; omega))) (it_q1 (by first | omega | (dsimp only; omega)) (rfl))))))
    · obtain ⟨p', li', g1, g2, g3, g4, g5, g6⟩ := ih k (up li (p + 1) (li p)) (by omega) (by omega) (fun j hj => by
        rw [up_n _ _ (by omega)]
        exact e2 j (by omega)) (fun j h1 h2 => by
        by_cases ej : j = p + 1
        · subst ej
          rw [up_s]
          exact e2p
        · rw [up_n _ _ ej]
          exact e3 j (by omega) h2) (fun j h1 h2 => by
        by_cases ej : j = p
        · subst ej
          omega
        · exact e4 j (by omega) h2)
      refine ⟨p', li', g1, ?_, g3, g4, g5, g6⟩
      rw [f_X8_order_L32]
      refine (gd_q (rg_of (by first | omega | (dsimp only; omega))) (it_q2 (by first | omega | (dsimp only; omega)) (gd_q (inb_of (by first | omega | (dsimp only; omega))) (?_))))
      dsimp only
      rw [et]
      refine (bd_q (of_eq (b := f p) (k := 4) (by omega) (by omega) e2p rfl) (bd_q (of_eq (b := b) (k := 4) (by omega) (by omega) rfl rfl) (gd_q (rg_of (by first | omega | (dsimp only; omega))) (gd_q (rg_of (by first | omega | (dsimp only; omega))) (it_q2 (by first | omega | (dsimp only; omega)) (gd_q (inb_of (by first | omega | (dsimp only; omega))) (nm_q (?_))))))))
      dsimp only
      rw [show ((p + 1 : Nat) : Int) + (-1) = (p : Int) by omega]
      exact g2
theorem order_loop {N n x : Nat} {z : bS} {r : Nat → Int} {hi sn as : Nat → Int} {st ik : Int} {t : bl} (hN : 50 ≤ N) (hC : CI z n) (hR : R1 z r n) (hx : x < 12) : ∀ d i, i + d = n → ∀ (k : Nat) (li : Nat → Int) (f : Nat → Nat) (c : Nat), d < k → OD z i (x : Int) f c → (∀ j, j < c → li j = (f j : Int)) → ∃ (li' : Nat → Int) (f' : Nat → Nat) (c' : Nat), f_X8_order_L7 N k (x : Int) (i : Int) (r, hi, st, sn, ik, as, li, (c : Int), t) = some (r, hi, st, sn, ik, as, li', (c' : Int), t) ∧ OD z n (x : Int) f' c' ∧ ∀ j, j < c' → li' j = (f' j : Int) := by
  have h40 := CI_40 hC
  have h13 := R1_n hR
  intro d
  induction d with
  | zero =>
    intro i hi k li f c hk hD hA
    obtain ⟨k, rfl⟩ : ∃ j, k = j + 1 := ⟨k - 1, by omega⟩
    obtain rfl : i = n := by omega
    refine ⟨li, f, c, ?_, hD, hA⟩
    rw [f_X8_order_L7]
    exact (gd_q (rg_of (by first | omega | (dsimp only; omega))) (gd_q (rg_of (by first | omega | (dsimp only; omega))) (it_q1 (by first | omega | (dsimp only; omega)) (rfl))))
  | succ d ih =>
    intro i hi' k li f c hk hD hA
    obtain ⟨k, rfl⟩ : ∃ j, k = j + 1 := ⟨k - 1, by omega⟩
    have hpb := bin_rg hC (show i < n by omega)
    have hc := OD_c hD
    have hin := isInR (m := (hi, st, sn, ik, as, li, (c : Int), t)) (bb := (i : Int)) (x := (x : Int)) hC hR (show i < n by omega) rfl (by omega)
    by_cases e : z.2.1.2.1 i = (x : Int)
    · rw [if_pos e] at hin
      obtain ⟨p', li1, g1, g2, g3, g4, g5, g6⟩ := mins_loop (N := N) (kt := fun v30 v31 v32 s33 => gd (inb v32 40) <| nm (s33.1, s33.2.1, s33.2.2.1, s33.2.2.2.1, s33.2.2.2.2.1, s33.2.2.2.2.2.1, up s33.2.2.2.2.2.2.1 v32.toNat v31, s33.2.2.2.2.2.2.2) fun s35 => nm (s35.1, s35.2.1, s35.2.2.1, s35.2.2.2.1, s35.2.2.2.2.1, s35.2.2.2.2.2.1, s35.2.2.2.2.2.2.1, s35.2.2.2.2.2.2.2.1 + 1, s35.2.2.2.2.2.2.2.2) fun s37 => f_X8_order_L7 N k v30 (v31 + 1) s37) (x := (x : Int)) (hi := hi) (sn := sn) (as := as) (st := st) (ik := ik) (lm := (c : Int)) (t := t) (b := i) (c := c) hC hR (by omega) (fun j hj => by have := (hD.1 j hj).1; omega) (by omega) c N li (by omega) (by omega) hA (fun j h1 h2 => absurd h1 (by omega)) (fun j h1 h2 => absurd h1 (by omega))
      obtain ⟨li2, f2, c2, u1, u2, u3⟩ := ih (i + 1) (by omega) k (up li1 p' (i : Int)) _ _ (by omega) (OD_ins hD e g1 g5 g6) (fun j hj => by
        rcases Nat.lt_trichotomy j p' with h | h | h
        · rw [up_n _ _ (by omega), insF_lt h]
          exact g3 j h
        · subst h
          rw [up_s, insF_eq]
        · rw [up_n _ _ (by omega), insF_gt h]
          exact g4 j h (by omega))
      refine ⟨li2, f2, c2, ?_, u2, u3⟩
      rw [f_X8_order_L7]
      refine (gd_q (rg_of (by first | omega | (dsimp only; omega))) (gd_q (rg_of (by first | omega | (dsimp only; omega))) (it_q2 (by first | omega | (dsimp only; omega)) (bd_q hin (gd_q (rg_of (by first | omega | (dsimp only; omega))) (it_q2 (by first | omega | (dsimp only; omega)) (?_)))))))
      refine Eq.trans g2 ?_
      exact (gd_q (inb_of (by first | omega | (dsimp only; omega))) (nm_q (nm_q (u1))))
    · rw [if_neg e] at hin
      obtain ⟨li2, f2, c2, u1, u2, u3⟩ := ih (i + 1) (by omega) k li f c (by omega) (OD_skip hD e) hA
      refine ⟨li2, f2, c2, ?_, u2, u3⟩
      rw [f_X8_order_L7]
      exact (gd_q (rg_of (by first | omega | (dsimp only; omega))) (gd_q (rg_of (by first | omega | (dsimp only; omega))) (it_q2 (by first | omega | (dsimp only; omega)) (bd_q hin (gd_q (rg_of (by first | omega | (dsimp only; omega))) (it_q1 (by first | omega | (dsimp only; omega)) (u1)))))))
theorem order_eq {N n x : Nat} {z : bS} {r : Nat → Int} {hi sn as li : Nat → Int} {st ik lm : Int} {t : bl} {xx : Int} {f : Nat → Nat} {c : Nat} (hN : 50 ≤ N) (hC : CI z n) (hR : R1 z r n) (hx : x < 12) (e : xx = (x : Int)) (hD : OD z n (x : Int) f c) : ∃ (li' : Nat → Int), f_X8_order N xx (r, hi, st, sn, ik, as, li, lm, t) = some (r, hi, st, sn, ik, as, li', (c : Int), t) ∧ ∀ j, j < c → li' j = (f j : Int) := by
  subst e
  have h40 := CI_40 hC
  obtain ⟨li', f', c', g1, g2, g3⟩ := order_loop (N := N) (hi := hi) (sn := sn) (as := as) (st := st) (ik := ik) (t := t) hN hC hR hx n 0 (by omega) N li (fun _ => 0) 0 (by omega) OD_0 (fun j hj => absurd hj (by omega))
  obtain ⟨w1, w2⟩ := OD_uniq hD g2
  subst w1
  exact ⟨li', nm_q g1, fun j hj => by rw [w2 j hj]; exact g3 j hj⟩
