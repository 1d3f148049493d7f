/-! p24: one button sorted, in class and law -/
def GB (z : bS) (g m p w nn : Nat → Int) (n : Nat) : Prop := GN z nn n ∧ GG z g n ∧ GM z m n ∧ GP z p n ∧ GW z w
/-- letting go, the class alone -/
theorem magC_loop (N : Nat) (n : Nat) : ∀ d i, i + d = n → ∀ (z : bS) (k : Nat), CI z n → (∀ b, b < i → z.2.1.1 b ≠ 2) → d < k → ∃ (p' : bP), f_X5_emptyMagnet_L2 N k (i : Int) z = some (z.1, p', z.2.2) ∧ CI (z.1, p', z.2.2) n ∧ (∀ b, b < n → p'.1 b = (if z.2.1.1 b = 2 then 3 else z.2.1.1 b)) ∧ (∀ b, b < n → p'.2.1 b = z.2.1.2.1 b) ∧ (∀ b, b < n → p'.2.2.1 b = z.2.1.2.2.1 b) ∧ p'.2.2.2.1 = z.2.1.2.2.2.1 ∧ p'.2.2.2.2.1 0 = z.2.1.2.2.2.2.1 0 := by
  intro d
  induction d with
  | zero =>
    intro i hi z k hC hb hk
    obtain ⟨k, rfl⟩ : ∃ j, k = j + 1 := ⟨k - 1, by omega⟩
    obtain rfl : i = n := by omega
    have hn := hC.1.1
    have hn40 := hC.1.2.1
    refine ⟨z.2.1, ?_, hC, fun b hb' => by rw [if_neg (hb b hb')], fun _ _ => rfl, fun _ _ => rfl, rfl, rfl⟩
    rw [f_X5_emptyMagnet_L2]
    exact (gd_q (rg_of (by first | omega | (dsimp only; omega))) (gd_q (rg_of (by first | omega | (dsimp only; omega))) (it_q1 (by first | omega | (dsimp only; omega)) (rfl))))
  | succ d ih =>
    intro i hi z k hC hb hk
    obtain ⟨k, rfl⟩ : ∃ j, k = j + 1 := ⟨k - 1, by omega⟩
    have hn := hC.1.1
    have hn40 := hC.1.2.1
    have hpb := CI_p hC (show i < n by omega)
    unfold PB at hpb
    by_cases e : z.2.1.1 i = 2
    · have hL := leave_LI hC.2.2 (show i < n by omega) (by omega)
      have hP' := bring_PI (q := 3) hL (by omega) (by omega) (by omega) (by omega)
      have hbr : ∀ b, up z.2.1.1 i 3 b = if b = i then 3 else z.2.1.1 b := fun b => rfl
      obtain ⟨p', g1, g2, g3, g4, g5, g6, g7⟩ := ih (i + 1) (by omega) (z.1, bringS i 3 (leaveS i z.2.1), z.2.2) k ⟨hC.1, hC.2.1, hP'⟩ (fun b hb' => by
        show up z.2.1.1 i 3 b ≠ 2
        rw [hbr]
        split
        · omega
        · exact hb b (by omega)) (by omega)
      refine ⟨p', ?_, g2, fun b hb' => ?_, fun b hb' => ?_, fun b hb' => ?_, g6, ?_⟩
      · rw [f_X5_emptyMagnet_L2]
        refine (gd_q (rg_of (by first | omega | (dsimp only; omega))) (gd_q (rg_of (by first | omega | (dsimp only; omega))) (it_q2 (by first | omega | (dsimp only; omega)) (gd_q (inb_of (by first | omega | (dsimp only; omega))) (gd_q (by rw [tn]; exact (rg_of (by first | omega | (dsimp only; omega)))) (it_q1 (by rw [tn]; exact e) (bd_q (leave_eq (b := i) (by omega) rfl (by omega) (by omega)) (nm_q (?_)))))))))
        dsimp only
        exact (bd_q (bring_eq (b := i) (by omega) rfl (by omega)) (nm_q (g1)))
      · rw [g3 b hb']
        show (if up z.2.1.1 i 3 b = 2 then (3 : Int) else up z.2.1.1 i 3 b) = _
        rw [hbr]
        by_cases eb : b = i
        · subst eb
          rw [if_pos rfl, if_pos e]
          rfl
        · rw [if_neg eb]
      · rw [g4 b hb']
        show up z.2.1.2.1 i (-5) b = _
        exact st_same (hpb.2.2.2.1 (by omega)) b
      · rw [g5 b hb']
        show up z.2.1.2.2.1 i (-5) b = _
        exact st_same (hpb.2.2.2.2 (by omega)) b
      · rw [g7]
        show up (leaveS i z.2.1).2.2.2.2.1 3 ((leaveS i z.2.1).2.2.2.2.1 3 + 1) 0 = _
        rw [up_n _ _ (by omega)]
        exact leave_at0 (by omega)
    · obtain ⟨p', g1, g2, g3⟩ := ih (i + 1) (by omega) z k hC (fun b hb' => by
        by_cases eb : b = i
        · subst eb
          exact e
        · exact hb b (by omega)) (by omega)
      refine ⟨p', ?_, g2, g3⟩
      rw [f_X5_emptyMagnet_L2]
      exact (gd_q (rg_of (by first | omega | (dsimp only; omega))) (gd_q (rg_of (by first | omega | (dsimp only; omega))) (it_q2 (by first | omega | (dsimp only; omega)) (gd_q (inb_of (by first | omega | (dsimp only; omega))) (gd_q (by rw [tn]; exact (rg_of (by first | omega | (dsimp only; omega)))) (it_q2 (by rw [tn]; exact e) (g1)))))))
theorem magC {N n : Nat} {z : bS} (hN : 50 ≤ N) (hC : CI z n) : ∃ (p' : bP), f_X5_emptyMagnet N z = some (z.1, p', z.2.2) ∧ CI (z.1, p', z.2.2) n ∧ (∀ b, b < n → p'.1 b = (if z.2.1.1 b = 2 then 3 else z.2.1.1 b)) ∧ (∀ b, b < n → p'.2.1 b = z.2.1.2.1 b) ∧ (∀ b, b < n → p'.2.2.1 b = z.2.1.2.2.1 b) ∧ p'.2.2.2.1 = z.2.1.2.2.2.1 ∧ p'.2.2.2.2.1 0 = z.2.1.2.2.2.2.1 0 := by
  have hn40 := hC.1.2.1
  exact magC_loop N n n 0 (by omega) z N hC (fun b hb => absurd hb (by omega)) (by omega)
/-- the law's row, when all on the magnet go to the iron box -/
def mgP (p p' : Nat → Int) (n : Nat) : Prop := (∀ b, b < n → p' (3 * b) = (if p (3 * b) = 2 then 3 else p (3 * b))) ∧ ∀ b k, b < n → 0 < k → k < 3 → p' (3 * b + k) = p (3 * b + k)
theorem mgP_GP {z : bS} {p p' : Nat → Int} {q : bP} {n : Nat} (h : mgP p p' n) (hP : GP z p n) (h1 : ∀ b, b < n → q.1 b = (if z.2.1.1 b = 2 then 3 else z.2.1.1 b)) (h2 : ∀ b, b < n → q.2.1 b = z.2.1.2.1 b) (h3 : ∀ b, b < n → q.2.2.1 b = z.2.1.2.2.1 b) : GP (z.1, q, z.2.2) p' n := by
  intro b hb
  obtain ⟨e1, e2, e3⟩ := hP b hb
  refine ⟨?_, ?_, ?_⟩
  · show p' (3 * b) = q.1 b
    rw [h.1 b hb, h1 b hb, e1]
  · show p' (3 * b + 1) = q.2.1 b
    rw [h.2 b 1 hb (by omega) (by omega), h2 b hb, e2]
  · show p' (3 * b + 2) = q.2.2.1 b
    rw [h.2 b 2 hb (by omega) (by omega), h3 b hb, e3]
theorem mgL_loop {N n : Nat} {g m w nn : Nat → Int} {v : Int} (hnn : nn 13 = (n : Int)) (hn20 : n ≤ 20) (p0 : Nat → Int) (hp : ∀ b, b < n → rg (p0 (3 * b)) = true) : ∀ d i k (p : Nat → Int), i + d = n → d < k → (∀ b, b < i → p (3 * b) = (if p0 (3 * b) = 2 then 3 else p0 (3 * b))) → (∀ b, i ≤ b → p (3 * b) = p0 (3 * b)) → (∀ b k, 0 < k → k < 3 → p (3 * b + k) = p0 (3 * b + k)) → ∃ p', (∀ kt : Int → Int → Int → Int → bLgmpwn → Option bLgmpwn, f_L_sorts_L113 N kt k v 2 1 (i : Int) (g, m, p, w, nn) = kt v 2 1 (n : Int) (g, m, p', w, nn)) ∧ mgP p0 p' n := by
  intro d
  induction d with
  | zero =>
    intro i k p hi hk h1 h2 h3
    obtain ⟨k, rfl⟩ : ∃ j, k = j + 1 := ⟨k - 1, by omega⟩
    obtain rfl : i = n := by omega
    refine ⟨p, fun kt => ?_, h1, fun b k _ h4 h5 => h3 b k h4 h5⟩
    rw [f_L_sorts_L113]
    exact (gd_q (rg_of (by first | omega | (dsimp only; omega))) (gd_q (rg_of (by first | omega | (dsimp only; omega))) (it_q1 (by first | omega | (dsimp only; omega)) (rfl))))
  | succ d ih =>
    intro i k p hi hk h1 h2 h3
    obtain ⟨k, rfl⟩ : ∃ j, k = j + 1 := ⟨k - 1, by omega⟩
    have hpi := h2 i (Nat.le_refl _)
    have hri := hp i (by omega)
    obtain ⟨p', g1, g2⟩ := ih (i + 1) k (up p (3 * i) (if p0 (3 * i) = 2 then 3 else p0 (3 * i))) (by omega) (by omega) (fun b hb => by
      rw [up30]
      split
      · rename_i e; rw [e]
      · exact h1 b (by omega)) (fun b hb => by
      rw [up30, if_neg (by omega)]
      exact h2 b (by omega)) (fun b k h4 h5 => by
      rw [up_n _ _ (by omega)]
      exact h3 b k h4 h5)
    refine ⟨p', fun kt => ?_, g2⟩
    have g1 := g1 kt
    rw [f_L_sorts_L113]
    refine (gd_q (rg_of (by first | omega | (dsimp only; omega))) (gd_q (rg_of (by first | omega | (dsimp only; omega))) (it_q2 (by first | omega | (dsimp only; omega)) (gd_q (rg_of (by first | omega | (dsimp only; omega))) (it_q1 (by first | omega | (dsimp only; omega)) (gd_q (rg_of (by first | omega | (dsimp only; omega))) (it_q2 (by first | omega | (dsimp only; omega)) (gd_q (inb_of (by first | omega | (dsimp only; omega))) (?_)))))))))
    dsimp only
    simp only [t3]
    rw [hpi]
    refine (gd_q hri (jn2_q (?_)))
    by_cases e : p0 (3 * i) = 2
    · rw [if_pos e] at g1
      exact (it_q1 e (nm_q (g1)))
    · rw [if_neg e] at g1
      exact (it_q2 e (nm_q (g1)))
/-- the first leaves the law's row -/
theorem shL_loop {N W : Nat} {g m p nn w0 : Nat → Int} {v : Int} (hnn : nn 14 = (W : Int)) (hW : W < 20) : ∀ d i k (w : Nat → Int), i + d = W → d < k → (∀ j, j < i → w j = w0 (j + 1)) → (∀ j, i ≤ j → w j = w0 j) → ∃ w', (∀ kt : Int → Int → bLgmpwn → Option bLgmpwn, f_L_sorts_L17 N kt k v (i : Int) (g, m, p, w, nn) = kt v (W : Int) (g, m, p, w', nn)) ∧ ∀ j, j < W → w' j = w0 (j + 1) := by
  intro d
  induction d with
  | zero =>
    intro i k w hi hk h1 h2
    obtain ⟨k, rfl⟩ : ∃ j, k = j + 1 := ⟨k - 1, by omega⟩
    obtain rfl : i = W := by omega
    refine ⟨w, fun kt => ?_, h1⟩
    rw [f_L_sorts_L17]
    exact (gd_q (rg_of (by first | omega | (dsimp only; omega))) (gd_q (rg_of (by first | omega | (dsimp only; omega))) (it_q1 (by first | omega | (dsimp only; omega)) (rfl))))
  | succ d ih =>
    intro i k w hi hk h1 h2
    obtain ⟨k, rfl⟩ : ∃ j, k = j + 1 := ⟨k - 1, by omega⟩
    obtain ⟨w', g1, g2⟩ := ih (i + 1) k (up w i (w (i + 1))) (by omega) (by omega) (fun j hj => by
      by_cases e : j = i
      · subst e
        rw [up_s]
        exact h2 _ (by omega)
      · rw [up_n _ _ e]
        exact h1 j (by omega)) (fun j hj => by
      rw [up_n _ _ (by omega)]
      exact h2 j (by omega))
    refine ⟨w', fun kt => ?_, g2⟩
    have g1 := g1 kt
    rw [f_L_sorts_L17]
    refine (gd_q (rg_of (by first | omega | (dsimp only; omega))) (gd_q (rg_of (by first | omega | (dsimp only; omega))) (it_q2 (by first | omega | (dsimp only; omega)) (gd_q (inb_of (by first | omega | (dsimp only; omega))) (gd_q (inb_of (by first | omega | (dsimp only; omega))) (nm_q (?_)))))))
    dsimp only
    rw [show ((i : Int) + 1).toNat = i + 1 by omega, tn]
    exact g1
theorem tak_G {z : bS} {g m p w w1 nn : Nat → Int} {n b0 W : Nat} (h : GB z g m p w nn n) (hn20 : n ≤ 20) (hb : b0 < n) (hw : z.2.1.2.2.2.2.1 0 = ((W + 1 : Nat) : Int)) (hW : W < 20) (hw1 : ∀ j, j < W → w1 j = w (j + 1)) : GB (takS b0 W z) g (up m (3 * b0 + 2) (m (3 * b0 + 2) + 1)) p w1 (up (up nn 14 (nn 14 - 1)) 10 (up nn 14 (nn 14 - 1) 10 + 1)) n := by
  obtain ⟨⟨n1, ⟨n2, n3, n4, n5, n6⟩, n7, n8⟩, hG, hM, hP, hWw⟩ := h
  refine ⟨⟨fun k hk => ?_, ⟨?_, ?_, ?_, ?_, ?_⟩, ?_, ?_⟩, hG, fun b hb' => ?_, hP, fun k hk => ?_⟩
  · rw [up_n _ _ (by omega), up_n _ _ (by omega)]
    exact n1 k hk
  · rw [up_n _ _ (by omega), up_n _ _ (by omega)]
    exact n2
  · rw [up_n _ _ (by omega), up_n _ _ (by omega)]
    exact n3
  · rw [up_s, up_n _ _ (by omega), n4]
    rfl
  · rw [up_n _ _ (by omega), up_n _ _ (by omega)]
    exact n5
  · rw [up_n _ _ (by omega), up_n _ _ (by omega)]
    exact n6
  · rw [up_n _ _ (by omega), up_n _ _ (by omega)]
    exact n7
  · rw [up_n _ _ (by omega), up_s, n8, hw]
    show _ = up z.2.1.2.2.2.2.1 0 (W : Int) 0
    rw [up_s]
    omega
  · obtain ⟨e1, e2, e3⟩ := hM b hb'
    refine ⟨?_, ?_, ?_⟩
    · rw [up_n _ _ (by omega)]
      exact e1
    · rw [up_n _ _ (by omega)]
      exact e2
    · rw [up3 _ _ (by omega) (by omega), e3, (hM b0 hb).2.2]
      show _ = up z.1.2.2.2.2.2.1 b0 (z.1.2.2.2.2.2.1 b0 + 1) b
      simp only [up, and_true]
  · have hk' : (k : Int) < up z.2.1.2.2.2.2.1 0 (W : Int) 0 := hk
    rw [up_s] at hk'
    show w1 k = va_cpy z.2.1.2.2.2.1 z.2.1.2.2.2.1 1 0 39 k
    rw [va_cpy, if_pos (by omega), show 1 + (k - 0) = k + 1 by omega, hw1 k (by omega)]
    exact hWw (k + 1) (by omega)
theorem bring_G {z : bS} {g m p w nn : Nat → Int} {n b0 : Nat} {q : Int} (h : GB z g m p w nn n) (hq : q.toNat ≠ 0) (hb : b0 < n) (hst : z.2.1.2.2.1 b0 = -5) (hbi : z.2.1.2.1 b0 = -5) : GB (z.1, bringS b0 q z.2.1, z.2.2) g m (up p (3 * b0) q) w nn n := by
  obtain ⟨⟨n1, n2, n7, n8⟩, hG, hM, hP, hW⟩ := h
  have hat : (bringS b0 q z.2.1).2.2.2.2.1 0 = z.2.1.2.2.2.2.1 0 := by
    show up z.2.1.2.2.2.2.1 q.toNat (z.2.1.2.2.2.2.1 q.toNat + 1) 0 = _
    rw [up_n _ _ (by omega)]
  refine ⟨⟨n1, n2, n7, by rw [hat]; exact n8⟩, hG, hM, fun b hb' => ?_, fun k hk => ?_⟩
  · obtain ⟨e1, e2, e3⟩ := hP b hb'
    refine ⟨?_, ?_, ?_⟩
    · rw [up30, e1]
      rfl
    · rw [up_n _ _ (by omega), e2]
      exact (st_same hbi b).symm
    · rw [up_n _ _ (by omega), e3]
      exact (st_same hst b).symm
  · dsimp only at hk
    rw [hat] at hk
    exact hW k hk
theorem rub_G {z : bS} {g m p w nn : Nat → Int} {n b : Nat} (h : GB z g m p w nn n) (hb : b < n) (hc : z.1.2.2.2.1 b ≤ 9) : GB (rubS b z) g (if z.1.2.1 b = z.2.2.1 (mcl z.2.2.1 (z.1.2.1 b)) then up m (3 * b) (m (3 * b) + (if m (3 * b) = 9 then 0 else 1)) else m) p w (if z.1.2.1 b = z.2.2.1 (mcl z.2.2.1 (z.1.2.1 b)) then up nn 12 (nn 12 + 1) else nn) n := by
  unfold rubS
  by_cases e : z.1.2.1 b = z.2.2.1 (mcl z.2.2.1 (z.1.2.1 b))
  · rw [if_pos e, if_pos e, if_pos e]
    obtain ⟨⟨n1, ⟨n2, n3, n4, n5, n6⟩, n7, n8⟩, hG, hM, hP, hW⟩ := h
    refine ⟨⟨fun k hk => ?_, ⟨?_, ?_, ?_, ?_, ?_⟩, ?_, ?_⟩, hG, fun b' hb' => ?_, hP, hW⟩
    · rw [up_n _ _ (by omega)]
      exact n1 k hk
    · rw [up_n _ _ (by omega)]
      exact n2
    · rw [up_n _ _ (by omega)]
      exact n3
    · rw [up_n _ _ (by omega)]
      exact n4
    · rw [up_n _ _ (by omega)]
      exact n5
    · rw [up_s, n6]
    · rw [up_n _ _ (by omega)]
      exact n7
    · rw [up_n _ _ (by omega)]
      exact n8
    · obtain ⟨e1, e2, e3⟩ := hM b' hb'
      refine ⟨?_, ?_, ?_⟩
      · show _ = up z.1.2.2.2.1 b (if 9 ≤ z.1.2.2.2.1 b then 9 else z.1.2.2.2.1 b + 1) b'
        rw [up30, (hM b hb).1, e1]
        by_cases eb : b' = b
        · subst eb
          rw [if_pos rfl, up_s]
          by_cases e9 : z.1.2.2.2.1 b' = 9
          · rw [if_pos e9, if_pos (by omega)]
            omega
          · rw [if_neg e9, if_neg (by omega)]
        · rw [if_neg eb, up_n _ _ eb]
      · rw [up_n _ _ (by omega)]
        exact e2
      · rw [up_n _ _ (by omega)]
        exact e3
  · rw [if_neg e, if_neg e, if_neg e]
    exact h
theorem bin_G {z : bS} {g m p w nn : Nat → Int} {n b0 : Nat} {v : Int} {ib : Nat → Int} (h : GB z g m p w nn n) (hst : z.2.1.2.2.1 b0 = -5) : GB (z.1, (up z.2.1.1 b0 5, up z.2.1.2.1 b0 v, up z.2.1.2.2.1 b0 (-5), z.2.1.2.2.2.1, up z.2.1.2.2.2.2.1 5 (z.2.1.2.2.2.2.1 5 + 1), ib), z.2.2) g m (up (up p (3 * b0) 5) (3 * b0 + 1) v) w nn n := by
  obtain ⟨⟨n1, n2, n7, n8⟩, hG, hM, hP, hW⟩ := h
  have hat : up z.2.1.2.2.2.2.1 5 (z.2.1.2.2.2.2.1 5 + 1) 0 = z.2.1.2.2.2.2.1 0 := up_n _ _ (by omega)
  refine ⟨⟨n1, n2, n7, n8.trans hat.symm⟩, hG, hM, fun b hb' => ?_, fun k hk => hW k (by rw [← hat]; exact hk)⟩
  obtain ⟨e1, e2, e3⟩ := hP b hb'
  refine ⟨?_, ?_, ?_⟩
  · rw [up_n _ _ (by omega), up30, e1]
    rfl
  · rw [up3 _ _ (by omega) (by omega), up_n _ _ (by omega), e2]
    show _ = up z.2.1.2.1 b0 v b
    simp only [up, and_true]
  · rw [up_n _ _ (by omega), up_n _ _ (by omega), e3]
    exact (st_same hst b).symm
theorem hop_G {z : bS} {g m p w nn : Nat → Int} {n b0 W : Nat} (h : GB z g m p w nn n) (hw : z.2.1.2.2.2.2.1 0 = (W : Int)) (hst : z.2.1.2.2.1 b0 = -5) : GB (z.1, bringS b0 0 (z.2.1.1, z.2.1.2.1, z.2.1.2.2.1, up z.2.1.2.2.2.1 W (b0 : Int), z.2.1.2.2.2.2), z.2.2) g m (up (up p (3 * b0) 0) (3 * b0 + 1) (-5)) (up w W (b0 : Int)) (up nn 14 (nn 14 + 1)) n := by
  obtain ⟨⟨n1, ⟨n2, n3, n4, n5, n6⟩, n7, n8⟩, hG, hM, hP, hW⟩ := h
  refine ⟨⟨fun k hk => ?_, ⟨?_, ?_, ?_, ?_, ?_⟩, ?_, ?_⟩, hG, hM, fun b hb' => ?_, fun k hk => ?_⟩
  · rw [up_n _ _ (by omega)]
    exact n1 k hk
  · rw [up_n _ _ (by omega)]
    exact n2
  · rw [up_n _ _ (by omega)]
    exact n3
  · rw [up_n _ _ (by omega)]
    exact n4
  · rw [up_n _ _ (by omega)]
    exact n5
  · rw [up_n _ _ (by omega)]
    exact n6
  · rw [up_n _ _ (by omega)]
    exact n7
  · rw [up_s, n8]
    show _ = up z.2.1.2.2.2.2.1 0 (z.2.1.2.2.2.2.1 0 + 1) 0
    rw [up_s]
  · obtain ⟨e1, e2, e3⟩ := hP b hb'
    refine ⟨?_, ?_, ?_⟩
    · rw [up_n _ _ (by omega), up30, e1]
      rfl
    · rw [up3 _ _ (by omega) (by omega), up_n _ _ (by omega), e2]
      show _ = up z.2.1.2.1 b0 (-5) b
      simp only [up, and_true]
    · rw [up_n _ _ (by omega), up_n _ _ (by omega), e3]
      exact (st_same hst b).symm
  · have hk' : (k : Int) < up z.2.1.2.2.2.2.1 0 (z.2.1.2.2.2.2.1 0 + 1) 0 := hk
    rw [up_s, hw] at hk'
    show up w W (b0 : Int) k = up z.2.1.2.2.2.1 W (b0 : Int) k
    by_cases e : k = W
    · subst e
      rw [up_s, up_s]
    · rw [up_n _ _ e, up_n _ _ e]
      exact hW k (by omega)
theorem back_G {z : bS} {g m p w nn : Nat → Int} {n : Nat} (h : GB z g m p w nn n) : GB (z.1, z.2.1, z.2.2.1, z.2.2.2.1, z.2.2.2.2.1, z.2.2.2.2.2.1, z.2.2.2.2.2.2.1 + 1, z.2.2.2.2.2.2.2) g m p w (up nn 11 (nn 11 + 1)) n := by
  obtain ⟨⟨n1, ⟨n2, n3, n4, n5, n6⟩, n7, n8⟩, hG, hM, hP, hW⟩ := h
  refine ⟨⟨fun k hk => ?_, ⟨?_, ?_, ?_, ?_, ?_⟩, ?_, ?_⟩, hG, hM, hP, hW⟩
  · rw [up_n _ _ (by omega)]
    exact n1 k hk
  · rw [up_n _ _ (by omega)]
    exact n2
  · rw [up_n _ _ (by omega)]
    exact n3
  · rw [up_n _ _ (by omega)]
    exact n4
  · rw [up_s, n5]
  · rw [up_n _ _ (by omega)]
    exact n6
  · rw [up_n _ _ (by omega)]
    exact n7
  · rw [up_n _ _ (by omega)]
    exact n8
theorem tak_LM {z : bS} {n b0 W : Nat} {K : Int} (h : LM z n K) : LM (takS b0 W z) n (K + 1) := by
  obtain ⟨h1, h2, h3, h4, h5, h6⟩ := h
  refine ⟨?_, ?_, ?_, ?_, ?_, fun b hb => ?_⟩
  · show 0 ≤ z.2.2.2.1 ∧ z.2.2.2.1 ≤ K + 1
    omega
  · show 0 ≤ z.2.2.2.2.1 ∧ z.2.2.2.2.1 ≤ K + 1
    omega
  · show 0 ≤ z.2.2.2.2.2.1 + 1 ∧ z.2.2.2.2.2.1 + 1 ≤ K + 1
    omega
  · show 0 ≤ z.2.2.2.2.2.2.1 ∧ z.2.2.2.2.2.2.1 ≤ K + 1
    omega
  · show 0 ≤ z.2.2.2.2.2.2.2 ∧ z.2.2.2.2.2.2.2 ≤ K + 1
    omega
  · have := h6 b hb
    show (0 ≤ up z.1.2.2.2.2.2.1 b0 (z.1.2.2.2.2.2.1 b0 + 1) b ∧ up z.1.2.2.2.2.2.1 b0 (z.1.2.2.2.2.2.1 b0 + 1) b ≤ K + 1) ∧ (-5 ≤ z.2.1.2.2.1 b ∧ z.2.1.2.2.1 b ≤ K + 1)
    by_cases e : b = b0
    · subst e
      rw [up_s]
      omega
    · rw [up_n _ _ e]
      omega
theorem pl_LM {z : bS} {q : bP} {n : Nat} {K : Int} (hK : 0 ≤ K) (h : LM z n K) (hq : ∀ b, b < n → q.2.2.1 b = z.2.1.2.2.1 b ∨ q.2.2.1 b = -5) : LM (z.1, q, z.2.2) n K := by
  obtain ⟨h1, h2, h3, h4, h5, h6⟩ := h
  refine ⟨h1, h2, h3, h4, h5, fun b hb => ?_⟩
  have := h6 b hb
  show (0 ≤ z.1.2.2.2.2.2.1 b ∧ z.1.2.2.2.2.2.1 b ≤ K) ∧ (-5 ≤ q.2.2.1 b ∧ q.2.2.1 b ≤ K)
  rcases hq b hb with e | e
  · rw [e]
    exact this
  · rw [e]
    omega
theorem up_or {f : Nat → Int} {b0 : Nat} {v : Int} (b : Nat) : up f b0 v b = f b ∨ up f b0 v b = v := by
  by_cases e : b = b0
  · subst e
    exact Or.inr (up_s _ _ _)
  · exact Or.inl (up_n _ _ e)
theorem rub_LM {z : bS} {n b : Nat} {K : Int} (h : LM z n K) : LM (rubS b z) n (K + 1) := by
  obtain ⟨h1, h2, h3, h4, h5, h6⟩ := h
  unfold rubS
  split
  · refine ⟨?_, ?_, ?_, ?_, ?_, fun b' hb => ?_⟩
    · show 0 ≤ z.2.2.2.1 ∧ z.2.2.2.1 ≤ K + 1
      omega
    · show 0 ≤ z.2.2.2.2.1 ∧ z.2.2.2.2.1 ≤ K + 1
      omega
    · show 0 ≤ z.2.2.2.2.2.1 ∧ z.2.2.2.2.2.1 ≤ K + 1
      omega
    · show 0 ≤ z.2.2.2.2.2.2.1 ∧ z.2.2.2.2.2.2.1 ≤ K + 1
      omega
    · show 0 ≤ z.2.2.2.2.2.2.2 + 1 ∧ z.2.2.2.2.2.2.2 + 1 ≤ K + 1
      omega
    · have := h6 b' hb
      show (0 ≤ z.1.2.2.2.2.2.1 b' ∧ z.1.2.2.2.2.2.1 b' ≤ K + 1) ∧ (-5 ≤ z.2.1.2.2.1 b' ∧ z.2.1.2.2.1 b' ≤ K + 1)
      omega
  · exact LM_mono ⟨h1, h2, h3, h4, h5, h6⟩ (by omega)
theorem back_LM {z : bS} {n : Nat} {K : Int} (h : LM z n K) : LM (z.1, z.2.1, z.2.2.1, z.2.2.2.1, z.2.2.2.2.1, z.2.2.2.2.2.1, z.2.2.2.2.2.2.1 + 1, z.2.2.2.2.2.2.2) n (K + 1) := by
  obtain ⟨h1, h2, h3, h4, h5, h6⟩ := LM_mono h (show K ≤ K + 1 by omega)
  refine ⟨h1, h2, h3, ?_, h5, h6⟩
  have := h.2.2.2.1
  show 0 ≤ z.2.2.2.2.2.2.1 + 1 ∧ z.2.2.2.2.2.2.1 + 1 ≤ K + 1
  omega
