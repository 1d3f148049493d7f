/-! p24: the numbers of the whole; areButtons answers true -/
theorem chipX_loop {N n : Nat} {z : bS} (hC : CI z n) : ∀ d i k, i + d = n → d < k → f_X1_chipSum_L4 N k (sm i z.1.2.2.2.1) (i : Int) z.1 = some (sm n z.1.2.2.2.1, z.1) := by
  have h40 := CI_40 hC
  have hn := hC.1.1
  intro d
  induction d with
  | zero =>
    intro i k hi hk
    obtain ⟨k, rfl⟩ : ∃ j, k = j + 1 := ⟨k - 1, by omega⟩
    obtain rfl : i = n := by omega
    rw [f_X1_chipSum_L4]
    exact (gd_q (rg_of (by first | omega | (dsimp only; omega))) (gd_q (rg_of (by first | omega | (dsimp only; omega))) (it_q1 (by first | omega | (dsimp only; omega)) (rfl))))
  | succ d ih =>
    intro i k hi hk
    obtain ⟨k, rfl⟩ : ∃ j, k = j + 1 := ⟨k - 1, by omega⟩
    rw [f_X1_chipSum_L4]
    exact (gd_q (rg_of (by first | omega | (dsimp only; omega))) (gd_q (rg_of (by first | omega | (dsimp only; omega))) (it_q2 (by first | omega | (dsimp only; omega)) (gd_q (inb_of (by first | omega | (dsimp only; omega))) (nm_q (ih (i + 1) k (by omega) (by omega)))))))
theorem totS {N k : Nat} {bt : bBT} {O : bO} {H : bH} {S P V : bS} {hs kk : Int} (hk : k < 8) (e : kk = (k : Int)) : f_X7_total N kk (bt, O, H, S, P, V, hs) = some (S.2.2.1 k, (bt, O, H, S, P, V, hs)) := by
  subst e
  unfold f_X7_total
  exact (gd_q (rg_of (by first | omega | (dsimp only; omega))) (it_q2 (by first | omega | (dsimp only; omega)) (it_q1 (by first | omega | (dsimp only; omega)) (it_q2 (by first | omega | (dsimp only; omega)) (gd_q (inb_of (by first | omega | (dsimp only; omega))) (rfl))))))
theorem tot8 {N n : Nat} {bt : bBT} {O : bO} {H : bH} {S P V : bS} {hs : Int} (hC : CI S n) : f_X7_total N 8 (bt, O, H, S, P, V, hs) = some ((n : Int), (bt, O, H, S, P, V, hs)) := by
  rw [← hC.1.1]
  unfold f_X7_total
  exact (gd_q (rg_of (by first | omega | (dsimp only; omega))) (it_q2 (by first | omega | (dsimp only; omega)) (it_q1 (by first | omega | (dsimp only; omega)) (it_q1 (by first | omega | (dsimp only; omega)) (it_q1 (by first | omega | (dsimp only; omega)) (it_q1 rfl (rfl)))))))
theorem totA {N k : Nat} {bt : bBT} {O : bO} {H : bH} {S P V : bS} {hs kk : Int} (hk : k < 7) (e : kk = ((9 + k : Nat) : Int)) : f_X7_total N kk (bt, O, H, S, P, V, hs) = some (S.2.1.2.2.2.2.1 k, (bt, O, H, S, P, V, hs)) := by
  subst e
  unfold f_X7_total
  refine (gd_q (rg_of (by first | omega | (dsimp only; omega))) (it_q2 (by first | omega | (dsimp only; omega)) (it_q1 (by first | omega | (dsimp only; omega)) (it_q1 (by first | omega | (dsimp only; omega)) (it_q2 (by first | omega | (dsimp only; omega)) (it_q2 (by first | omega | (dsimp only; omega)) (gd_q (inb_of (by first | omega | (dsimp only; omega))) (?_))))))))
  rw [show (((9 + k : Nat) : Int) - 9).toNat = k by omega]
def cnr (z : bS) (k : Nat) : Int := match k with
  | 0 => z.2.2.2.1
  | 1 => z.2.2.2.2.1
  | 2 => z.2.2.2.2.2.1
  | 3 => z.2.2.2.2.2.2.1
  | _ => z.2.2.2.2.2.2.2
theorem totC {N k : Nat} {bt : bBT} {O : bO} {H : bH} {S P V : bS} {hs kk : Int} (hk : k < 5) (e : kk = ((16 + k : Nat) : Int)) : f_X7_total N kk (bt, O, H, S, P, V, hs) = some (cnr S k, (bt, O, H, S, P, V, hs)) := by
  unfold f_X7_total
  rcases (show k = 0 ∨ k = 1 ∨ k = 2 ∨ k = 3 ∨ k = 4 by omega) with rfl | rfl | rfl | rfl | rfl <;> subst e
  · exact (gd_q (by decide) (it_q2 (by decide) (it_q1 (by decide) (it_q1 (by decide) (it_q2 (by decide) (it_q1 (by decide) (it_q2 (by decide) (it_q2 (by decide) (it_q2 (by decide) (it_q2 (by decide) (it_q2 (by decide) (it_q2 (by decide) (it_q2 (by decide) (it_q2 (by decide) (it_q1 rfl (rfl))))))))))))))))
  · exact (gd_q (by decide) (it_q2 (by decide) (it_q1 (by decide) (it_q1 (by decide) (it_q2 (by decide) (it_q1 (by decide) (it_q2 (by decide) (it_q2 (by decide) (it_q2 (by decide) (it_q2 (by decide) (it_q2 (by decide) (it_q2 (by decide) (it_q2 (by decide) (it_q2 (by decide) (it_q2 (by decide) (it_q1 rfl (rfl)))))))))))))))))
  · exact (gd_q (by decide) (it_q2 (by decide) (it_q1 (by decide) (it_q1 (by decide) (it_q2 (by decide) (it_q1 (by decide) (it_q2 (by decide) (it_q2 (by decide) (it_q2 (by decide) (it_q2 (by decide) (it_q2 (by decide) (it_q2 (by decide) (it_q2 (by decide) (it_q2 (by decide) (it_q2 (by decide) (it_q2 (by decide) (it_q1 rfl (rfl))))))))))))))))))
  · exact (gd_q (by decide) (it_q2 (by decide) (it_q1 (by decide) (it_q1 (by decide) (it_q2 (by decide) (it_q1 (by decide) (it_q2 (by decide) (it_q2 (by decide) (it_q2 (by decide) (it_q2 (by decide) (it_q2 (by decide) (it_q2 (by decide) (it_q2 (by decide) (it_q2 (by decide) (it_q2 (by decide) (it_q2 (by decide) (it_q2 (by decide) (it_q1 rfl (rfl)))))))))))))))))))
  · exact (gd_q (by decide) (it_q2 (by decide) (it_q1 (by decide) (it_q1 (by decide) (it_q2 (by decide) (it_q1 (by decide) (it_q2 (by decide) (it_q2 (by decide) (it_q2 (by decide) (it_q2 (by decide) (it_q2 (by decide) (it_q2 (by decide) (it_q2 (by decide) (it_q2 (by decide) (it_q2 (by decide) (it_q2 (by decide) (it_q2 (by decide) (it_q2 (by decide) (it_q1 rfl (rfl))))))))))))))))))))
theorem tot21 {N n : Nat} {bt : bBT} {O : bO} {H : bH} {S P V : bS} {hs : Int} (hN : 50 ≤ N) (hC : CI S n) : f_X7_total N 21 (bt, O, H, S, P, V, hs) = some (sm n S.1.2.2.2.1, (bt, O, H, S, P, V, hs)) := by
  have h40 := CI_40 hC
  have h1 : f_X1_chipSum N S.1 = some (sm n S.1.2.2.2.1, S.1) := chipX_loop (N := N) hC n 0 N (by omega) (by omega)
  unfold f_X7_total
  exact (gd_q (by decide) (it_q2 (by decide) (it_q1 (by decide) (it_q1 (by decide) (it_q2 (by decide) (it_q1 (by decide) (it_q2 (by decide) (it_q2 (by decide) (it_q2 (by decide) (it_q2 (by decide) (it_q2 (by decide) (it_q2 (by decide) (it_q2 (by decide) (it_q2 (by decide) (it_q2 (by decide) (it_q2 (by decide) (it_q2 (by decide) (it_q2 (by decide) (it_q2 (by decide) (it_q1 rfl (bd_q h1 (nm_q (rfl)))))))))))))))))))))))
theorem tot24 {N : Nat} {X : bX} : f_X7_total N 24 X = some (-2, X) := by
  unfold f_X7_total
  exact (gd_q (by decide) (it_q2 (by decide) (it_q2 (by decide) (rfl))))
theorem set_loop {N n : Nat} {bt : bBT} {O : bO} {H : bH} {S P V : bS} {hs v : Int} {g m p w nn : Nat → Int} {kt : Int → Int → Int → bLXgmpwn → Option (Int × bLXgmpwn)} (hN : 50 ≤ N) (hn20 : n ≤ 20) (hC : CI S n) (hB : GB S g m p w nn n) : ∀ (d i k : Nat), i + d = 8 → d < k → f_L_areButtons_L399 N kt k v 1 (i : Int) ((bt, O, H, S, P, V, hs), g, m, p, w, nn) = kt v 1 8 ((bt, O, H, S, P, V, hs), g, m, p, w, nn) := by
  obtain ⟨⟨n1, n2, n7, n8⟩, hG, hM, hP, hW⟩ := hB
  have hsr := SI_rg hC.2.1
  intro d
  induction d with
  | zero =>
    intro i k hi hk
    obtain ⟨k, rfl⟩ : ∃ j, k = j + 1 := ⟨k - 1, by omega⟩
    obtain rfl : i = 8 := by omega
    rw [f_L_areButtons_L399]
    exact (gd_q (rg_of (by first | omega | (dsimp only; omega))) (it_q1 (by first | omega | (dsimp only; omega)) (rfl)))
  | succ d ih =>
    intro i k hi hk
    obtain ⟨k, rfl⟩ : ∃ j, k = j + 1 := ⟨k - 1, by omega⟩
    have ih' := ih (i + 1) k (by omega) (by omega)
    have r1 := hsr i (by omega)
    have e1 := n1 i (by omega)
    rw [f_L_areButtons_L399]
    refine (gd_q (rg_of (by first | omega | (dsimp only; omega))) (it_q2 (by first | omega | (dsimp only; omega)) (gd_q (rg_of (by first | omega | (dsimp only; omega))) (jn2_q (it_q2 (by first | omega | (dsimp only; omega)) (bd_q (totS (by omega) rfl) (nm_q (gd_q (inb_of (by first | omega | (dsimp only; omega))) (gd_q (by show rg (S.2.2.1 i) = true; exact (rg_of (by first | omega | (dsimp only; omega)))) (gd_q (by show rg (nn i) = true; rw [e1]; exact (rg_of (by first | omega | (dsimp only; omega)))) (it_q1 (by show S.2.2.1 i = nn i; exact e1.symm) (?_))))))))))))
    by_cases e7 : i = 7
    · exact (it_q1 (by omega) (ih'))
    · have hat := atG (N := N) (q := i) (qq := (i : Int)) (nn := nn) hN hn20 hC n7 hP (by omega) rfl
      have hzat := PI_at hC.2.2 (q := i) (by omega)
      exact (it_q2 (by omega) (bd_q (totA (k := i) (by omega) (by omega)) (nm_q (bd_q hat (gd_q (by show rg (S.2.1.2.2.2.2.1 i) = true; exact (rg_of (by first | omega | (dsimp only; omega)))) (gd_q (rg_of (by first | omega | (dsimp only; omega))) (it_q1 rfl (ih'))))))))
theorem cnr_loop {N n : Nat} {bt : bBT} {O : bO} {H : bH} {S P V : bS} {hs v K : Int} {g m p w nn : Nat → Int} {kt : Int → Int → Int → bLXgmpwn → Option (Int × bLXgmpwn)} (hB : GB S g m p w nn n) (hK : K ≤ 1000000) (hL : LM S n K) : ∀ (d i k : Nat), i + d = 5 → d < k → f_L_areButtons_L468 N kt k v 1 (i : Int) ((bt, O, H, S, P, V, hs), g, m, p, w, nn) = kt v 1 5 ((bt, O, H, S, P, V, hs), g, m, p, w, nn) := by
  obtain ⟨⟨n1, ⟨n2, n3, n4, n5, n6⟩, n7, n8⟩, hG, hM, hP, hW⟩ := hB
  obtain ⟨l1, l2, l3, l4, l5, -⟩ := hL
  have hc : ∀ i, i < 5 → nn (8 + i) = cnr S i ∧ 0 ≤ cnr S i ∧ cnr S i ≤ 1000000 := by
    intro i hi
    rcases (show i = 0 ∨ i = 1 ∨ i = 2 ∨ i = 3 ∨ i = 4 by omega) with rfl | rfl | rfl | rfl | rfl
    · exact ⟨n2, l1.1, by have := l1.2; show S.2.2.2.1 ≤ _; omega⟩
    · exact ⟨n3, l2.1, by have := l2.2; show S.2.2.2.2.1 ≤ _; omega⟩
    · exact ⟨n4, l3.1, by have := l3.2; show S.2.2.2.2.2.1 ≤ _; omega⟩
    · exact ⟨n5, l4.1, by have := l4.2; show S.2.2.2.2.2.2.1 ≤ _; omega⟩
    · exact ⟨n6, l5.1, by have := l5.2; show S.2.2.2.2.2.2.2 ≤ _; omega⟩
  intro d
  induction d with
  | zero =>
    intro i k hi hk
    obtain ⟨k, rfl⟩ : ∃ j, k = j + 1 := ⟨k - 1, by omega⟩
    obtain rfl : i = 5 := by omega
    rw [f_L_areButtons_L468]
    exact (gd_q (rg_of (by first | omega | (dsimp only; omega))) (it_q1 (by first | omega | (dsimp only; omega)) (rfl)))
  | succ d ih =>
    intro i k hi hk
    obtain ⟨k, rfl⟩ : ∃ j, k = j + 1 := ⟨k - 1, by omega⟩
    have ih' := ih (i + 1) k (by omega) (by omega)
    obtain ⟨c1, c2, c3⟩ := hc i (by omega)
    have et : (8 + (i : Int)).toNat = 8 + i := by omega
    rw [f_L_areButtons_L468]
    exact (gd_q (rg_of (by first | omega | (dsimp only; omega))) (it_q2 (by first | omega | (dsimp only; omega)) (gd_q (rg_of (by first | omega | (dsimp only; omega))) (jn2_q (it_q2 (by first | omega | (dsimp only; omega)) (bd_q (totC (k := i) (by omega) (by omega)) (nm_q (gd_q (inb_of (by first | omega | (dsimp only; omega))) (gd_q (by show rg (cnr S i) = true; exact (rg_of (by first | omega | (dsimp only; omega)))) (gd_q (by show rg (nn (8 + (i : Int)).toNat) = true; rw [et, c1]; exact (rg_of (by first | omega | (dsimp only; omega)))) (it_q1 (by show cnr S i = nn (8 + (i : Int)).toNat; rw [et, c1]) (ih'))))))))))))
theorem areBtns {N n : Nat} {bt : bBT} {O : bO} {H : bH} {S P V : bS} {hs K : Int} {g m p w nn : Nat → Int} (hN : 50 ≤ N) (hn20 : n ≤ 20) (hC : CI S n) (hB : GB S g m p w nn n) (hK : K ≤ 1000000) (hL : LM S n K) : f_L_areButtons N ((bt, O, H, S, P, V, hs), g, m, p, w, nn) = some (1, ((bt, O, H, S, P, V, hs), g, m, p, w, nn)) := by
  have h40 := CI_40 hC
  have hB' := hB
  obtain ⟨⟨n1, n2, n7, n8⟩, hG, hM, hP, hW⟩ := hB'
  have hsm := sm_rg (n := n) (f := S.1.2.2.2.1) (fun b hb => (CI_b hC hb).2.2.2.1)
  have hw := PI_w hC.2.2
  unfold f_L_areButtons
  refine (bd_q (btnNX hC n7) (nm_q (gd_q (rg_of (by first | omega | (dsimp only; omega))) (jn2_q (it_q1 rfl (bd_q (goNX hC) (nm_q (gd_q (rg_of (by first | omega | (dsimp only; omega))) (it_q1 rfl (?_))))))))))
  refine Eq.trans (btns_loop hN hn20 hC hB hK hL n 0 N (by omega) (by omega)) ?_
  refine Eq.trans (set_loop hN hn20 hC hB 8 0 N (by omega) (by omega)) ?_
  refine Eq.trans (cnr_loop hB hK hL 5 0 N (by omega) (by omega)) ?_
  exact (gd_q (rg_of (by first | omega | (dsimp only; omega))) (jn2_q (it_q2 (by first | omega | (dsimp only; omega)) (bd_q (tot8 hC) (nm_q (gd_q (rg_of (by first | omega | (dsimp only; omega))) (gd_q (by show rg (nn 13) = true; rw [n7]; exact (rg_of (by first | omega | (dsimp only; omega)))) (it_q1 (by show (n : Int) = nn 13; exact n7.symm) (bd_q (totA (k := 0) (by omega) rfl) (nm_q (gd_q (by show rg (S.2.1.2.2.2.2.1 0) = true; exact (rg_of (by first | omega | (dsimp only; omega)))) (gd_q (by show rg (nn 14) = true; rw [n8]; exact (rg_of (by first | omega | (dsimp only; omega)))) (it_q1 (by show S.2.1.2.2.2.2.1 0 = nn 14; exact n8.symm) (bd_q (tot21 hN hC) (nm_q (gd_q (rg_of (by first | omega | (dsimp only; omega))) (gd_q (rg_of (by first | omega | (dsimp only; omega))) (it_q1 rfl (bd_q tot24 (nm_q (gd_q (rg_of (by first | omega | (dsimp only; omega))) (it_q1 rfl (gd_q (inb_of (by first | omega | (dsimp only; omega))) (rfl))))))))))))))))))))))))
