/-! p24: one button sorted, put together -/
theorem rubL {β : Type} {K : bLgmpwn → Option β} {s21 : bLgmpwn} {b0 M : Nat} {v15 u27 : Int} (e1 : v15 = (b0 : Int)) (hb : b0 < 20) (e2 : dvI u27 4 = (M : Int)) (h1 : 0 ≤ s21.2.1 (3 * b0) ∧ s21.2.1 (3 * b0) ≤ 9) : jn1 K (fun (j34 : bLgmpwn → Option β) => if (s21.1 (((3 * v15) + 1).toNat)) = (s21.2.2.2.2 ((dvI u27 4).toNat)) then (gd (inb (3 * v15) 60) <| gd (rg (s21.2.1 ((3 * v15).toNat))) <| jn2 (fun (v75 : Int) (s76 : bLgmpwn) => nm (s76.1, up s76.2.1 ((3 * v15).toNat) ((s21.2.1 ((3 * v15).toNat)) + v75), s76.2.2) fun s79 => nm (s79.1, s79.2.1, s79.2.2.1, s79.2.2.2.1, up s79.2.2.2.2 12 ((s79.2.2.2.2 12) + 1)) fun s81 => j34 s81) fun j77 => if (s21.2.1 ((3 * v15).toNat)) = 9 then (j77 0 s21) else (j77 1 s21)) else (j34 s21)) = K (if s21.1 (3 * b0 + 1) = s21.2.2.2.2 M then (s21.1, up s21.2.1 (3 * b0) (s21.2.1 (3 * b0) + (if s21.2.1 (3 * b0) = 9 then 0 else 1)), s21.2.2.1, s21.2.2.2.1, up s21.2.2.2.2 12 (s21.2.2.2.2 12 + 1)) else s21) := by
  subst e1
  refine jn1_q ?_
  simp only [t3, t31, e2, tn]
  by_cases e : s21.1 (3 * b0 + 1) = s21.2.2.2.2 M
  · rw [if_pos e, if_pos e]
    refine (gd_q (inb_of (by first | omega | (dsimp only; omega))) (gd_q (rg_of (by first | omega | (dsimp only; omega))) (jn2_q (?_))))
    by_cases e9 : s21.2.1 (3 * b0) = 9
    · rw [if_pos e9, if_pos e9]
      rfl
    · rw [if_neg e9, if_neg e9]
      rfl
  · rw [if_neg e, if_neg e]
def lsK (N : Nat) (v u23 : Int) (s : bLgmpwn) : Option bLgmpwn := gd (rg u23) <| if 5 ≤ u23 then (bd (f_L_binOf N v (s.1, s.2.2.2.2)) fun u27 => gd (inb ((3 * v) + 1) 60) <| gd (inb (dvI u27 4) 15) <| gd (rg (s.1 (((3 * v) + 1).toNat))) <| gd (rg (s.2.2.2.2 ((dvI u27 4).toNat))) <| jn1 (fun (s33 : bLgmpwn) => bd (f_L_in N u27 (s33.2.2.1, s33.2.2.2.2)) fun u36 => gd (rg u36) <| gd (rg (s33.2.2.2.2 6)) <| jn2 (fun (v40 : Int) (s41 : bLgmpwn) => gd (rg v40) <| jn2 (fun (v45 : Int) (s46 : bLgmpwn) => gd (inb (3 * v) 60) <| nm (s46.1, s46.2.1, up s46.2.2.1 ((3 * v).toNat) v45, s46.2.2.2) fun s50 => jn2 (fun (v52 : Int) (s53 : bLgmpwn) => nm (s53.1, s53.2.1, up s53.2.2.1 (((3 * v) + 1).toNat) v52, s53.2.2.2) fun s56 => jn1 (fun (s58 : bLgmpwn) => some s58) fun j59 => if v40 = 0 then (gd (inb (s56.2.2.2.2 14) 20) <| nm (s56.1, s56.2.1, s56.2.2.1, up s56.2.2.2.1 ((s56.2.2.2.2 14).toNat) v, s56.2.2.2.2) fun s63 => nm (s63.1, s63.2.1, s63.2.2.1, s63.2.2.2.1, up s63.2.2.2.2 14 ((s63.2.2.2.2 14) + 1)) fun s65 => nm (s65.1, s65.2.1, s65.2.2.1, s65.2.2.2.1, up s65.2.2.2.2 11 ((s65.2.2.2.2 11) + 1)) fun s67 => j59 s67) else (j59 s56)) fun j54 => if v40 = 0 then (j54 (-5) s50) else (j54 u27 s50)) fun j47 => if v40 = 0 then (j47 0 s41) else (j47 5 s41)) fun j42 => if (s33.2.2.2.2 6) ≤ u36 then (j42 0 s33) else (j42 1 s33)) fun j34 => if (s.1 (((3 * v) + 1).toNat)) = (s.2.2.2.2 ((dvI u27 4).toNat)) then (gd (inb (3 * v) 60) <| gd (rg (s.2.1 ((3 * v).toNat))) <| jn2 (fun (v75 : Int) (s76 : bLgmpwn) => nm (s76.1, up s76.2.1 ((3 * v).toNat) ((s.2.1 ((3 * v).toNat)) + v75), s76.2.2) fun s79 => nm (s79.1, s79.2.1, s79.2.2.1, s79.2.2.2.1, up s79.2.2.2.2 12 ((s79.2.2.2.2 12) + 1)) fun s81 => j34 s81) fun j77 => if (s.2.1 ((3 * v).toNat)) = 9 then (j77 0 s) else (j77 1 s)) else (j34 s)) else (gd (inb (3 * v) 60) <| nm (s.1, s.2.1, up s.2.2.1 ((3 * v).toNat) u23, s.2.2.2) fun s85 => bd (f_L_at N 2 (s85.2.2.1, s85.2.2.2.2)) fun u87 => gd (rg u87) <| gd (rg (s85.2.2.2.2 5)) <| jn2 (fun (v91 : Int) (s92 : bLgmpwn) => f_L_sorts_L113 N (fun v116 v117 v118 v119 s120 => some s120) N v u23 v91 0 s92) fun j93 => if u87 < (s85.2.2.2.2 5) then (j93 0 s85) else (j93 1 s85))
theorem sortsG {N n : Nat} {z : bS} {g m p w nn : Nat → Int} (hN : 50 ≤ N) (hn20 : n ≤ 20) (hC : CI z n) (hB : GB z g m p w nn n) (h0 : 0 < z.2.1.2.2.2.2.1 0) : ∃ (z' : bS) (m' p' w' nn' : Nat → Int), f_X5_sortFirst N z = some z' ∧ f_L_sorts N (g, m, p, w, nn) = some (g, m', p', w', nn') ∧ CI z' n ∧ GB z' g m' p' w' nn' n ∧ z.2.1.2.2.2.2.1 0 - 1 ≤ z'.2.1.2.2.2.2.1 0 ∧ ∀ K : Int, 0 ≤ K → LM z n K → LM z' n (K + 3) := by
  have hn40 := hC.1.2.1
  obtain ⟨b0, W, hb, hw40, e1, e2, e3, hS, hL⟩ := sf_pre hN hC h0
  have hwn := (PI_w hC.2.2).2
  have hW20 : W < 20 := by omega
  have hB' := hB
  obtain ⟨⟨n1, ⟨n2, n3, n4, n5, n6⟩, n7, n8⟩, hG, hM, hP, hWw⟩ := hB'
  have hw0 : w 0 = (b0 : Int) := by rw [hWw 0 (by omega)]; exact e1
  obtain ⟨w1, s1, s2⟩ := shL_loop (N := N) (W := W) (g := g) (m := m) (p := p) (nn := up nn 14 (nn 14 - 1)) (w0 := w) (v := (b0 : Int)) (by rw [up_s]; omega) hW20 W 0 N w (by omega) (by omega) (fun j hj => absurd hj (by omega)) (fun j _ => rfl)
  have hB2 := tak_G hB hn20 hb e3 hW20 s2
  obtain ⟨q1, q2, q3, q4, q5⟩ := CI_b hC hb
  have hpb := CI_p hC hb
  unfold PB at hpb
  have hsr := SI_rg hC.2.1
  have hBI2 : BI (takS b0 W z).1 n := hC.1
  have hLM2 : ∀ K : Int, LM z n K → LM (takS b0 W z) n (K + 1) := fun K h => tak_LM h
  have a0 : (takS b0 W z).2.1.2.2.2.2.1 0 = (W : Int) := by
    show up z.2.1.2.2.2.2.1 0 (W : Int) 0 = (W : Int)
    exact up_s _ _ _
  have a2 : (takS b0 W z).2.1.2.2.2.2.1 2 = z.2.1.2.2.2.2.1 2 := by
    show up z.2.1.2.2.2.2.1 0 (W : Int) 2 = _
    exact up_n _ _ (by omega)
  have hm1 : up m (3 * b0 + 2) (m (3 * b0 + 2) + 1) (3 * b0) = z.1.2.2.2.1 b0 := by rw [up_n _ _ (by omega)]; exact (hM b0 hb).1
  have hgo := goesG (bb := (b0 : Int)) (m := up m (3 * b0 + 2) (m (3 * b0 + 2) + 1)) (nn := up (up nn 14 (nn 14 - 1)) 10 (up nn 14 (nn 14 - 1) 10 + 1)) hn20 hC (fun k hk => by rw [up_n _ _ (by omega), up_n _ _ (by omega)]; exact n1 k hk) hG hm1 hb rfl
  have hbo := fun (hsz : z.1.2.1 b0 ≤ z.2.2.1 2) => binOfG (N := N) (bb := (b0 : Int)) (nn := up (up nn 14 (nn 14 - 1)) 10 (up nn 14 (nn 14 - 1) 10 + 1)) hN hn20 hC (fun k hk => by rw [up_n _ _ (by omega), up_n _ _ (by omega)]; exact n1 k hk) hG hb rfl hsz
  have hlaw : ∀ r, (bd (f_L_goes (b0 : Int) (g, up m (3 * b0 + 2) (m (3 * b0 + 2) + 1), up (up nn 14 (nn 14 - 1)) 10 (up nn 14 (nn 14 - 1) 10 + 1))) fun u23 => lsK N (b0 : Int) u23 (g, up m (3 * b0 + 2) (m (3 * b0 + 2) + 1), p, w1, up (up nn 14 (nn 14 - 1)) 10 (up nn 14 (nn 14 - 1) 10 + 1))) = r → f_L_sorts N (g, m, p, w, nn) = r := by
    intro r hr
    unfold f_L_sorts
    refine nm_q (nm_q ?_)
    dsimp only
    rw [hw0]
    refine Eq.trans (s1 _) ?_
    refine (nm_q (gd_q (inb_of (by first | omega | (dsimp only; omega))) (nm_q (?_))))
    exact hr
  have hnn2 : ∀ j, j ≠ 14 → j ≠ 10 → up (up nn 14 (nn 14 - 1)) 10 (up nn 14 (nn 14 - 1) 10 + 1) j = nn j := fun j h1 h2 => by rw [up_n _ _ h2, up_n _ _ h1]
  generalize hz2 : takS b0 W z = z2 at *
  generalize hnn : up (up nn 14 (nn 14 - 1)) 10 (up nn 14 (nn 14 - 1) 10 + 1) = nn2 at *
  generalize hmm : up m (3 * b0 + 2) (m (3 * b0 + 2) + 1) = m1 at *
  have k1 : z2.1.1 = z.1.1 ∧ z2.1.2.1 = z.1.2.1 ∧ z2.1.2.2.1 = z.1.2.2.1 ∧ z2.1.2.2.2.1 = z.1.2.2.2.1 ∧ z2.2.2.1 = z.2.2.1 ∧ z2.2.1.1 = z.2.1.1 ∧ z2.2.1.2.1 = z.2.1.2.1 ∧ z2.2.1.2.2.1 = z.2.1.2.2.1 ∧ z2.2.1.2.2.2.2.2 = z.2.1.2.2.2.2.2 ∧ binN z2 b0 = binN z b0 := by
    rw [← hz2]
    exact ⟨rfl, rfl, rfl, rfl, rfl, rfl, rfl, rfl, rfl, rfl⟩
  obtain ⟨k1, k2, k3, k4, k5, k6, k7, k8, k9, k10⟩ := k1
  have hst : z2.2.1.2.2.1 b0 = -5 := by rw [k8]; exact hpb.2.2.2.2 (by omega)
  have hbi : z2.2.1.2.1 b0 = -5 := by rw [k7]; exact hpb.2.2.2.1 (by omega)
  have hSI : SI z2.2.2.1 := by rw [k5]; exact hC.2.1
  have n13 : nn2 13 = (n : Int) := by rw [hnn2 13 (by omega) (by omega)]; exact n7
  rw [hS]
  have hrow : ∀ q : Int, -5 ≤ q → q ≤ 6 → ∀ b, b < n → rg (up p (3 * b0) q (3 * b)) = true := by
    intro q h1 h2 b hb'
    rw [up30]
    have := GP_rg hC hP hb'
    split
    · exact (rg_of (by first | omega | (dsimp only; omega)))
    · exact (rg_of (by first | omega | (dsimp only; omega)))
  -- a plain bringing to q
  have plain : ∀ q : Nat, q < 5 → q ≠ 0 → q ≠ 3 → q ≠ 2 → plcS b0 z2 = (q : Int) → plcG b0 z = (q : Int) → ∃ (z' : bS) (m' p' w' nn' : Nat → Int), sfK N (b0 : Int) (plcS b0 z2) z2 = some z' ∧ f_L_sorts N (g, m, p, w, nn) = some (g, m', p', w', nn') ∧ CI z' n ∧ GB z' g m' p' w' nn' n ∧ z.2.1.2.2.2.2.1 0 - 1 ≤ z'.2.1.2.2.2.2.1 0 ∧ ∀ K : Int, 0 ≤ K → LM z n K → LM z' n (K + 3) := by
    intro q hq h0' h3' h2' hp hpG
    rw [hpG] at hgo
    rw [hp]
    have hPI := bring_PI hL hb (show q < 7 by omega) h0' (by omega)
    refine ⟨(z2.1, bringS b0 (q : Int) z2.2.1, z2.2.2), m1, up p (3 * b0) (q : Int), w1, nn2, ?_, ?_, ⟨hBI2, hSI, hPI⟩, bring_G (q := (q : Int)) hB2 (by omega) hb hst hbi, ?_, fun K h1 h2 => LM_mono (pl_LM (by omega) (hLM2 K h2) (fun b _ => up_or b)) (by omega)⟩
    · unfold sfK
      exact (gd_q (rg_of (by first | omega | (dsimp only; omega))) (it_q2 (by first | omega | (dsimp only; omega)) (it_q2 (by first | omega | (dsimp only; omega)) (it_q2 (by first | omega | (dsimp only; omega)) (bd_q (bring_eq (b := b0) (by omega) rfl (by omega)) (rfl))))))
    · refine hlaw _ (bd_q hgo ?_)
      unfold lsK
      refine (gd_q (rg_of (by first | omega | (dsimp only; omega))) (it_q2 (by first | omega | (dsimp only; omega)) (gd_q (inb_of (by first | omega | (dsimp only; omega))) (nm_q (?_)))))
      simp only [t3]
      refine bd_q (lat_eq hN n13 hn20 (by decide) (hrow q (by omega) (by omega))) ?_
      have hcn := cnt_nn n (fun b => up p (3 * b0) (q : Int) (3 * b)) 2
      refine (gd_q (rg_of (by first | omega | (dsimp only; omega))) (gd_q (by show rg (nn2 5) = true; rw [hnn2 5 (by omega) (by omega), n1 5 (by omega)]; have := hsr 5 (by omega); exact (rg_of (by first | omega | (dsimp only; omega)))) (jn2_q (?_))))
      have hz : ∀ v : Int, f_L_sorts_L113 N (fun v116 v117 v118 v119 s120 => some s120) N (b0 : Int) (q : Int) v 0 (g, m1, up p (3 * b0) (q : Int), w1, nn2) = some (g, m1, up p (3 * b0) (q : Int), w1, nn2) := by
        intro v
        obtain ⟨N, rfl⟩ : ∃ k, N = k + 1 := ⟨N - 1, by omega⟩
        rw [f_L_sorts_L113]
        exact (gd_q (rg_of (by first | omega | (dsimp only; omega))) (gd_q (rg_of (by first | omega | (dsimp only; omega))) (it_q2 (by first | omega | (dsimp only; omega)) (gd_q (rg_of (by first | omega | (dsimp only; omega))) (it_q2 (by first | omega | (dsimp only; omega)) (rfl))))))
      split
      · exact hz 0
      · exact hz 1
    · show z.2.1.2.2.2.2.1 0 - 1 ≤ up z2.2.1.2.2.2.2.1 (q : Int).toNat (z2.2.1.2.2.2.2.1 (q : Int).toNat + 1) 0
      rw [up_n _ _ (by omega)]
      omega
  by_cases c1 : z.2.2.1 3 < z.1.2.2.2.1 b0
  · exact plain 1 (by omega) (by omega) (by omega) (by omega) (by unfold plcS; rw [k5, k4, if_pos c1]; rfl) (by unfold plcG; rw [if_pos c1]; rfl)
  by_cases c2 : z.2.2.1 4 ≤ z.1.2.2.1 b0
  · have hpG : plcG b0 z = 2 := by unfold plcG; rw [if_neg c1, if_pos c2]
    rw [hpG] at hgo
    have hPI := bring_PI (q := 2) hL hb (by omega) (by omega) (by omega)
    have hC3 : CI (z2.1, bringS b0 2 z2.2.1, z2.2.2) n := ⟨hBI2, hSI, hPI⟩
    have hB3 := bring_G (q := 2) hB2 (by decide) hb hst hbi
    have hat := atG (N := N) (q := 2) (qq := 2) (nn := nn2) hN hn20 hC3 n13 hB3.2.2.2.1 (by omega) rfl
    have b2 : (bringS b0 2 z2.2.1).2.2.2.2.1 2 = z.2.1.2.2.2.2.1 2 + 1 := by
      show up z2.2.1.2.2.2.2.1 2 (z2.2.1.2.2.2.2.1 2 + 1) 2 = _
      rw [up_s, a2]
    have b0' : (bringS b0 2 z2.2.1).2.2.2.2.1 0 = (W : Int) := by
      show up z2.2.1.2.2.2.2.1 2 (z2.2.1.2.2.2.2.1 2 + 1) 0 = (W : Int)
      rw [up_n _ _ (by omega)]
      exact a0
    have hat' : f_L_at N 2 (up p (3 * b0) 2, nn2) = some (z.2.1.2.2.2.2.1 2 + 1) := by
      rw [← b2]
      exact hat
    have hzat := PI_at hC.2.2 (q := 2) (by omega)
    have s5 : nn2 5 = z.2.2.1 5 := by rw [hnn2 5 (by omega) (by omega)]; exact n1 5 (by omega)
    have r5 := hsr 5 (by omega)
    by_cases c3 : z.2.2.1 5 ≤ z.2.1.2.2.2.2.1 2 + 1
    · have hp : plcS b0 z2 = 3 := by unfold plcS; rw [k5, k4, k3, a2, if_neg c1, if_pos c2, if_pos c3]
      obtain ⟨p', g1, g2, g3, g4, g5, g6, g7⟩ := magC (N := N) hN hC3
      obtain ⟨pl, l1, l2⟩ := mgL_loop (N := N) (g := g) (m := m1) (w := w1) (nn := nn2) (v := (b0 : Int)) n13 hn20 (up p (3 * b0) 2) (hrow 2 (by omega) (by omega)) n 0 N (up p (3 * b0) 2) (by omega) (by omega) (fun b hb => absurd hb (by omega)) (fun _ _ => rfl) (fun _ _ _ _ => rfl)
      refine ⟨(z2.1, p', z2.2.2), m1, pl, w1, nn2, ?_, ?_, g2, ?_, by show _ ≤ p'.2.2.2.2.1 0; rw [g7]; show _ ≤ (bringS b0 2 z2.2.1).2.2.2.2.1 0; rw [b0']; omega, fun K h1 h2 => LM_mono (pl_LM (by omega) (hLM2 K h2) (fun b hb => by rw [g5 b hb]; exact up_or b)) (by omega)⟩
      · rw [hp]
        unfold sfK
        exact (gd_q (rg_of (by first | omega | (dsimp only; omega))) (it_q2 (by first | omega | (dsimp only; omega)) (it_q1 (by first | omega | (dsimp only; omega)) (bd_q (bring_eq (b := b0) (by omega) rfl (by omega)) (nm_q (bd_q g1 (rfl)))))))
      · refine hlaw _ (bd_q hgo ?_)
        unfold lsK
        refine (gd_q (rg_of (by first | omega | (dsimp only; omega))) (it_q2 (by first | omega | (dsimp only; omega)) (gd_q (inb_of (by first | omega | (dsimp only; omega))) (nm_q (bd_q hat' (gd_q (rg_of (by first | omega | (dsimp only; omega))) (gd_q (by show rg (nn2 5) = true; rw [s5]; exact (rg_of (by first | omega | (dsimp only; omega)))) (jn2_q (it_q2 (by show ¬ _ < nn2 5; rw [s5]; omega) (?_))))))))))
        exact l1 _
      · obtain ⟨x1, x2, x3, x4, x5⟩ := hB3
        exact ⟨⟨x1.1, x1.2.1, x1.2.2.1, by rw [x1.2.2.2]; exact g7.symm⟩, x2, x3, mgP_GP (z := (z2.1, bringS b0 2 z2.2.1, z2.2.2)) (q := p') l2 x4 g3 g4 g5, fun k hk => by
          have hk' : (k : Int) < p'.2.2.2.2.1 0 := hk
          rw [g7] at hk'
          show w1 k = p'.2.2.2.1 k
          rw [g6]
          exact x5 k hk'⟩
    · have hp : plcS b0 z2 = 2 := by unfold plcS; rw [k5, k4, k3, a2, if_neg c1, if_pos c2, if_neg c3]
      refine ⟨(z2.1, bringS b0 2 z2.2.1, z2.2.2), m1, up p (3 * b0) 2, w1, nn2, ?_, ?_, hC3, hB3, by show _ ≤ (bringS b0 2 z2.2.1).2.2.2.2.1 0; rw [b0']; omega, fun K h1 h2 => LM_mono (pl_LM (by omega) (hLM2 K h2) (fun b _ => up_or b)) (by omega)⟩
      · rw [hp]
        unfold sfK
        exact (gd_q (rg_of (by first | omega | (dsimp only; omega))) (it_q2 (by first | omega | (dsimp only; omega)) (it_q2 (by first | omega | (dsimp only; omega)) (it_q2 (by first | omega | (dsimp only; omega)) (bd_q (bring_eq (b := b0) (by omega) rfl (by omega)) (rfl))))))
      · refine hlaw _ (bd_q hgo ?_)
        unfold lsK
        refine (gd_q (rg_of (by first | omega | (dsimp only; omega))) (it_q2 (by first | omega | (dsimp only; omega)) (gd_q (inb_of (by first | omega | (dsimp only; omega))) (nm_q (bd_q hat' (gd_q (rg_of (by first | omega | (dsimp only; omega))) (gd_q (by show rg (nn2 5) = true; rw [s5]; exact (rg_of (by first | omega | (dsimp only; omega)))) (jn2_q (it_q1 (by show _ < nn2 5; rw [s5]; omega) (?_))))))))))
        have hz : f_L_sorts_L113 N (fun v116 v117 v118 v119 s120 => some s120) N (b0 : Int) 2 0 0 (g, m1, up p (3 * b0) 2, w1, nn2) = some (g, m1, up p (3 * b0) 2, w1, nn2) := by
          obtain ⟨N, rfl⟩ : ∃ k, N = k + 1 := ⟨N - 1, by omega⟩
          rw [f_L_sorts_L113]
          exact (gd_q (rg_of (by first | omega | (dsimp only; omega))) (gd_q (rg_of (by first | omega | (dsimp only; omega))) (it_q2 (by first | omega | (dsimp only; omega)) (gd_q (rg_of (by first | omega | (dsimp only; omega))) (it_q1 (by first | omega | (dsimp only; omega)) (gd_q (rg_of (by first | omega | (dsimp only; omega))) (it_q1 (by first | omega | (dsimp only; omega)) (rfl))))))))
        exact hz
  by_cases c3 : z.2.2.1 2 < z.1.2.1 b0
  · exact plain 4 (by omega) (by omega) (by omega) (by omega) (by unfold plcS; rw [k5, k4, k3, k2, if_neg c1, if_neg c2, if_pos c3]; rfl) (by unfold plcG; rw [if_neg c1, if_neg c2, if_pos c3]; rfl)
  -- a bin
  have hpG : plcG b0 z = 5 := by unfold plcG; rw [if_neg c1, if_neg c2, if_neg c3]
  rw [hpG] at hgo
  have hbo := hbo (by omega)
  have hmc := mcl_lt z.2.2.1 (z.1.2.1 b0)
  have hbE : (binN z b0 : Int) = 4 * (mcl z.2.2.1 (z.1.2.1 b0) : Int) + z.1.1 b0 - 1 := by unfold binN; omega
  have hbl : binN z b0 < 12 := by omega
  have hdv : dvI (binN z b0 : Int) 4 = (mcl z.2.2.1 (z.1.2.1 b0) : Int) := by
    have h4 := dvN (x := binN z b0) (k := 4) (y := (binN z b0 : Int)) (w := 4) rfl rfl (by omega) (by omega) (by omega)
    rw [h4]
    omega
  have hrub := rub_eq (N := N) (b := b0) (bb := (b0 : Int)) (z := z2) hN (by omega) rfl hSI (by rw [k2]; omega) (by rw [k4]; omega)
  obtain ⟨hbf, -⟩ := binFor_eq (N := N) (b := b0) (bb := (b0 : Int)) (z := rubS b0 z2) hN (by omega) rfl (by rw [rub_keep.2.1]; exact hSI) (by rw [rub_keep.2.2.2, k2]; omega) (by rw [rub_keep.2.2.1, k1]; exact q1)
  rw [binN_rub, k10] at hbf
  have hB3 := rub_G (b := b0) hB2 hb (by rw [k4]; omega)
  have hBI3 := rub_BI (b := b0) hBI2
  have hLM3 : ∀ K : Int, LM z n K → LM (rubS b0 z2) n (K + 2) := fun K h => LM_mono (rub_LM (hLM2 K h)) (by omega)
  obtain ⟨g1, g2, g3, g4⟩ := rub_keep (b := b0) (z := z2)
  have hsz := (hG b0 hb).2.1
  have hnm : nn2 (mcl z.2.2.1 (z.1.2.1 b0)) = z.2.2.1 (mcl z.2.2.1 (z.1.2.1 b0)) := by rw [hnn2 _ (by omega) (by omega)]; exact n1 _ (by omega)
  have hrm := hsr (mcl z.2.2.1 (z.1.2.1 b0)) (by omega)
  rw [k2, k5] at hB3
  generalize hz3 : rubS b0 z2 = z3 at *
  have hs33 : (if (g, m1, p, w1, nn2).1 (3 * b0 + 1) = (g, m1, p, w1, nn2).2.2.2.2 (mcl z.2.2.1 (z.1.2.1 b0)) then ((g, m1, p, w1, nn2).1, up (g, m1, p, w1, nn2).2.1 (3 * b0) ((g, m1, p, w1, nn2).2.1 (3 * b0) + (if (g, m1, p, w1, nn2).2.1 (3 * b0) = 9 then 0 else 1)), (g, m1, p, w1, nn2).2.2.1, (g, m1, p, w1, nn2).2.2.2.1, up (g, m1, p, w1, nn2).2.2.2.2 12 ((g, m1, p, w1, nn2).2.2.2.2 12 + 1)) else (g, m1, p, w1, nn2)) = (g, (if z.1.2.1 b0 = z.2.2.1 (mcl z.2.2.1 (z.1.2.1 b0)) then up m1 (3 * b0) (m1 (3 * b0) + (if m1 (3 * b0) = 9 then 0 else 1)) else m1), p, w1, (if z.1.2.1 b0 = z.2.2.1 (mcl z.2.2.1 (z.1.2.1 b0)) then up nn2 12 (nn2 12 + 1) else nn2)) := by
    dsimp only
    by_cases e : z.1.2.1 b0 = z.2.2.1 (mcl z.2.2.1 (z.1.2.1 b0))
    · have e' : g (3 * b0 + 1) = nn2 (mcl z.2.2.1 (z.1.2.1 b0)) := by rw [hsz, hnm]; exact e
      rw [if_pos e', if_pos e, if_pos e]
    · have e' : ¬ g (3 * b0 + 1) = nn2 (mcl z.2.2.1 (z.1.2.1 b0)) := by rw [hsz, hnm]; exact e
      rw [if_neg e', if_neg e, if_neg e]
  have hrb := fun (K : bLgmpwn → Option bLgmpwn) => rubL (K := K) (s21 := (g, m1, p, w1, nn2)) (b0 := b0) (v15 := (b0 : Int)) (u27 := (binN z b0 : Int)) rfl (by omega) hdv (by show 0 ≤ m1 (3 * b0) ∧ m1 (3 * b0) ≤ 9; rw [hm1]; exact q4)
  rw [hs33] at hrb
  generalize hm3 : (if z.1.2.1 b0 = z.2.2.1 (mcl z.2.2.1 (z.1.2.1 b0)) then up m1 (3 * b0) (m1 (3 * b0) + (if m1 (3 * b0) = 9 then 0 else 1)) else m1) = m3 at *
  generalize hn3 : (if z.1.2.1 b0 = z.2.2.1 (mcl z.2.2.1 (z.1.2.1 b0)) then up nn2 12 (nn2 12 + 1) else nn2) = nn3 at *
  have hL3 : LI z3.2.1 n b0 := by rw [g1]; exact hL
  have hst3 : z3.2.1.2.2.1 b0 = -5 := by rw [g1]; exact hst
  have hw3 : z3.2.1.2.2.2.2.1 0 = (W : Int) := by rw [g1]; exact a0
  obtain ⟨⟨y1, y2, y7, y8⟩, -, -, -, -⟩ := id hB3
  have hin := inG (N := N) (q := binN z b0) (qq := (binN z b0 : Int)) (nn := nn3) hN hn20 hC y7 hP hbl rfl
  have hib := PI_ib hC.2.2 hbl
  have y6 : nn3 6 = z.2.2.1 6 := by rw [y1 6 (by omega), g2, k5]
  have r6 := hsr 6 (by omega)
  by_cases c4 : z.2.1.2.2.2.2.2 (binN z b0) < z.2.2.1 6
  · have hp : plcS b0 z2 = 5 := by unfold plcS; rw [k5, k4, k3, k2, k9, k10, if_neg c1, if_neg c2, if_neg c3, if_pos c4]
    refine ⟨(z3.1, (up z3.2.1.1 b0 5, up z3.2.1.2.1 b0 (binN z b0 : Int), up z3.2.1.2.2.1 b0 (-5), z3.2.1.2.2.2.1, up z3.2.1.2.2.2.2.1 5 (z3.2.1.2.2.2.2.1 5 + 1), up z3.2.1.2.2.2.2.2 (binN z b0) (z3.2.1.2.2.2.2.2 (binN z b0) + 1)), z3.2.2), m3, up (up p (3 * b0) 5) (3 * b0 + 1) (binN z b0 : Int), w1, nn3, ?_, ?_, ⟨hBI3, by show SI z3.2.2.1; rw [g2]; exact hSI, bin_PI hL3 hb hbl⟩, bin_G hB3 hst3, ?_, fun K h1 h2 => LM_mono (pl_LM (by omega) (hLM3 K h2) (fun b _ => up_or b)) (by omega)⟩
    · rw [hp]
      unfold sfK
      exact (gd_q (rg_of (by first | omega | (dsimp only; omega))) (it_q2 (by first | omega | (dsimp only; omega)) (it_q2 (by first | omega | (dsimp only; omega)) (it_q1 (by first | omega | (dsimp only; omega)) (bd_q hrub (bd_q hbf (bd_q (bringToBin_eq (b := b0) (k := binN z b0) (by omega) rfl hbl rfl) (rfl))))))))
    · refine hlaw _ (bd_q hgo ?_)
      unfold lsK
      refine (gd_q (rg_of (by first | omega | (dsimp only; omega))) (it_q1 (by first | omega | (dsimp only; omega)) (bd_q hbo (gd_q (inb_of (by first | omega | (dsimp only; omega))) (gd_q (by rw [hdv]; exact (inb_of (by first | omega | (dsimp only; omega)))) (gd_q (by show rg (g (3 * (b0 : Int) + 1).toNat) = true; rw [t31, hsz]; exact (rg_of (by first | omega | (dsimp only; omega)))) (gd_q (by show rg (nn2 (dvI (binN z b0 : Int) 4).toNat) = true; rw [hdv, tn, hnm]; exact (rg_of (by first | omega | (dsimp only; omega)))) (?_))))))))
      refine Eq.trans (hrb _) ?_
      refine (bd_q hin (gd_q (rg_of (by first | omega | (dsimp only; omega))) (gd_q (by show rg (nn3 6) = true; rw [y6]; exact (rg_of (by first | omega | (dsimp only; omega)))) (jn2_q (it_q2 (by show ¬ nn3 6 ≤ _; rw [y6]; omega) (gd_q (rg_of (by first | omega | (dsimp only; omega))) (jn2_q (it_q2 (by first | omega | (dsimp only; omega)) (gd_q (inb_of (by first | omega | (dsimp only; omega))) (nm_q (jn2_q (it_q2 (by first | omega | (dsimp only; omega)) (nm_q (jn1_q (it_q2 (by first | omega | (dsimp only; omega)) (?_))))))))))))))))
      simp only [t3, t31]
    · show z.2.1.2.2.2.2.1 0 - 1 ≤ up z3.2.1.2.2.2.2.1 5 (z3.2.1.2.2.2.2.1 5 + 1) 0
      rw [up_n _ _ (by omega), hw3]
      omega
  · have hp : plcS b0 z2 = 0 := by unfold plcS; rw [k5, k4, k3, k2, k9, k10, if_neg c1, if_neg c2, if_neg c3, if_neg c4]
    have y14 : nn3 14 = (W : Int) := by rw [y8]; exact hw3
    refine ⟨(z3.1, bringS b0 0 (z3.2.1.1, z3.2.1.2.1, z3.2.1.2.2.1, up z3.2.1.2.2.2.1 W (b0 : Int), z3.2.1.2.2.2.2), z3.2.2.1, z3.2.2.2.1, z3.2.2.2.2.1, z3.2.2.2.2.2.1, z3.2.2.2.2.2.2.1 + 1, z3.2.2.2.2.2.2.2), m3, up (up p (3 * b0) 0) (3 * b0 + 1) (-5), up w1 W (b0 : Int), up (up nn3 14 (nn3 14 + 1)) 11 (up nn3 14 (nn3 14 + 1) 11 + 1), ?_, ?_, ⟨hBI3, by show SI z3.2.2.1; rw [g2]; exact hSI, hop_PI hL3 hb hw3⟩, back_G (hop_G hB3 hw3 hst3), ?_, fun K h1 h2 => LM_mono (back_LM (pl_LM (by omega) (hLM3 K h2) (fun b _ => up_or b))) (by omega)⟩
    · rw [hp]
      unfold sfK
      exact (gd_q (rg_of (by first | omega | (dsimp only; omega))) (it_q1 (by first | omega | (dsimp only; omega)) (bd_q hrub (nm_q (bd_q (bringToHopper_eq (b := b0) (w := W) (by omega) rfl hw3 hw40) (rfl))))))
    · refine hlaw _ (bd_q hgo ?_)
      unfold lsK
      refine (gd_q (rg_of (by first | omega | (dsimp only; omega))) (it_q1 (by first | omega | (dsimp only; omega)) (bd_q hbo (gd_q (inb_of (by first | omega | (dsimp only; omega))) (gd_q (by rw [hdv]; exact (inb_of (by first | omega | (dsimp only; omega)))) (gd_q (by show rg (g (3 * (b0 : Int) + 1).toNat) = true; rw [t31, hsz]; exact (rg_of (by first | omega | (dsimp only; omega)))) (gd_q (by show rg (nn2 (dvI (binN z b0 : Int) 4).toNat) = true; rw [hdv, tn, hnm]; exact (rg_of (by first | omega | (dsimp only; omega)))) (?_))))))))
      refine Eq.trans (hrb _) ?_
      refine (bd_q hin (gd_q (rg_of (by first | omega | (dsimp only; omega))) (gd_q (by show rg (nn3 6) = true; rw [y6]; exact (rg_of (by first | omega | (dsimp only; omega)))) (jn2_q (it_q1 (by show nn3 6 ≤ _; rw [y6]; omega) (gd_q (rg_of (by first | omega | (dsimp only; omega))) (jn2_q (it_q1 (by first | omega | (dsimp only; omega)) (gd_q (inb_of (by first | omega | (dsimp only; omega))) (nm_q (jn2_q (it_q1 (by first | omega | (dsimp only; omega)) (nm_q (jn1_q (it_q1 (by first | omega | (dsimp only; omega)) (gd_q (by show inb (nn3 14) 20 = true; rw [y14]; exact (inb_of (by first | omega | (dsimp only; omega)))) (nm_q (nm_q (nm_q (?_))))))))))))))))))))
      simp only [t3, t31, y14, tn]
    · show z.2.1.2.2.2.2.1 0 - 1 ≤ up z3.2.1.2.2.2.2.1 0 (z3.2.1.2.2.2.2.1 0 + 1) 0
      rw [up_s, hw3]
      omega
