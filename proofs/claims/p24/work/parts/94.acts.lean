/-! p24: the acts of a turn, in class and law -/
def Aok (e : Option (Int × bLXgmpwn)) (S P V : bS) (hs : Int) (n : Nat) : Prop := ∃ (bt' : bBT) (O' : bO) (H' : bH) (S' : bS) (g' m' p' w' nn' : Nat → Int) (n' : Nat), e = some (1, ((bt', O', H', S', P, V, hs), g', m', p', w', nn')) ∧ (0 ≤ H'.1 ∧ H'.1 ≤ 4) ∧ n ≤ n' ∧ n' ≤ 20 ∧ CI S' n' ∧ GB S' g' m' p' w' nn' n' ∧ ∀ K : Int, 0 ≤ K → LM S n K → LM S' n' (K + 200)
theorem lowIf {a : Int} {c : Prop} [Decidable c] {u v : Int} {p q : Nat} (eu : u = (p : Int)) (ev : v = (q : Int)) (hp : 0 < p ∧ p < 1000) (hq : 0 < q ∧ q < 1000) : ∃ r : Nat, f_L_low a (if c then u else v) = some (r : Int) ∧ (r < p ∨ r < q) := by
  by_cases e : c
  · rw [if_pos e]
    obtain ⟨r, r1, r2⟩ := low1 (x := a) eu hp.1 hp.2
    exact ⟨r, r1, Or.inl r2⟩
  · rw [if_neg e]
    obtain ⟨r, r1, r2⟩ := low1 (x := a) ev hq.1 hq.2
    exact ⟨r, r1, Or.inr r2⟩
-- the magnet lets go
theorem letL_loop {N n : Nat} {X : bX} {g m w nn p0 : Nat → Int} {a1 a2 a3 a4 : Int} (hnn : nn 13 = (n : Int)) (hn20 : n ≤ 20) (hp : ∀ b, b < n → rg (p0 (3 * b)) = true) : ∀ (d i k : Nat) (p : Nat → Int), i + d = n → d < k → (∀ b, b < i → p (3 * b) = (if p0 (3 * b) = 2 then 3 else p0 (3 * b))) → (∀ b, i ≤ b → p (3 * b) = p0 (3 * b)) → (∀ b k, 0 < k → k < 3 → p (3 * b + k) = p0 (3 * b + k)) → ∃ p' : Nat → Int, (∀ kt : Int → Int → Int → Int → Int → bLXgmpwn → Option (Int × bLXgmpwn), f_L_acts_L134 N kt k a1 a2 a3 a4 (i : Int) (X, g, m, p, w, nn) = kt a1 a2 a3 a4 (n : Int) (X, g, m, p', w, nn)) ∧ mgP p0 p' n := by
  intro d
  induction d with
  | zero =>
    intro i k p hi hk h1 h2 h3
    obtain ⟨k, rfl⟩ : ∃ j, k = j + 1 := ⟨k - 1, by omega⟩
    obtain rfl : i = n := by omega
    refine ⟨p, fun kt => ?_, fun b hb => h1 b hb, fun b k _ q1 q2 => h3 b k q1 q2⟩
    rw [f_L_acts_L134]
    exact (gd_q (rg_of (by first | omega | (dsimp only; omega))) (gd_q (rg_of (by first | omega | (dsimp only; omega))) (it_q1 (by first | omega | (dsimp only; omega)) (rfl))))
  | succ d ih =>
    intro i k p hi hk h1 h2 h3
    obtain ⟨k, rfl⟩ : ∃ j, k = j + 1 := ⟨k - 1, by omega⟩
    obtain ⟨p', g1, g2⟩ := ih (i + 1) k (up p (3 * i) (if p (3 * i) = 2 then 3 else p (3 * i))) (by omega) (by omega) (fun b hb => by
      by_cases e : b = i
      · subst e
        rw [up_s, h2 b (Nat.le_refl _)]
      · rw [up_n _ _ (by omega)]
        exact h1 b (by omega)) (fun b hb => by
      rw [up_n _ _ (by omega)]
      exact h2 b (by omega)) (fun b k q1 q2 => by
      rw [up_n _ _ (by omega)]
      exact h3 b k q1 q2)
    refine ⟨p', fun kt => ?_, g2⟩
    have hr : rg (p (3 * i)) = true := by
      rw [h2 i (Nat.le_refl _)]
      exact hp i (by omega)
    rw [f_L_acts_L134]
    refine (gd_q (rg_of (by first | omega | (dsimp only; omega))) (gd_q (rg_of (by first | omega | (dsimp only; omega))) (it_q2 (by first | omega | (dsimp only; omega)) (gd_q (inb_of (by first | omega | (dsimp only; omega))) (gd_q hr (?_))))))
    refine Eq.trans ifJ ?_
    exact nm_q (g1 kt)
theorem letA {N n : Nat} {bt : bBT} {O : bO} {H : bH} {S P V : bS} {hs a1 a2 a3 : Int} {g m p w nn : Nat → Int} (hN : 100 ≤ N) (hn20 : n ≤ 20) (hH : 0 ≤ H.1 ∧ H.1 ≤ 4) (hC : CI S n) (hB : GB S g m p w nn n) : Aok (bd (f_L_at N 2 (p, nn)) fun u68 => f_L_acts_L134 N (fun v88 v89 v90 v91 v92 s93 => bd (f_X7_letGo N  s93.1) fun u94 => nm (u94.2, s93.2) fun s96 => gd (rg v91) <| jn2 (fun (v100 : Int) (s101 : bLXgmpwn) => gd (rg u94.1) <| gd (rg v100) <| jn2 (fun (v106 : Int) (s107 : bLXgmpwn) => gd (inb v106 2) <| some (v106, s107)) fun j108 => if u94.1 = v100 then (j108 1 s101) else (j108 0 s101)) fun j102 => if v91 = 0 then (j102 (-5) s96) else (j102 v91 s96)) N a1 a2 a3 u68 0 ((bt, O, H, S, P, V, hs), g, m, p, w, nn)) S P V hs n := by
  obtain ⟨hGN, hG, hM, hP, hW⟩ := hB
  have hat := atG (N := N) (q := 2) (qq := 2) (nn := nn) (by omega) hn20 hC hGN.2.2.1 hP (by omega) rfl
  have hz := PI_at hC.2.2 (q := 2) (by omega)
  obtain ⟨p', l1, l2⟩ := letL_loop (N := N) (X := (bt, O, H, S, P, V, hs)) (g := g) (m := m) (w := w) (nn := nn) (p0 := p) (a1 := a1) (a2 := a2) (a3 := a3) (a4 := S.2.1.2.2.2.2.1 2) hGN.2.2.1 hn20 (fun b hb => by
    have := GP_rg hC hP hb
    exact (rg_of (by first | omega | (dsimp only; omega)))) n 0 N p (by omega) (by omega) (fun b hb => absurd hb (by omega)) (fun b _ => rfl) (fun b k _ _ => rfl)
  by_cases e : S.2.1.2.2.2.2.1 2 = 0
  · have hno : ∀ b, b < n → S.2.1.1 b ≠ 2 := by
      have h1 := hC.2.2.2.1.1 2 (by omega)
      rw [e] at h1
      exact cnt_zero h1.symm
    have hP' : GP S p' n := mgP_GP (q := S.2.1) l2 hP (fun b hb => by rw [if_neg (hno b hb)]) (fun b hb => rfl) (fun b hb => rfl)
    have hcl : f_X7_letGo N (bt, O, H, S, P, V, hs) = some (-5, (bt, O, H, S, P, V, hs)) := by
      unfold f_X7_letGo
      exact (nm_q (gd_q (rg_of (by first | omega | (dsimp only; omega))) (it_q1 e (rfl))))
    refine ⟨bt, O, H, S, g, m, p', w, nn, n, ?_, hH, Nat.le_refl _, hn20, hC, ⟨hGN, hG, hM, hP', hW⟩, fun K h1 h2 => LM_mono h2 (by omega)⟩
    refine bd_q hat ?_
    refine Eq.trans (l1 _) ?_
    exact (bd_q hcl (nm_q (gd_q (show rg (S.2.1.2.2.2.2.1 2) = true from (rg_of (by first | omega | (dsimp only; omega)))) (jn2_q (it_q1 e (gd_q (show rg (-5) = true by decide) (gd_q (show rg (-5) = true by decide) (jn2_q (it_q1 rfl (gd_q (inb_of (by first | omega | (dsimp only; omega))) (rfl)))))))))))
  · obtain ⟨H', g1, g2⟩ := remX hH hC
    obtain ⟨q, q1, q2, q3, q4, q5, q6, q7⟩ := magC (N := N) (by omega) hC
    have hP' : GP (S.1, q, S.2.2) p' n := mgP_GP l2 hP q3 q4 q5
    have hcl : f_X7_letGo N (bt, O, H, S, P, V, hs) = some (S.2.1.2.2.2.2.1 2, (bt, O, H', (S.1, q, S.2.2), P, V, hs)) := by
      unfold f_X7_letGo
      exact (nm_q (gd_q (rg_of (by first | omega | (dsimp only; omega))) (it_q2 e (bd_q g1 (nm_q (nm_q (bd_q q1 (nm_q (rfl)))))))))
    refine ⟨bt, O, H', (S.1, q, S.2.2), g, m, p', w, nn, n, ?_, g2, Nat.le_refl _, hn20, q2, ⟨⟨hGN.1, hGN.2.1, hGN.2.2.1, hGN.2.2.2.trans q7.symm⟩, hG, hM, hP', fun k hk => ?_⟩, fun K h1 h2 => LM_mono (pl_LM h1 h2 (fun b hb => Or.inl (q5 b hb))) (by omega)⟩
    · refine bd_q hat ?_
      refine Eq.trans (l1 _) ?_
      exact (bd_q hcl (nm_q (gd_q (show rg (S.2.1.2.2.2.2.1 2) = true from (rg_of (by first | omega | (dsimp only; omega)))) (jn2_q (it_q2 e (gd_q (show rg (S.2.1.2.2.2.2.1 2) = true from (rg_of (by first | omega | (dsimp only; omega)))) (gd_q (show rg (S.2.1.2.2.2.2.1 2) = true from (rg_of (by first | omega | (dsimp only; omega)))) (jn2_q (it_q1 rfl (gd_q (inb_of (by first | omega | (dsimp only; omega))) (rfl)))))))))))
    · have hk' : (k : Int) < q.2.2.2.2.1 0 := hk
      rw [q7] at hk'
      show w k = q.2.2.2.1 k
      rw [q6]
      exact hW k hk'
-- a bin is poured
theorem leave_G {z : bS} {g m p w nn : Nat → Int} {n b : Nat} (h : GB z g m p w nn n) (h0 : 0 < z.2.1.1 b) : GB (z.1, leaveS b z.2.1, z.2.2) g m p w nn n := by
  obtain ⟨hGN, hG, hM, hP, hW⟩ := h
  refine ⟨⟨hGN.1, hGN.2.1, hGN.2.2.1, hGN.2.2.2.trans (leave_at0 h0).symm⟩, hG, hM, hP, fun k hk => ?_⟩
  have hk' : (k : Int) < (leaveS b z.2.1).2.2.2.2.1 0 := hk
  rw [leave_at0 h0] at hk'
  exact hW k hk'
theorem pourG_loop {N n q : Nat} {X : bX} {g m : Nat → Int} {a1 a2 a3 : Int} (hN : 100 ≤ N) (hn20 : n ≤ 20) (hq : q < 12) (e3 : a3 = (q : Int)) : ∀ (d i : Nat), i + d = n → ∀ (z : bS) (p w nn : Nat → Int) (pd : Int) (fu fu' : Nat), CI z n → GB z g m p w nn n → (∀ b, b < i → z.2.1.2.1 b ≠ (q : Int)) → d < fu → d < fu' → ∃ (z' : bS) (p' w' nn' : Nat → Int), f_X5_emptyBin_L2 N fu a3 (i : Int) z = some z' ∧ (∀ kt : Int → Int → Int → Int → Int → bLXgmpwn → Option (Int × bLXgmpwn), f_L_acts_L207 N kt fu' a1 a2 a3 pd (i : Int) (X, g, m, p, w, nn) = kt a1 a2 a3 (pd + cnt n z.2.1.2.1 (q : Int)) (n : Int) (X, g, m, p', w', nn')) ∧ CI z' n ∧ GB z' g m p' w' nn' n ∧ (cnt n z.2.1.2.1 (q : Int) = 0 → z' = z) ∧ ∀ K : Int, 0 ≤ K → LM z n K → LM z' n K := by
  subst e3
  intro d
  induction d with
  | zero =>
    intro i hi z p w nn pd fu fu' hC hB hno hf hf'
    obtain ⟨fu, rfl⟩ : ∃ j, fu = j + 1 := ⟨fu - 1, by omega⟩
    obtain ⟨fu', rfl⟩ : ∃ j, fu' = j + 1 := ⟨fu' - 1, by omega⟩
    obtain rfl : i = n := by omega
    have h40 := CI_40 hC
    have hn := hC.1.1
    have hnn : nn 13 = (i : Int) := hB.1.2.2.1
    refine ⟨z, p, w, nn, ?_, fun kt => ?_, hC, hB, fun _ => rfl, fun K _ h => h⟩
    · rw [f_X5_emptyBin_L2]
      exact (gd_q (rg_of (by first | omega | (dsimp only; omega))) (gd_q (rg_of (by first | omega | (dsimp only; omega))) (it_q1 (by first | omega | (dsimp only; omega)) (rfl))))
    · rw [f_L_acts_L207, cnt_none hno, Int.add_zero]
      exact (gd_q (rg_of (by first | omega | (dsimp only; omega))) (gd_q (show rg (nn 13) = true by rw [hnn]; exact (rg_of (by first | omega | (dsimp only; omega)))) (it_q1 (show nn 13 ≤ (i : Int) by omega) (rfl))))
  | succ d ih =>
    intro i hi z p w nn pd fu fu' hC hB hno hf hf'
    obtain ⟨fu, rfl⟩ : ∃ j, fu = j + 1 := ⟨fu - 1, by omega⟩
    obtain ⟨fu', rfl⟩ : ∃ j, fu' = j + 1 := ⟨fu' - 1, by omega⟩
    have h40 := CI_40 hC
    have hn := hC.1.1
    have hnn : nn 13 = (n : Int) := hB.1.2.2.1
    have hin : i < n := by omega
    have hpb := bin_rg hC hin
    have hpb2 := CI_p hC hin
    unfold PB at hpb2
    obtain ⟨p1, p2, p3⟩ := hB.2.2.2.1 i hin
    have r0 : rg (p (3 * i)) = true := by rw [p1]; exact (rg_of (by first | omega | (dsimp only; omega)))
    have r1 : rg (p (3 * i + 1)) = true := by rw [p2]; exact (rg_of (by first | omega | (dsimp only; omega)))
    by_cases e : z.2.1.2.1 i = (q : Int)
    · have h5 : z.2.1.1 i = 5 := hpb.2.2.2.2.2 (by omega)
      have hL := leave_LI hC.2.2 hin (by omega)
      have hw := LI_w hL hin
      obtain ⟨W, hw1⟩ : ∃ W : Nat, (leaveS i z.2.1).2.2.2.2.1 0 = (W : Int) := ⟨((leaveS i z.2.1).2.2.2.2.1 0).toNat, by omega⟩
      have hPI := hop_PI hL hin hw1
      have hG1 := leave_G (b := i) hB (by omega)
      have h14 : nn 14 = (W : Int) := hG1.1.2.2.2.trans hw1
      have hG2 := hop_G (b0 := i) hG1 hw1 (show (leaveS i z.2.1).2.2.1 i = -5 from hpb2.2.2.2.2 (by omega))
      have hct := cnt_up z.2.1.2.1 (-5) (q : Int) hin
      rw [if_pos e, if_neg (show ¬ (-5 : Int) = (q : Int) by omega)] at hct
      have hcp := cnt_pos hin e
      obtain ⟨z', p', w', nn', g1, g2, g3, g4, g5, g6⟩ := ih (i + 1) (by omega) (z.1, bringS i 0 ((leaveS i z.2.1).1, (leaveS i z.2.1).2.1, (leaveS i z.2.1).2.2.1, up (leaveS i z.2.1).2.2.2.1 W (i : Int), (leaveS i z.2.1).2.2.2.2), z.2.2) _ _ _ (pd + 1) fu fu' ⟨hC.1, hC.2.1, hPI⟩ hG2 (fun b hb => by
        show up z.2.1.2.1 i (-5) b ≠ (q : Int)
        by_cases eb : b = i
        · subst eb
          rw [up_s]
          omega
        · rw [up_n _ _ eb]
          exact hno b (by omega)) (by omega) (by omega)
      have ec : (pd + 1) + cnt n (up z.2.1.2.1 i (-5)) (q : Int) = pd + cnt n z.2.1.2.1 (q : Int) := by omega
      refine ⟨z', p', w', nn', ?_, fun kt => ?_, g3, g4, fun h => absurd h (by omega), fun K h1 h2 => g6 K h1 (pl_LM h1 h2 (fun b _ => up_or b))⟩
      · rw [f_X5_emptyBin_L2]
        exact (gd_q (rg_of (by first | omega | (dsimp only; omega))) (gd_q (rg_of (by first | omega | (dsimp only; omega))) (it_q2 (by first | omega | (dsimp only; omega)) (gd_q (inb_of (by first | omega | (dsimp only; omega))) (gd_q (by rw [tn]; exact (rg_of (by first | omega | (dsimp only; omega)))) (gd_q (rg_of (by first | omega | (dsimp only; omega))) (it_q1 e (bd_q (leave_eq (b := i) (by omega) rfl (by omega) (by omega)) (nm_q (bd_q (bringToHopper_eq (b := i) (w := W) (by omega) rfl hw1 (by omega)) (nm_q (g1))))))))))))
      · rw [← ec, f_L_acts_L207]
        refine (gd_q (rg_of (by first | omega | (dsimp only; omega))) (gd_q (show rg (nn 13) = true by rw [hnn]; exact (rg_of (by first | omega | (dsimp only; omega)))) (it_q2 (show ¬ nn 13 ≤ (i : Int) by omega) (gd_q (inb_of (by first | omega | (dsimp only; omega))) (gd_q r0 (jn2_q (it_q1 (show p (3 * i) = 5 by rw [p1, h5]) (gd_q (inb_of (by first | omega | (dsimp only; omega))) (gd_q r1 (gd_q (rg_of (by first | omega | (dsimp only; omega))) (it_q1 (show p (3 * i + 1) = (q : Int) by rw [p2, e]) (nm_q (nm_q (gd_q (show inb (nn 14) 20 = true by rw [h14]; exact (inb_of (by first | omega | (dsimp only; omega)))) (nm_q (nm_q (?_)))))))))))))))))
        simp only [t3, t31, h14, tn]
        rw [h14] at g2
        exact g2 kt
    · obtain ⟨z', p', w', nn', g1, g2, g3, g4, g5, g6⟩ := ih (i + 1) (by omega) z p w nn pd fu fu' hC hB (fun b hb => by
        by_cases eb : b = i
        · subst eb
          exact e
        · exact hno b (by omega)) (by omega) (by omega)
      refine ⟨z', p', w', nn', ?_, fun kt => ?_, g3, g4, g5, g6⟩
      · rw [f_X5_emptyBin_L2]
        exact (gd_q (rg_of (by first | omega | (dsimp only; omega))) (gd_q (rg_of (by first | omega | (dsimp only; omega))) (it_q2 (by first | omega | (dsimp only; omega)) (gd_q (inb_of (by first | omega | (dsimp only; omega))) (gd_q (by rw [tn]; exact (rg_of (by first | omega | (dsimp only; omega)))) (gd_q (rg_of (by first | omega | (dsimp only; omega))) (it_q2 e (g1))))))))
      · rw [f_L_acts_L207]
        refine (gd_q (rg_of (by first | omega | (dsimp only; omega))) (gd_q (show rg (nn 13) = true by rw [hnn]; exact (rg_of (by first | omega | (dsimp only; omega)))) (it_q2 (show ¬ nn 13 ≤ (i : Int) by omega) (gd_q (inb_of (by first | omega | (dsimp only; omega))) (gd_q r0 (jn2_q (?_)))))))
        by_cases e5 : p (3 * i) = 5
        · exact (it_q1 e5 (gd_q (inb_of (by first | omega | (dsimp only; omega))) (gd_q r1 (gd_q (rg_of (by first | omega | (dsimp only; omega))) (it_q2 (show ¬ p (3 * i + 1) = (q : Int) by rw [p2]; exact e) (g2 kt))))))
        · exact (it_q2 e5 (g2 kt))
theorem pourA {N n q : Nat} {bt : bBT} {O : bO} {H : bH} {S P V : bS} {hs a1 a2 a3 : Int} {g m p w nn : Nat → Int} (hN : 100 ≤ N) (hn20 : n ≤ 20) (hH : 0 ≤ H.1 ∧ H.1 ≤ 4) (hC : CI S n) (hB : GB S g m p w nn n) (hq : q < 12) (e3 : a3 = (q : Int)) : Aok (f_L_acts_L207 N (fun v143 v144 v145 v146 v147 s148 => bd (f_X7_pour N v145 s148.1) fun u149 => nm (u149.2, s148.2) fun s151 => gd (rg v146) <| jn2 (fun (v155 : Int) (s156 : bLXgmpwn) => gd (rg u149.1) <| gd (rg v155) <| jn2 (fun (v161 : Int) (s162 : bLXgmpwn) => gd (inb v161 2) <| some (v161, s162)) fun j163 => if u149.1 = v155 then (j163 1 s156) else (j163 0 s156)) fun j157 => if v146 = 0 then (j157 (-5) s151) else (j157 v146 s151)) N a1 a2 a3 0 0 ((bt, O, H, S, P, V, hs), g, m, p, w, nn)) S P V hs n := by
  have hib := hC.2.2.2.1.2 q hq
  have hz := PI_ib hC.2.2 hq
  obtain ⟨z', p', w', nn', g1, g2, g3, g4, g5, g6⟩ := pourG_loop (N := N) (X := (bt, O, H, S, P, V, hs)) (a1 := a1) (a2 := a2) (a3 := a3) hN hn20 hq e3 n 0 (by omega) S p w nn 0 N N hC hB (fun b hb => absurd hb (by omega)) (by omega) (by omega)
  rw [← hib, Int.zero_add] at g2
  rw [← hib] at g5
  by_cases e : S.2.1.2.2.2.2.2 q = 0
  · have hcl : f_X7_pour N a3 (bt, O, H, S, P, V, hs) = some (-5, (bt, O, H, S, P, V, hs)) := by
      subst e3
      unfold f_X7_pour
      exact (bd_q (isBinX hq rfl) (gd_q (rg_of (by first | omega | (dsimp only; omega))) (it_q2 (by first | omega | (dsimp only; omega)) (gd_q (inb_of (by first | omega | (dsimp only; omega))) (nm_q (gd_q (show rg (S.2.1.2.2.2.2.2 q) = true from (rg_of (by first | omega | (dsimp only; omega)))) (it_q1 e (rfl))))))))
    have e' := g5 e
    subst e'
    refine ⟨bt, O, H, z', g, m, p', w', nn', n, ?_, hH, Nat.le_refl _, hn20, hC, g4, fun K h1 h2 => LM_mono h2 (by omega)⟩
    refine Eq.trans (g2 _) ?_
    exact (bd_q hcl (nm_q (gd_q (show rg (z'.2.1.2.2.2.2.2 q) = true from (rg_of (by first | omega | (dsimp only; omega)))) (jn2_q (it_q1 e (gd_q (show rg (-5) = true by decide) (gd_q (show rg (-5) = true by decide) (jn2_q (it_q1 rfl (gd_q (inb_of (by first | omega | (dsimp only; omega))) (rfl)))))))))))
  · obtain ⟨H', r1, r2⟩ := remX hH hC
    have hcl : f_X7_pour N a3 (bt, O, H, S, P, V, hs) = some (S.2.1.2.2.2.2.2 q, (bt, O, H', z', P, V, hs)) := by
      subst e3
      unfold f_X7_pour
      exact (bd_q (isBinX hq rfl) (gd_q (rg_of (by first | omega | (dsimp only; omega))) (it_q2 (by first | omega | (dsimp only; omega)) (gd_q (inb_of (by first | omega | (dsimp only; omega))) (nm_q (gd_q (show rg (S.2.1.2.2.2.2.2 q) = true from (rg_of (by first | omega | (dsimp only; omega)))) (it_q2 e (bd_q r1 (nm_q (nm_q (bd_q g1 (nm_q (rfl)))))))))))))
    refine ⟨bt, O, H', z', g, m, p', w', nn', n, ?_, r2, Nat.le_refl _, hn20, g3, g4, fun K h1 h2 => LM_mono (g6 K h1 h2) (by omega)⟩
    refine Eq.trans (g2 _) ?_
    exact (bd_q hcl (nm_q (gd_q (show rg (S.2.1.2.2.2.2.2 q) = true from (rg_of (by first | omega | (dsimp only; omega)))) (jn2_q (it_q2 e (gd_q (show rg (S.2.1.2.2.2.2.2 q) = true from (rg_of (by first | omega | (dsimp only; omega)))) (gd_q (show rg (S.2.1.2.2.2.2.2 q) = true from (rg_of (by first | omega | (dsimp only; omega)))) (jn2_q (it_q1 rfl (gd_q (inb_of (by first | omega | (dsimp only; omega))) (rfl)))))))))))
-- a shirt
theorem shirtA {N n x : Nat} {bt : bBT} {O : bO} {H : bH} {S P V : bS} {hs xx x7 : Int} {g m p w nn : Nat → Int} (hN : 100 ≤ N) (hn20 : n ≤ 20) (hH : 0 ≤ H.1 ∧ H.1 ≤ 4) (hC : CI S n) (hB : GB S g m p w nn n) (hx : x < 12) (ex : xx = (x : Int)) : Aok (bd (f_L_low (srI x7 12) 4) fun u169 => gd (rg u169) <| jn2 (fun (v172 : Int) (s173 : bLXgmpwn) => bd (f_L_low (srI x7 7) v172) fun u176 => nm (1 + u176) fun v178 => bd (f_L_first N xx v178 (s173.2.2.1, s173.2.2.2.1, s173.2.2.2.2.2)) fun u180 => gd (rg u180) <| if 0 ≤ u180 then (bd (f_X7_shirt N xx v178 s173.1) fun u184 => nm (u184.2, s173.2) fun s186 => bd (f_L_sews N xx v178 (s186.2.2.1, s186.2.2.2.1, s186.2.2.2.2.2)) fun u189 => nm (s186.1, s186.2.1, u189.2.1, s186.2.2.2) fun s191 => nm (s191.1, s191.2.1, s191.2.2.1, u189.2.2.1, s191.2.2.2.2) fun s193 => nm (s193.1, s193.2.1, s193.2.2.1, s193.2.2.2.1, s193.2.2.2.2.1, u189.2.2.2) fun s195 => gd (rg u184.1) <| gd (rg u189.1) <| jn2 (fun (v199 : Int) (s200 : bLXgmpwn) => gd (inb v199 2) <| some (v199, s200)) fun j201 => if u184.1 = u189.1 then (j201 1 s195) else (j201 0 s195)) else (bd (f_X7_shirt N xx v178 s173.1) fun u205 => nm (u205.2, s173.2) fun s207 => bd (f_L_in N xx (s207.2.2.2.1, s207.2.2.2.2.2)) fun u210 => gd (rg u210) <| gd (rg v178) <| jn2 (fun (v214 : Int) (s215 : bLXgmpwn) => gd (rg u205.1) <| gd (rg ((-10) - v214)) <| jn2 (fun (v220 : Int) (s221 : bLXgmpwn) => gd (inb v220 2) <| some (v220, s221)) fun j222 => if u205.1 = ((-10) - v214) then (j222 1 s215) else (j222 0 s215)) fun j216 => if v178 ≤ u210 then (j216 2 s207) else (j216 1 s207))) fun j174 => if u169 = 0 then (j174 9 ((bt, O, H, S, P, V, hs), g, m, p, w, nn)) else (j174 3 ((bt, O, H, S, P, V, hs), g, m, p, w, nn))) S P V hs n := by
  obtain ⟨hGN, hG, hM, hP, hW⟩ := hB
  have h40 := CI_40 hC
  have s7 := SI_rg hC.2.1 7 (by omega)
  have hsp : 0 ≤ S.2.2.1 7 ∧ S.2.2.1 7 ≤ 9 := by
    have := hC.2.1
    unfold SI at this
    omega
  obtain ⟨-, f, c, -, hD, -⟩ := fill_eq (N := N) (O := O) (xx := (x : Int)) (by omega) hC hx rfl
  have hc := OD_c hD
  have hBR := BR_of hn20 hC hGN.2.2.1 hM hP
  have hO := OL_of (m := m) (p := p) hD (fun b hb => (hM b hb).2.1) (fun b hb => (hP b hb).2.1)
  have hsh : ∀ j, j < c → shm m f j = shf S f j := fun j hj => (hM _ (hD.1 j hj).1).2.1
  obtain ⟨u, u1, u2⟩ := low1 (x := srI x7 12) (n := 4) (k := 4) rfl (by omega) (by omega)
  obtain ⟨t, t1, t2⟩ := lowIf (a := srI x7 7) (c := (u : Int) = 0) (u := 9) (v := 3) (p := 9) (q := 3) rfl rfl (by omega) (by omega)
  have hfi := firstG (N := N) (sp := S.2.2.1 7) (mm := ((1 + t : Nat) : Int)) (by omega) hBR hx ex hO (show 1 ≤ 1 + t by omega) (by omega) rfl (hGN.1 7 (by omega)) hsp hc
  rw [fa_congr (show 1 ≤ 1 + t by omega) hsh] at hfi
  obtain ⟨O', f1, f2⟩ := fillX (N := N) (O := O) (by omega) hC hx ex hD
  have hfa := faC (N := N) (mm := ((1 + t : Nat) : Int)) (sp := S.2.2.1 7) (by omega) hC hD f2 (show 1 ≤ 1 + t by omega) (by omega) rfl (rg_of (by first | omega | (dsimp only; omega)))
  cases ho : fa (shf S f) c (1 + t) (S.2.2.1 7) (c + 1) 0 with
  | some k =>
    have hk := fa_some _ _ _ ho
    have hfk := (hD.1 k (by omega)).1
    rw [ho] at hfi hfa
    obtain ⟨H', r1, r2⟩ := remX hH hC
    obtain ⟨wf, z', p', nn', y1, y2, y3, y4, y5, y6, y7, y8, y9, y10, y11, y12, y13⟩ := sewsG (N := N) (xx := xx) (kk := (k : Int)) (mi := ((1 + t : Nat) : Int)) hN hn20 hC hGN hM hP hD hx ex f2 (show 1 ≤ 1 + t by omega) (by omega) rfl rfl ho
    have hcl : f_X7_shirt N xx ((1 + t : Nat) : Int) (bt, O, H, S, P, V, hs) = some (wf, (bt, O', H', z', P, V, hs)) := by
      unfold f_X7_shirt
      exact (bd_q (isBinX hx ex) (gd_q (rg_of (by first | omega | (dsimp only; omega))) (it_q2 (by first | omega | (dsimp only; omega)) (bd_q (isWX (show 1 ≤ 1 + t by omega) (by omega) rfl) (gd_q (rg_of (by first | omega | (dsimp only; omega))) (it_q2 (by first | omega | (dsimp only; omega)) (bd_q f1 (nm_q (nm_q (bd_q hfa (nm_q (gd_q (show rg (k : Int) = true from (rg_of (by first | omega | (dsimp only; omega)))) (it_q1 (show 0 ≤ (k : Int) by omega) (bd_q r1 (nm_q (nm_q (bd_q y1 (nm_q (nm_q (rfl))))))))))))))))))))
    refine ⟨bt, O', H', z', g, m, p', w, nn', n, ?_, r2, Nat.le_refl _, hn20, y3, ⟨y4, fun b hb => by rw [y6]; exact hG b hb, fun b hb => by rw [y6]; exact hM b hb, y5, fun j hj => by rw [y10] at hj; rw [y9]; exact hW j hj⟩, fun K h1 h2 => LM_mono (y13 K h2) (by omega)⟩
    refine (bd_q u1 (gd_q (rg_of (by first | omega | (dsimp only; omega))) (?_)))
    refine Eq.trans ifJ ?_
    exact (bd_q t1 (nm_y (show 1 + (t : Int) = ((1 + t : Nat) : Int) by omega) (bd_q hfi (gd_q (show rg (f k : Int) = true from (rg_of (by first | omega | (dsimp only; omega)))) (it_q1 (show 0 ≤ (f k : Int) by omega) (bd_q hcl (nm_q (bd_q y2 (nm_q (nm_q (nm_q (gd_q (show rg wf = true from (rg_of (by first | omega | (dsimp only; omega)))) (gd_q (show rg wf = true from (rg_of (by first | omega | (dsimp only; omega)))) (jn2_q (it_q1 rfl (gd_q (inb_of (by first | omega | (dsimp only; omega))) (rfl)))))))))))))))))
  | none =>
    rw [ho] at hfi hfa
    have u3 := refC (N := N) (bt := bt) (H := H) (p := (P, V, hs)) (mm := ((1 + t : Nat) : Int)) (by omega) hC hD f2 (show 1 ≤ 1 + t by omega) (by omega) rfl
    rw [ho] at u3
    have hmy := OD_many hC hx hD
    have hin := inG (N := N) (qq := xx) (by omega) hn20 hC hGN.2.2.1 hP hx ex
    rw [hmy] at hin
    have ew : why c (1 + t) none = (if ((1 + t : Nat) : Int) ≤ (c : Int) then 2 else 1) := by
      unfold why
      by_cases e : 1 + t ≤ c
      · rw [if_pos e, if_pos (by omega)]
      · rw [if_neg e, if_neg (by omega)]
    have rw2 : rg (-10 - (if ((1 + t : Nat) : Int) ≤ (c : Int) then 2 else 1)) = true := by split <;> decide
    rw [ew] at u3
    have hcl : f_X7_shirt N xx ((1 + t : Nat) : Int) (bt, O, H, S, P, V, hs) = some (-10 - (if ((1 + t : Nat) : Int) ≤ (c : Int) then 2 else 1), (bt, O', H, S, P, V, hs)) := by
      unfold f_X7_shirt
      exact (bd_q (isBinX hx ex) (gd_q (rg_of (by first | omega | (dsimp only; omega))) (it_q2 (by first | omega | (dsimp only; omega)) (bd_q (isWX (show 1 ≤ 1 + t by omega) (by omega) rfl) (gd_q (rg_of (by first | omega | (dsimp only; omega))) (it_q2 (by first | omega | (dsimp only; omega)) (bd_q f1 (nm_q (nm_q (bd_q hfa (nm_q (gd_q (show rg (-1) = true by decide) (it_q2 (show ¬ (0 : Int) ≤ -1 by decide) (bd_q u3 (rfl)))))))))))))))
    refine ⟨bt, O', H, S, g, m, p, w, nn, n, ?_, hH, Nat.le_refl _, hn20, hC, ⟨hGN, hG, hM, hP, hW⟩, fun K h1 h2 => LM_mono h2 (by omega)⟩
    refine (bd_q u1 (gd_q (rg_of (by first | omega | (dsimp only; omega))) (?_)))
    refine Eq.trans ifJ ?_
    refine (bd_q t1 (nm_y (show 1 + (t : Int) = ((1 + t : Nat) : Int) by omega) (bd_q hfi (gd_q (show rg (-5) = true by decide) (it_q2 (show ¬ (0 : Int) ≤ -5 by decide) (bd_q hcl (nm_q (bd_q hin (gd_q (rg_of (by first | omega | (dsimp only; omega))) (gd_q (rg_of (by first | omega | (dsimp only; omega))) (?_)))))))))))
    refine Eq.trans ifJ ?_
    exact (gd_q rw2 (gd_q rw2 (jn2_q (it_q1 rfl (gd_q (inb_of (by first | omega | (dsimp only; omega))) (rfl))))))
-- polish
theorem pol_G {z : bS} {g m p w nn : Nat → Int} {n b : Nat} (h : GB z g m p w nn n) (hc : 0 ≤ z.1.2.2.2.1 b) (hb : b < n) : GB (brS b z) g (up (up m (3 * b) (m (3 * b) - (if m (3 * b) ≤ 0 then 0 else 1))) (3 * b + 1) (up m (3 * b) (m (3 * b) - (if m (3 * b) ≤ 0 then 0 else 1)) (3 * b + 1) + 1)) p w nn n := by
  obtain ⟨hGN, hG, hM, hP, hW⟩ := h
  refine ⟨hGN, hG, fun x hx => ?_, hP, hW⟩
  obtain ⟨e1, e2, e3⟩ := hM x hx
  obtain ⟨b1, b2, b3⟩ := hM b hb
  show _ = up z.1.2.2.2.1 b (if z.1.2.2.2.1 b ≤ 0 then 0 else z.1.2.2.2.1 b - 1) x ∧ _ = up z.1.2.2.2.2.1 b (z.1.2.2.2.2.1 b + 1) x ∧ _ = z.1.2.2.2.2.2.1 x
  by_cases e : x = b
  · subst e
    rw [up_s, up_s]
    refine ⟨?_, ?_, ?_⟩
    · rw [up_n _ _ (by omega), up_s, b1]
      split <;> omega
    · rw [up_s, up_n _ _ (by omega), b2]
    · rw [up_n _ _ (by omega), up_n _ _ (by omega), b3]
  · rw [up_n _ _ e, up_n _ _ e]
    refine ⟨?_, ?_, ?_⟩
    · rw [up_n _ _ (by omega), up_n _ _ (by omega), e1]
    · rw [up_n _ _ (by omega), up_n _ _ (by omega), e2]
    · rw [up_n _ _ (by omega), up_n _ _ (by omega), e3]
theorem hasX {n b : Nat} {S : bS} (hC : CI S n) (hb : b < n) : f_X1_has (b : Int) S.1 = some (1, S.1) := by
  have h40 := CI_40 hC
  have := has_eq (a := (b : Int)) (rg_of (by first | omega | (dsimp only; omega))) hC.1.1 h40.1
  rw [if_pos (by omega)] at this
  exact this
theorem polA {N n : Nat} {bt : bBT} {O : bO} {H : bH} {S P V : bS} {hs x7 : Int} {g m p w nn : Nat → Int} (hN : 100 ≤ N) (hn20 : n ≤ 20) (hn0 : 0 < n) (hH : 0 ≤ H.1 ∧ H.1 ≤ 4) (hC : CI S n) (hB : GB S g m p w nn n) : Aok (bd (f_L_low x7 (nn 13)) fun u349 => gd (inb (3 * u349) 60) <| gd (rg (p ((3 * u349).toNat))) <| jn2 (fun (v353 : Int) (s354 : bLXgmpwn) => gd (rg v353) <| jn2 (fun (v358 : Int) (s359 : bLXgmpwn) => nm (s359.1, s359.2.1, up s359.2.2.1 ((3 * u349).toNat) ((s354.2.2.1 ((3 * u349).toNat)) - v358), s359.2.2.2) fun s362 => gd (inb ((3 * u349) + 1) 60) <| jn2 (fun (v365 : Int) (s366 : bLXgmpwn) => nm (s366.1, s366.2.1, up s366.2.2.1 (((3 * u349) + 1).toNat) ((s362.2.2.1 (((3 * u349) + 1).toNat)) + v365), s366.2.2.2) fun s369 => bd (f_X7_polish u349 s369.1) fun u371 => nm (u371.2, s369.2) fun s373 => jn2 (fun (v376 : Int) (s377 : bLXgmpwn) => gd (rg u371.1) <| gd (rg v376) <| jn2 (fun (v382 : Int) (s383 : bLXgmpwn) => gd (inb v382 2) <| some (v382, s383)) fun j384 => if u371.1 = v376 then (j384 1 s377) else (j384 0 s377)) fun j378 => if v353 = 0 then (j378 (-4) s373) else (j378 (s373.2.2.1 (((3 * u349) + 1).toNat)) s373)) fun j367 => if v353 = 0 then (j367 0 s362) else (j367 1 s362)) fun j360 => if v353 = 0 then (j360 0 s354) else (gd (rg (s354.2.2.1 ((3 * u349).toNat))) <| if (s354.2.2.1 ((3 * u349).toNat)) ≤ 0 then (j360 0 s354) else (j360 1 s354))) fun j355 => if (p ((3 * u349).toNat)) = 6 then (j355 0 ((bt, O, H, S, P, V, hs), g, m, p, w, nn)) else (gd (inb ((3 * u349) + 1) 60) <| gd (rg (m (((3 * u349) + 1).toNat))) <| if 9 ≤ (m (((3 * u349) + 1).toNat)) then (j355 0 ((bt, O, H, S, P, V, hs), g, m, p, w, nn)) else (j355 1 ((bt, O, H, S, P, V, hs), g, m, p, w, nn)))) S P V hs n := by
  have hB' := hB
  obtain ⟨hGN, hG, hM, hP, hW⟩ := hB'
  have h40 := CI_40 hC
  obtain ⟨b, l1, l2⟩ := low1 (x := x7) (n := nn 13) (k := n) hGN.2.2.1 hn0 (by omega)
  have hb : b < n := l2
  obtain ⟨q1, q2, q3, q4, q5⟩ := CI_b hC hb
  have hpb := bin_rg hC hb
  obtain ⟨p1, p2, p3⟩ := hP b hb
  obtain ⟨m1, m2, m3⟩ := hM b hb
  have c1 := hasX hC hb
  have no : (S.2.1.1 b = 6 ∨ 9 ≤ S.1.2.2.2.2.1 b) → f_X7_polish (b : Int) (bt, O, H, S, P, V, hs) = some (-4, (bt, O, H, S, P, V, hs)) := by
    intro h
    unfold f_X7_polish
    by_cases e2 : S.2.1.1 b = 6
    · exact (bd_q c1 (nm_q (gd_q (rg_of (by first | omega | (dsimp only; omega))) (it_q2 (by first | omega | (dsimp only; omega)) (gd_q (inb_of (by first | omega | (dsimp only; omega))) (gd_q (by rw [tn]; exact (rg_of (by first | omega | (dsimp only; omega)))) (it_q1 e2 (rfl))))))))
    · exact (bd_q c1 (nm_q (gd_q (rg_of (by first | omega | (dsimp only; omega))) (it_q2 (by first | omega | (dsimp only; omega)) (gd_q (inb_of (by first | omega | (dsimp only; omega))) (gd_q (by rw [tn]; exact (rg_of (by first | omega | (dsimp only; omega)))) (it_q2 e2 (gd_q (by rw [tn]; exact (rg_of (by first | omega | (dsimp only; omega)))) (it_q2 (show ¬ S.1.2.2.2.2.1 b < 9 by omega) (rfl))))))))))
  by_cases e : S.2.1.1 b = 6 ∨ 9 ≤ S.1.2.2.2.2.1 b
  · have hcl := no e
    refine ⟨bt, O, H, S, g, m, p, w, nn, n, ?_, hH, Nat.le_refl _, hn20, hC, hB, fun K h1 h2 => LM_mono h2 (by omega)⟩
    have es1 : up m (3 * b) (m (3 * b) - 0) = m := up_self (by omega)
    have es2 : up m (3 * b + 1) (m (3 * b + 1) + 0) = m := up_self (by omega)
    by_cases e6 : S.2.1.1 b = 6
    · refine (bd_q l1 (gd_q (inb_of (by first | omega | (dsimp only; omega))) (gd_q (show rg (p (3 * b)) = true by rw [p1]; exact (rg_of (by first | omega | (dsimp only; omega)))) (jn2_q (it_q1 (show p (3 * b) = 6 by rw [p1, e6]) (gd_q (by decide) (jn2_q (it_q1 rfl (nm_q (gd_q (inb_of (by first | omega | (dsimp only; omega))) (jn2_q (it_q1 rfl (nm_q (bd_q hcl (nm_q (jn2_q (it_q1 rfl (gd_q (show rg (-4) = true by decide) (gd_q (show rg (-4) = true by decide) (jn2_q (it_q1 rfl (gd_q (inb_of (by first | omega | (dsimp only; omega))) (?_)))))))))))))))))))))))
      simp only [t3, t31, es1, es2]
    · refine (bd_q l1 (gd_q (inb_of (by first | omega | (dsimp only; omega))) (gd_q (show rg (p (3 * b)) = true by rw [p1]; exact (rg_of (by first | omega | (dsimp only; omega)))) (jn2_q (it_q2 (show ¬ p (3 * b) = 6 by rw [p1]; exact e6) (gd_q (inb_of (by first | omega | (dsimp only; omega))) (gd_q (show rg (m (3 * b + 1)) = true by rw [m2]; exact (rg_of (by first | omega | (dsimp only; omega)))) (it_q1 (show 9 ≤ m (3 * b + 1) by rw [m2]; omega) (gd_q (by decide) (jn2_q (it_q1 rfl (nm_q (gd_q (inb_of (by first | omega | (dsimp only; omega))) (jn2_q (it_q1 rfl (nm_q (bd_q hcl (nm_q (jn2_q (it_q1 rfl (gd_q (show rg (-4) = true by decide) (gd_q (show rg (-4) = true by decide) (jn2_q (it_q1 rfl (gd_q (inb_of (by first | omega | (dsimp only; omega))) (?_))))))))))))))))))))))))))
      simp only [t3, t31, es1, es2]
  · obtain ⟨H', r1, r2⟩ := remX hH hC
    have h9 : S.1.2.2.2.2.1 b < 9 := by omega
    have e6 : ¬ S.2.1.1 b = 6 := by omega
    have w3 := brighten_eq (bb := (b : Int)) hC hb rfl
    have hcl : f_X7_polish (b : Int) (bt, O, H, S, P, V, hs) = some (S.1.2.2.2.2.1 b + 1, (bt, O, H', brS b S, P, V, hs)) := by
      unfold f_X7_polish
      refine (bd_q c1 (nm_q (gd_q (rg_of (by first | omega | (dsimp only; omega))) (it_q2 (by first | omega | (dsimp only; omega)) (gd_q (inb_of (by first | omega | (dsimp only; omega))) (gd_q (by rw [tn]; exact (rg_of (by first | omega | (dsimp only; omega)))) (it_q2 e6 (gd_q (by rw [tn]; exact (rg_of (by first | omega | (dsimp only; omega)))) (it_q1 h9 (bd_q r1 (nm_q (nm_q (bd_q w3 (nm_q (?_)))))))))))))))
      show some (up S.1.2.2.2.2.1 b (S.1.2.2.2.2.1 b + 1) b, _) = _
      rw [up_s]
      rfl
    have em : (up (up m (3 * b) (m (3 * b) - (if m (3 * b) ≤ 0 then 0 else 1))) (3 * b + 1) (up m (3 * b) (m (3 * b) - (if m (3 * b) ≤ 0 then 0 else 1)) (3 * b + 1) + 1)) (3 * b + 1) = S.1.2.2.2.2.1 b + 1 := by
      rw [up_s, up_n _ _ (by omega), m2]
    refine ⟨bt, O, H', brS b S, g, _, p, w, nn, n, ?_, r2, Nat.le_refl _, hn20, (br_RS hC (crow_R h40.2.2) hb h9).1, pol_G hB q4.1 hb, fun K h1 h2 => LM_mono (show LM (brS b S) n K from h2) (by omega)⟩
    refine (bd_q l1 (gd_q (inb_of (by first | omega | (dsimp only; omega))) (gd_q (show rg (p (3 * b)) = true by rw [p1]; exact (rg_of (by first | omega | (dsimp only; omega)))) (jn2_q (it_q2 (show ¬ p (3 * b) = 6 by rw [p1]; exact e6) (gd_q (inb_of (by first | omega | (dsimp only; omega))) (gd_q (show rg (m (3 * b + 1)) = true by rw [m2]; exact (rg_of (by first | omega | (dsimp only; omega)))) (it_q2 (show ¬ 9 ≤ m (3 * b + 1) by rw [m2]; omega) (gd_q (by decide) (jn2_q (it_q2 (by decide) (gd_q (show rg (m (3 * b)) = true by rw [m1]; exact (rg_of (by first | omega | (dsimp only; omega)))) (?_)))))))))))))
    by_cases e0 : m (3 * b) ≤ 0
    · rw [if_pos e0] at em ⊢
      refine (it_q1 e0 (nm_q (gd_q (inb_of (by first | omega | (dsimp only; omega))) (jn2_q (it_q2 (by decide) (nm_q (bd_q hcl (nm_q (jn2_q (it_q2 (by decide) (gd_q (show rg (S.1.2.2.2.2.1 b + 1) = true from (rg_of (by first | omega | (dsimp only; omega)))) (?_))))))))))))
      simp only [t3, t31]
      rw [em]
      exact (gd_q (show rg (S.1.2.2.2.2.1 b + 1) = true from (rg_of (by first | omega | (dsimp only; omega)))) (jn2_q (it_q1 rfl (gd_q (inb_of (by first | omega | (dsimp only; omega))) (rfl)))))
    · rw [if_neg e0] at em ⊢
      refine (it_q2 e0 (nm_q (gd_q (inb_of (by first | omega | (dsimp only; omega))) (jn2_q (it_q2 (by decide) (nm_q (bd_q hcl (nm_q (jn2_q (it_q2 (by decide) (gd_q (show rg (S.1.2.2.2.2.1 b + 1) = true from (rg_of (by first | omega | (dsimp only; omega)))) (?_))))))))))))
      simp only [t3, t31]
      rw [em]
      exact (gd_q (show rg (S.1.2.2.2.2.1 b + 1) = true from (rg_of (by first | omega | (dsimp only; omega)))) (jn2_q (it_q1 rfl (gd_q (inb_of (by first | omega | (dsimp only; omega))) (rfl)))))
-- sorting
theorem srt_loop {N n : Nat} {g : Nat → Int} {X : bX} {a1 a2 a3 wi : Int} {wants : Nat} (hN : 100 ≤ N) (hn20 : n ≤ 20) (ew : wi = (wants : Int)) (hw : wants ≤ 40) : ∀ (d i : Nat), i + d = wants → ∀ (z : bS) (m p w nn : Nat → Int) (fu fu' : Nat), CI z n → GB z g m p w nn n → d < fu → d < fu' → ∃ (j : Nat) (z' : bS) (m' p' w' nn' : Nat → Int), (∀ (bt : bBT) (O : bO) (H : bH) (px : bS × bS × Int), f_X7_sort_L45 N fu wi (i : Int) (bt, O, H, z, px) = some ((j : Int), (bt, O, H, z', px))) ∧ (∀ kt : Int → Int → Int → Int → Int → bLXgmpwn → Option (Int × bLXgmpwn), f_L_acts_L577 N kt fu' a1 a2 a3 (i : Int) wi (X, g, m, p, w, nn) = kt a1 a2 a3 (j : Int) wi (X, g, m', p', w', nn')) ∧ i ≤ j ∧ j ≤ wants ∧ (0 < d → 0 < z.2.1.2.2.2.2.1 0 → i < j) ∧ (z.2.1.2.2.2.2.1 0 = 0 → j = i ∧ z' = z) ∧ CI z' n ∧ GB z' g m' p' w' nn' n ∧ ∀ K : Int, 0 ≤ K → LM z n K → LM z' n (K + 3 * (d : Int)) := by
  subst ew
  intro d
  have stop : ∀ (d i : Nat), i + d = wants → ∀ (z : bS) (m p w nn : Nat → Int) (fu fu' : Nat), CI z n → GB z g m p w nn n → d < fu → d < fu' → (d = 0 ∨ z.2.1.2.2.2.2.1 0 = 0) → ∃ (j : Nat) (z' : bS) (m' p' w' nn' : Nat → Int), (∀ (bt : bBT) (O : bO) (H : bH) (px : bS × bS × Int), f_X7_sort_L45 N fu (wants : Int) (i : Int) (bt, O, H, z, px) = some ((j : Int), (bt, O, H, z', px))) ∧ (∀ kt : Int → Int → Int → Int → Int → bLXgmpwn → Option (Int × bLXgmpwn), f_L_acts_L577 N kt fu' a1 a2 a3 (i : Int) (wants : Int) (X, g, m, p, w, nn) = kt a1 a2 a3 (j : Int) (wants : Int) (X, g, m', p', w', nn')) ∧ i ≤ j ∧ j ≤ wants ∧ (0 < d → 0 < z.2.1.2.2.2.2.1 0 → i < j) ∧ (z.2.1.2.2.2.2.1 0 = 0 → j = i ∧ z' = z) ∧ CI z' n ∧ GB z' g m' p' w' nn' n ∧ ∀ K : Int, 0 ≤ K → LM z n K → LM z' n (K + 3 * (d : Int)) := by
    intro d i hi z m p w nn fu fu' hC hB hf hf' h
    obtain ⟨fu, rfl⟩ : ∃ j, fu = j + 1 := ⟨fu - 1, by omega⟩
    obtain ⟨fu', rfl⟩ : ∃ j, fu' = j + 1 := ⟨fu' - 1, by omega⟩
    have hz := PI_w hC.2.2
    have h14 : nn 14 = z.2.1.2.2.2.2.1 0 := hB.1.2.2.2
    refine ⟨i, z, m, p, w, nn, fun bt O H px => ?_, fun kt => ?_, Nat.le_refl _, by omega, fun h1 h2 => by omega, fun _ => ⟨rfl, rfl⟩, hC, hB, fun K h1 h2 => LM_mono h2 (by omega)⟩
    · rw [f_X7_sort_L45]
      by_cases e : (wants : Int) ≤ (i : Int)
      · exact (gd_q (rg_of (by first | omega | (dsimp only; omega))) (gd_q (rg_of (by first | omega | (dsimp only; omega))) (it_q1 e (rfl))))
      · exact (gd_q (rg_of (by first | omega | (dsimp only; omega))) (gd_q (rg_of (by first | omega | (dsimp only; omega))) (it_q2 e (gd_q (rg_of (by first | omega | (dsimp only; omega))) (it_q1 (by first | omega | (dsimp only; omega)) (rfl))))))
    · rw [f_L_acts_L577]
      by_cases e : (wants : Int) ≤ (i : Int)
      · exact (gd_q (rg_of (by first | omega | (dsimp only; omega))) (gd_q (rg_of (by first | omega | (dsimp only; omega))) (it_q1 e (rfl))))
      · exact (gd_q (rg_of (by first | omega | (dsimp only; omega))) (gd_q (rg_of (by first | omega | (dsimp only; omega))) (it_q2 e (gd_q (show rg (nn 14) = true by rw [h14]; exact (rg_of (by first | omega | (dsimp only; omega)))) (it_q1 (show nn 14 ≤ 0 by omega) (rfl))))))
  induction d with
  | zero =>
    intro i hi z m p w nn fu fu' hC hB hf hf'
    exact stop 0 i hi z m p w nn fu fu' hC hB hf hf' (Or.inl rfl)
  | succ d ih =>
    intro i hi z m p w nn fu fu' hC hB hf hf'
    have hz := PI_w hC.2.2
    by_cases e0 : z.2.1.2.2.2.2.1 0 = 0
    · exact stop (d + 1) i hi z m p w nn fu fu' hC hB hf hf' (Or.inr e0)
    · obtain ⟨fu, rfl⟩ : ∃ j, fu = j + 1 := ⟨fu - 1, by omega⟩
      obtain ⟨fu', rfl⟩ : ∃ j, fu' = j + 1 := ⟨fu' - 1, by omega⟩
      have h14 : nn 14 = z.2.1.2.2.2.2.1 0 := hB.1.2.2.2
      obtain ⟨z1, m1, p1, w1, nn1, g1, g2, g3, g4, g5, g6⟩ := sortsG (N := N) (by omega) hn20 hC hB (by omega)
      obtain ⟨j, z', m', p', w', nn', u1, u2, u3, u4, u5, u6, u7, u8, u9⟩ := ih (i + 1) (by omega) z1 m1 p1 w1 nn1 fu fu' g3 g4 (by omega) (by omega)
      refine ⟨j, z', m', p', w', nn', fun bt O H px => ?_, fun kt => ?_, by omega, u4, fun _ _ => by omega, fun h => absurd h e0, u7, u8, fun K h1 h2 => LM_mono (u9 (K + 3) (by omega) (g6 K h1 h2)) (by omega)⟩
      · rw [f_X7_sort_L45]
        exact (gd_q (rg_of (by first | omega | (dsimp only; omega))) (gd_q (rg_of (by first | omega | (dsimp only; omega))) (it_q2 (by first | omega | (dsimp only; omega)) (gd_q (rg_of (by first | omega | (dsimp only; omega))) (it_q2 (by first | omega | (dsimp only; omega)) (bd_q g1 (nm_q (u1 bt O H px))))))))
      · rw [f_L_acts_L577]
        exact (gd_q (rg_of (by first | omega | (dsimp only; omega))) (gd_q (rg_of (by first | omega | (dsimp only; omega))) (it_q2 (by first | omega | (dsimp only; omega)) (gd_q (show rg (nn 14) = true by rw [h14]; exact (rg_of (by first | omega | (dsimp only; omega)))) (it_q2 (show ¬ nn 14 ≤ 0 by omega) (bd_q g2 (nm_q (nm_q (nm_q (nm_q (nm_q (u2 kt))))))))))))
theorem srtA {N n : Nat} {bt : bBT} {O : bO} {H : bH} {S P V : bS} {hs x6 x7 u8 : Int} {g m p w nn : Nat → Int} (hN : 100 ≤ N) (hn20 : n ≤ 20) (hH : 0 ≤ H.1 ∧ H.1 ≤ 4) (hC : CI S n) (hB : GB S g m p w nn n) : Aok (bd (f_L_low (srI x7 8) 4) fun u446 => gd (rg u446) <| jn2 (fun (v449 : Int) (s450 : bLXgmpwn) => bd (f_L_low x7 v449) fun u453 => nm (1 + u453) fun v455 => f_L_acts_L577 N (fun v480 v481 v482 v483 v484 s485 => bd (f_X7_sort N v484 s485.1) fun u486 => nm (u486.2, s485.2) fun s488 => gd (rg v483) <| jn2 (fun (v492 : Int) (s493 : bLXgmpwn) => gd (rg u486.1) <| gd (rg v492) <| jn2 (fun (v498 : Int) (s499 : bLXgmpwn) => gd (inb v498 2) <| some (v498, s499)) fun j500 => if u486.1 = v492 then (j500 1 s493) else (j500 0 s493)) fun j494 => if v483 = 0 then (j494 (-5) s488) else (j494 v483 s488)) N x6 x7 u8 0 v455 s450) fun j451 => if u446 = 0 then (j451 40 ((bt, O, H, S, P, V, hs), g, m, p, w, nn)) else (j451 5 ((bt, O, H, S, P, V, hs), g, m, p, w, nn))) S P V hs n := by
  have hz := PI_w hC.2.2
  obtain ⟨u, u1, u2⟩ := low1 (x := srI x7 8) (n := 4) (k := 4) rfl (by omega) (by omega)
  obtain ⟨t, t1, t2⟩ := lowIf (a := x7) (c := (u : Int) = 0) (u := 40) (v := 5) (p := 40) (q := 5) rfl rfl (by omega) (by omega)
  obtain ⟨H', r1, r2⟩ := remX hH hC
  have lp := srt_loop (N := N) (X := (bt, O, H, S, P, V, hs)) (a1 := x6) (a2 := x7) (a3 := u8) (wi := ((1 + t : Nat) : Int)) hN hn20 rfl (by omega) (1 + t) 0 (by omega) S m p w nn N N hC hB (by omega) (by omega)
  obtain ⟨j, z', m', p', w', nn', g1, g2, g3, g4, g5, g6, g7, g8, g9⟩ := lp
  by_cases e : S.2.1.2.2.2.2.1 0 = 0
  · obtain ⟨e1, e2⟩ := g6 e
    subst e1
    subst e2
    have hcl : f_X7_sort N ((1 + t : Nat) : Int) (bt, O, H, z', P, V, hs) = some (-5, (bt, O, H, z', P, V, hs)) := by
      unfold f_X7_sort
      exact (gd_q (rg_of (by first | omega | (dsimp only; omega))) (it_q2 (by first | omega | (dsimp only; omega)) (it_q1 (by first | omega | (dsimp only; omega)) (gd_q (rg_of (by first | omega | (dsimp only; omega))) (it_q1 e (rfl))))))
    refine ⟨bt, O, H, z', g, m', p', w', nn', n, ?_, hH, Nat.le_refl _, hn20, g7, g8, fun K h1 h2 => LM_mono h2 (by omega)⟩
    refine (bd_q u1 (gd_q (rg_of (by first | omega | (dsimp only; omega))) (?_)))
    refine Eq.trans ifJ ?_
    refine (bd_q t1 (nm_y (show 1 + (t : Int) = ((1 + t : Nat) : Int) by omega) (?_)))
    refine Eq.trans (g2 _) ?_
    exact (bd_q hcl (nm_q (gd_q (show rg ((0 : Nat) : Int) = true by decide) (jn2_q (it_q1 rfl (gd_q (show rg (-5) = true by decide) (gd_q (show rg (-5) = true by decide) (jn2_q (it_q1 rfl (gd_q (inb_of (by first | omega | (dsimp only; omega))) (rfl)))))))))))
  · have hj := g5 (by omega) (by omega)
    have hcl : f_X7_sort N ((1 + t : Nat) : Int) (bt, O, H, S, P, V, hs) = some ((j : Int), (bt, O, H', z', P, V, hs)) := by
      unfold f_X7_sort
      exact (gd_q (rg_of (by first | omega | (dsimp only; omega))) (it_q2 (by first | omega | (dsimp only; omega)) (it_q1 (by first | omega | (dsimp only; omega)) (gd_q (rg_of (by first | omega | (dsimp only; omega))) (it_q2 e (bd_q r1 (nm_q (nm_q (g1 bt O H' (P, V, hs))))))))))
    refine ⟨bt, O, H', z', g, m', p', w', nn', n, ?_, r2, Nat.le_refl _, hn20, g7, g8, fun K h1 h2 => LM_mono (g9 K h1 h2) (by omega)⟩
    refine (bd_q u1 (gd_q (rg_of (by first | omega | (dsimp only; omega))) (?_)))
    refine Eq.trans ifJ ?_
    refine (bd_q t1 (nm_y (show 1 + (t : Int) = ((1 + t : Nat) : Int) by omega) (?_)))
    refine Eq.trans (g2 _) ?_
    exact (bd_q hcl (nm_q (gd_q (show rg (j : Int) = true from (rg_of (by first | omega | (dsimp only; omega)))) (jn2_q (it_q2 (show ¬ (j : Int) = 0 by omega) (gd_q (show rg (j : Int) = true from (rg_of (by first | omega | (dsimp only; omega)))) (gd_q (show rg (j : Int) = true from (rg_of (by first | omega | (dsimp only; omega)))) (jn2_q (it_q1 rfl (gd_q (inb_of (by first | omega | (dsimp only; omega))) (rfl)))))))))))
