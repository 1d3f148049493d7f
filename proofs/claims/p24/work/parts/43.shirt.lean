/-! a shirt is made -/
theorem shirt_R {z : bS} {r : Nat → Int} {n b0 : Nat} {v : Int} (h : R1 z r n) (hw : z.2.1.2.2.2.2.1 0 ≤ 40) : R1 (z.1, (up z.2.1.1 b0 6, up z.2.1.2.1 b0 (-5), up z.2.1.2.2.1 b0 v, z.2.1.2.2.2.1, up z.2.1.2.2.2.2.1 6 (z.2.1.2.2.2.2.1 6 + 1), z.2.1.2.2.2.2.2), z.2.2) (up (up (up r (55 + 9 * b0 + 5) 6) (55 + 9 * b0 + 6) (-5)) (55 + 9 * b0 + 7) v) n := by
  obtain ⟨⟨h1, ⟨a1, a2, a3, a4, a5⟩, h3, h4, h5⟩, hB⟩ := h
  have u : ∀ j, j < 55 → up (up (up r (55 + 9 * b0 + 5) 6) (55 + 9 * b0 + 6) (-5)) (55 + 9 * b0 + 7) v j = r j := fun j hj => by rw [up_hi hj, up_hi hj, up_hi hj]
  have hat : up z.2.1.2.2.2.2.1 6 (z.2.1.2.2.2.2.1 6 + 1) 0 = z.2.1.2.2.2.2.1 0 := up_n _ _ (by omega)
  refine ⟨⟨fun k hk => by rw [u k (by omega)]; exact h1 k hk, ⟨by rw [u _ (by omega)]; exact a1, by rw [u _ (by omega)]; exact a2, by rw [u _ (by omega)]; exact a3, by rw [u _ (by omega)]; exact a4, by rw [u _ (by omega)]; exact a5⟩, by rw [u _ (by omega)]; exact h3, by rw [u _ (by omega)]; exact h4.trans hat.symm, fun k hk => ?_⟩, ?_⟩
  · have hk' : (k : Int) < z.2.1.2.2.2.2.1 0 := by rw [← hat]; exact hk
    rw [u _ (by omega), h5 k hk']
  · have h1' := RB_put (b0 := b0) (k0 := 5) (v := 6) (F' := fun k x => if x = b0 ∧ k = 5 then 6 else fld z k x) hB (by omega) (fun _ _ _ _ => rfl)
    have h2' := RB_put (b0 := b0) (k0 := 6) (v := -5) (F' := fun k x => if x = b0 ∧ k = 6 then -5 else if x = b0 ∧ k = 5 then 6 else fld z k x) h1' (by omega) (fun _ _ _ _ => rfl)
    have h3' := RB_put (b0 := b0) (k0 := 7) (v := v) (F' := fun k x => if x = b0 ∧ k = 7 then v else if x = b0 ∧ k = 6 then -5 else if x = b0 ∧ k = 5 then 6 else fld z k x) h2' (by omega) (fun _ _ _ _ => rfl)
    refine RB_F h3' (fun x k hx hk => ?_)
    by_cases e : x = b0
    · subst e
      rcases (show k = 0 ∨ k = 1 ∨ k = 2 ∨ k = 3 ∨ k = 4 ∨ k = 5 ∨ k = 6 ∨ k = 7 ∨ k = 8 by omega) with rfl | rfl | rfl | rfl | rfl | rfl | rfl | rfl | rfl <;> simp [fld, up_s]
    · rcases (show k = 0 ∨ k = 1 ∨ k = 2 ∨ k = 3 ∨ k = 4 ∨ k = 5 ∨ k = 6 ∨ k = 7 ∨ k = 8 by omega) with rfl | rfl | rfl | rfl | rfl | rfl | rfl | rfl | rfl <;> simp [fld, up_n _ _ e, e]
theorem fin_R {z : bS} {r : Nat → Int} {n : Nat} {w : Int} (h : R1 z r n) : R1 (z.1, z.2.1, z.2.2.1, z.2.2.2.1 + 1, z.2.2.2.2.1 + w, z.2.2.2.2.2) (up (up r 8 (r 8 + 1)) 9 (up r 8 (r 8 + 1) 9 + w)) n := by
  obtain ⟨⟨h1, ⟨a1, a2, a3, a4, a5⟩, h3, h4, h5⟩, hB⟩ := h
  have u : ∀ j, j ≠ 8 → j ≠ 9 → up (up r 8 (r 8 + 1)) 9 (up r 8 (r 8 + 1) 9 + w) j = r j := fun j e1 e2 => by rw [up_n _ _ e2, up_n _ _ e1]
  refine ⟨⟨fun k hk => by rw [u k (by omega) (by omega)]; exact h1 k hk, ⟨?_, ?_, by rw [u _ (by omega) (by omega)]; exact a3, by rw [u _ (by omega) (by omega)]; exact a4, by rw [u _ (by omega) (by omega)]; exact a5⟩, by rw [u _ (by omega) (by omega)]; exact h3, by rw [u _ (by omega) (by omega)]; exact h4, fun k hk => by rw [u _ (by omega) (by omega)]; exact h5 k hk⟩, ?_⟩
  · rw [up_n _ _ (by omega), up_s, a1]
  · rw [up_s, up_n _ _ (by omega), a2]
  · exact RB_F (RB_low (RB_low hB (by omega)) (by omega)) (fun _ _ _ _ => rfl)
/-- what has been taken from the order, from rank k on -/
def MK (z : bS) (n x : Nat) (f : Nat → Nat) (c k i : Nat) (zi : bS) (ri : Nat → Int) : Prop := CI zi n ∧ R1 zi ri n ∧ zi.1 = z.1 ∧ zi.2.2.1 = z.2.2.1 ∧ (∀ b, (∀ j, j < i → f (k + j) ≠ b) → zi.2.1.2.1 b = z.2.1.2.1 b) ∧ (∀ j, j < i → zi.2.1.2.1 (f (k + j)) = -5) ∧ cnt n zi.2.1.2.1 (x : Int) = (c : Int) - (i : Int)
theorem mk_loop {N n x c k m : Nat} {z : bS} {f : Nat → Nat} {O : bO} {hi sn as li : Nat → Int} {st ik lm : Int} {t : bl} {y : Int} (hD : OD z n (x : Int) f c) (hx : x < 12) (hA : OA O z f c) (hl : ∀ j, j < c → li j = (f j : Int)) (hkm : k + m ≤ c) (hm9 : m ≤ 9) : ∀ d i, i + d = m → ∀ (zi : bS) (ri : Nat → Int) (w : Int) (fu fu' : Nat), MK z n x f c k i zi ri → zi.2.2.2.1 = z.2.2.2.1 → -(9 * (i : Int)) ≤ w → w ≤ 9 * (i : Int) → d < fu → d < fu' → ∃ (wf : Int) (z' : bS) (r' : Nat → Int), f_X5_makeShirt_L6 N fu (k : Int) (m : Int) w (i : Int) (zi, O) = some (wf, (z', O)) ∧ f_X8_shirtNow_L13 N fu' y (m : Int) (k : Int) w ((k + i : Nat) : Int) (ri, hi, st, sn, ik, as, li, lm, t) = some (wf, (r', hi, st, sn, ik, as, li, lm, t)) ∧ MK z n x f c k m z' r' ∧ z'.2.2.2.1 = z.2.2.2.1 + 1 := by
  have hc := OD_c hD
  intro d
  induction d with
  | zero =>
    intro i hi' zi ri w fu fu' hM hs hw1 hw2 hf hf'
    obtain ⟨fu, rfl⟩ : ∃ j, fu = j + 1 := ⟨fu - 1, by omega⟩
    obtain ⟨fu', rfl⟩ : ∃ j, fu' = j + 1 := ⟨fu' - 1, by omega⟩
    obtain rfl : i = m := by omega
    obtain ⟨m1, m2, m3, m4, m5, m6, m7⟩ := hM
    have h40 := CI_40 m1
    refine ⟨(if w < 0 then 0 else w), (zi.1, zi.2.1, zi.2.2.1, zi.2.2.2.1 + 1, zi.2.2.2.2.1 + (if w < 0 then 0 else w), zi.2.2.2.2.2), _, ?_, ?_, ⟨m1, fin_R m2, m3, m4, m5, m6, m7⟩, ?_⟩
    · rw [f_X5_makeShirt_L6]
      exact (gd_q (rg_of (by first | omega | (dsimp only; omega))) (gd_q (rg_of (by first | omega | (dsimp only; omega))) (it_q1 (by first | omega | (dsimp only; omega)) (gd_q (rg_of (by first | omega | (dsimp only; omega))) (nm_q (nm_q (nm_q (rfl))))))))
    · rw [f_X8_shirtNow_L13]
      by_cases e : 0 ≤ w
      · rw [if_neg (show ¬ w < 0 by omega)]
        exact (gd_q (rg_of (by first | omega | (dsimp only; omega))) (gd_q (rg_of (by first | omega | (dsimp only; omega))) (it_q1 (by first | omega | (dsimp only; omega)) (gd_q (rg_of (by first | omega | (dsimp only; omega))) (it_q1 e (nm_q (nm_q (rfl))))))))
      · rw [if_pos (show w < 0 by omega)]
        exact (gd_q (rg_of (by first | omega | (dsimp only; omega))) (gd_q (rg_of (by first | omega | (dsimp only; omega))) (it_q1 (by first | omega | (dsimp only; omega)) (gd_q (rg_of (by first | omega | (dsimp only; omega))) (it_q2 e (nm_q (nm_q (rfl))))))))
    · show zi.2.2.2.1 + 1 = z.2.2.2.1 + 1
      rw [hs]
  | succ d ih =>
    intro i hi' zi ri w fu fu' hM hs hw1 hw2 hf hf'
    obtain ⟨fu, rfl⟩ : ∃ j, fu = j + 1 := ⟨fu - 1, by omega⟩
    obtain ⟨fu', rfl⟩ : ∃ j, fu' = j + 1 := ⟨fu' - 1, by omega⟩
    obtain ⟨m1, m2, m3, m4, m5, m6, m7⟩ := hM
    have h40 := CI_40 m1
    have hki : k + i < c := by omega
    obtain ⟨b, hbe⟩ : ∃ b, b = f (k + i) := ⟨_, rfl⟩
    have hb : b < n := by rw [hbe]; exact (hD.1 _ hki).1
    have hnew : ∀ j, j < i → f (k + j) ≠ b := fun j hj e => by
      have := OD_inj hD (show k + j < c by omega) hki (by rw [e, hbe])
      omega
    have hbx : zi.2.1.2.1 b = (x : Int) := by
      rw [m5 b hnew, hbe]
      exact (hD.1 _ hki).2
    have hpb := bin_rg m1 hb
    obtain ⟨q1, q2, q3, q4, q5⟩ := CI_b m1 hb
    have h5 : zi.2.1.1 b = 5 := hpb.2.2.2.2.2 (by omega)
    have hL := leave_LI m1.2.2 hb (by omega)
    have hP := shirt_PI (v := zi.2.2.2.1) hL hb
    have hR1 := leave_R m2 (b0 := b) (by omega)
    have hw0 : (leaveS b zi.2.1).2.2.2.2.1 0 ≤ 40 := by rw [leave_at0 (by omega)]; exact h40.2.2
    have hR2 := shirt_R (b0 := b) (v := zi.2.2.2.1) hR1 hw0
    have f4 : ri (55 + 9 * b + 4) = zi.1.2.2.2.2.1 b := R1_f m2 hb (by omega)
    have f3 : ri (55 + 9 * b + 3) = zi.1.2.2.2.1 b := R1_f m2 hb (by omega)
    have f8 : ri 8 = zi.2.2.2.1 := m2.1.2.1.1
    have hOb : O.1 (k + i) = (b : Int) := by rw [hbe]; exact (hA.2 _ hki).1
    have hlb : li (k + i) = (b : Int) := by rw [hbe]; exact hl _ hki
    have hMK : MK z n x f c k (i + 1) (zi.1, (up (leaveS b zi.2.1).1 b 6, up (leaveS b zi.2.1).2.1 b (-5), up (leaveS b zi.2.1).2.2.1 b zi.2.2.2.1, (leaveS b zi.2.1).2.2.2.1, up (leaveS b zi.2.1).2.2.2.2.1 6 ((leaveS b zi.2.1).2.2.2.2.1 6 + 1), (leaveS b zi.2.1).2.2.2.2.2), zi.2.2) (up (up (up ri (55 + 9 * b + 5) 6) (55 + 9 * b + 6) (-5)) (55 + 9 * b + 7) zi.2.2.2.1) := by
      refine ⟨⟨m1.1, m1.2.1, hP⟩, hR2, m3, m4, fun b' hb' => ?_, fun j hj => ?_, ?_⟩
      · show up zi.2.1.2.1 b (-5) b' = z.2.1.2.1 b'
        have := hb' i (by omega)
        rw [up_n _ _ (by rw [hbe]; exact fun h => this h.symm)]
        exact m5 b' (fun j hj => hb' j (by omega))
      · show up zi.2.1.2.1 b (-5) (f (k + j)) = -5
        by_cases e : j = i
        · subst e
          rw [← hbe, up_s]
        · rw [up_n _ _ (hnew j (by omega))]
          exact m6 j (by omega)
      · show cnt n (up zi.2.1.2.1 b (-5)) (x : Int) = (c : Int) - ((i + 1 : Nat) : Int)
        rw [cnt_up _ _ _ hb, if_pos hbx, if_neg (by omega), m7]
        omega
    obtain ⟨wf, z', r', g1, g2, g3, g4⟩ := ih (i + 1) (by omega) _ _ (w + (zi.1.2.2.2.2.1 b - zi.1.2.2.2.1 b)) fu fu' hMK hs (by omega) (by omega) (by omega) (by omega)
    refine ⟨wf, z', r', ?_, ?_, g3, g4⟩
    · rw [f_X5_makeShirt_L6]
      refine (gd_q (rg_of (by first | omega | (dsimp only; omega))) (gd_q (rg_of (by first | omega | (dsimp only; omega))) (it_q2 (by first | omega | (dsimp only; omega)) (bd_q (numAt_1 (j := k + i) hA.1 (by omega) hki (by omega)) (nm_q (?_))))))
      dsimp only
      rw [hOb]
      refine (bd_q (has_1 (b := b) m1.1.1 h40.1 hb rfl) (nm_q (gd_q (rg_of (by first | omega | (dsimp only; omega))) (it_q2 (by first | omega | (dsimp only; omega)) (gd_q (inb_of (by first | omega | (dsimp only; omega))) (nm_q (?_)))))))
      dsimp only
      refine (bd_q (leave_eq (b := b) (by omega) rfl (by omega) (by omega)) (nm_q (bd_q (bringToShirt_eq (b := b) (by omega) rfl) (nm_q (?_)))))
      exact g1
    · rw [f_X8_shirtNow_L13]
      refine (gd_q (rg_of (by first | omega | (dsimp only; omega))) (gd_q (rg_of (by first | omega | (dsimp only; omega))) (it_q2 (by first | omega | (dsimp only; omega)) (gd_q (inb_of (by first | omega | (dsimp only; omega))) (bd_q (of_eq (b := b) (k := 4) (by omega) (by omega) hlb rfl) (bd_q (of_eq (b := b) (k := 3) (by omega) (by omega) hlb rfl) (nm_q (bd_q (bringM_eq (b := b) (by omega) hlb) (bd_q (put_eq (b := b) (k := 7) (by omega) (by omega) hlb rfl) (?_))))))))))
      dsimp only
      rw [up_hi (show 8 < 55 by omega), up_hi (show 8 < 55 by omega), f8, f4, f3]
      exact g2
theorem MK_0 {z : bS} {n x c k : Nat} {f : Nat → Nat} {r : Nat → Int} (hC : CI z n) (hR : R1 z r n) (hD : OD z n (x : Int) f c) : MK z n x f c k 0 z r := ⟨hC, hR, rfl, rfl, fun _ _ => rfl, fun j hj => absurd hj (by omega), by rw [← hD.2.2.2]; omega⟩
/-- makeShirt beside shirtNow -/
theorem mk_eq {N n x c k m : Nat} {z : bS} {f : Nat → Nat} {r : Nat → Int} {hi sn as li : Nat → Int} {st ik lm : Int} {t : bl} {O : bO} {xx kk mm : Int} (hN : 60 ≤ N) (hC : CI z n) (hR : R1 z r n) (hx : x < 12) (e1 : xx = (x : Int)) (hD : OD z n (x : Int) f c) (hA : OA O z f c) (hm : 1 ≤ m) (hm9 : m ≤ 9) (e2 : mm = (m : Int)) (e3 : kk = (k : Int)) (hk : fa (shf z f) c m (z.2.2.1 7) (c + 1) 0 = some k) : ∃ (wf : Int) (z' : bS) (r' : Nat → Int) (li' : Nat → Int), f_X5_makeShirt N kk mm (z, O) = some (wf, (z', O)) ∧ f_X8_shirtNow N xx mm (r, hi, st, sn, ik, as, li, lm, t) = some (wf, (r', hi, st, sn, ik, as, li', (c : Int), t)) ∧ MK z n x f c k m z' r' ∧ z'.2.2.2.1 = z.2.2.2.1 + 1 := by
  subst e2
  subst e3
  obtain ⟨li', u1, u2⟩ := faM (N := N) (hi := hi) (sn := sn) (as := as) (li := li) (st := st) (ik := ik) (lm := lm) (t := t) (mm := (m : Int)) hN hC hR hx e1 hD hm (by omega) rfl
  rw [hk] at u1
  have hkf := fa_some _ _ _ hk
  obtain ⟨wf, z', r', g1, g2, g3, g4⟩ := mk_loop (N := N) (hi := hi) (sn := sn) (as := as) (st := st) (ik := ik) (lm := (c : Int)) (t := t) (y := xx) hD hx hA u2 hkf.2.1 hm9 m 0 (by omega) z r 0 N N (MK_0 hC hR hD) rfl (by omega) (by omega) (by omega) (by omega)
  exact ⟨wf, z', r', li', g1, bd_q u1 g2, g3, g4⟩
theorem s_shirt {N : Nat} (hN : 1300 ≤ N) {a v : Int} (ha : rg a = true) (hv : rg v = true) : SIM (f_X7_shirt N a v) (f_X8_shirt N a v) := by
  rintro ⟨⟨B, s, l⟩, O, H, S, P, V, hs⟩ ⟨r, hi, st, sn, ik, as, li, lm, tx, le, sp, re, rd⟩ ⟨hT, hH, hS, hK⟩
  dsimp only at hT hH hS hK
  have hS0 := hS
  obtain ⟨n, hC, hR⟩ := hS
  have c1 := isBin1 ha
  have m1 := isBin2 ha
  have c2 := isW hv
  have m2 := in_eq hv (show rg 1 = true by decide) (show rg 9 = true by decide)
  by_cases e1 : 0 ≤ a ∧ a ≤ 11
  · rw [if_pos e1] at c1 m1
    obtain ⟨x, rfl⟩ : ∃ q : Nat, a = (q : Int) := ⟨a.toNat, by omega⟩
    by_cases e2 : 1 ≤ v ∧ v ≤ 9
    · rw [if_pos e2] at c2 m2
      obtain ⟨m, rfl⟩ : ∃ q : Nat, v = (q : Int) := ⟨v.toNat, by omega⟩
      obtain ⟨O', f, c, g1, g2, g3⟩ := fill_eq (N := N) (O := O) (xx := (x : Int)) (by omega) hC (show x < 12 by omega) rfl
      have hc := OD_c g2
      have h40 := CI_40 hC
      have s7 := SI_rg hC.2.1 7 (by omega)
      have u1 := refC (N := N) (bt := (B, s, l)) (H := H) (p := (P, V, hs)) (mm := (m : Int)) (by omega) hC g2 g3 (by omega) (by omega) rfl
      have hfa := faC (N := N) (m := m) (mm := (m : Int)) (sp := S.2.2.1 7) (by omega) hC g2 g3 (by omega) (by omega) rfl (rg_of (by first | omega | (dsimp only; omega)))
      obtain ⟨li', lm', u2⟩ := reaM (N := N) (hi := hi) (sn := sn) (as := as) (li := li) (st := st) (ik := ik) (lm := lm) (t := (tx, le, sp, re, rd)) (xx := (x : Int)) (mm := (m : Int)) (by omega) hC hR (show x < 12 by omega) rfl g2 (by omega) (by omega) rfl
      cases ho : fa (shf S f) c m (S.2.2.1 7) (c + 1) 0 with
      | none =>
        rw [ho] at u1 u2 hfa
        have hwhy : 1 ≤ why c m none ∧ why c m none ≤ 2 := by
          unfold why
          split <;> simp
        refine ⟨-10 - why c m none, ((B, s, l), O', H, S, P, V, hs), (r, hi, st, sn, ik, as, li', lm', tx, le, sp, re, rd), ?_, ?_, ⟨hT, hH, hS0, hK⟩⟩
        · exact (bd_q c1 (gd_q (rg_of (by first | omega | (dsimp only; omega))) (it_q2 (by first | omega | (dsimp only; omega)) (bd_q c2 (gd_q (rg_of (by first | omega | (dsimp only; omega))) (it_q2 (by first | omega | (dsimp only; omega)) (bd_q g1 (nm_q (nm_q (bd_q hfa (nm_q (gd_q (rg_of (show -2147483648 ≤ (-1 : Int) ∧ (-1 : Int) < 2147483648 by omega)) (it_q2 (show ¬ (0 : Int) ≤ -1 by omega) (bd_q u1 (rfl)))))))))))))))
        · exact (bd_q m1 (gd_q (rg_of (by first | omega | (dsimp only; omega))) (it_q2 (by first | omega | (dsimp only; omega)) (bd_q m2 (gd_q (rg_of (by first | omega | (dsimp only; omega))) (it_q2 (by first | omega | (dsimp only; omega)) (bd_q u2 (gd_q (rg_of (by first | omega | (dsimp only; omega))) (it_q2 (by first | omega | (dsimp only; omega)) (rfl))))))))))
      | some k =>
        rw [ho] at u1 u2 hfa
        have hkf := fa_some _ _ _ ho
        have hwhy : why c m (some k) = 0 := by
          unfold why
          rw [if_pos (by omega)]
        rw [hwhy] at u2
        obtain ⟨h', hi', st', w1, w2, w3⟩ := rem_eq (N := N) (t := (sn, ik, as, li', lm', tx, le, sp, re, rd)) hN hH hS0
        obtain ⟨wf, z', r', li2, y1, y2, y3, y4⟩ := mk_eq (N := N) (hi := hi') (sn := sn) (as := as) (li := li') (st := st') (ik := ik) (lm := lm') (t := (tx, le, sp, re, rd)) (xx := (x : Int)) (kk := (k : Int)) (mm := (m : Int)) (by omega) hC hR (show x < 12 by omega) rfl g2 g3 (by omega) (by omega) rfl rfl ho
        refine ⟨wf, ((B, s, l), O', h', z', P, V, hs), (r', hi', st', sn, ik, as, li2, (c : Int), tx, le, sp, re, rd), ?_, ?_, ⟨hT, w3, ⟨n, y3.1, y3.2.1⟩, hK⟩⟩
        · exact (bd_q c1 (gd_q (rg_of (by first | omega | (dsimp only; omega))) (it_q2 (by first | omega | (dsimp only; omega)) (bd_q c2 (gd_q (rg_of (by first | omega | (dsimp only; omega))) (it_q2 (by first | omega | (dsimp only; omega)) (bd_q g1 (nm_q (nm_q (bd_q hfa (nm_q (gd_q (rg_of (show -2147483648 ≤ (k : Int) ∧ (k : Int) < 2147483648 by omega)) (it_q1 (show (0 : Int) ≤ (k : Int) by omega) (bd_q w1 (nm_q (nm_q (bd_q y1 (nm_q (nm_q (rfl))))))))))))))))))))
        · exact (bd_q m1 (gd_q (rg_of (by first | omega | (dsimp only; omega))) (it_q2 (by first | omega | (dsimp only; omega)) (bd_q m2 (gd_q (rg_of (by first | omega | (dsimp only; omega))) (it_q2 (by first | omega | (dsimp only; omega)) (bd_q u2 (gd_q (rg_of (by first | omega | (dsimp only; omega))) (it_q1 (by first | omega | (dsimp only; omega)) (bd_q w2 (bd_q y2 (rfl))))))))))))
    · rw [if_neg e2] at c2 m2
      refine ⟨-2, ((B, s, l), O, H, S, P, V, hs), (r, hi, st, sn, ik, as, li, lm, tx, le, sp, re, rd), ?_, ?_, ⟨hT, hH, hS0, hK⟩⟩
      · exact (bd_q c1 (gd_q (rg_of (by first | omega | (dsimp only; omega))) (it_q2 (by first | omega | (dsimp only; omega)) (bd_q c2 (gd_q (rg_of (by first | omega | (dsimp only; omega))) (it_q1 (by first | omega | (dsimp only; omega)) (rfl)))))))
      · exact (bd_q m1 (gd_q (rg_of (by first | omega | (dsimp only; omega))) (it_q2 (by first | omega | (dsimp only; omega)) (bd_q m2 (gd_q (rg_of (by first | omega | (dsimp only; omega))) (it_q1 (by first | omega | (dsimp only; omega)) (rfl)))))))
  · rw [if_neg e1] at c1 m1
    refine ⟨-1, ((B, s, l), O, H, S, P, V, hs), (r, hi, st, sn, ik, as, li, lm, tx, le, sp, re, rd), ?_, ?_, ⟨hT, hH, hS0, hK⟩⟩
    · exact (bd_q c1 (gd_q (rg_of (by first | omega | (dsimp only; omega))) (it_q1 (by first | omega | (dsimp only; omega)) (rfl))))
    · exact (bd_q m1 (gd_q (rg_of (by first | omega | (dsimp only; omega))) (it_q1 (by first | omega | (dsimp only; omega)) (rfl))))
