/-! buttons come -/
theorem new_LI {p : bP} {n : Nat} (h : PI p n) : LI p (n + 1) n := by
  obtain ⟨hV, ⟨hC1, hC2⟩, w, hw, hh, hd⟩ := h
  refine ⟨fun b hb hne => hV b (by omega), ⟨fun q hq => ?_, fun q hq => ?_⟩, w, hw, fun k hk => ?_, hd⟩
  · rw [cnt_s, up_s, cnt_out _ _ _ (Nat.le_refl n), if_neg (by omega), hC1 q hq]
    omega
  · rw [cnt_s, up_s, cnt_out _ _ _ (Nat.le_refl n), if_neg (by omega), hC2 q hq]
    omega
  · obtain ⟨b, b1, b2, b3⟩ := hh k hk
    exact ⟨b, by omega, by omega, b2, b3⟩
def cmS (n w : Nat) (b1 b2 b3 b4 b5 : Int) (z : bS) : bS := ((up z.1.1 n b1, up z.1.2.1 n b2, up z.1.2.2.1 n b3, up z.1.2.2.2.1 n b4, up z.1.2.2.2.2.1 n b5, up z.1.2.2.2.2.2.1 n 0, (n : Int) + 1), bringS n 0 (z.2.1.1, z.2.1.2.1, z.2.1.2.2.1, up z.2.1.2.2.2.1 w (n : Int), z.2.1.2.2.2.2), z.2.2)
theorem takeIn_eq {n w i : Nat} {z : bS} {B : bB} (hC : CI z n) (hn : n < 40) (hw : z.2.1.2.2.2.2.1 0 = (w : Int)) (hi : i < 15) : f_X5_takeIn (i : Int) (z, B) = some (cmS n w (B.1 i) (B.2.1 i) (B.2.2.1 i) (B.2.2.2.1 i) (B.2.2.2.2.1 i) z, B) := by
  obtain ⟨⟨u1, u2, u3, u4, u5, u6, u7⟩, P, s, rest⟩ := z
  have hn1 : u7 = (n : Int) := hC.1.1
  subst hn1
  have hwn := (CI_40 hC).2
  have hw2 := PI_w hC.2.2
  unfold f_X5_takeIn
  refine (gd_q (rg_of (by first | omega | (dsimp only; omega))) (it_q1 (by first | omega | (dsimp only; omega)) (gd_q (inb_of (by first | omega | (dsimp only; omega))) (gd_q (inb_of (by first | omega | (dsimp only; omega))) (nm_q (nm_q (nm_q (nm_q (nm_q (nm_q (nm_q (?_))))))))))))
  refine (bd_q (bringToHopper_eq (b := n) (w := w) hn rfl hw (by dsimp only at hw hw2; omega)) (nm_q (rfl)))
theorem cm_CI {n w : Nat} {b1 b2 b3 b4 b5 : Int} {z : bS} (hC : CI z n) (hn : n < 40) (hw : z.2.1.2.2.2.2.1 0 = (w : Int)) (h1 : 1 ≤ b1 ∧ b1 ≤ 4) (h2 : 1 ≤ b2 ∧ b2 ≤ 30) (h3 : 0 ≤ b3 ∧ b3 ≤ 9) (h4 : 0 ≤ b4 ∧ b4 ≤ 9) (h5 : 0 ≤ b5 ∧ b5 ≤ 9) : CI (cmS n w b1 b2 b3 b4 b5 z) (n + 1) := by
  refine ⟨⟨rfl, by omega, fun b hb => ?_⟩, hC.2.1, hop_PI (new_LI hC.2.2) (by omega) hw⟩
  unfold cmS
  dsimp only
  by_cases e : b = n
  · subst e
    rw [up_s, up_s, up_s, up_s, up_s]
    exact ⟨h1, h2, h3, h4, h5⟩
  · rw [up_n _ _ e, up_n _ _ e, up_n _ _ e, up_n _ _ e, up_n _ _ e]
    exact CI_b hC (by omega)
def cmR0 (n : Nat) (b1 b2 b3 b4 b5 : Int) (r : Nat → Int) : Nat → Int := up (up (up (up (up (up (up (up r 13 ((n : Int) + 1)) (55 + 9 * n + 0) b1) (55 + 9 * n + 1) b2) (55 + 9 * n + 2) b3) (55 + 9 * n + 3) b4) (55 + 9 * n + 4) b5) (55 + 9 * n + 7) (-5)) (55 + 9 * n + 8) 0
def cmR (n w : Nat) (b1 b2 b3 b4 b5 : Int) (r : Nat → Int) : Nat → Int := up (up (up (up (cmR0 n b1 b2 b3 b4 b5 r) (55 + 9 * n + 5) 0) (55 + 9 * n + 6) (-5)) (15 + w) (n : Int)) 14 ((w : Int) + 1)
theorem cmR0_lo {n j : Nat} {b1 b2 b3 b4 b5 : Int} {r : Nat → Int} (h : j < 55) (h13 : j ≠ 13) : cmR0 n b1 b2 b3 b4 b5 r j = r j := by
  unfold cmR0
  rw [up_hi h, up_hi h, up_hi h, up_hi h, up_hi h, up_hi h, up_hi h, up_n _ _ h13]
theorem cmR0_13 {n : Nat} {b1 b2 b3 b4 b5 : Int} {r : Nat → Int} : cmR0 n b1 b2 b3 b4 b5 r 13 = (n : Int) + 1 := by
  unfold cmR0
  rw [up_hi (by omega), up_hi (by omega), up_hi (by omega), up_hi (by omega), up_hi (by omega), up_hi (by omega), up_hi (by omega), up_s]
theorem come_eq {N n w i : Nat} {r hi sn as li tx rd : Nat → Int} {st ik lm le sp re : Int} (hN : 60 ≤ N) (h13 : r 13 = (n : Int)) (hn : n < 40) (h14 : r 14 = (w : Int)) (hw : w < 40) (hi' : i < 15) : f_X8_come N (i : Int) (r, hi, st, sn, ik, as, li, lm, tx, le, sp, re, rd) = some (cmR n w (rd (5 * i)) (rd (5 * i + 1)) (rd (5 * i + 2)) (rd (5 * i + 3)) (rd (5 * i + 4)) r, hi, st, sn, ik, as, li, lm, tx, le, sp, re, rd) := by
  obtain ⟨K, rfl⟩ : ∃ K, N = K + 6 := ⟨N - 6, by omega⟩
  unfold f_X8_come
  refine (nm_q (nm_q (?_)))
  dsimp only
  rw [h13, f_X8_come_L21]
  refine (gd_q (rg_of (by first | omega | (dsimp only; omega))) (it_q2 (by first | omega | (dsimp only; omega)) (gd_q (inb_of (by first | omega | (dsimp only; omega))) (bd_q (put_eq (b := n) (k := 0) hn (by omega) rfl rfl) (?_)))))
  dsimp only
  rw [show (5 * (i : Int) + 0).toNat = 5 * i by omega, f_X8_come_L21]
  refine (gd_q (rg_of (by first | omega | (dsimp only; omega))) (it_q2 (by first | omega | (dsimp only; omega)) (gd_q (inb_of (by first | omega | (dsimp only; omega))) (bd_q (put_eq (b := n) (k := 1) hn (by omega) rfl (by omega)) (?_)))))
  dsimp only
  rw [show (5 * (i : Int) + (0 + 1)).toNat = 5 * i + 1 by omega, f_X8_come_L21]
  refine (gd_q (rg_of (by first | omega | (dsimp only; omega))) (it_q2 (by first | omega | (dsimp only; omega)) (gd_q (inb_of (by first | omega | (dsimp only; omega))) (bd_q (put_eq (b := n) (k := 2) hn (by omega) rfl (by omega)) (?_)))))
  dsimp only
  rw [show (5 * (i : Int) + (0 + 1 + 1)).toNat = 5 * i + 2 by omega, f_X8_come_L21]
  refine (gd_q (rg_of (by first | omega | (dsimp only; omega))) (it_q2 (by first | omega | (dsimp only; omega)) (gd_q (inb_of (by first | omega | (dsimp only; omega))) (bd_q (put_eq (b := n) (k := 3) hn (by omega) rfl (by omega)) (?_)))))
  dsimp only
  rw [show (5 * (i : Int) + (0 + 1 + 1 + 1)).toNat = 5 * i + 3 by omega, f_X8_come_L21]
  refine (gd_q (rg_of (by first | omega | (dsimp only; omega))) (it_q2 (by first | omega | (dsimp only; omega)) (gd_q (inb_of (by first | omega | (dsimp only; omega))) (bd_q (put_eq (b := n) (k := 4) hn (by omega) rfl (by omega)) (?_)))))
  dsimp only
  rw [show (5 * (i : Int) + (0 + 1 + 1 + 1 + 1)).toNat = 5 * i + 4 by omega, f_X8_come_L21]
  refine (gd_q (rg_of (by first | omega | (dsimp only; omega))) (it_q1 (by first | omega | (dsimp only; omega)) (bd_q (put_eq (b := n) (k := 7) hn (by omega) rfl rfl) (bd_q (put_eq (b := n) (k := 8) hn (by omega) rfl rfl) (?_)))))
  exact (bd_q (toHopper_eq (b := n) (w := w) hn rfl (Eq.trans (cmR0_lo (n := n) (b1 := rd (5 * i)) (b2 := rd (5 * i + 1)) (b3 := rd (5 * i + 2)) (b4 := rd (5 * i + 3)) (b5 := rd (5 * i + 4)) (r := r) (by omega) (by omega)) h14) hw) (rfl))
theorem cm_R {n w : Nat} {b1 b2 b3 b4 b5 : Int} {z : bS} {r : Nat → Int} (hC : CI z n) (hR : R1 z r n) (hn : n < 40) (hw : z.2.1.2.2.2.2.1 0 = (w : Int)) : R1 (cmS n w b1 b2 b3 b4 b5 z) (cmR n w b1 b2 b3 b4 b5 r) (n + 1) := by
  have h40 := CI_40 hC
  have hwn := PI_w hC.2.2
  obtain ⟨⟨h1, ⟨a1, a2, a3, a4, a5⟩, h3, h4, h5⟩, hB⟩ := hR
  have hmid : R1 ((up z.1.1 n b1, up z.1.2.1 n b2, up z.1.2.2.1 n b3, up z.1.2.2.2.1 n b4, up z.1.2.2.2.2.1 n b5, up z.1.2.2.2.2.2.1 n 0, (n : Int) + 1), (up z.2.1.1 n (r (55 + 9 * n + 5)), up z.2.1.2.1 n (r (55 + 9 * n + 6)), up z.2.1.2.2.1 n (-5), z.2.1.2.2.2), z.2.2) (cmR0 n b1 b2 b3 b4 b5 r) (n + 1) := by
    refine ⟨⟨fun k hk => by rw [cmR0_lo (by omega) (by omega)]; exact h1 k hk, ⟨by rw [cmR0_lo (by omega) (by omega)]; exact a1, by rw [cmR0_lo (by omega) (by omega)]; exact a2, by rw [cmR0_lo (by omega) (by omega)]; exact a3, by rw [cmR0_lo (by omega) (by omega)]; exact a4, by rw [cmR0_lo (by omega) (by omega)]; exact a5⟩, cmR0_13, by rw [cmR0_lo (by omega) (by omega)]; exact h4, fun k hk => ?_⟩, ?_⟩
    · have hk' : (k : Int) < z.2.1.2.2.2.2.1 0 := hk
      rw [cmR0_lo (by omega) (by omega)]
      exact h5 k hk'
    · have q0 : RB (up r 13 ((n : Int) + 1)) (n + 1) (fun k x => r (55 + 9 * x + k)) := fun b k hb hk => up_n _ _ (by omega)
      have q1 := RB_put (b0 := n) (k0 := 0) (v := b1) (F' := fun k x => if x = n ∧ k = 0 then b1 else r (55 + 9 * x + k)) q0 (by omega) (fun _ _ _ _ => rfl)
      have q2 := RB_put (b0 := n) (k0 := 1) (v := b2) (F' := fun k x => if x = n ∧ k = 1 then b2 else if x = n ∧ k = 0 then b1 else r (55 + 9 * x + k)) q1 (by omega) (fun _ _ _ _ => rfl)
      have q3 := RB_put (b0 := n) (k0 := 2) (v := b3) (F' := fun k x => if x = n ∧ k = 2 then b3 else if x = n ∧ k = 1 then b2 else if x = n ∧ k = 0 then b1 else r (55 + 9 * x + k)) q2 (by omega) (fun _ _ _ _ => rfl)
      have q4 := RB_put (b0 := n) (k0 := 3) (v := b4) (F' := fun k x => if x = n ∧ k = 3 then b4 else if x = n ∧ k = 2 then b3 else if x = n ∧ k = 1 then b2 else if x = n ∧ k = 0 then b1 else r (55 + 9 * x + k)) q3 (by omega) (fun _ _ _ _ => rfl)
      have q5 := RB_put (b0 := n) (k0 := 4) (v := b5) (F' := fun k x => if x = n ∧ k = 4 then b5 else if x = n ∧ k = 3 then b4 else if x = n ∧ k = 2 then b3 else if x = n ∧ k = 1 then b2 else if x = n ∧ k = 0 then b1 else r (55 + 9 * x + k)) q4 (by omega) (fun _ _ _ _ => rfl)
      have q6 := RB_put (b0 := n) (k0 := 7) (v := -5) (F' := fun k x => if x = n ∧ k = 7 then -5 else if x = n ∧ k = 4 then b5 else if x = n ∧ k = 3 then b4 else if x = n ∧ k = 2 then b3 else if x = n ∧ k = 1 then b2 else if x = n ∧ k = 0 then b1 else r (55 + 9 * x + k)) q5 (by omega) (fun _ _ _ _ => rfl)
      have q7 := RB_put (b0 := n) (k0 := 8) (v := 0) (F' := fun k x => if x = n ∧ k = 8 then 0 else if x = n ∧ k = 7 then -5 else if x = n ∧ k = 4 then b5 else if x = n ∧ k = 3 then b4 else if x = n ∧ k = 2 then b3 else if x = n ∧ k = 1 then b2 else if x = n ∧ k = 0 then b1 else r (55 + 9 * x + k)) q6 (by omega) (fun _ _ _ _ => rfl)
      refine RB_F q7 (fun x k hx hk => ?_)
      by_cases e : x = n
      · subst e
        rcases (show k = 0 ∨ k = 1 ∨ k = 2 ∨ k = 3 ∨ k = 4 ∨ k = 5 ∨ k = 6 ∨ k = 7 ∨ k = 8 by omega) with rfl | rfl | rfl | rfl | rfl | rfl | rfl | rfl | rfl <;> simp [fld, up_s]
      · have hbx := hB x k (by omega) hk
        rcases (show k = 0 ∨ k = 1 ∨ k = 2 ∨ k = 3 ∨ k = 4 ∨ k = 5 ∨ k = 6 ∨ k = 7 ∨ k = 8 by omega) with rfl | rfl | rfl | rfl | rfl | rfl | rfl | rfl | rfl <;> simp [fld, up_n _ _ e, e] at hbx ⊢ <;> exact hbx.symm
  have hh := hop_R (b0 := n) (w := w) hmid hw (by omega) (up_s _ _ _)
  have e1 : bringS n 0 (up z.2.1.1 n (r (55 + 9 * n + 5)), up z.2.1.2.1 n (r (55 + 9 * n + 6)), up z.2.1.2.2.1 n (-5), up z.2.1.2.2.2.1 w (n : Int), z.2.1.2.2.2.2) = bringS n 0 (z.2.1.1, z.2.1.2.1, z.2.1.2.2.1, up z.2.1.2.2.2.1 w (n : Int), z.2.1.2.2.2.2) := by
    unfold bringS
    dsimp only
    rw [up_up, up_up, up_up]
  unfold cmS cmR
  rw [← e1]
  exact hh
theorem come_loop {N c : Nat} (hN : 1300 ≤ N) (ho sz ir ch sh : Nat → Int) (at_ : Int) (T : bT) (O : bO) (H : bH) (px : bS × bS × Int) (hi sn as li tx rd : Nat → Int) (st ik lm le sp x1 : Int) (hc : c ≤ 15) (hB : ∀ j, j < c → BV ho sz ir ch sh rd j) : ∀ d i, i + d = c → ∀ (n : Nat) (S : bS) (r : Nat → Int) (k k' : Nat), CI S n → R1 S r n → n + d ≤ 40 → d < k → d < k' → ∃ (S' : bS) (r' : Nat → Int), f_X7_read_L57 N k x1 (i : Int) (((ho, sz, ir, ch, sh, (c : Int), at_), T), O, H, S, px) = some ((c : Int), (((ho, sz, ir, ch, sh, (c : Int), at_), T), O, H, S', px)) ∧ f_X8_read_L41 N k' (i : Int) (r, hi, st, sn, ik, as, li, lm, tx, le, sp, (c : Int), rd) = some ((c : Int), (r', hi, st, sn, ik, as, li, lm, tx, le, sp, (c : Int), rd)) ∧ RS S' r' := by
  intro d
  induction d with
  | zero =>
    intro i hi' n S r k k' hC hR hn hk hk'
    obtain ⟨k, rfl⟩ : ∃ j, k = j + 1 := ⟨k - 1, by omega⟩
    obtain ⟨k', rfl⟩ : ∃ j, k' = j + 1 := ⟨k' - 1, by omega⟩
    refine ⟨S, r, ?_, ?_, ⟨n, hC, hR⟩⟩
    · rw [f_X7_read_L57]
      exact (gd_q (rg_of (by first | omega | (dsimp only; omega))) (gd_q (rg_of (by first | omega | (dsimp only; omega))) (it_q1 (by first | omega | (dsimp only; omega)) (rfl))))
    · rw [f_X8_read_L41]
      exact (gd_q (rg_of (by first | omega | (dsimp only; omega))) (gd_q (rg_of (by first | omega | (dsimp only; omega))) (it_q1 (by first | omega | (dsimp only; omega)) (rfl))))
  | succ d ih =>
    intro i hi' n S r k k' hC hR hn hk hk'
    obtain ⟨k, rfl⟩ : ∃ j, k = j + 1 := ⟨k - 1, by omega⟩
    obtain ⟨k', rfl⟩ : ∃ j, k' = j + 1 := ⟨k' - 1, by omega⟩
    have hw2 := PI_w hC.2.2
    obtain ⟨w, hw⟩ : ∃ w : Nat, S.2.1.2.2.2.2.1 0 = (w : Int) := ⟨(S.2.1.2.2.2.2.1 0).toNat, by omega⟩
    obtain ⟨v1, v2, v3, v4, v5, v6, v7, v8, v9, v10⟩ := hB i (by omega)
    have hT := takeIn_eq (i := i) (B := (ho, sz, ir, ch, sh, (c : Int), at_)) hC (by omega) hw (by omega)
    have hM := come_eq (N := N) (n := n) (w := w) (i := i) (r := r) (hi := hi) (sn := sn) (as := as) (li := li) (tx := tx) (rd := rd) (st := st) (ik := ik) (lm := lm) (le := le) (sp := sp) (re := (c : Int)) (by omega) (R1_n hR) (by omega) (hR.1.2.2.2.1.trans hw) (by omega) (by omega)
    rw [v6, v7, v8, v9, v10] at hM
    obtain ⟨S', r', g1, g2, g3⟩ := ih (i + 1) (by omega) (n + 1) _ _ k k' (cm_CI hC (by omega) hw v1 v2 v3 v4 v5) (cm_R (b1 := ho i) (b2 := sz i) (b3 := ir i) (b4 := ch i) (b5 := sh i) hC hR (by omega) hw) (by omega) (by omega) (by omega)
    refine ⟨S', r', ?_, ?_, g3⟩
    · rw [f_X7_read_L57]
      exact (gd_q (rg_of (by first | omega | (dsimp only; omega))) (gd_q (rg_of (by first | omega | (dsimp only; omega))) (it_q2 (by first | omega | (dsimp only; omega)) (bd_q hT (nm_q (nm_q (g1)))))))
    · rw [f_X8_read_L41]
      exact (gd_q (rg_of (by first | omega | (dsimp only; omega))) (gd_q (rg_of (by first | omega | (dsimp only; omega))) (it_q2 (by first | omega | (dsimp only; omega)) (bd_q hM (g2)))))
theorem s_read {N : Nat} (hN : 1300 ≤ N) : SIM (f_X7_read N) (f_X8_read N) := by
  rintro ⟨⟨⟨ho, sz, ir, ch, sh, ct, at_⟩, s, l⟩, O, H, S, P, V, hs⟩ ⟨r, hi, st, sn, ik, as, li, lm, tx, le, sp, re, rd⟩ ⟨hT, hH, hS, hK⟩
  dsimp only at hT hH hS hK
  obtain ⟨L, t1, t2, t3, t4⟩ := hT
  subst t2
  subst t3
  have hT : RT s (L : Int) tx (L : Int) := ⟨L, t1, rfl, rfl, t4⟩
  have hS0 := hS
  obtain ⟨n, hC, hR⟩ := hS
  have h40 := CI_40 hC
  have hn := hC.1.1
  have h13 := R1_n hR
  obtain ⟨res, b, ctf, ref, p', c, ho', sz', ir', ch', sh', rd', g1, g2, g3, g4⟩ := parse_eq (N := N) (r := r) (hi := hi) (sn := sn) (as := as) (li := li) (st := st) (ik := ik) (lm := lm) (sp := sp) (re := re) (ho := ho) (sz := sz) (ir := ir) (ch := ch) (sh := sh) (rd := rd) (ct := ct) (at_ := at_) (by omega) (show TX s tx L from ⟨t1, t4⟩)
  rcases g4 with ⟨e1, e2, e3, e4, e5, e6⟩ | ⟨e1, e2⟩
  · subst e1
    subst e2
    subst e3
    subst e4
    by_cases e : (n : Int) + (c : Int) ≤ 40
    · obtain ⟨h', hi', st', w1, w2, w3⟩ := rem_eq (N := N) (t := (sn, ik, as, li, lm, tx, (L : Int), (p' : Int), (c : Int), rd')) hN hH hS0
      obtain ⟨S', r', u1, u2, u3⟩ := come_loop (N := N) hN ho' sz' ir' ch' sh' (p' : Int) (s, (L : Int)) O h' (P, V, hs) hi' sn as li tx rd' st' ik lm (L : Int) (p' : Int) (-1) e5 e6 c 0 (by omega) n S r N N hC hR (by omega) (by omega) (by omega)
      refine ⟨(c : Int), (((ho', sz', ir', ch', sh', (c : Int), (p' : Int)), s, (L : Int)), O, h', S', P, V, hs), (r', hi', st', sn, ik, as, li, lm, tx, (L : Int), (p' : Int), (c : Int), rd'), ?_, ?_, ⟨hT, w3, u3, hK⟩⟩
      · exact (bd_q g1 (nm_q (gd_q (rg_of (by first | omega | (dsimp only; omega))) (it_q1 rfl (gd_q (rg_of (by first | omega | (dsimp only; omega))) (it_q1 (by first | omega | (dsimp only; omega)) (bd_q w1 (nm_q (nm_q (u1))))))))))
      · exact (bd_q g2 (gd_q (rg_of (by first | omega | (dsimp only; omega))) (it_q2 (by first | omega | (dsimp only; omega)) (gd_q (rg_of (by first | omega | (dsimp only; omega))) (it_q1 (by first | omega | (dsimp only; omega)) (bd_q w2 (u2)))))))
    · refine ⟨-3, (((ho', sz', ir', ch', sh', (c : Int), (p' : Int)), s, (L : Int)), O, H, S, P, V, hs), (r, hi, st, sn, ik, as, li, lm, tx, (L : Int), (p' : Int), (c : Int), rd'), ?_, ?_, ⟨hT, hH, hS0, hK⟩⟩
      · exact (bd_q g1 (nm_q (gd_q (rg_of (by first | omega | (dsimp only; omega))) (it_q1 rfl (gd_q (rg_of (by first | omega | (dsimp only; omega))) (it_q2 (by first | omega | (dsimp only; omega)) (rfl)))))))
      · exact (bd_q g2 (gd_q (rg_of (by first | omega | (dsimp only; omega))) (it_q2 (by first | omega | (dsimp only; omega)) (gd_q (rg_of (by first | omega | (dsimp only; omega))) (it_q2 (by first | omega | (dsimp only; omega)) (rfl))))))
  · subst e1
    subst e2
    refine ⟨-100 - (p' : Int), (((ho', sz', ir', ch', sh', ctf, (p' : Int)), s, (L : Int)), O, H, S, P, V, hs), (r, hi, st, sn, ik, as, li, lm, tx, (L : Int), (p' : Int), ref, rd'), ?_, ?_, ⟨hT, hH, hS0, hK⟩⟩
    · exact (bd_q g1 (nm_q (gd_q (rg_of (by first | omega | (dsimp only; omega))) (it_q2 (by first | omega | (dsimp only; omega)) (rfl)))))
    · exact (bd_q g2 (gd_q (rg_of (by first | omega | (dsimp only; omega))) (it_q1 (by first | omega | (dsimp only; omega)) (rfl))))
