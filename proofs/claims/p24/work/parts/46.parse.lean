/-! one button of a text; all of them -/
def BV (ho sz ir ch sh rd : Nat → Int) (q : Nat) : Prop := (1 ≤ ho q ∧ ho q ≤ 4) ∧ (1 ≤ sz q ∧ sz q ≤ 30) ∧ (0 ≤ ir q ∧ ir q ≤ 9) ∧ (0 ≤ ch q ∧ ch q ≤ 9) ∧ (0 ≤ sh q ∧ sh q ≤ 9) ∧ rd (5 * q) = ho q ∧ rd (5 * q + 1) = sz q ∧ rd (5 * q + 2) = ir q ∧ rd (5 * q + 3) = ch q ∧ rd (5 * q + 4) = sh q
theorem btn {r hi sn as li tx s ho sz ir ch sh : Nat → Int} {st ik lm ct : Int} {L : Nat} {p q : Nat} {rd : Nat → Int} (hT : TX s tx L) (hp : p ≤ L) (hq : q < 15) : ∃ (p' : Nat) (ho' sz' ir' ch' sh' rd' : Nat → Int), p ≤ p' ∧ p' ≤ L ∧ (∀ j, j ≠ q → ho' j = ho j ∧ sz' j = sz j ∧ ir' j = ir j ∧ ch' j = ch j ∧ sh' j = sh j) ∧ (∀ j, j < 5 * q → rd' j = rd j) ∧ ((p + 3 ≤ p' ∧ BV ho' sz' ir' ch' sh' rd' q ∧ f_X0_takeButton (q : Int) ((ho, sz, ir, ch, sh, ct, (p : Int)), (s, (L : Int))) = some (1, ((ho', sz', ir', ch', sh', ct, (p' : Int)), (s, (L : Int)))) ∧ f_X8_readsButton (r, hi, st, sn, ik, as, li, lm, tx, (L : Int), (p : Int), (q : Int), rd) = some (1, (r, hi, st, sn, ik, as, li, lm, tx, (L : Int), (p' : Int), ((q + 1 : Nat) : Int), rd'))) ∨ (f_X0_takeButton (q : Int) ((ho, sz, ir, ch, sh, ct, (p : Int)), (s, (L : Int))) = some (0, ((ho', sz', ir', ch', sh', ct, (p' : Int)), (s, (L : Int)))) ∧ f_X8_readsButton (r, hi, st, sn, ik, as, li, lm, tx, (L : Int), (p : Int), (q : Int), rd) = some (0, (r, hi, st, sn, ik, as, li, lm, tx, (L : Int), (p' : Int), (q : Int), rd')))) := by
  have hu : ∀ (f : Nat → Int) (v : Int) (j : Nat), j ≠ q → up f q v j = f j := fun f v j hj => up_n f v hj
  rcases dig (ho := ho) (sz := sz) (ir := ir) (ch := ch) (sh := sh) (r := r) (hi := hi) (st := st) (sn := sn) (ik := ik) (as := as) (li := li) (lm := lm) (ct := ct) (re := (q : Int)) (rd := rd) (lo := 1) (hh := 4) (alo := 49) (ahi := 52) hT hp (by omega) (by omega) rfl rfl (by omega) (by omega) with ⟨v1, x1, x2, x3, a1, a2, a3⟩ | ⟨a1, a2⟩
  rotate_left
  · refine ⟨p, (up ho q (-1)), sz, ir, ch, sh, rd, by omega, by omega, fun j hj => ⟨hu _ _ j hj, rfl, rfl, rfl, rfl⟩, fun j hj => rfl, Or.inr ⟨?_, ?_⟩⟩
    · unfold f_X0_takeButton
      exact (bd_q a1 (gd_q (inb_of (by first | omega | (dsimp only; omega))) (nm_q (gd_q (by dsimp only [tn]; rw [up_s]; exact (rg_of (by first | omega | (dsimp only; omega)))) (it_q1 (by dsimp only [tn]; rw [up_s]; omega) (rfl))))))
    · unfold f_X8_readsButton
      exact (bd_q a2 (gd_q (rg_of (by first | omega | (dsimp only; omega))) (it_q1 (by first | omega | (dsimp only; omega)) (rfl))))
  have r1a : (up rd ((5 * (q : Int)).toNat) v1) (5 * q) = v1 := by rw [show (5 * (q : Int)).toNat = 5 * q by omega]; exact up_s _ _ _
  have r1b : ∀ j, j ≠ 5 * q → (up rd ((5 * (q : Int)).toNat) v1) j = rd j := fun j hj => by rw [show (5 * (q : Int)).toNat = 5 * q by omega]; exact up_n _ _ hj
  rcases sgn (ho := (up ho q v1)) (sz := sz) (ir := ir) (ch := ch) (sh := sh) (r := r) (hi := hi) (st := st) (sn := sn) (ik := ik) (as := as) (li := li) (lm := lm) (ct := ct) (p := p + 1) (re := (q : Int)) (rd := (up rd ((5 * (q : Int)).toNat) v1)) (c := 104) hT (by omega) (by decide) with ⟨x4, b1, b2⟩ | ⟨b1, b2⟩
  rotate_left
  · refine ⟨p + 1, (up ho q v1), sz, ir, ch, sh, (up rd ((5 * (q : Int)).toNat) v1), by omega, by omega, fun j hj => ⟨hu _ _ j hj, rfl, rfl, rfl, rfl⟩, fun j hj => r1b j (by omega), Or.inr ⟨?_, ?_⟩⟩
    · unfold f_X0_takeButton
      exact (bd_q a1 (gd_q (inb_of (by first | omega | (dsimp only; omega))) (nm_q (gd_q (by dsimp only [tn]; rw [up_s]; exact (rg_of (by first | omega | (dsimp only; omega)))) (it_q2 (by dsimp only [tn]; rw [up_s]; omega) (bd_q b1 (gd_q (rg_of (by first | omega | (dsimp only; omega))) (it_q1 (by first | omega | (dsimp only; omega)) (rfl)))))))))
    · unfold f_X8_readsButton
      exact (bd_q a2 (gd_q (rg_of (by first | omega | (dsimp only; omega))) (it_q2 (by first | omega | (dsimp only; omega)) (bd_q a3 (gd_q (inb_of (by first | omega | (dsimp only; omega))) (nm_q (bd_q b2 (gd_q (rg_of (by first | omega | (dsimp only; omega))) (it_q1 (by first | omega | (dsimp only; omega)) (nm_q (rfl)))))))))))
  rcases siz (ho := (up ho q v1)) (sz := sz) (ir := ir) (ch := ch) (sh := sh) (r := r) (hi := hi) (st := st) (sn := sn) (ik := ik) (as := as) (li := li) (lm := lm) (ct := ct) (p := p + 1 + 1) (q := q) (rd := (up rd ((5 * (q : Int)).toNat) v1)) hT (by omega) hq with ⟨p3, y1, y2, ⟨v2, rd2, y3, y4, y5, y6, y7, c1, c2⟩ | ⟨c1, c2⟩⟩
  rotate_left
  · refine ⟨p3, (up ho q v1), (up sz q (-1)), ir, ch, sh, (up rd ((5 * (q : Int)).toNat) v1), by omega, by omega, fun j hj => ⟨hu _ _ j hj, hu _ _ j hj, rfl, rfl, rfl⟩, fun j hj => r1b j (by omega), Or.inr ⟨?_, ?_⟩⟩
    · unfold f_X0_takeButton
      exact (bd_q a1 (gd_q (inb_of (by first | omega | (dsimp only; omega))) (nm_q (gd_q (by dsimp only [tn]; rw [up_s]; exact (rg_of (by first | omega | (dsimp only; omega)))) (it_q2 (by dsimp only [tn]; rw [up_s]; omega) (bd_q b1 (gd_q (rg_of (by first | omega | (dsimp only; omega))) (it_q2 (by first | omega | (dsimp only; omega)) (bd_q c1 (nm_q (gd_q (by dsimp only [tn]; rw [up_s]; exact (rg_of (by first | omega | (dsimp only; omega)))) (it_q2 (by dsimp only [tn]; rw [up_s]; omega) (rfl)))))))))))))
    · unfold f_X8_readsButton
      exact (bd_q a2 (gd_q (rg_of (by first | omega | (dsimp only; omega))) (it_q2 (by first | omega | (dsimp only; omega)) (bd_q a3 (gd_q (inb_of (by first | omega | (dsimp only; omega))) (nm_q (bd_q b2 (gd_q (rg_of (by first | omega | (dsimp only; omega))) (it_q2 (by first | omega | (dsimp only; omega)) (bd_q c2 (gd_q (rg_of (by first | omega | (dsimp only; omega))) (it_q1 (by first | omega | (dsimp only; omega)) (nm_q (rfl))))))))))))))
  rcases prt (ho := (up ho q v1)) (sz := (up sz q v2)) (ir := ir) (ch := ch) (sh := sh) (r := r) (hi := hi) (st := st) (sn := sn) (ik := ik) (as := as) (li := li) (lm := lm) (ct := ct) (p := p3) (q := q) (w := 2) (rd := rd2) (c := 105) (ww := 2) hT (by omega) hq (by omega) rfl (by decide) with ⟨p4, rd3, z1, z2, z3, ⟨v3, z4, z5, z6, d1, d2⟩ | ⟨d1, d2⟩⟩
  rotate_left
  · refine ⟨p4, (up ho q v1), (up sz q v2), (up ir q (-1)), ch, sh, rd3, by omega, by omega, fun j hj => ⟨hu _ _ j hj, hu _ _ j hj, hu _ _ j hj, rfl, rfl⟩, fun j hj => by rw [z3 j (by omega), y6 j (by omega)]; exact r1b j (by omega), Or.inr ⟨?_, ?_⟩⟩
    · unfold f_X0_takeButton
      exact (bd_q a1 (gd_q (inb_of (by first | omega | (dsimp only; omega))) (nm_q (gd_q (by dsimp only [tn]; rw [up_s]; exact (rg_of (by first | omega | (dsimp only; omega)))) (it_q2 (by dsimp only [tn]; rw [up_s]; omega) (bd_q b1 (gd_q (rg_of (by first | omega | (dsimp only; omega))) (it_q2 (by first | omega | (dsimp only; omega)) (bd_q c1 (nm_q (gd_q (by dsimp only [tn]; rw [up_s]; exact (rg_of (by first | omega | (dsimp only; omega)))) (it_q1 (by dsimp only [tn]; rw [up_s]; omega) (bd_q d1 (nm_q (gd_q (by dsimp only [tn]; rw [up_s]; exact (rg_of (by first | omega | (dsimp only; omega)))) (it_q2 (by dsimp only [tn]; rw [up_s]; omega) (rfl)))))))))))))))))
    · unfold f_X8_readsButton
      exact (bd_q a2 (gd_q (rg_of (by first | omega | (dsimp only; omega))) (it_q2 (by first | omega | (dsimp only; omega)) (bd_q a3 (gd_q (inb_of (by first | omega | (dsimp only; omega))) (nm_q (bd_q b2 (gd_q (rg_of (by first | omega | (dsimp only; omega))) (it_q2 (by first | omega | (dsimp only; omega)) (bd_q c2 (gd_q (rg_of (by first | omega | (dsimp only; omega))) (it_q2 (by first | omega | (dsimp only; omega)) (bd_q d2 (gd_q (rg_of (by first | omega | (dsimp only; omega))) (it_q1 (by first | omega | (dsimp only; omega)) (nm_q (rfl)))))))))))))))))
  rcases prt (ho := (up ho q v1)) (sz := (up sz q v2)) (ir := (up ir q v3)) (ch := ch) (sh := sh) (r := r) (hi := hi) (st := st) (sn := sn) (ik := ik) (as := as) (li := li) (lm := lm) (ct := ct) (p := p4) (q := q) (w := 3) (rd := rd3) (c := 99) (ww := 3) hT (by omega) hq (by omega) rfl (by decide) with ⟨p5, rd4, k1, k2, k3, ⟨v4, k4, k5, k6, e1, e2⟩ | ⟨e1, e2⟩⟩
  rotate_left
  · refine ⟨p5, (up ho q v1), (up sz q v2), (up ir q v3), (up ch q (-1)), sh, rd4, by omega, by omega, fun j hj => ⟨hu _ _ j hj, hu _ _ j hj, hu _ _ j hj, hu _ _ j hj, rfl⟩, fun j hj => by rw [k3 j (by omega), z3 j (by omega), y6 j (by omega)]; exact r1b j (by omega), Or.inr ⟨?_, ?_⟩⟩
    · unfold f_X0_takeButton
      exact (bd_q a1 (gd_q (inb_of (by first | omega | (dsimp only; omega))) (nm_q (gd_q (by dsimp only [tn]; rw [up_s]; exact (rg_of (by first | omega | (dsimp only; omega)))) (it_q2 (by dsimp only [tn]; rw [up_s]; omega) (bd_q b1 (gd_q (rg_of (by first | omega | (dsimp only; omega))) (it_q2 (by first | omega | (dsimp only; omega)) (bd_q c1 (nm_q (gd_q (by dsimp only [tn]; rw [up_s]; exact (rg_of (by first | omega | (dsimp only; omega)))) (it_q1 (by dsimp only [tn]; rw [up_s]; omega) (bd_q d1 (nm_q (gd_q (by dsimp only [tn]; rw [up_s]; exact (rg_of (by first | omega | (dsimp only; omega)))) (it_q1 (by dsimp only [tn]; rw [up_s]; omega) (bd_q e1 (nm_q (gd_q (by dsimp only [tn]; rw [up_s]; exact (rg_of (by first | omega | (dsimp only; omega)))) (it_q2 (by dsimp only [tn]; rw [up_s]; omega) (rfl)))))))))))))))))))))
    · unfold f_X8_readsButton
      exact (bd_q a2 (gd_q (rg_of (by first | omega | (dsimp only; omega))) (it_q2 (by first | omega | (dsimp only; omega)) (bd_q a3 (gd_q (inb_of (by first | omega | (dsimp only; omega))) (nm_q (bd_q b2 (gd_q (rg_of (by first | omega | (dsimp only; omega))) (it_q2 (by first | omega | (dsimp only; omega)) (bd_q c2 (gd_q (rg_of (by first | omega | (dsimp only; omega))) (it_q2 (by first | omega | (dsimp only; omega)) (bd_q d2 (gd_q (rg_of (by first | omega | (dsimp only; omega))) (it_q2 (by first | omega | (dsimp only; omega)) (bd_q e2 (gd_q (rg_of (by first | omega | (dsimp only; omega))) (it_q1 (by first | omega | (dsimp only; omega)) (nm_q (rfl))))))))))))))))))))
  rcases prt (ho := (up ho q v1)) (sz := (up sz q v2)) (ir := (up ir q v3)) (ch := (up ch q v4)) (sh := sh) (r := r) (hi := hi) (st := st) (sn := sn) (ik := ik) (as := as) (li := li) (lm := lm) (ct := ct) (p := p5) (q := q) (w := 4) (rd := rd4) (c := 115) (ww := 4) hT (by omega) hq (by omega) rfl (by decide) with ⟨p6, rd5, m1, m2, m3, ⟨v5, m4, m5, m6, f1, f2⟩ | ⟨f1, f2⟩⟩
  rotate_left
  · refine ⟨p6, (up ho q v1), (up sz q v2), (up ir q v3), (up ch q v4), (up sh q (-1)), rd5, by omega, by omega, fun j hj => ⟨hu _ _ j hj, hu _ _ j hj, hu _ _ j hj, hu _ _ j hj, hu _ _ j hj⟩, fun j hj => by rw [m3 j (by omega), k3 j (by omega), z3 j (by omega), y6 j (by omega)]; exact r1b j (by omega), Or.inr ⟨?_, ?_⟩⟩
    · unfold f_X0_takeButton
      exact (bd_q a1 (gd_q (inb_of (by first | omega | (dsimp only; omega))) (nm_q (gd_q (by dsimp only [tn]; rw [up_s]; exact (rg_of (by first | omega | (dsimp only; omega)))) (it_q2 (by dsimp only [tn]; rw [up_s]; omega) (bd_q b1 (gd_q (rg_of (by first | omega | (dsimp only; omega))) (it_q2 (by first | omega | (dsimp only; omega)) (bd_q c1 (nm_q (gd_q (by dsimp only [tn]; rw [up_s]; exact (rg_of (by first | omega | (dsimp only; omega)))) (it_q1 (by dsimp only [tn]; rw [up_s]; omega) (bd_q d1 (nm_q (gd_q (by dsimp only [tn]; rw [up_s]; exact (rg_of (by first | omega | (dsimp only; omega)))) (it_q1 (by dsimp only [tn]; rw [up_s]; omega) (bd_q e1 (nm_q (gd_q (by dsimp only [tn]; rw [up_s]; exact (rg_of (by first | omega | (dsimp only; omega)))) (it_q1 (by dsimp only [tn]; rw [up_s]; omega) (bd_q f1 (nm_q (gd_q (by dsimp only [tn]; rw [up_s]; exact (rg_of (by first | omega | (dsimp only; omega)))) (it_q1 (by dsimp only [tn]; rw [up_s]; omega) (rfl)))))))))))))))))))))))))
    · unfold f_X8_readsButton
      exact (bd_q a2 (gd_q (rg_of (by first | omega | (dsimp only; omega))) (it_q2 (by first | omega | (dsimp only; omega)) (bd_q a3 (gd_q (inb_of (by first | omega | (dsimp only; omega))) (nm_q (bd_q b2 (gd_q (rg_of (by first | omega | (dsimp only; omega))) (it_q2 (by first | omega | (dsimp only; omega)) (bd_q c2 (gd_q (rg_of (by first | omega | (dsimp only; omega))) (it_q2 (by first | omega | (dsimp only; omega)) (bd_q d2 (gd_q (rg_of (by first | omega | (dsimp only; omega))) (it_q2 (by first | omega | (dsimp only; omega)) (bd_q e2 (gd_q (rg_of (by first | omega | (dsimp only; omega))) (it_q2 (by first | omega | (dsimp only; omega)) (bd_q f2 (gd_q (rg_of (by first | omega | (dsimp only; omega))) (it_q1 (by first | omega | (dsimp only; omega)) (nm_q (rfl)))))))))))))))))))))))
  have hv : BV (up ho q v1) (up sz q v2) (up ir q v3) (up ch q v4) (up sh q v5) rd5 q := by
    unfold BV
    rw [up_s, up_s, up_s, up_s, up_s]
    refine ⟨by omega, by omega, by omega, by omega, by omega, ?_, ?_, ?_, ?_, m6⟩
    · rw [m3 _ (by omega), k3 _ (by omega), z3 _ (by omega), y6 _ (by omega)]; exact r1a
    · rw [m3 _ (by omega), k3 _ (by omega), z3 _ (by omega)]; exact y7
    · rw [m3 _ (by omega), k3 _ (by omega)]; exact z6
    · rw [m3 _ (by omega)]; exact k6
  · refine ⟨p6, (up ho q v1), (up sz q v2), (up ir q v3), (up ch q v4), (up sh q v5), rd5, by omega, by omega, fun j hj => ⟨hu _ _ j hj, hu _ _ j hj, hu _ _ j hj, hu _ _ j hj, hu _ _ j hj⟩, fun j hj => by rw [m3 j (by omega), k3 j (by omega), z3 j (by omega), y6 j (by omega)]; exact r1b j (by omega), Or.inl ⟨by omega, hv, ?_, ?_⟩⟩
    · unfold f_X0_takeButton
      exact (bd_q a1 (gd_q (inb_of (by first | omega | (dsimp only; omega))) (nm_q (gd_q (by dsimp only [tn]; rw [up_s]; exact (rg_of (by first | omega | (dsimp only; omega)))) (it_q2 (by dsimp only [tn]; rw [up_s]; omega) (bd_q b1 (gd_q (rg_of (by first | omega | (dsimp only; omega))) (it_q2 (by first | omega | (dsimp only; omega)) (bd_q c1 (nm_q (gd_q (by dsimp only [tn]; rw [up_s]; exact (rg_of (by first | omega | (dsimp only; omega)))) (it_q1 (by dsimp only [tn]; rw [up_s]; omega) (bd_q d1 (nm_q (gd_q (by dsimp only [tn]; rw [up_s]; exact (rg_of (by first | omega | (dsimp only; omega)))) (it_q1 (by dsimp only [tn]; rw [up_s]; omega) (bd_q e1 (nm_q (gd_q (by dsimp only [tn]; rw [up_s]; exact (rg_of (by first | omega | (dsimp only; omega)))) (it_q1 (by dsimp only [tn]; rw [up_s]; omega) (bd_q f1 (nm_q (gd_q (by dsimp only [tn]; rw [up_s]; exact (rg_of (by first | omega | (dsimp only; omega)))) (it_q2 (by dsimp only [tn]; rw [up_s]; omega) (rfl)))))))))))))))))))))))))
    · unfold f_X8_readsButton
      exact (bd_q a2 (gd_q (rg_of (by first | omega | (dsimp only; omega))) (it_q2 (by first | omega | (dsimp only; omega)) (bd_q a3 (gd_q (inb_of (by first | omega | (dsimp only; omega))) (nm_q (bd_q b2 (gd_q (rg_of (by first | omega | (dsimp only; omega))) (it_q2 (by first | omega | (dsimp only; omega)) (bd_q c2 (gd_q (rg_of (by first | omega | (dsimp only; omega))) (it_q2 (by first | omega | (dsimp only; omega)) (bd_q d2 (gd_q (rg_of (by first | omega | (dsimp only; omega))) (it_q2 (by first | omega | (dsimp only; omega)) (bd_q e2 (gd_q (rg_of (by first | omega | (dsimp only; omega))) (it_q2 (by first | omega | (dsimp only; omega)) (bd_q f2 (gd_q (rg_of (by first | omega | (dsimp only; omega))) (it_q2 (by first | omega | (dsimp only; omega)) (nm_q (rfl)))))))))))))))))))))))
theorem BV_same {ho sz ir ch sh rd ho' sz' ir' ch' sh' rd' : Nat → Int} {j q : Nat} (h : BV ho sz ir ch sh rd j) (hj : j < q) (h1 : ∀ j, j ≠ q → ho' j = ho j ∧ sz' j = sz j ∧ ir' j = ir j ∧ ch' j = ch j ∧ sh' j = sh j) (h2 : ∀ j, j < 5 * q → rd' j = rd j) : BV ho' sz' ir' ch' sh' rd' j := by
  obtain ⟨a1, a2, a3, a4, a5⟩ := h1 j (by omega)
  unfold BV at h ⊢
  rw [a1, a2, a3, a4, a5, h2 _ (by omega), h2 _ (by omega), h2 _ (by omega), h2 _ (by omega), h2 _ (by omega)]
  exact h
theorem parse_loop {N : Nat} {r hi sn as li tx s : Nat → Int} {st ik lm : Int} {L : Nat} (hT : TX s tx L) : ∀ d i, i + d = 15 → ∀ (p fu fu' : Nat) (ho sz ir ch sh rd : Nat → Int), 4 * i ≤ p → p ≤ L → (∀ j, j < i → BV ho sz ir ch sh rd j) → d < fu → d < fu' → ∃ (res b ctf ref : Int) (p' c : Nat) (ho' sz' ir' ch' sh' rd' : Nat → Int), f_X0_parse_L12 N fu (i : Int) ((ho, sz, ir, ch, sh, (i : Int), (p : Int)), (s, (L : Int))) = some (res, ((ho', sz', ir', ch', sh', ctf, (p' : Int)), (s, (L : Int)))) ∧ (bd (f_X8_readsButton (r, hi, st, sn, ik, as, li, lm, tx, (L : Int), (p : Int), (i : Int), rd)) fun u => f_X8_areButtons_L15 N fu' u.1 u.2) = some (b, (r, hi, st, sn, ik, as, li, lm, tx, (L : Int), (p' : Int), ref, rd')) ∧ p' ≤ L ∧ ((res = -1 ∧ b = 1 ∧ ctf = (c : Int) ∧ ref = (c : Int) ∧ c ≤ 15 ∧ ∀ j, j < c → BV ho' sz' ir' ch' sh' rd' j) ∨ (res = (p' : Int) ∧ b = 0)) := by
  have hL := hT.1
  intro d
  induction d with
  | zero =>
    intro i hi' p fu fu' ho sz ir ch sh rd hp hpL hB hf hf'
    obtain ⟨fu, rfl⟩ : ∃ j, fu = j + 1 := ⟨fu - 1, by omega⟩
    obtain ⟨fu', rfl⟩ : ∃ j, fu' = j + 1 := ⟨fu' - 1, by omega⟩
    rcases dig (ho := ho) (sz := sz) (ir := ir) (ch := ch) (sh := sh) (ct := 0) (r := r) (hi := hi) (st := st) (sn := sn) (ik := ik) (as := as) (li := li) (lm := lm) (re := (i : Int)) (rd := rd) (lo := 1) (hh := 4) (alo := 49) (ahi := 52) hT hpL (by omega) (by omega) rfl rfl (by omega) (by omega) with ⟨v1, x1, x2, x3, a1, a2, a3⟩ | ⟨a1, a2⟩
    · omega
    · refine ⟨(p : Int), 0, (i : Int), (i : Int), p, 0, ho, sz, ir, ch, sh, rd, ?_, ?_, hpL, Or.inr ⟨rfl, rfl⟩⟩
      · rw [f_X0_parse_L12]
        exact (gd_q (rg_of (by first | omega | (dsimp only; omega))) (it_q1 (by first | omega | (dsimp only; omega)) (rfl)))
      · refine bd_q (a := (0, (r, hi, st, sn, ik, as, li, lm, tx, (L : Int), (p : Int), (i : Int), rd))) ?_ ?_
        · unfold f_X8_readsButton
          exact (bd_q a2 (gd_q (rg_of (by first | omega | (dsimp only; omega))) (it_q1 (by first | omega | (dsimp only; omega)) (rfl))))
        · dsimp only
          rw [f_X8_areButtons_L15]
          exact (gd_q (by decide) (it_q1 rfl (it_q1 rfl (rfl))))
  | succ d ih =>
    intro i hi' p fu fu' ho sz ir ch sh rd hp hpL hB hf hf'
    obtain ⟨fu, rfl⟩ : ∃ j, fu = j + 1 := ⟨fu - 1, by omega⟩
    obtain ⟨fu', rfl⟩ : ∃ j, fu' = j + 1 := ⟨fu' - 1, by omega⟩
    obtain ⟨p1, ho1, sz1, ir1, ch1, sh1, rd1, b1, b2, b3, b4, ⟨b5, b6, b7, b8⟩ | ⟨b7, b8⟩⟩ := btn (ho := ho) (sz := sz) (ir := ir) (ch := ch) (sh := sh) (ct := (i : Int)) (r := r) (hi := hi) (st := st) (sn := sn) (ik := ik) (as := as) (li := li) (lm := lm) (q := i) (rd := rd) hT hpL (by omega)
    · have hB' : ∀ j, j < i + 1 → BV ho1 sz1 ir1 ch1 sh1 rd1 j := fun j hj => by
        by_cases e : j = i
        · subst e
          exact b6
        · exact BV_same (hB j (by omega)) (show j < i by omega) b3 b4
      rcases sgn (ho := ho1) (sz := sz1) (ir := ir1) (ch := ch1) (sh := sh1) (ct := ((i + 1 : Nat) : Int)) (r := r) (hi := hi) (st := st) (sn := sn) (ik := ik) (as := as) (li := li) (lm := lm) (p := p1) (re := ((i + 1 : Nat) : Int)) (rd := rd1) (c := 44) hT b2 (by decide) with ⟨x4, c1, c2⟩ | ⟨c1, c2⟩
      · obtain ⟨res, b, ctf, ref, p', c, ho', sz', ir', ch', sh', rd', g1, g2, g3, g4⟩ := ih (i + 1) (by omega) (p1 + 1) fu fu' ho1 sz1 ir1 ch1 sh1 rd1 (by omega) (by omega) hB' (by omega) (by omega)
        refine ⟨res, b, ctf, ref, p', c, ho', sz', ir', ch', sh', rd', ?_, ?_, g3, g4⟩
        · rw [f_X0_parse_L12]
          exact (gd_q (rg_of (by first | omega | (dsimp only; omega))) (it_q2 (by first | omega | (dsimp only; omega)) (bd_q b7 (gd_q (rg_of (by first | omega | (dsimp only; omega))) (it_q2 (by first | omega | (dsimp only; omega)) (nm_q (gd_q (rg_of (by first | omega | (dsimp only; omega))) (gd_q (rg_of (by first | omega | (dsimp only; omega))) (it_q1 (by first | omega | (dsimp only; omega)) (bd_q c1 (gd_q (rg_of (by first | omega | (dsimp only; omega))) (it_q2 (by first | omega | (dsimp only; omega)) (g1)))))))))))))
        · refine bd_q b8 ?_
          dsimp only
          rw [f_X8_areButtons_L15]
          exact (gd_q (by decide) (it_q2 (by decide) (bd_q c2 (gd_q (rg_of (by first | omega | (dsimp only; omega))) (it_q2 (by first | omega | (dsimp only; omega)) (g2))))))
      · by_cases e : p1 = L
        · refine ⟨-1, 1, ((i + 1 : Nat) : Int), ((i + 1 : Nat) : Int), p1, i + 1, ho1, sz1, ir1, ch1, sh1, rd1, ?_, ?_, b2, Or.inl ⟨rfl, rfl, rfl, rfl, by omega, hB'⟩⟩
          · rw [f_X0_parse_L12]
            exact (gd_q (rg_of (by first | omega | (dsimp only; omega))) (it_q2 (by first | omega | (dsimp only; omega)) (bd_q b7 (gd_q (rg_of (by first | omega | (dsimp only; omega))) (it_q2 (by first | omega | (dsimp only; omega)) (nm_q (gd_q (rg_of (by first | omega | (dsimp only; omega))) (gd_q (rg_of (by first | omega | (dsimp only; omega))) (it_q2 (by first | omega | (dsimp only; omega)) (rfl))))))))))
          · refine bd_q b8 ?_
            dsimp only
            rw [f_X8_areButtons_L15]
            exact (gd_q (by decide) (it_q2 (by decide) (bd_q c2 (gd_q (rg_of (by first | omega | (dsimp only; omega))) (it_q1 (by first | omega | (dsimp only; omega)) (it_q2 (by decide) (gd_q (rg_of (by first | omega | (dsimp only; omega))) (gd_q (rg_of (by first | omega | (dsimp only; omega))) (it_q1 (by first | omega | (dsimp only; omega)) (rfl))))))))))
        · refine ⟨(p1 : Int), 0, ((i + 1 : Nat) : Int), ((i + 1 : Nat) : Int), p1, i + 1, ho1, sz1, ir1, ch1, sh1, rd1, ?_, ?_, b2, Or.inr ⟨rfl, rfl⟩⟩
          · rw [f_X0_parse_L12]
            exact (gd_q (rg_of (by first | omega | (dsimp only; omega))) (it_q2 (by first | omega | (dsimp only; omega)) (bd_q b7 (gd_q (rg_of (by first | omega | (dsimp only; omega))) (it_q2 (by first | omega | (dsimp only; omega)) (nm_q (gd_q (rg_of (by first | omega | (dsimp only; omega))) (gd_q (rg_of (by first | omega | (dsimp only; omega))) (it_q1 (by first | omega | (dsimp only; omega)) (bd_q c1 (gd_q (rg_of (by first | omega | (dsimp only; omega))) (it_q1 (by first | omega | (dsimp only; omega)) (rfl)))))))))))))
          · refine bd_q b8 ?_
            dsimp only
            rw [f_X8_areButtons_L15]
            exact (gd_q (by decide) (it_q2 (by decide) (bd_q c2 (gd_q (rg_of (by first | omega | (dsimp only; omega))) (it_q1 (by first | omega | (dsimp only; omega)) (it_q2 (by decide) (gd_q (rg_of (by first | omega | (dsimp only; omega))) (gd_q (rg_of (by first | omega | (dsimp only; omega))) (it_q2 (by first | omega | (dsimp only; omega)) (rfl))))))))))
    · refine ⟨(p1 : Int), 0, (i : Int), (i : Int), p1, i, ho1, sz1, ir1, ch1, sh1, rd1, ?_, ?_, b2, Or.inr ⟨rfl, rfl⟩⟩
      · rw [f_X0_parse_L12]
        exact (gd_q (rg_of (by first | omega | (dsimp only; omega))) (it_q2 (by first | omega | (dsimp only; omega)) (bd_q b7 (gd_q (rg_of (by first | omega | (dsimp only; omega))) (it_q1 (by first | omega | (dsimp only; omega)) (rfl))))))
      · refine bd_q b8 ?_
        dsimp only
        rw [f_X8_areButtons_L15]
        exact (gd_q (by decide) (it_q1 rfl (it_q1 rfl (rfl))))
theorem parse_eq {N : Nat} {r hi sn as li tx s : Nat → Int} {st ik lm sp re : Int} {L : Nat} {ho sz ir ch sh rd : Nat → Int} {ct at_ : Int} (hN : 60 ≤ N) (hT : TX s tx L) : ∃ (res b ctf ref : Int) (p' c : Nat) (ho' sz' ir' ch' sh' rd' : Nat → Int), f_X0_parse N ((ho, sz, ir, ch, sh, ct, at_), (s, (L : Int))) = some (res, ((ho', sz', ir', ch', sh', ctf, (p' : Int)), (s, (L : Int)))) ∧ f_X8_areButtons N (r, hi, st, sn, ik, as, li, lm, tx, (L : Int), sp, re, rd) = some (b, (r, hi, st, sn, ik, as, li, lm, tx, (L : Int), (p' : Int), ref, rd')) ∧ p' ≤ L ∧ ((res = -1 ∧ b = 1 ∧ ctf = (c : Int) ∧ ref = (c : Int) ∧ c ≤ 15 ∧ ∀ j, j < c → BV ho' sz' ir' ch' sh' rd' j) ∨ (res = (p' : Int) ∧ b = 0)) := by
  obtain ⟨res, b, ctf, ref, p', c, ho', sz', ir', ch', sh', rd', g1, g2, g3, g4⟩ := parse_loop (N := N) (r := r) (hi := hi) (sn := sn) (as := as) (li := li) (st := st) (ik := ik) (lm := lm) hT 15 0 (by omega) 0 N N ho sz ir ch sh rd (by omega) (by omega) (fun j hj => absurd hj (by omega)) (by omega) (by omega)
  exact ⟨res, b, ctf, ref, p', c, ho', sz', ir', ch', sh', rd', nm_q (nm_q g1), nm_q (nm_q g2), g3, g4⟩
