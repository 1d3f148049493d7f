/-! a text is read: class and model take the same signs -/
def TX (s tx : Nat → Int) (L : Nat) : Prop := L ≤ 60 ∧ ∀ k, k < L → s k = tx k ∧ 0 ≤ s k ∧ s k ≤ 65535
theorem dig {r hi sn as li tx s ho sz ir ch sh : Nat → Int} {st ik lm ct : Int} {L : Nat} {p : Nat} {re : Int} {rd : Nat → Int} {lo hh alo ahi : Int} (hT : TX s tx L) (hp : p ≤ L) (h1 : 0 ≤ lo) (h2 : hh ≤ 9) (e1 : alo = 48 + lo) (e2 : ahi = 48 + hh) (h3 : lo ≤ 9) (h4 : 0 ≤ hh) : (∃ v, lo ≤ v ∧ v ≤ hh ∧ p < L ∧ f_X0_takeDigit lo hh ((ho, sz, ir, ch, sh, ct, (p : Int)), (s, (L : Int))) = some (v, ((ho, sz, ir, ch, sh, ct, ((p + 1 : Nat) : Int)), (s, (L : Int)))) ∧ f_X8_takes alo ahi (r, hi, st, sn, ik, as, li, lm, tx, (L : Int), (p : Int), re, rd) = some (1, (r, hi, st, sn, ik, as, li, lm, tx, (L : Int), ((p + 1 : Nat) : Int), re, rd)) ∧ f_X8_digit (r, hi, st, sn, ik, as, li, lm, tx, (L : Int), ((p + 1 : Nat) : Int), re, rd) = some (v, (r, hi, st, sn, ik, as, li, lm, tx, (L : Int), ((p + 1 : Nat) : Int), re, rd))) ∨ (f_X0_takeDigit lo hh ((ho, sz, ir, ch, sh, ct, (p : Int)), (s, (L : Int))) = some (-1, ((ho, sz, ir, ch, sh, ct, (p : Int)), (s, (L : Int)))) ∧ f_X8_takes alo ahi (r, hi, st, sn, ik, as, li, lm, tx, (L : Int), (p : Int), re, rd) = some (0, (r, hi, st, sn, ik, as, li, lm, tx, (L : Int), (p : Int), re, rd))) := by
  subst e1
  subst e2
  obtain ⟨hL, hT⟩ := hT
  by_cases hpl : p < L
  · obtain ⟨t1, t2, t3⟩ := hT p hpl
    have hin := in_eq (x := tx p) (a := 48 + lo) (b := 48 + hh) (rg_of (by first | omega | (dsimp only; omega))) (rg_of (by first | omega | (dsimp only; omega))) (rg_of (by first | omega | (dsimp only; omega)))
    by_cases c : lo ≤ s p - 48 ∧ s p - 48 ≤ hh
    · rw [if_pos (show 48 + lo ≤ tx p ∧ tx p ≤ 48 + hh by omega)] at hin
      refine Or.inl ⟨s p - 48, c.1, c.2, hpl, ?_, ?_, ?_⟩
      · unfold f_X0_takeDigit
        exact (gd_q (rg_of (by first | omega | (dsimp only; omega))) (gd_q (rg_of (by first | omega | (dsimp only; omega))) (it_q1 (by first | omega | (dsimp only; omega)) (gd_q (inb_of (by first | omega | (dsimp only; omega))) (nm_q (gd_q (by rw [tn]; exact (rg_of (by first | omega | (dsimp only; omega)))) (gd_q (rg_of (by first | omega | (dsimp only; omega))) (it_q2 (by dsimp only; rw [tn]; omega) (gd_q (rg_of (by first | omega | (dsimp only; omega))) (it_q1 (by dsimp only; rw [tn]; omega) (nm_q (rfl))))))))))))
      · unfold f_X8_takes
        exact (gd_q (rg_of (by first | omega | (dsimp only; omega))) (gd_q (rg_of (by first | omega | (dsimp only; omega))) (it_q2 (by first | omega | (dsimp only; omega)) (gd_q (inb_of (by first | omega | (dsimp only; omega))) (bd_q hin (gd_q (by decide) (it_q2 (by decide) (nm_q (rfl)))))))))
      · unfold f_X8_digit
        refine (gd_q (inb_of (by first | omega | (dsimp only; omega))) (?_))
        dsimp only
        rw [show (((p + 1 : Nat) : Int) - 1).toNat = p by omega, t1]
    · rw [if_neg (show ¬ (48 + lo ≤ tx p ∧ tx p ≤ 48 + hh) by omega)] at hin
      refine Or.inr ⟨?_, ?_⟩
      · unfold f_X0_takeDigit
        refine (gd_q (rg_of (by first | omega | (dsimp only; omega))) (gd_q (rg_of (by first | omega | (dsimp only; omega))) (it_q1 (by first | omega | (dsimp only; omega)) (gd_q (inb_of (by first | omega | (dsimp only; omega))) (nm_q (gd_q (by rw [tn]; exact (rg_of (by first | omega | (dsimp only; omega)))) (gd_q (rg_of (by first | omega | (dsimp only; omega))) (?_))))))))
        by_cases c2 : s p - 48 < lo
        · exact it_q1 c2 rfl
        · exact (it_q2 c2 (gd_q (rg_of (by first | omega | (dsimp only; omega))) (it_q2 (by dsimp only; rw [tn]; omega) (rfl))))
      · unfold f_X8_takes
        exact (gd_q (rg_of (by first | omega | (dsimp only; omega))) (gd_q (rg_of (by first | omega | (dsimp only; omega))) (it_q2 (by first | omega | (dsimp only; omega)) (gd_q (inb_of (by first | omega | (dsimp only; omega))) (bd_q hin (gd_q (by decide) (it_q1 rfl (nm_q (rfl)))))))))
  · refine Or.inr ⟨?_, ?_⟩
    · unfold f_X0_takeDigit
      exact (gd_q (rg_of (by first | omega | (dsimp only; omega))) (gd_q (rg_of (by first | omega | (dsimp only; omega))) (it_q2 (by first | omega | (dsimp only; omega)) (rfl))))
    · unfold f_X8_takes
      exact (gd_q (rg_of (by first | omega | (dsimp only; omega))) (gd_q (rg_of (by first | omega | (dsimp only; omega))) (it_q1 (by first | omega | (dsimp only; omega)) (nm_q (rfl)))))
theorem sgn {r hi sn as li tx s ho sz ir ch sh : Nat → Int} {st ik lm ct : Int} {L : Nat} {p : Nat} {re : Int} {rd : Nat → Int} {c : Int} (hT : TX s tx L) (hp : p ≤ L) (hc : rg c = true) : (p < L ∧ f_X0_takeSign c ((ho, sz, ir, ch, sh, ct, (p : Int)), (s, (L : Int))) = some (1, ((ho, sz, ir, ch, sh, ct, ((p + 1 : Nat) : Int)), (s, (L : Int)))) ∧ f_X8_takes c c (r, hi, st, sn, ik, as, li, lm, tx, (L : Int), (p : Int), re, rd) = some (1, (r, hi, st, sn, ik, as, li, lm, tx, (L : Int), ((p + 1 : Nat) : Int), re, rd))) ∨ (f_X0_takeSign c ((ho, sz, ir, ch, sh, ct, (p : Int)), (s, (L : Int))) = some (0, ((ho, sz, ir, ch, sh, ct, (p : Int)), (s, (L : Int)))) ∧ f_X8_takes c c (r, hi, st, sn, ik, as, li, lm, tx, (L : Int), (p : Int), re, rd) = some (0, (r, hi, st, sn, ik, as, li, lm, tx, (L : Int), (p : Int), re, rd))) := by
  obtain ⟨hL, hT⟩ := hT
  by_cases hpl : p < L
  · obtain ⟨t1, t2, t3⟩ := hT p hpl
    have hin := in_eq (x := tx p) (a := c) (b := c) (rg_of (by first | omega | (dsimp only; omega))) hc hc
    by_cases e : s p = c
    · rw [if_pos (show c ≤ tx p ∧ tx p ≤ c by omega)] at hin
      refine Or.inl ⟨hpl, ?_, ?_⟩
      · unfold f_X0_takeSign
        exact (gd_q (rg_of (by first | omega | (dsimp only; omega))) (gd_q (rg_of (by first | omega | (dsimp only; omega))) (it_q2 (by first | omega | (dsimp only; omega)) (gd_q (inb_of (by first | omega | (dsimp only; omega))) (gd_q (by rw [tn]; exact (rg_of (by first | omega | (dsimp only; omega)))) (gd_q hc (it_q1 e (nm_q (rfl)))))))))
      · unfold f_X8_takes
        exact (gd_q (rg_of (by first | omega | (dsimp only; omega))) (gd_q (rg_of (by first | omega | (dsimp only; omega))) (it_q2 (by first | omega | (dsimp only; omega)) (gd_q (inb_of (by first | omega | (dsimp only; omega))) (bd_q hin (gd_q (by decide) (it_q2 (by decide) (nm_q (rfl)))))))))
    · rw [if_neg (show ¬ (c ≤ tx p ∧ tx p ≤ c) by omega)] at hin
      refine Or.inr ⟨?_, ?_⟩
      · unfold f_X0_takeSign
        exact (gd_q (rg_of (by first | omega | (dsimp only; omega))) (gd_q (rg_of (by first | omega | (dsimp only; omega))) (it_q2 (by first | omega | (dsimp only; omega)) (gd_q (inb_of (by first | omega | (dsimp only; omega))) (gd_q (by rw [tn]; exact (rg_of (by first | omega | (dsimp only; omega)))) (gd_q hc (it_q2 e (rfl))))))))
      · unfold f_X8_takes
        exact (gd_q (rg_of (by first | omega | (dsimp only; omega))) (gd_q (rg_of (by first | omega | (dsimp only; omega))) (it_q2 (by first | omega | (dsimp only; omega)) (gd_q (inb_of (by first | omega | (dsimp only; omega))) (bd_q hin (gd_q (by decide) (it_q1 rfl (nm_q (rfl)))))))))
  · refine Or.inr ⟨?_, ?_⟩
    · unfold f_X0_takeSign
      exact (gd_q (rg_of (by first | omega | (dsimp only; omega))) (gd_q (rg_of (by first | omega | (dsimp only; omega))) (it_q1 (by first | omega | (dsimp only; omega)) (rfl))))
    · unfold f_X8_takes
      exact (gd_q (rg_of (by first | omega | (dsimp only; omega))) (gd_q (rg_of (by first | omega | (dsimp only; omega))) (it_q1 (by first | omega | (dsimp only; omega)) (nm_q (rfl)))))
theorem siz {r hi sn as li tx s ho sz ir ch sh : Nat → Int} {st ik lm ct : Int} {L : Nat} {p q : Nat} {rd : Nat → Int} (hT : TX s tx L) (hp : p ≤ L) (hq : q < 15) : ∃ p' : Nat, p ≤ p' ∧ p' ≤ L ∧ ((∃ (v : Int) (rd' : Nat → Int), 1 ≤ v ∧ v ≤ 30 ∧ p + 1 ≤ p' ∧ (∀ j, j ≠ 5 * q + 1 → rd' j = rd j) ∧ rd' (5 * q + 1) = v ∧ f_X0_takeSize ((ho, sz, ir, ch, sh, ct, (p : Int)), (s, (L : Int))) = some (v, ((ho, sz, ir, ch, sh, ct, (p' : Int)), (s, (L : Int)))) ∧ f_X8_readsSize (r, hi, st, sn, ik, as, li, lm, tx, (L : Int), (p : Int), (q : Int), rd) = some (1, (r, hi, st, sn, ik, as, li, lm, tx, (L : Int), (p' : Int), (q : Int), rd'))) ∨ (f_X0_takeSize ((ho, sz, ir, ch, sh, ct, (p : Int)), (s, (L : Int))) = some (-1, ((ho, sz, ir, ch, sh, ct, (p' : Int)), (s, (L : Int)))) ∧ f_X8_readsSize (r, hi, st, sn, ik, as, li, lm, tx, (L : Int), (p : Int), (q : Int), rd) = some (0, (r, hi, st, sn, ik, as, li, lm, tx, (L : Int), (p' : Int), (q : Int), rd)))) := by
  have hup : ∀ v, (∀ j, j ≠ 5 * q + 1 → up rd ((5 * (q : Int) + 1).toNat) v j = rd j) ∧ up rd ((5 * (q : Int) + 1).toNat) v (5 * q + 1) = v := fun v => by
    rw [show (5 * (q : Int) + 1).toNat = 5 * q + 1 by omega]
    exact ⟨fun j hj => up_n _ _ hj, up_s _ _ _⟩
  rcases dig (ho := ho) (sz := sz) (ir := ir) (ch := ch) (sh := sh) (ct := ct) (r := r) (hi := hi) (st := st) (sn := sn) (ik := ik) (as := as) (li := li) (lm := lm) (re := (q : Int)) (rd := rd) (lo := 1) (hh := 9) (alo := 49) (ahi := 57) hT hp (by omega) (by omega) rfl rfl (by omega) (by omega) with ⟨v, v1, v2, v3, a1, a2, a3⟩ | ⟨a1, a2⟩
  · by_cases c3 : v = 3
    · subst c3
      rcases dig (ho := ho) (sz := sz) (ir := ir) (ch := ch) (sh := sh) (ct := ct) (r := r) (hi := hi) (st := st) (sn := sn) (ik := ik) (as := as) (li := li) (lm := lm) (p := p + 1) (re := (q : Int)) (rd := rd) (lo := 0) (hh := 0) (alo := 48) (ahi := 48) hT (by omega) (by omega) (by omega) rfl rfl (by omega) (by omega) with ⟨w, w1, w2, w3, b1, b2, b3⟩ | ⟨b1, b2⟩
      · refine ⟨p + 1 + 1, by omega, by omega, Or.inl ⟨10 * 3 + w, up rd ((5 * (q : Int) + 1).toNat) (10 * 3 + w), by omega, by omega, by omega, (hup _).1, (hup _).2, ?_, ?_⟩⟩
        · unfold f_X0_takeSize
          exact (bd_q a1 (gd_q (rg_of (by first | omega | (dsimp only; omega))) (it_q2 (by first | omega | (dsimp only; omega)) (it_q1 (by first | omega | (dsimp only; omega)) (it_q1 rfl (bd_q b1 (gd_q (rg_of (by first | omega | (dsimp only; omega))) (it_q1 (by first | omega | (dsimp only; omega)) (rfl)))))))))
        · unfold f_X8_readsSize
          exact (bd_q a2 (gd_q (rg_of (by first | omega | (dsimp only; omega))) (it_q2 (by first | omega | (dsimp only; omega)) (bd_q a3 (gd_q (rg_of (by first | omega | (dsimp only; omega))) (it_q1 (by first | omega | (dsimp only; omega)) (it_q1 rfl (bd_q b2 (gd_q (rg_of (by first | omega | (dsimp only; omega))) (it_q2 (by first | omega | (dsimp only; omega)) (bd_q b3 (nm_q (gd_q (inb_of (by first | omega | (dsimp only; omega))) (nm_q (rfl)))))))))))))))
      · refine ⟨p + 1, by omega, by omega, Or.inl ⟨3, up rd ((5 * (q : Int) + 1).toNat) 3, by omega, by omega, by omega, (hup _).1, (hup _).2, ?_, ?_⟩⟩
        · unfold f_X0_takeSize
          exact (bd_q a1 (gd_q (rg_of (by first | omega | (dsimp only; omega))) (it_q2 (by first | omega | (dsimp only; omega)) (it_q1 (by first | omega | (dsimp only; omega)) (it_q1 rfl (bd_q b1 (gd_q (rg_of (by first | omega | (dsimp only; omega))) (it_q2 (by first | omega | (dsimp only; omega)) (rfl)))))))))
        · unfold f_X8_readsSize
          exact (bd_q a2 (gd_q (rg_of (by first | omega | (dsimp only; omega))) (it_q2 (by first | omega | (dsimp only; omega)) (bd_q a3 (gd_q (rg_of (by first | omega | (dsimp only; omega))) (it_q1 (by first | omega | (dsimp only; omega)) (it_q1 rfl (bd_q b2 (gd_q (rg_of (by first | omega | (dsimp only; omega))) (it_q1 rfl (gd_q (inb_of (by first | omega | (dsimp only; omega))) (nm_q (rfl)))))))))))))
    · by_cases c4 : 3 < v
      · refine ⟨p + 1, by omega, by omega, Or.inl ⟨v, up rd ((5 * (q : Int) + 1).toNat) v, by omega, by omega, by omega, (hup _).1, (hup _).2, ?_, ?_⟩⟩
        · unfold f_X0_takeSize
          exact (bd_q a1 (gd_q (rg_of (by first | omega | (dsimp only; omega))) (it_q2 (by first | omega | (dsimp only; omega)) (it_q2 (by first | omega | (dsimp only; omega)) (rfl)))))
        · unfold f_X8_readsSize
          exact (bd_q a2 (gd_q (rg_of (by first | omega | (dsimp only; omega))) (it_q2 (by first | omega | (dsimp only; omega)) (bd_q a3 (gd_q (rg_of (by first | omega | (dsimp only; omega))) (it_q1 (by first | omega | (dsimp only; omega)) (it_q2 c3 (gd_q (inb_of (by first | omega | (dsimp only; omega))) (nm_q (rfl))))))))))
      · rcases dig (ho := ho) (sz := sz) (ir := ir) (ch := ch) (sh := sh) (ct := ct) (r := r) (hi := hi) (st := st) (sn := sn) (ik := ik) (as := as) (li := li) (lm := lm) (p := p + 1) (re := (q : Int)) (rd := rd) (lo := 0) (hh := 9) (alo := 48) (ahi := 57) hT (by omega) (by omega) (by omega) rfl rfl (by omega) (by omega) with ⟨w, w1, w2, w3, b1, b2, b3⟩ | ⟨b1, b2⟩
        · refine ⟨p + 1 + 1, by omega, by omega, Or.inl ⟨10 * v + w, up rd ((5 * (q : Int) + 1).toNat) (10 * v + w), by omega, by omega, by omega, (hup _).1, (hup _).2, ?_, ?_⟩⟩
          · unfold f_X0_takeSize
            exact (bd_q a1 (gd_q (rg_of (by first | omega | (dsimp only; omega))) (it_q2 (by first | omega | (dsimp only; omega)) (it_q1 (by first | omega | (dsimp only; omega)) (it_q2 c3 (bd_q b1 (gd_q (rg_of (by first | omega | (dsimp only; omega))) (it_q1 (by first | omega | (dsimp only; omega)) (rfl)))))))))
          · unfold f_X8_readsSize
            exact (bd_q a2 (gd_q (rg_of (by first | omega | (dsimp only; omega))) (it_q2 (by first | omega | (dsimp only; omega)) (bd_q a3 (gd_q (rg_of (by first | omega | (dsimp only; omega))) (it_q2 (by first | omega | (dsimp only; omega)) (bd_q b2 (gd_q (rg_of (by first | omega | (dsimp only; omega))) (it_q2 (by first | omega | (dsimp only; omega)) (bd_q b3 (nm_q (gd_q (inb_of (by first | omega | (dsimp only; omega))) (nm_q (rfl))))))))))))))
        · refine ⟨p + 1, by omega, by omega, Or.inl ⟨v, up rd ((5 * (q : Int) + 1).toNat) v, by omega, by omega, by omega, (hup _).1, (hup _).2, ?_, ?_⟩⟩
          · unfold f_X0_takeSize
            exact (bd_q a1 (gd_q (rg_of (by first | omega | (dsimp only; omega))) (it_q2 (by first | omega | (dsimp only; omega)) (it_q1 (by first | omega | (dsimp only; omega)) (it_q2 c3 (bd_q b1 (gd_q (rg_of (by first | omega | (dsimp only; omega))) (it_q2 (by first | omega | (dsimp only; omega)) (rfl)))))))))
          · unfold f_X8_readsSize
            exact (bd_q a2 (gd_q (rg_of (by first | omega | (dsimp only; omega))) (it_q2 (by first | omega | (dsimp only; omega)) (bd_q a3 (gd_q (rg_of (by first | omega | (dsimp only; omega))) (it_q2 (by first | omega | (dsimp only; omega)) (bd_q b2 (gd_q (rg_of (by first | omega | (dsimp only; omega))) (it_q1 rfl (gd_q (inb_of (by first | omega | (dsimp only; omega))) (nm_q (rfl))))))))))))
  · refine ⟨p, by omega, by omega, Or.inr ⟨?_, ?_⟩⟩
    · unfold f_X0_takeSize
      exact (bd_q a1 (gd_q (rg_of (by first | omega | (dsimp only; omega))) (it_q1 (by first | omega | (dsimp only; omega)) (rfl))))
    · unfold f_X8_readsSize
      exact (bd_q a2 (gd_q (rg_of (by first | omega | (dsimp only; omega))) (it_q1 rfl (rfl))))
theorem prt {r hi sn as li tx s ho sz ir ch sh : Nat → Int} {st ik lm ct : Int} {L : Nat} {p q w : Nat} {rd : Nat → Int} {c ww : Int} (hT : TX s tx L) (hp : p ≤ L) (hq : q < 15) (hw : w < 5) (e : ww = (w : Int)) (hc : rg c = true) : ∃ (p' : Nat) (rd' : Nat → Int), p ≤ p' ∧ p' ≤ L ∧ (∀ j, j ≠ 5 * q + w → rd' j = rd j) ∧ ((∃ v : Int, 0 ≤ v ∧ v ≤ 9 ∧ rd' (5 * q + w) = v ∧ f_X0_takePart c ((ho, sz, ir, ch, sh, ct, (p : Int)), (s, (L : Int))) = some (v, ((ho, sz, ir, ch, sh, ct, (p' : Int)), (s, (L : Int)))) ∧ f_X8_readsDigit c ww (r, hi, st, sn, ik, as, li, lm, tx, (L : Int), (p : Int), (q : Int), rd) = some (1, (r, hi, st, sn, ik, as, li, lm, tx, (L : Int), (p' : Int), (q : Int), rd'))) ∨ (f_X0_takePart c ((ho, sz, ir, ch, sh, ct, (p : Int)), (s, (L : Int))) = some (-1, ((ho, sz, ir, ch, sh, ct, (p' : Int)), (s, (L : Int)))) ∧ f_X8_readsDigit c ww (r, hi, st, sn, ik, as, li, lm, tx, (L : Int), (p : Int), (q : Int), rd) = some (0, (r, hi, st, sn, ik, as, li, lm, tx, (L : Int), (p' : Int), (q : Int), rd')))) := by
  subst e
  have ek : (5 * (q : Int) + (w : Int)).toNat = 5 * q + w := by omega
  rcases sgn (ho := ho) (sz := sz) (ir := ir) (ch := ch) (sh := sh) (ct := ct) (r := r) (hi := hi) (st := st) (sn := sn) (ik := ik) (as := as) (li := li) (lm := lm) (re := (q : Int)) (rd := up rd (5 * q + w) 0) (c := c) hT hp hc with ⟨v3, a1, a2⟩ | ⟨a1, a2⟩
  · rcases dig (ho := ho) (sz := sz) (ir := ir) (ch := ch) (sh := sh) (ct := ct) (r := r) (hi := hi) (st := st) (sn := sn) (ik := ik) (as := as) (li := li) (lm := lm) (p := p + 1) (re := (q : Int)) (rd := up rd (5 * q + w) 0) (lo := 0) (hh := 9) (alo := 48) (ahi := 57) hT (by omega) (by omega) (by omega) rfl rfl (by omega) (by omega) with ⟨v, w1, w2, w3, b1, b2, b3⟩ | ⟨b1, b2⟩
    · refine ⟨p + 1 + 1, up (up rd (5 * q + w) 0) (5 * q + w) v, by omega, by omega, fun j hj => by rw [up_n _ _ hj, up_n _ _ hj], Or.inl ⟨v, w1, w2, up_s _ _ _, ?_, ?_⟩⟩
      · unfold f_X0_takePart
        exact (bd_q a1 (gd_q (rg_of (by first | omega | (dsimp only; omega))) (it_q2 (by first | omega | (dsimp only; omega)) (bd_q b1 (rfl)))))
      · unfold f_X8_readsDigit
        refine (gd_q (inb_of (by first | omega | (dsimp only; omega))) (nm_q (?_)))
        dsimp only
        rw [ek]
        refine (bd_q a2 (gd_q (rg_of (by first | omega | (dsimp only; omega))) (it_q2 (by first | omega | (dsimp only; omega)) (bd_q b2 (gd_q (rg_of (by first | omega | (dsimp only; omega))) (it_q2 (by first | omega | (dsimp only; omega)) (bd_q b3 (gd_q (inb_of (by first | omega | (dsimp only; omega))) (nm_q (?_))))))))))
        dsimp only
        rw [ek]
        exact gd_q (by decide) rfl
    · refine ⟨p + 1, up (up rd (5 * q + w) 0) (5 * q + w) 0, by omega, by omega, fun j hj => by rw [up_n _ _ hj, up_n _ _ hj], Or.inr ⟨?_, ?_⟩⟩
      · unfold f_X0_takePart
        exact (bd_q a1 (gd_q (rg_of (by first | omega | (dsimp only; omega))) (it_q2 (by first | omega | (dsimp only; omega)) (bd_q b1 (rfl)))))
      · unfold f_X8_readsDigit
        refine (gd_q (inb_of (by first | omega | (dsimp only; omega))) (nm_q (?_)))
        dsimp only
        rw [ek]
        refine (bd_q a2 (gd_q (rg_of (by first | omega | (dsimp only; omega))) (it_q2 (by first | omega | (dsimp only; omega)) (bd_q b2 (gd_q (rg_of (by first | omega | (dsimp only; omega))) (it_q1 rfl (gd_q (inb_of (by first | omega | (dsimp only; omega))) (nm_q (?_)))))))))
        dsimp only
        rw [ek]
        exact gd_q (by decide) rfl
  · refine ⟨p, up rd (5 * q + w) 0, by omega, by omega, fun j hj => up_n _ _ hj, Or.inl ⟨0, by omega, by omega, up_s _ _ _, ?_, ?_⟩⟩
    · unfold f_X0_takePart
      exact (bd_q a1 (gd_q (rg_of (by first | omega | (dsimp only; omega))) (it_q1 rfl (rfl))))
    · unfold f_X8_readsDigit
      refine (gd_q (inb_of (by first | omega | (dsimp only; omega))) (nm_q (?_)))
      dsimp only
      rw [ek]
      exact (bd_q a2 (gd_q (rg_of (by first | omega | (dsimp only; omega))) (it_q1 rfl (rfl))))
