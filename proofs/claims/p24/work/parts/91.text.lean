/-! p24: what is typed is read -/
theorem typX {B : bB} {s : Nat → Int} {L : Nat} {r : bO × bH × bS × bS × bS × Int} {c l : Int} (el : l = (L : Int)) (hL : L < 60) (hc : 0 ≤ c ∧ c < 65536) : f_X7_type c ((B, s, l), r) = some (((L + 1 : Nat) : Int), ((B, up s L c, ((L + 1 : Nat) : Int)), r)) := by
  subst el
  unfold f_X7_type
  refine bd_q (a := (1, (up s L c, ((L + 1 : Nat) : Int)))) ?_ ?_
  · unfold f_X6_append
    exact (gd_q (rg_of (by first | omega | (dsimp only; omega))) (it_q1 (by first | omega | (dsimp only; omega)) (gd_q (inb_of (by first | omega | (dsimp only; omega))) (gd_q (inb_of (by first | omega | (dsimp only; omega))) (nm_q (nm_q (rfl)))))))
  · exact (nm_q (gd_q (rg_of (by first | omega | (dsimp only; omega))) (it_q2 (by first | omega | (dsimp only; omega)) (rfl))))
theorem dgY {s ho sz ir ch sh : Nat → Int} {ct lo hh d : Int} {L p : Nat} (hL : L ≤ 60) (hp : p < L) (e : s p = 48 + d) (h1 : 0 ≤ lo) (h2 : hh ≤ 9) (h3 : lo ≤ d) (h4 : d ≤ hh) : f_X0_takeDigit lo hh ((ho, sz, ir, ch, sh, ct, (p : Int)), (s, (L : Int))) = some (d, ((ho, sz, ir, ch, sh, ct, ((p + 1 : Nat) : Int)), (s, (L : Int)))) := by
  have e2 : d = s p - 48 := by omega
  subst e2
  unfold f_X0_takeDigit
  exact (gd_q (rg_of (by first | omega | (dsimp only; omega))) (gd_q (rg_of (by first | omega | (dsimp only; omega))) (it_q1 (by first | omega | (dsimp only; omega)) (gd_q (inb_of (by first | omega | (dsimp only; omega))) (nm_q (gd_q (by rw [tn]; exact (rg_of (by first | omega | (dsimp only; omega)))) (gd_q (rg_of (by first | omega | (dsimp only; omega))) (it_q2 (by dsimp only; rw [tn]; omega) (gd_q (rg_of (by first | omega | (dsimp only; omega))) (it_q1 (by dsimp only; rw [tn]; omega) (nm_q (rfl))))))))))))
theorem dgN {s ho sz ir ch sh : Nat → Int} {ct lo hh : Int} {L p : Nat} (hL : L ≤ 60) (h1 : 0 ≤ lo) (h2 : hh ≤ 9) (hlo : lo ≤ 9) (hhh : 0 ≤ hh) (h : p = L ∨ (p < L ∧ 0 ≤ s p ∧ s p ≤ 65535 ∧ ¬ (lo ≤ s p - 48 ∧ s p - 48 ≤ hh))) : f_X0_takeDigit lo hh ((ho, sz, ir, ch, sh, ct, (p : Int)), (s, (L : Int))) = some (-1, ((ho, sz, ir, ch, sh, ct, (p : Int)), (s, (L : Int)))) := by
  unfold f_X0_takeDigit
  by_cases hpl : p < L
  · have h : 0 ≤ s p ∧ s p ≤ 65535 ∧ ¬ (lo ≤ s p - 48 ∧ s p - 48 ≤ hh) := by
      rcases h with h | h
      · omega
      · exact h.2
    refine (gd_q (rg_of (by first | omega | (dsimp only; omega))) (gd_q (rg_of (by first | omega | (dsimp only; omega))) (it_q1 (by first | omega | (dsimp only; omega)) (gd_q (inb_of (by first | omega | (dsimp only; omega))) (nm_q (gd_q (by rw [tn]; exact (rg_of (by first | omega | (dsimp only; omega)))) (gd_q (rg_of (by first | omega | (dsimp only; omega))) (?_))))))))
    by_cases c2 : s p - 48 < lo
    · exact it_q1 c2 rfl
    · exact (it_q2 c2 (gd_q (rg_of (by first | omega | (dsimp only; omega))) (it_q2 (by dsimp only; rw [tn]; omega) (rfl))))
  · exact (gd_q (rg_of (by first | omega | (dsimp only; omega))) (gd_q (rg_of (by first | omega | (dsimp only; omega))) (it_q2 (by first | omega | (dsimp only; omega)) (rfl))))
theorem sgY {s ho sz ir ch sh : Nat → Int} {ct c : Int} {L p : Nat} (hL : L ≤ 60) (hp : p < L) (hc : 0 ≤ c ∧ c ≤ 65535) (e : s p = c) : f_X0_takeSign c ((ho, sz, ir, ch, sh, ct, (p : Int)), (s, (L : Int))) = some (1, ((ho, sz, ir, ch, sh, ct, ((p + 1 : Nat) : Int)), (s, (L : Int)))) := by
  unfold f_X0_takeSign
  exact (gd_q (rg_of (by first | omega | (dsimp only; omega))) (gd_q (rg_of (by first | omega | (dsimp only; omega))) (it_q2 (by first | omega | (dsimp only; omega)) (gd_q (inb_of (by first | omega | (dsimp only; omega))) (gd_q (by rw [tn]; exact (rg_of (by first | omega | (dsimp only; omega)))) (gd_q (rg_of (by first | omega | (dsimp only; omega))) (it_q1 e (nm_q (rfl)))))))))
theorem sgN {s ho sz ir ch sh : Nat → Int} {ct c : Int} {L p : Nat} (hL : L ≤ 60) (hc : 0 ≤ c ∧ c ≤ 65535) (h : p = L ∨ (p < L ∧ 0 ≤ s p ∧ s p ≤ 65535 ∧ s p ≠ c)) : f_X0_takeSign c ((ho, sz, ir, ch, sh, ct, (p : Int)), (s, (L : Int))) = some (0, ((ho, sz, ir, ch, sh, ct, (p : Int)), (s, (L : Int)))) := by
  unfold f_X0_takeSign
  by_cases hpl : p < L
  · have h : 0 ≤ s p ∧ s p ≤ 65535 ∧ s p ≠ c := by
      rcases h with h | h
      · omega
      · exact h.2
    exact (gd_q (rg_of (by first | omega | (dsimp only; omega))) (gd_q (rg_of (by first | omega | (dsimp only; omega))) (it_q2 (by first | omega | (dsimp only; omega)) (gd_q (inb_of (by first | omega | (dsimp only; omega))) (gd_q (by rw [tn]; exact (rg_of (by first | omega | (dsimp only; omega)))) (gd_q (rg_of (by first | omega | (dsimp only; omega))) (it_q2 h.2.2 (rfl))))))))
  · exact (gd_q (rg_of (by first | omega | (dsimp only; omega))) (gd_q (rg_of (by first | omega | (dsimp only; omega))) (it_q1 (by first | omega | (dsimp only; omega)) (rfl))))
def PRT (s : Nat → Int) (p q : Nat) (c d : Int) : Prop := (d = 0 ∧ q = p) ∨ (s p = c ∧ s (p + 1) = 48 + d ∧ q = p + 2)
def SIZ (s : Nat → Int) (p q : Nat) (z : Int) : Prop := (z ≤ 9 ∧ s p = 48 + z ∧ q = p + 1) ∨ (9 < z ∧ s p = 48 + z / 10 ∧ s (p + 1) = 48 + z % 10 ∧ q = p + 2)
def ENC (s : Nat → Int) (p q : Nat) (h z i c d : Int) : Prop := ∃ a b e : Nat, s p = 48 + h ∧ s (p + 1) = 104 ∧ SIZ s (p + 2) a z ∧ PRT s a b 105 i ∧ PRT s b e 99 c ∧ PRT s e q 115 d
theorem prtY {s ho sz ir ch sh : Nat → Int} {ct c d : Int} {L p q : Nat} (hL : L ≤ 60) (hc : 0 ≤ c ∧ c ≤ 65535) (hd : 0 ≤ d ∧ d ≤ 9) (hq : q ≤ L) (h : PRT s p q c d) (hn : q = p → p = L ∨ (p < L ∧ 0 ≤ s p ∧ s p ≤ 65535 ∧ s p ≠ c)) : f_X0_takePart c ((ho, sz, ir, ch, sh, ct, (p : Int)), (s, (L : Int))) = some (d, ((ho, sz, ir, ch, sh, ct, (q : Int)), (s, (L : Int)))) := by
  unfold f_X0_takePart
  rcases h with ⟨e1, e2⟩ | ⟨e1, e2, e3⟩
  · subst e1
    have hs := sgN (ho := ho) (sz := sz) (ir := ir) (ch := ch) (sh := sh) (ct := ct) hL hc (hn e2)
    subst e2
    exact (bd_q hs (gd_q (rg_of (by first | omega | (dsimp only; omega))) (it_q1 (by first | omega | (dsimp only; omega)) (rfl))))
  · subst e3
    have hs := sgY (ho := ho) (sz := sz) (ir := ir) (ch := ch) (sh := sh) (ct := ct) hL (show p < L by omega) hc e1
    have hg := dgY (ho := ho) (sz := sz) (ir := ir) (ch := ch) (sh := sh) (ct := ct) (lo := 0) (hh := 9) hL (show p + 1 < L by omega) e2 (by omega) (by omega) hd.1 hd.2
    exact (bd_q hs (gd_q (rg_of (by first | omega | (dsimp only; omega))) (it_q2 (by first | omega | (dsimp only; omega)) (bd_q hg (rfl)))))
theorem sizY {s ho sz ir ch sh : Nat → Int} {ct z : Int} {L p q : Nat} (hL : L ≤ 60) (hz : 1 ≤ z ∧ z ≤ 30) (hq : q ≤ L) (h : SIZ s p q z) (hn : q = L ∨ (q < L ∧ 0 ≤ s q ∧ s q ≤ 65535 ∧ ¬ (0 ≤ s q - 48 ∧ s q - 48 ≤ 9))) : f_X0_takeSize ((ho, sz, ir, ch, sh, ct, (p : Int)), (s, (L : Int))) = some (z, ((ho, sz, ir, ch, sh, ct, (q : Int)), (s, (L : Int)))) := by
  unfold f_X0_takeSize
  rcases h with ⟨e0, e1, e2⟩ | ⟨e0, e1, e2, e3⟩
  · subst e2
    have h1 := dgY (ho := ho) (sz := sz) (ir := ir) (ch := ch) (sh := sh) (ct := ct) (lo := 1) (hh := 9) hL (show p < L by omega) e1 (by omega) (by omega) hz.1 e0
    by_cases c3 : z ≤ 3
    · by_cases c4 : z = 3
      · have h2 := dgN (s := s) (ho := ho) (sz := sz) (ir := ir) (ch := ch) (sh := sh) (ct := ct) (lo := 0) (hh := 0) (p := p + 1) hL (by omega) (by omega) (by omega) (by omega) (by omega)
        exact (bd_q h1 (gd_q (rg_of (by first | omega | (dsimp only; omega))) (it_q2 (by first | omega | (dsimp only; omega)) (it_q1 c3 (it_q1 c4 (bd_q h2 (gd_q (show rg (-1) = true by decide) (it_q2 (show ¬ (0 : Int) ≤ -1 by decide) (rfl)))))))))
      · have h2 := dgN (s := s) (ho := ho) (sz := sz) (ir := ir) (ch := ch) (sh := sh) (ct := ct) (lo := 0) (hh := 9) (p := p + 1) hL (by omega) (by omega) (by omega) (by omega) hn
        exact (bd_q h1 (gd_q (rg_of (by first | omega | (dsimp only; omega))) (it_q2 (by first | omega | (dsimp only; omega)) (it_q1 c3 (it_q2 c4 (bd_q h2 (gd_q (show rg (-1) = true by decide) (it_q2 (show ¬ (0 : Int) ≤ -1 by decide) (rfl)))))))))
    · exact (bd_q h1 (gd_q (rg_of (by first | omega | (dsimp only; omega))) (it_q2 (by first | omega | (dsimp only; omega)) (it_q2 c3 (rfl)))))
  · subst e3
    have h1 := dgY (ho := ho) (sz := sz) (ir := ir) (ch := ch) (sh := sh) (ct := ct) (lo := 1) (hh := 9) hL (show p < L by omega) e1 (by omega) (by omega) (by omega) (by omega)
    have ez : 10 * (z / 10) + z % 10 = z := by omega
    by_cases c4 : z / 10 = 3
    · have h2 := dgY (ho := ho) (sz := sz) (ir := ir) (ch := ch) (sh := sh) (ct := ct) (lo := 0) (hh := 0) hL (show p + 1 < L by omega) e2 (by omega) (by omega) (by omega) (by omega)
      refine (bd_q h1 (gd_q (rg_of (by first | omega | (dsimp only; omega))) (it_q2 (by first | omega | (dsimp only; omega)) (it_q1 (by first | omega | (dsimp only; omega)) (it_q1 c4 (bd_q h2 (gd_q (rg_of (by first | omega | (dsimp only; omega))) (it_q1 (by first | omega | (dsimp only; omega)) (?_)))))))))
      dsimp only
      rw [ez]
    · have h2 := dgY (ho := ho) (sz := sz) (ir := ir) (ch := ch) (sh := sh) (ct := ct) (lo := 0) (hh := 9) hL (show p + 1 < L by omega) e2 (by omega) (by omega) (by omega) (by omega)
      refine (bd_q h1 (gd_q (rg_of (by first | omega | (dsimp only; omega))) (it_q2 (by first | omega | (dsimp only; omega)) (it_q1 (by first | omega | (dsimp only; omega)) (it_q2 c4 (bd_q h2 (gd_q (rg_of (by first | omega | (dsimp only; omega))) (it_q1 (by first | omega | (dsimp only; omega)) (?_)))))))))
      dsimp only
      rw [ez]
theorem btnY {s ho sz ir ch sh : Nat → Int} {ct h z i c d : Int} {L p q b : Nat} (hL : L ≤ 60) (hb : b < 15) (h1 : 1 ≤ h ∧ h ≤ 4) (h2 : 1 ≤ z ∧ z ≤ 30) (h3 : 0 ≤ i ∧ i ≤ 9) (h4 : 0 ≤ c ∧ c ≤ 9) (h5 : 0 ≤ d ∧ d ≤ 9) (hq : q ≤ L) (hE : ENC s p q h z i c d) (hn : q = L ∨ (q < L ∧ s q = 44)) : f_X0_takeButton (b : Int) ((ho, sz, ir, ch, sh, ct, (p : Int)), (s, (L : Int))) = some (1, ((up ho b h, up sz b z, up ir b i, up ch b c, up sh b d, ct, (q : Int)), (s, (L : Int)))) := by
  obtain ⟨a, b', e, e1, e2, e3, e4, e5, e6⟩ := hE
  have n3 : e ≤ q ∧ (e = L ∨ (e < L ∧ (s e = 44 ∨ s e = 115))) := by
    rcases e6 with ⟨g1, g2⟩ | ⟨g1, g2, g3⟩
    · subst g2
      refine ⟨Nat.le_refl _, ?_⟩
      rcases hn with hn | hn
      · exact Or.inl hn
      · exact Or.inr ⟨hn.1, Or.inl hn.2⟩
    · exact ⟨by omega, Or.inr ⟨by omega, Or.inr g1⟩⟩
  have n2 : b' ≤ e ∧ (b' = L ∨ (b' < L ∧ (s b' = 44 ∨ s b' = 115 ∨ s b' = 99))) := by
    rcases e5 with ⟨g1, g2⟩ | ⟨g1, g2, g3⟩
    · subst g2
      refine ⟨Nat.le_refl _, ?_⟩
      rcases n3.2 with hn | hn
      · exact Or.inl hn
      · exact Or.inr ⟨hn.1, by omega⟩
    · exact ⟨by omega, Or.inr ⟨by omega, by omega⟩⟩
  have n1 : a ≤ b' ∧ (a = L ∨ (a < L ∧ (s a = 44 ∨ s a = 115 ∨ s a = 99 ∨ s a = 105))) := by
    rcases e4 with ⟨g1, g2⟩ | ⟨g1, g2, g3⟩
    · subst g2
      refine ⟨Nat.le_refl _, ?_⟩
      rcases n2.2 with hn | hn
      · exact Or.inl hn
      · exact Or.inr ⟨hn.1, by omega⟩
    · exact ⟨by omega, Or.inr ⟨by omega, by omega⟩⟩
  have ha : p + 3 ≤ a := by
    rcases e3 with ⟨-, -, g⟩ | ⟨-, -, -, g⟩ <;> omega
  have t1 := dgY (ho := ho) (sz := sz) (ir := ir) (ch := ch) (sh := sh) (ct := ct) (lo := 1) (hh := 4) hL (show p < L by omega) e1 (by omega) (by omega) h1.1 h1.2
  have t2 := sgY (ho := up ho b h) (sz := sz) (ir := ir) (ch := ch) (sh := sh) (ct := ct) (c := 104) hL (show p + 1 < L by omega) (by omega) e2
  have t3 := sizY (ho := up ho b h) (sz := sz) (ir := ir) (ch := ch) (sh := sh) (ct := ct) (p := p + 2) hL h2 (by omega) e3 (by
    rcases n1.2 with g | g
    · exact Or.inl g
    · exact Or.inr ⟨g.1, by omega⟩)
  have t4 := prtY (ho := up ho b h) (sz := up sz b z) (ir := ir) (ch := ch) (sh := sh) (ct := ct) hL (show (0 : Int) ≤ 105 ∧ (105 : Int) ≤ 65535 by omega) h3 (by omega) e4 (fun g => by
    rcases n2.2 with k | k
    · exact Or.inl (by omega)
    · rw [g] at k
      exact Or.inr ⟨by omega, by omega⟩)
  have t5 := prtY (ho := up ho b h) (sz := up sz b z) (ir := up ir b i) (ch := ch) (sh := sh) (ct := ct) hL (show (0 : Int) ≤ 99 ∧ (99 : Int) ≤ 65535 by omega) h4 (by omega) e5 (fun g => by
    rcases n3.2 with k | k
    · exact Or.inl (by omega)
    · rw [g] at k
      exact Or.inr ⟨by omega, by omega⟩)
  have t6 := prtY (ho := up ho b h) (sz := up sz b z) (ir := up ir b i) (ch := up ch b c) (sh := sh) (ct := ct) hL (show (0 : Int) ≤ 115 ∧ (115 : Int) ≤ 65535 by omega) h5 hq e6 (fun g => by
    rcases hn with k | k
    · exact Or.inl (by omega)
    · rw [g] at k
      exact Or.inr ⟨by omega, by omega⟩)
  have u1 : up ho b h b = h := up_s _ _ _
  have u2 : up sz b z b = z := up_s _ _ _
  have u3 : up ir b i b = i := up_s _ _ _
  have u4 : up ch b c b = c := up_s _ _ _
  have u5 : up sh b d b = d := up_s _ _ _
  unfold f_X0_takeButton
  refine (bd_q t1 (gd_q (inb_of (by first | omega | (dsimp only; omega))) (nm_q (?_))))
  simp only [tn]
  exact (gd_q (show rg (up ho b h b) = true by rw [u1]; exact (rg_of (by first | omega | (dsimp only; omega)))) (it_q2 (show ¬ up ho b h b < 0 by rw [u1]; omega) (bd_q t2 (gd_q (rg_of (by first | omega | (dsimp only; omega))) (it_q2 (by first | omega | (dsimp only; omega)) (bd_q t3 (nm_q (gd_q (show rg (up sz b z b) = true by rw [u2]; exact (rg_of (by first | omega | (dsimp only; omega)))) (it_q1 (show 0 ≤ up sz b z b by rw [u2]; omega) (bd_q t4 (nm_q (gd_q (show rg (up ir b i b) = true by rw [u3]; exact (rg_of (by first | omega | (dsimp only; omega)))) (it_q1 (show 0 ≤ up ir b i b by rw [u3]; omega) (bd_q t5 (nm_q (gd_q (show rg (up ch b c b) = true by rw [u4]; exact (rg_of (by first | omega | (dsimp only; omega)))) (it_q1 (show 0 ≤ up ch b c b by rw [u4]; omega) (bd_q t6 (nm_q (gd_q (show rg (up sh b d b) = true by rw [u5]; exact (rg_of (by first | omega | (dsimp only; omega)))) (it_q2 (show ¬ up sh b d b < 0 by rw [u5]; omega) (rfl))))))))))))))))))))))
/-- a text of so many buttons -/
def TE (s : Nat → Int) (L c : Nat) (ps es : Nat → Nat) (h z r k d : Nat → Int) : Prop := ps 0 = 0 ∧ (∀ j, j < c → ENC s (ps j) (es j) (h j) (z j) (r j) (k j) (d j) ∧ es j ≤ L) ∧ (∀ j, j + 1 < c → s (es j) = 44 ∧ ps (j + 1) = es j + 1 ∧ es j < L) ∧ (c = 0 → L = 0) ∧ (0 < c → es (c - 1) = L)
def B5 (h z r k d : Nat → Int) (j : Nat) : Prop := (1 ≤ h j ∧ h j ≤ 4) ∧ (1 ≤ z j ∧ z j ≤ 30) ∧ (0 ≤ r j ∧ r j ≤ 9) ∧ (0 ≤ k j ∧ k j ≤ 9) ∧ (0 ≤ d j ∧ d j ≤ 9)
def A5 (ho sz ir ch sh h z r k d : Nat → Int) (c : Nat) : Prop := ∀ j, j < c → ho j = h j ∧ sz j = z j ∧ ir j = r j ∧ ch j = k j ∧ sh j = d j
theorem parY_loop {N L c : Nat} {s : Nat → Int} {ps es : Nat → Nat} {h z r k d : Nat → Int} (hL : L ≤ 60) (hc : c ≤ 15) (hT : TE s L c ps es h z r k d) (hB : ∀ j, j < c → B5 h z r k d j) : ∀ (q i fu : Nat) (ho sz ir ch sh : Nat → Int), i + q + 1 = c → q < fu → A5 ho sz ir ch sh h z r k d i → ∃ (ho' sz' ir' ch' sh' : Nat → Int), f_X0_parse_L12 N fu (i : Int) ((ho, sz, ir, ch, sh, (i : Int), (ps i : Int)), (s, (L : Int))) = some (-1, ((ho', sz', ir', ch', sh', (c : Int), (L : Int)), (s, (L : Int)))) ∧ A5 ho' sz' ir' ch' sh' h z r k d c := by
  obtain ⟨t0, t1, t2, t3, t4⟩ := hT
  intro q
  induction q with
  | zero =>
    intro i fu ho sz ir ch sh hi hf hA
    obtain ⟨fu, rfl⟩ : ∃ j, fu = j + 1 := ⟨fu - 1, by omega⟩
    obtain ⟨b1, b2, b3, b4, b5⟩ := hB i (by omega)
    have hEL : es i = L := by
      have := t4 (by omega)
      rw [show c - 1 = i by omega] at this
      exact this
    have hb := btnY (ho := ho) (sz := sz) (ir := ir) (ch := ch) (sh := sh) (ct := (i : Int)) hL (show i < 15 by omega) b1 b2 b3 b4 b5 (t1 i (by omega)).2 (t1 i (by omega)).1 (Or.inl hEL)
    rw [hEL] at hb
    refine ⟨up ho i (h i), up sz i (z i), up ir i (r i), up ch i (k i), up sh i (d i), ?_, fun j hj => ?_⟩
    · rw [f_X0_parse_L12]
      refine (gd_q (rg_of (by first | omega | (dsimp only; omega))) (it_q2 (by first | omega | (dsimp only; omega)) (bd_q hb (gd_q (rg_of (by first | omega | (dsimp only; omega))) (it_q2 (by first | omega | (dsimp only; omega)) (nm_q (gd_q (rg_of (by first | omega | (dsimp only; omega))) (gd_q (rg_of (by first | omega | (dsimp only; omega))) (it_q2 (by first | omega | (dsimp only; omega)) (?_))))))))))
      dsimp only
      rw [show (i : Int) + 1 = (c : Int) by omega]
    · by_cases e : j = i
      · subst e
        rw [up_s, up_s, up_s, up_s, up_s]
        exact ⟨rfl, rfl, rfl, rfl, rfl⟩
      · rw [up_n _ _ e, up_n _ _ e, up_n _ _ e, up_n _ _ e, up_n _ _ e]
        exact hA j (by omega)
  | succ q ih =>
    intro i fu ho sz ir ch sh hi hf hA
    obtain ⟨fu, rfl⟩ : ∃ j, fu = j + 1 := ⟨fu - 1, by omega⟩
    obtain ⟨b1, b2, b3, b4, b5⟩ := hB i (by omega)
    obtain ⟨g1, g2, g3⟩ := t2 i (by omega)
    have hb := btnY (ho := ho) (sz := sz) (ir := ir) (ch := ch) (sh := sh) (ct := (i : Int)) hL (show i < 15 by omega) b1 b2 b3 b4 b5 (t1 i (by omega)).2 (t1 i (by omega)).1 (Or.inr ⟨g3, g1⟩)
    have hA2 : A5 (up ho i (h i)) (up sz i (z i)) (up ir i (r i)) (up ch i (k i)) (up sh i (d i)) h z r k d (i + 1) := fun j hj => by
      by_cases e : j = i
      · subst e
        rw [up_s, up_s, up_s, up_s, up_s]
        exact ⟨rfl, rfl, rfl, rfl, rfl⟩
      · rw [up_n _ _ e, up_n _ _ e, up_n _ _ e, up_n _ _ e, up_n _ _ e]
        exact hA j (by omega)
    obtain ⟨ho', sz', ir', ch', sh', u1, u2⟩ := ih (i + 1) fu _ _ _ _ _ (by omega) (by omega) hA2
    have hs := sgY (ho := up ho i (h i)) (sz := up sz i (z i)) (ir := up ir i (r i)) (ch := up ch i (k i)) (sh := up sh i (d i)) (ct := ((i + 1 : Nat) : Int)) (c := 44) hL g3 (by omega) g1
    rw [g2] at u1
    refine ⟨ho', sz', ir', ch', sh', ?_, u2⟩
    rw [f_X0_parse_L12]
    exact (gd_q (rg_of (by first | omega | (dsimp only; omega))) (it_q2 (by first | omega | (dsimp only; omega)) (bd_q hb (gd_q (rg_of (by first | omega | (dsimp only; omega))) (it_q2 (by first | omega | (dsimp only; omega)) (nm_q (gd_q (rg_of (by first | omega | (dsimp only; omega))) (gd_q (rg_of (by first | omega | (dsimp only; omega))) (it_q1 (by first | omega | (dsimp only; omega)) (bd_q hs (gd_q (rg_of (by first | omega | (dsimp only; omega))) (it_q2 (by first | omega | (dsimp only; omega)) (u1)))))))))))))
theorem parY {N L c : Nat} {s : Nat → Int} {ps es : Nat → Nat} {h z r k d : Nat → Int} {B : bB} (hN : 60 ≤ N) (hL : L ≤ 60) (hc : c ≤ 15) (hc0 : 0 < c) (hT : TE s L c ps es h z r k d) (hB : ∀ j, j < c → B5 h z r k d j) : ∃ (ho' sz' ir' ch' sh' : Nat → Int), f_X0_parse N (B, (s, (L : Int))) = some (-1, ((ho', sz', ir', ch', sh', (c : Int), (L : Int)), (s, (L : Int)))) ∧ A5 ho' sz' ir' ch' sh' h z r k d c := by
  obtain ⟨ho, sz, ir, ch, sh, ct, at_⟩ := B
  obtain ⟨ho', sz', ir', ch', sh', u1, u2⟩ := parY_loop (N := N) hL hc hT hB (c - 1) 0 N ho sz ir ch sh (by omega) (by omega) (fun j hj => absurd hj (by omega))
  rw [hT.1] at u1
  exact ⟨ho', sz', ir', ch', sh', nm_q (nm_q u1), u2⟩
theorem parY0 {N : Nat} {s : Nat → Int} {B : bB} (hN : 60 ≤ N) : ∃ B' : bB, f_X0_parse N (B, (s, 0)) = some (0, (B', (s, 0))) := by
  obtain ⟨ho, sz, ir, ch, sh, ct, at_⟩ := B
  obtain ⟨N, rfl⟩ : ∃ K, N = K + 1 := ⟨N - 1, by omega⟩
  have hd := dgN (s := s) (ho := ho) (sz := sz) (ir := ir) (ch := ch) (sh := sh) (ct := 0) (lo := 1) (hh := 4) (L := 0) (p := 0) (by omega) (by omega) (by omega) (by omega) (by omega) (Or.inl rfl)
  have hu : up ho 0 (-1) 0 = -1 := up_s _ _ _
  refine ⟨(up ho 0 (-1), sz, ir, ch, sh, 0, 0), ?_⟩
  unfold f_X0_parse
  refine (nm_q (nm_q (?_)))
  rw [f_X0_parse_L12]
  have hb : f_X0_takeButton 0 ((ho, sz, ir, ch, sh, 0, 0), (s, 0)) = some (0, ((up ho 0 (-1), sz, ir, ch, sh, 0, 0), (s, 0))) := by
    unfold f_X0_takeButton
    exact (bd_q hd (gd_q (inb_of (by first | omega | (dsimp only; omega))) (nm_q (gd_q (show rg (up ho 0 (-1) 0) = true by rw [hu]; decide) (it_q1 (show up ho 0 (-1) 0 < 0 by rw [hu]; decide) (rfl))))))
  exact (gd_q (by decide) (it_q2 (by decide) (bd_q hb (gd_q (rg_of (by first | omega | (dsimp only; omega))) (it_q1 (by first | omega | (dsimp only; omega)) (rfl))))))
