/-! shirts that could be made of all -/
def gr (s : Nat → Int) (c m : Nat) (sp : Int) : Nat → Nat → Nat
  | 0, _ => 0
  | d + 1, k => if k + m ≤ c then (if s (k + m - 1) - s k ≤ sp then gr s c m sp d (k + m) + 1 else gr s c m sp d (k + 1)) else 0
theorem gr_shift {s s' : Nat → Int} {c c' m : Nat} {sp : Int} (hc : c = c' + m) (hm : 1 ≤ m) : ∀ d k, (∀ j, k ≤ j → s' j = s (j + m)) → gr s c m sp d (k + m) = gr s' c' m sp d k := by
  intro d
  induction d with
  | zero => intro k _; rfl
  | succ d ih =>
    intro k hs
    rw [gr, gr]
    by_cases e : k + m ≤ c'
    · rw [if_pos e, if_pos (show k + m + m ≤ c by omega)]
      have h1 : s' (k + m - 1) = s (k + m + m - 1) := by
        rw [hs _ (by omega)]
        congr 1
        omega
      rw [h1, hs k (by omega), ih (k + m) (fun j hj => hs j (by omega)), show k + m + 1 = (k + 1) + m by omega, ih (k + 1) (fun j hj => hs j (by omega))]
    · rw [if_neg e, if_neg (show ¬ k + m + m ≤ c by omega)]
theorem grz_0 {s : Nat → Int} {c m : Nat} {sp : Int} {d k : Nat} (h : c < k + m) : gr s c m sp d k = 0 := by
  cases d with
  | zero => rfl
  | succ d => rw [gr, if_neg (by omega)]
theorem gr_fuel {s : Nat → Int} {c m : Nat} {sp : Int} (hm : 1 ≤ m) : ∀ d d' k, c < k + d → c < k + d' → gr s c m sp d k = gr s c m sp d' k := by
  intro d
  induction d with
  | zero => intro d' k h1 h2; rw [grz_0 (by omega), grz_0 (by omega)]
  | succ d ih =>
    intro d' k h1 h2
    cases d' with
    | zero => rw [grz_0 (by omega), grz_0 (by omega)]
    | succ d' =>
      rw [gr, gr, ih d' (k + m) (by omega) (by omega), ih d' (k + 1) (by omega) (by omega)]
theorem grC {N n c m : Nat} {z : bS} {x : Int} {f : Nat → Nat} {O : bO} {sp : Int} (hC : CI z n) (hD : OD z n x f c) (hA : OA O z f c) (hm : 1 ≤ m) (hm9 : m ≤ 9) (hsp : rg sp = true) : ∀ d k F fu (made : Int), c < k + d → k ≤ c → F ≤ c → d < fu → f_X3_groups_L8 N fu (m : Int) sp made (F : Int) (k : Int) O = some (made + (gr (shf z f) c m sp d (max k F) : Int), O) := by
  have h40 := CI_40 hC
  have hc := OD_c hD
  have hA1 := hA.1
  intro d
  induction d with
  | zero => intro k F fu made h1 h2; omega
  | succ d ih =>
    intro k F fu made h1 h2 h3 hf
    obtain ⟨fu, rfl⟩ : ∃ j, fu = j + 1 := ⟨fu - 1, by omega⟩
    rw [f_X3_groups_L8]
    by_cases e : k + m ≤ c
    · by_cases eF : k < F
      · refine (gd_q (rg_of (by first | omega | (dsimp only; omega))) (gd_q (rg_of (by first | omega | (dsimp only; omega))) (it_q2 (by first | omega | (dsimp only; omega)) (gd_q (rg_of (by first | omega | (dsimp only; omega))) (gd_q (rg_of (by first | omega | (dsimp only; omega))) (it_q1 (by first | omega | (dsimp only; omega)) (?_)))))))
        refine Eq.trans (ih (k + 1) F fu made (by omega) (by omega) h3 (by omega)) ?_
        rw [show max (k + 1) F = F by omega, show max k F = F by omega, gr_fuel hm d (d + 1) F (by omega) (by omega)]
      · have s1 := OD_sh hC hD (show k < c by omega)
        have s2 := OD_sh hC hD (show k + m - 1 < c by omega)
        rw [show max k F = k by omega, gr, if_pos e]
        refine (gd_q (rg_of (by first | omega | (dsimp only; omega))) (gd_q (rg_of (by first | omega | (dsimp only; omega))) (it_q2 (by first | omega | (dsimp only; omega)) (gd_q (rg_of (by first | omega | (dsimp only; omega))) (gd_q (rg_of (by first | omega | (dsimp only; omega))) (it_q2 (by first | omega | (dsimp only; omega)) (bd_q (sprC (n := n) (x := x) (by omega) hA rfl rfl hm e) (gd_q (rg_of (by first | omega | (dsimp only; omega))) (gd_q hsp (?_))))))))))
        by_cases e2 : shf z f (k + m - 1) - shf z f k ≤ sp
        · rw [if_pos e2]
          refine (it_q2 (by first | omega | (dsimp only; omega)) (nm_q (?_)))
          refine Eq.trans (ih (k + 1) (k + m) fu (made + 1) (by omega) (by omega) (by omega) (by omega)) ?_
          rw [show max (k + 1) (k + m) = k + m by omega, show made + 1 + (gr (shf z f) c m sp d (k + m) : Int) = made + ((gr (shf z f) c m sp d (k + m) + 1 : Nat) : Int) by omega]
        · rw [if_neg e2]
          refine it_q1 (by first | omega | (dsimp only; omega)) ?_
          refine Eq.trans (ih (k + 1) F fu made (by omega) (by omega) h3 (by omega)) ?_
          rw [show max (k + 1) F = k + 1 by omega]
    · refine (gd_q (rg_of (by first | omega | (dsimp only; omega))) (gd_q (rg_of (by first | omega | (dsimp only; omega))) (it_q1 (by first | omega | (dsimp only; omega)) (?_))))
      rw [grz_0 (show c < max k F + m by omega), show made + ((0 : Nat) : Int) = made by omega]
theorem grC0 {N n c m : Nat} {z : bS} {x : Int} {f : Nat → Nat} {O : bO} {sp : Int} (hC : CI z n) (hD : OD z n x f c) (hA : OA O z f c) (hm : 1 ≤ m) (hm9 : m ≤ 9) (hsp : rg sp = true) (hN : c + 2 ≤ N) : f_X3_groups N (m : Int) sp O = some ((gr (shf z f) c m sp (c + 1) 0 : Int), O) := by
  have h := grC (N := N) hC hD hA hm hm9 hsp (c + 1) 0 0 N 0 (by omega) (by omega) (by omega) (by omega)
  rw [Int.zero_add] at h
  exact h
def cutF (f : Nat → Nat) (k m : Nat) : Nat → Nat := fun j => if j < k then f j else f (j + m)
theorem MK_OD {z z' : bS} {n x c k m : Nat} {f : Nat → Nat} {r' : Nat → Int} (hD : OD z n (x : Int) f c) (hkm : k + m ≤ c) (h : MK z n x f c k m z' r') : OD z' n (x : Int) (cutF f k m) (c - m) := by
  obtain ⟨m1, m2, m3, m4, m5, m6, m7⟩ := h
  have hcut : ∀ j, j < c - m → ∃ i, i < c ∧ cutF f k m j = f i ∧ (i < k ∨ k + m ≤ i) ∧ i = (if j < k then j else j + m) := by
    intro j hj
    unfold cutF
    by_cases e : j < k
    · rw [if_pos e, if_pos e]
      exact ⟨j, by omega, rfl, by omega, rfl⟩
    · rw [if_neg e, if_neg e]
      exact ⟨j + m, by omega, rfl, by omega, rfl⟩
  have hsame : ∀ i, i < c → (i < k ∨ k + m ≤ i) → z'.2.1.2.1 (f i) = (x : Int) := by
    intro i hi hik
    rw [m5 (f i) (fun j hj e => by
      have := OD_inj hD (show k + j < c by omega) hi e
      omega)]
    exact (hD.1 i hi).2
  refine ⟨fun j hj => ?_, fun i j hij hj => ?_, fun b hb e => ?_, ?_⟩
  · obtain ⟨i, i1, i2, i3, i4⟩ := hcut j hj
    rw [i2]
    exact ⟨(hD.1 i i1).1, hsame i i1 i3⟩
  · obtain ⟨i', i1, i2, i3, i4⟩ := hcut i (by omega)
    obtain ⟨j', j1, j2, j3, j4⟩ := hcut j hj
    rw [i2, j2, m3]
    exact hD.2.1 i' j' (by split at i4 <;> split at j4 <;> omega) j1
  · have hno : ∀ j, j < m → f (k + j) ≠ b := fun j hj e2 => by
      have := m6 j hj
      rw [e2] at this
      omega
    rw [m5 b hno] at e
    obtain ⟨j, j1, j2⟩ := hD.2.2.1 b hb e
    by_cases ej : j < k
    · exact ⟨j, by omega, by unfold cutF; rw [if_pos ej]; exact j2⟩
    · by_cases ej2 : j < k + m
      · exact absurd (by rw [show k + (j - k) = j by omega]; exact j2) (hno (j - k) (by omega))
      · exact ⟨j - m, by omega, by unfold cutF; rw [if_neg (by omega), show j - m + m = j by omega]; exact j2⟩
  · rw [m7]
    omega
theorem OD_same {z z' : bS} {n c : Nat} {x : Int} {f : Nat → Nat} (hD : OD z n x f c) (h1 : z'.1 = z.1) (h2 : ∀ b, b < n → (z'.2.1.2.1 b = x ↔ z.2.1.2.1 b = x)) : OD z' n x f c := by
  obtain ⟨a1, a2, a3, a4⟩ := hD
  refine ⟨fun j hj => ⟨(a1 j hj).1, (h2 _ (a1 j hj).1).mpr (a1 j hj).2⟩, by rw [h1]; exact a2, fun b hb e => a3 b hb ((h2 b hb).mp e), ?_⟩
  rw [a4]
  have : ∀ i, i ≤ n → cnt i z.2.1.2.1 x = cnt i z'.2.1.2.1 x := by
    intro i
    induction i with
    | zero => intro _; rfl
    | succ i ih =>
      intro hi
      rw [cnt_s, cnt_s, ih (by omega)]
      by_cases e : z.2.1.2.1 i = x
      · rw [if_pos e, if_pos ((h2 i (by omega)).mpr e)]
      · rw [if_neg e, if_neg (fun h => e ((h2 i (by omega)).mp h))]
  exact this n (Nat.le_refl _)
theorem MK_other {z z' : bS} {n x c k m y : Nat} {f : Nat → Nat} {r' : Nat → Int} (hD : OD z n (x : Int) f c) (hkm : k + m ≤ c) (h : MK z n x f c k m z' r') (hy : y ≠ x) : ∀ b, b < n → (z'.2.1.2.1 b = (y : Int) ↔ z.2.1.2.1 b = (y : Int)) := by
  obtain ⟨m1, m2, m3, m4, m5, m6, m7⟩ := h
  intro b hb
  by_cases e : ∃ j, j < m ∧ f (k + j) = b
  · obtain ⟨j, j1, j2⟩ := e
    have h1 := m6 j j1
    have h2 := (hD.1 (k + j) (by omega)).2
    rw [j2] at h1 h2
    rw [h1, h2]
    omega
  · rw [m5 b (fun j hj e2 => e ⟨j, hj, e2⟩)]
theorem wl {N n x m : Nat} {hi sn as : Nat → Int} {st ik : Int} {t : bl} {kt : Int → Int → bM → Option (Int × bM)} (hN : 60 ≤ N) (hx : x < 12) (hm : 1 ≤ m) (hm9 : m ≤ 9) : ∀ d k (z : bS) (r : Nat → Int) (f : Nat → Nat) (c : Nat) (li : Nat → Int) (lm : Int) (fu : Nat), CI z n → R1 z r n → OD z n (x : Int) f c → c < k + d → (∀ i, i < k → i + m ≤ c → ¬ shf z f (i + m - 1) - shf z f i ≤ z.2.2.1 7) → c < fu → ∃ (z' : bS) (r' li' : Nat → Int) (lm' : Int), f_X8_shirts_L25 N kt fu (m : Int) (x : Int) (r, hi, st, sn, ik, as, li, lm, t) = kt (m : Int) (x : Int) (r', hi, st, sn, ik, as, li', lm', t) ∧ CI z' n ∧ R1 z' r' n ∧ z'.1 = z.1 ∧ z'.2.2.1 = z.2.2.1 ∧ z'.2.2.2.1 = z.2.2.2.1 + (gr (shf z f) c m (z.2.2.1 7) d k : Int) ∧ ∀ y : Nat, y ≠ x → ∀ b, b < n → (z'.2.1.2.1 b = (y : Int) ↔ z.2.1.2.1 b = (y : Int)) := by
  intro d
  -- no more
  have stop : ∀ (d k : Nat) (z : bS) (r : Nat → Int) (f : Nat → Nat) (c : Nat) (li : Nat → Int) (lm : Int) (fu : Nat), CI z n → R1 z r n → OD z n (x : Int) f c → c < k + m → (∀ i, i < k → i + m ≤ c → ¬ shf z f (i + m - 1) - shf z f i ≤ z.2.2.1 7) → c < fu → ∃ (z' : bS) (r' li' : Nat → Int) (lm' : Int), f_X8_shirts_L25 N kt fu (m : Int) (x : Int) (r, hi, st, sn, ik, as, li, lm, t) = kt (m : Int) (x : Int) (r', hi, st, sn, ik, as, li', lm', t) ∧ CI z' n ∧ R1 z' r' n ∧ z'.1 = z.1 ∧ z'.2.2.1 = z.2.2.1 ∧ z'.2.2.2.1 = z.2.2.2.1 + (gr (shf z f) c m (z.2.2.1 7) d k : Int) ∧ ∀ y : Nat, y ≠ x → ∀ b, b < n → (z'.2.1.2.1 b = (y : Int) ↔ z.2.1.2.1 b = (y : Int)) := by
    intro d k z r f c li lm fu hC hR hD hck hnb hfu
    obtain ⟨fu, rfl⟩ : ∃ j, fu = j + 1 := ⟨fu - 1, by omega⟩
    obtain ⟨li', g1, g2⟩ := faM (N := N) (m := m) (hi := hi) (sn := sn) (as := as) (li := li) (st := st) (ik := ik) (lm := lm) (t := t) (xx := (x : Int)) (mm := (m : Int)) hN hC hR hx rfl hD hm (by omega) rfl
    have hno : fa (shf z f) c m (z.2.2.1 7) (c + 1) 0 = none := by
      cases ho : fa (shf z f) c m (z.2.2.1 7) (c + 1) 0 with
      | none => rfl
      | some j =>
        have := fa_some _ _ _ ho
        exact absurd this.2.2.1 (hnb j (by omega) (by omega))
    rw [hno] at g1
    refine ⟨z, r, li', (c : Int), ?_, hC, hR, rfl, rfl, ?_, fun y hy b hb => Iff.rfl⟩
    · rw [f_X8_shirts_L25]
      exact (bd_q g1 (gd_q (rg_of (show -2147483648 ≤ (-5 : Int) ∧ (-5 : Int) < 2147483648 by omega)) (it_q1 rfl (rfl))))
    · rw [grz_0 hck]
      omega
  induction d with
  | zero =>
    intro k z r f c li lm fu hC hR hD hck hnb hfu
    exact stop 0 k z r f c li lm fu hC hR hD (by omega) hnb hfu
  | succ d ih =>
    intro k z r f c li lm fu hC hR hD hck hnb hfu
    by_cases e : k + m ≤ c
    · by_cases e2 : shf z f (k + m - 1) - shf z f k ≤ z.2.2.1 7
      · obtain ⟨fu, rfl⟩ : ∃ j, fu = j + 1 := ⟨fu - 1, by omega⟩
        have h40 := CI_40 hC
        have hc := OD_c hD
        have hk : fa (shf z f) c m (z.2.2.1 7) (c + 1) 0 = some k := by
          cases ho : fa (shf z f) c m (z.2.2.1 7) (c + 1) 0 with
          | none => exact absurd e2 (fa_none hm (c + 1) 0 (by omega) ho k (by omega) e)
          | some j =>
            have hj := fa_some _ _ _ ho
            rcases Nat.lt_trichotomy j k with h | h | h
            · exact absurd hj.2.2.1 (hnb j h hj.2.1)
            · rw [h]
            · exact absurd e2 (hj.2.2.2 k (by omega) h)
        obtain ⟨li1, g1, g2⟩ := faM (N := N) (m := m) (hi := hi) (sn := sn) (as := as) (li := li) (st := st) (ik := ik) (lm := lm) (t := t) (xx := (x : Int)) (mm := (m : Int)) hN hC hR hx rfl hD hm (by omega) rfl
        rw [hk] at g1
        obtain ⟨wf, z1, r1, li2, y1, y2, y3, y4⟩ := mk_eq (N := N) (hi := hi) (sn := sn) (as := as) (li := li1) (st := st) (ik := ik) (lm := (c : Int)) (t := t) (O := ((fun j => (f j : Int)), (fun j => z.1.2.2.2.2.1 (f j)), (c : Int))) (xx := (x : Int)) (kk := (k : Int)) (mm := (m : Int)) hN hC hR hx rfl hD ⟨rfl, fun j _ => ⟨rfl, rfl⟩⟩ hm hm9 rfl rfl hk
        have hD1 := MK_OD hD e y3
        have ho := fun (y : Nat) (hy : y ≠ x) => MK_other (y := y) hD e y3 hy
        obtain ⟨m1, m2, m3, m4, -, -, -⟩ := y3
        have hsh : ∀ j, shf z1 (cutF f k m) j = if j < k then shf z f j else shf z f (j + m) := by
          intro j
          unfold shf cutF
          rw [m3]
          split <;> rfl
        obtain ⟨z2, r2, li3, lm3, w1, w2, w3, w4, w5, w6, w7⟩ := ih k z1 r1 (cutF f k m) (c - m) li2 (c : Int) fu m1 m2 hD1 (by omega) (fun i hi hic => by
          rw [hsh, hsh, if_pos hi, m4]
          have := hnb i hi (by omega)
          split
          · exact this
          · have := OD_le hD (show i + m - 1 ≤ i + m - 1 + m by omega) (by omega)
            omega) (by omega)
        refine ⟨z2, r2, li3, lm3, ?_, w2, w3, w4.trans m3, w5.trans m4, ?_, fun y hy b hb => (w7 y hy b hb).trans (ho y hy b hb)⟩
        · rw [f_X8_shirts_L25]
          exact (bd_q g1 (gd_q (rg_of (show -2147483648 ≤ (k : Int) ∧ (k : Int) < 2147483648 by omega)) (it_q2 (show ¬ (k : Int) = -5 by omega) (bd_q y2 (w1)))))
        · rw [w6, y4, m4, gr, if_pos e, if_pos e2]
          have := gr_shift (s := shf z f) (s' := shf z1 (cutF f k m)) (c := c) (c' := c - m) (sp := z.2.2.1 7) (by omega) hm d k (fun j hj => by rw [hsh, if_neg (by omega)])
          rw [this]
          omega
      · obtain ⟨z2, r2, li3, lm3, w1, w2, w3, w4, w5, w6, w7⟩ := ih (k + 1) z r f c li lm fu hC hR hD (by omega) (fun i hi hic => by
          by_cases ei : i = k
          · subst ei
            exact e2
          · exact hnb i (by omega) hic) hfu
        refine ⟨z2, r2, li3, lm3, w1, w2, w3, w4, w5, ?_, w7⟩
        rw [w6, gr, if_pos e, if_neg e2]
    · exact stop (d + 1) k z r f c li lm fu hC hR hD (by omega) hnb hfu
theorem shirts_loop {N n m : Nat} {hi sn as : Nat → Int} {st ik : Int} {t : bl} {bt : bBT} {H : bH} {S : bS} {p : bS × bS × Int} (hN : 1300 ≤ N) (hm : 1 ≤ m) (hm9 : m ≤ 9) (hS : CI S n) : ∀ d v, v + d = 12 → ∀ (z : bS) (r li : Nat → Int) (lm : Int) (O : bO) (made : Int) (fu fu' : Nat), CI z n → R1 z r n → z.1 = S.1 → z.2.2.1 = S.2.2.1 → (∀ y : Nat, v ≤ y → ∀ b, b < n → (z.2.1.2.1 b = (y : Int) ↔ S.2.1.2.1 b = (y : Int))) → d < fu → d < fu' → ∃ (w : Int) (O' : bO) (r' li' : Nat → Int) (lm' : Int), f_X7_shirts_L14 N fu (m : Int) made (v : Int) (bt, O, H, S, p) = some (made + w, (bt, O', H, S, p)) ∧ f_X8_shirts_L19 N fu' (m : Int) (v : Int) (r, hi, st, sn, ik, as, li, lm, t) = some (z.2.2.2.1 + w - as 8, (r', hi, st, sn, ik, as, li', lm', t)) ∧ ∀ j, j < 415 → r' j = as j := by
  have h40 := CI_40 hS
  have s7 := SI_rg hS.2.1 7 (by omega)
  intro d
  induction d with
  | zero =>
    intro v hv z r li lm O made fu fu' hC hR h1 h2 h3 hf hf'
    obtain ⟨fu, rfl⟩ : ∃ j, fu = j + 1 := ⟨fu - 1, by omega⟩
    obtain ⟨fu', rfl⟩ : ∃ j, fu' = j + 1 := ⟨fu' - 1, by omega⟩
    obtain ⟨r', b1, b2⟩ := back_loop N hi as (st, sn, ik) as (li, lm, t) 415 0 (by omega) N r (by omega) (fun j hj => absurd hj (by omega))
    have f8 : r 8 = z.2.2.2.1 := hR.1.2.1.1
    refine ⟨0, O, r', li, lm, ?_, ?_, b2⟩
    · rw [f_X7_shirts_L14]
      refine (gd_q (rg_of (by first | omega | (dsimp only; omega))) (it_q1 (by first | omega | (dsimp only; omega)) (?_)))
      rw [Int.add_zero]
    · rw [f_X8_shirts_L19]
      refine (gd_q (rg_of (by first | omega | (dsimp only; omega))) (it_q1 (by first | omega | (dsimp only; omega)) (nm_q (bd_q b1 (?_)))))
      dsimp only
      rw [f8, Int.add_zero]
  | succ d ih =>
    intro v hv z r li lm O made fu fu' hC hR h1 h2 h3 hf hf'
    obtain ⟨fu, rfl⟩ : ∃ j, fu = j + 1 := ⟨fu - 1, by omega⟩
    obtain ⟨fu', rfl⟩ : ∃ j, fu' = j + 1 := ⟨fu' - 1, by omega⟩
    obtain ⟨O', f, c, g1, g2, g3⟩ := fill_eq (N := N) (O := O) (xx := (v : Int)) (by omega) hS (show v < 12 by omega) rfl
    have hc := OD_c g2
    have hg := grC0 (N := N) (m := m) (sp := S.2.2.1 7) hS g2 g3 hm hm9 (rg_of (by first | omega | (dsimp only; omega))) (by omega)
    have hDz := OD_same (z' := z) g2 h1 (h3 v (Nat.le_refl _))
    have hsh : shf z f = shf S f := by
      funext j
      unfold shf
      rw [h1]
    obtain ⟨z2, r2, li2, lm2, w1, w2, w3, w4, w5, w6, w7⟩ := wl (N := N) (x := v) (m := m) (hi := hi) (sn := sn) (as := as) (st := st) (ik := ik) (t := t) (kt := fun v25 v26 s27 => f_X8_shirts_L19 N fu' v25 (v26 + 1) s27) (by omega) (by omega) hm hm9 (c + 1) 0 z r f c li lm N hC hR hDz (by omega) (fun i hi => absurd hi (by omega)) (by omega)
    rw [hsh, h2] at w6
    obtain ⟨w, O2, r', li', lm', u1, u2, u3⟩ := ih (v + 1) (by omega) z2 r2 li2 lm2 O' (made + (gr (shf S f) c m (S.2.2.1 7) (c + 1) 0 : Int)) fu fu' w2 w3 (w4.trans h1) (w5.trans h2) (fun y hy b hb => (w7 y (by omega) b hb).trans (h3 y (by omega) b hb)) (by omega) (by omega)
    refine ⟨(gr (shf S f) c m (S.2.2.1 7) (c + 1) 0 : Int) + w, O2, r', li', lm', ?_, ?_, u3⟩
    · rw [f_X7_shirts_L14]
      refine (gd_q (rg_of (by first | omega | (dsimp only; omega))) (it_q2 (by first | omega | (dsimp only; omega)) (bd_q g1 (nm_q (nm_q (bd_q hg (nm_q (nm_q (?_)))))))))
      refine Eq.trans u1 ?_
      rw [Int.add_assoc]
    · rw [f_X8_shirts_L19]
      refine (gd_q (rg_of (by first | omega | (dsimp only; omega))) (it_q2 (by first | omega | (dsimp only; omega)) (?_)))
      refine Eq.trans w1 ?_
      refine Eq.trans u2 ?_
      rw [w6, Int.add_assoc]
theorem s_shirts {N : Nat} (hN : 1300 ≤ N) {v : Int} (hv : rg v = true) : SIM (f_X7_shirts N v) (f_X8_shirts N v) := by
  rintro ⟨⟨B, s, l⟩, O, H, S, P, V, hs⟩ ⟨r, hi, st, sn, ik, as, li, lm, tx, le, sp, re, rd⟩ ⟨hT, hH, hS, hK⟩
  dsimp only at hT hH hS hK
  have hS0 := hS
  obtain ⟨n, hC, hR⟩ := hS
  have c2 := isW hv
  have m2 := in_eq hv (show rg 1 = true by decide) (show rg 9 = true by decide)
  by_cases e2 : 1 ≤ v ∧ v ≤ 9
  · rw [if_pos e2] at c2 m2
    obtain ⟨m, rfl⟩ : ∃ q : Nat, v = (q : Int) := ⟨v.toNat, by omega⟩
    obtain ⟨x', a1, a2⟩ := aside_loop N hi as (st, sn, ik, sn) (li, lm, tx, le, sp, re, rd) r 415 0 (by omega) N as (by omega) (fun j hj => absurd hj (by omega))
    obtain ⟨w, O', r', li', lm', u1, u2, u3⟩ := shirts_loop (N := N) (m := m) (hi := hi) (sn := sn) (as := x') (st := st) (ik := ik) (t := (tx, le, sp, re, rd)) (bt := (B, s, l)) (H := H) (p := (P, V, hs)) hN (by omega) (by omega) hC 12 0 (by omega) S r li lm O 0 N N hC hR rfl rfl (fun y hy b hb => Iff.rfl) (by omega) (by omega)
    have f8 : r 8 = S.2.2.2.1 := hR.1.2.1.1
    have e8 : S.2.2.2.1 + w - x' 8 = 0 + w := by
      have := a2 8 (by omega)
      omega
    rw [e8] at u2
    refine ⟨0 + w, ((B, s, l), O', H, S, P, V, hs), (r', hi, st, sn, ik, x', li', lm', tx, le, sp, re, rd), ?_, ?_, ⟨hT, hH, RS_row hS0 (fun j hj => (u3 j hj).trans (a2 j hj)), hK⟩⟩
    · exact (bd_q c2 (gd_q (rg_of (by first | omega | (dsimp only; omega))) (it_q2 (by first | omega | (dsimp only; omega)) (u1))))
    · exact (bd_q m2 (gd_q (rg_of (by first | omega | (dsimp only; omega))) (it_q2 (by first | omega | (dsimp only; omega)) (bd_q a1 (u2)))))
  · rw [if_neg e2] at c2 m2
    refine ⟨-2, ((B, s, l), O, H, S, P, V, hs), (r, hi, st, sn, ik, as, li, lm, tx, le, sp, re, rd), ?_, ?_, ⟨hT, hH, hS0, hK⟩⟩
    · exact (bd_q c2 (gd_q (rg_of (by first | omega | (dsimp only; omega))) (it_q1 (by first | omega | (dsimp only; omega)) (rfl))))
    · exact (bd_q m2 (gd_q (rg_of (by first | omega | (dsimp only; omega))) (it_q1 (by first | omega | (dsimp only; omega)) (rfl))))
