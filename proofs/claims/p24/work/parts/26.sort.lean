/-! one button sorted: the end -/
theorem place_R {z : bS} {r : Nat → Int} {n b0 : Nat} {q v : Int} {p' : bP} (h : R1 z r n) (e1 : p'.1 = up z.2.1.1 b0 q) (e2 : p'.2.1 = up z.2.1.2.1 b0 v) (e3 : ∀ x, p'.2.2.1 x = z.2.1.2.2.1 x) (e4 : p'.2.2.2.1 = z.2.1.2.2.2.1) (e5 : p'.2.2.2.2.1 0 = z.2.1.2.2.2.2.1 0) (hw : z.2.1.2.2.2.2.1 0 ≤ 40) : R1 (z.1, p', z.2.2) (up (up r (55 + 9 * b0 + 5) q) (55 + 9 * b0 + 6) v) n := by
  obtain ⟨⟨h1, ⟨a1, a2, a3, a4, a5⟩, h3, h4, h5⟩, hB⟩ := h
  have u : ∀ j, j < 55 → up (up r (55 + 9 * b0 + 5) q) (55 + 9 * b0 + 6) v j = r j := fun j hj => by rw [up_hi hj, up_hi hj]
  refine ⟨⟨fun k hk => by rw [u k (by omega)]; exact h1 k hk, ⟨by rw [u _ (by omega)]; exact a1, by rw [u _ (by omega)]; exact a2, by rw [u _ (by omega)]; exact a3, by rw [u _ (by omega)]; exact a4, by rw [u _ (by omega)]; exact a5⟩, by rw [u _ (by omega)]; exact h3, by rw [u _ (by omega)]; exact h4.trans e5.symm, fun k hk => ?_⟩, ?_⟩
  · have hk' : (k : Int) < z.2.1.2.2.2.2.1 0 := by rw [← e5]; exact hk
    rw [u _ (by omega), h5 k hk']
    exact (congrFun e4 k).symm
  · have h1' := RB_put (b0 := b0) (k0 := 5) (v := q) (F' := fun k x => if x = b0 ∧ k = 5 then q else fld z k x) hB (by omega) (fun _ _ _ _ => rfl)
    have h2' := RB_put (b0 := b0) (k0 := 6) (v := v) (F' := fun k x => if x = b0 ∧ k = 6 then v else if x = b0 ∧ k = 5 then q else fld z k x) h1' (by omega) (fun _ _ _ _ => rfl)
    refine RB_F h2' (fun x k hx hk => ?_)
    by_cases e : x = b0
    · subst e
      rcases (show k = 0 ∨ k = 1 ∨ k = 2 ∨ k = 3 ∨ k = 4 ∨ k = 5 ∨ k = 6 ∨ k = 7 ∨ k = 8 by omega) with rfl | rfl | rfl | rfl | rfl | rfl | rfl | rfl | rfl <;> simp [fld, up_s, e1, e2, e3]
    · rcases (show k = 0 ∨ k = 1 ∨ k = 2 ∨ k = 3 ∨ k = 4 ∨ k = 5 ∨ k = 6 ∨ k = 7 ∨ k = 8 by omega) with rfl | rfl | rfl | rfl | rfl | rfl | rfl | rfl | rfl <;> simp [fld, up_n _ _ e, e, e1, e2, e3]
theorem st_same {f : Nat → Int} {b0 : Nat} {v : Int} (h : f b0 = v) : ∀ x, up f b0 v x = f x := fun x => by rw [← h, up_id]
theorem hop_R {z : bS} {r : Nat → Int} {n b0 w : Nat} (h : R1 z r n) (hw : z.2.1.2.2.2.2.1 0 = (w : Int)) (hw40 : w < 40) (hst : z.2.1.2.2.1 b0 = -5) : R1 (z.1, bringS b0 0 (z.2.1.1, z.2.1.2.1, z.2.1.2.2.1, up z.2.1.2.2.2.1 w (b0 : Int), z.2.1.2.2.2.2), z.2.2) (up (up (up (up r (55 + 9 * b0 + 5) 0) (55 + 9 * b0 + 6) (-5)) (15 + w) (b0 : Int)) 14 ((w : Int) + 1)) n := by
  have hP := place_R (b0 := b0) (q := 0) (v := -5) (p' := (up z.2.1.1 b0 0, up z.2.1.2.1 b0 (-5), up z.2.1.2.2.1 b0 (-5), z.2.1.2.2.2.1, z.2.1.2.2.2.2)) h rfl rfl (st_same hst) rfl rfl (by omega)
  obtain ⟨⟨h1, ⟨a1, a2, a3, a4, a5⟩, h3, h4, h5⟩, hB⟩ := hP
  have u : ∀ j, j < 14 → up (up (up (up r (55 + 9 * b0 + 5) 0) (55 + 9 * b0 + 6) (-5)) (15 + w) (b0 : Int)) 14 ((w : Int) + 1) j = up (up r (55 + 9 * b0 + 5) 0) (55 + 9 * b0 + 6) (-5) j := fun j hj => by rw [up_n _ _ (by omega), up_n _ _ (by omega)]
  refine ⟨⟨fun k hk => by rw [u k (by omega)]; exact h1 k hk, ⟨by rw [u _ (by omega)]; exact a1, by rw [u _ (by omega)]; exact a2, by rw [u _ (by omega)]; exact a3, by rw [u _ (by omega)]; exact a4, by rw [u _ (by omega)]; exact a5⟩, by rw [u _ (by omega)]; exact h3, ?_, fun k hk => ?_⟩, ?_⟩
  · rw [up_s]
    show (w : Int) + 1 = up z.2.1.2.2.2.2.1 0 (z.2.1.2.2.2.2.1 0 + 1) 0
    rw [up_s, hw]
  · have hk' : (k : Int) < up z.2.1.2.2.2.2.1 0 (z.2.1.2.2.2.2.1 0 + 1) 0 := hk
    rw [up_s, hw] at hk'
    rw [up_n _ _ (show 15 + k ≠ 14 by omega)]
    show up _ (15 + w) (b0 : Int) (15 + k) = up z.2.1.2.2.2.1 w (b0 : Int) k
    by_cases e : k = w
    · subst e
      rw [up_s, up_s]
    · rw [up_n _ _ (by omega), up_n _ _ e]
      exact h5 k (by show (k : Int) < z.2.1.2.2.2.2.1 0; omega)
  · intro b k hb hk
    rw [up_n _ _ (by omega), up_n _ _ (by omega)]
    exact hB b k hb hk
theorem R1_11 {z : bS} {r : Nat → Int} {n : Nat} (h : R1 z r n) : R1 (z.1, z.2.1, z.2.2.1, z.2.2.2.1, z.2.2.2.2.1, z.2.2.2.2.2.1, z.2.2.2.2.2.2.1 + 1, z.2.2.2.2.2.2.2) (up r 11 (r 11 + 1)) n := by
  obtain ⟨⟨h1, ⟨a1, a2, a3, a4, a5⟩, h3, h4, h5⟩, hB⟩ := h
  refine ⟨⟨fun k hk => by rw [up_n _ _ (by omega)]; exact h1 k hk, ⟨by rw [up_n _ _ (by omega)]; exact a1, by rw [up_n _ _ (by omega)]; exact a2, by rw [up_n _ _ (by omega)]; exact a3, by rw [up_s, a4], by rw [up_n _ _ (by omega)]; exact a5⟩, by rw [up_n _ _ (by omega)]; exact h3, by rw [up_n _ _ (by omega)]; exact h4, fun k hk => by rw [up_n _ _ (by omega)]; exact h5 k hk⟩, ?_⟩
  exact RB_F (RB_low hB (by omega)) (fun _ _ _ _ => rfl)
def rubM (b : Nat) (s r : Nat → Int) : Nat → Int := if r (55 + 9 * b + 1) = s (mcl s (r (55 + 9 * b + 1))) then up (up r (55 + 9 * b + 3) (if 9 ≤ r (55 + 9 * b + 3) then 9 else r (55 + 9 * b + 3) + 1)) 12 (r 12 + 1) else r
theorem rub_R {z : bS} {r : Nat → Int} {n b : Nat} (h : R1 z r n) (hb : b < n) (hw40 : z.2.1.2.2.2.2.1 0 ≤ 40) : R1 (rubS b z) (rubM b z.2.2.1 r) n := by
  have f1 : r (55 + 9 * b + 1) = z.1.2.1 b := h.2 b 1 hb (by omega)
  have f3 : r (55 + 9 * b + 3) = z.1.2.2.2.1 b := h.2 b 3 hb (by omega)
  unfold rubS rubM
  rw [f1, f3]
  by_cases e : z.1.2.1 b = z.2.2.1 (mcl z.2.2.1 (z.1.2.1 b))
  · rw [if_pos e, if_pos e]
    generalize (if 9 ≤ z.1.2.2.2.1 b then (9 : Int) else z.1.2.2.2.1 b + 1) = v
    obtain ⟨⟨h1, ⟨a1, a2, a3, a4, a5⟩, h3, h4, h5⟩, hB⟩ := h
    have hw : ∀ j, j < 55 → j ≠ 12 → up (up r (55 + 9 * b + 3) v) 12 (r 12 + 1) j = r j := fun j hj hj2 => by rw [up_n _ _ hj2, up_hi hj]
    refine ⟨⟨fun k hk => by rw [hw k (by omega) (by omega)]; exact h1 k hk, ⟨by rw [hw _ (by omega) (by omega)]; exact a1, by rw [hw _ (by omega) (by omega)]; exact a2, by rw [hw _ (by omega) (by omega)]; exact a3, by rw [hw _ (by omega) (by omega)]; exact a4, by rw [up_s, a5]⟩, by rw [hw _ (by omega) (by omega)]; exact h3, by rw [hw _ (by omega) (by omega)]; exact h4, fun k hk => ?_⟩, ?_⟩
    · have hk' : (k : Int) < z.2.1.2.2.2.2.1 0 := hk
      rw [hw _ (by omega) (by omega)]
      exact h5 k hk
    · have h1' := RB_put (b0 := b) (k0 := 3) (v := v) (F' := fun k x => if x = b ∧ k = 3 then v else fld z k x) hB (by omega) (fun _ _ _ _ => rfl)
      refine RB_F (RB_low h1' (by omega)) (fun x k hx hk => ?_)
      by_cases e : x = b
      · subst e
        rcases (show k = 0 ∨ k = 1 ∨ k = 2 ∨ k = 3 ∨ k = 4 ∨ k = 5 ∨ k = 6 ∨ k = 7 ∨ k = 8 by omega) with rfl | rfl | rfl | rfl | rfl | rfl | rfl | rfl | rfl <;> simp [fld, up_s]
      · rcases (show k = 0 ∨ k = 1 ∨ k = 2 ∨ k = 3 ∨ k = 4 ∨ k = 5 ∨ k = 6 ∨ k = 7 ∨ k = 8 by omega) with rfl | rfl | rfl | rfl | rfl | rfl | rfl | rfl | rfl <;> simp [fld, up_n _ _ e, e]
  · rw [if_neg e, if_neg e]
    exact h
