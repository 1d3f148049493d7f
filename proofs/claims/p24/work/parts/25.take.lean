def soK (N : Nat) (v q : Int) (s : bM) : Option bM := gd (rg q) <| if q = 5 then (bd (f_X8_of v 1 s) fun u24 => bd (f_X8_classOf v u24.2) fun u26 => gd (inb u26.1 415) <| gd (rg u24.1) <| gd (rg (u26.2.1 u26.1.toNat)) <| if u24.1 = (u26.2.1 u26.1.toNat) then (bd (f_X8_of v 3 u26.2) fun u49 => gd (rg u49.1) <| if 9 ≤ u49.1 then (bd (f_X8_put v 3 9 u49.2) fun u53 => nm (up u53.1 12 ((u53.1 12) + 1), u53.2) fun s55 => bd (f_X8_binOf v s55) fun u57 => bd (f_X8_manyIn N u57.1 u57.2) fun u59 => gd (rg u59.1) <| gd (rg (u59.2.1 6)) <| if (u59.2.1 6) ≤ u59.1 then (bd (f_X8_toHopper v u59.2) fun u64 => nm (up u64.1 11 ((u64.1 11) + 1), u64.2) fun s66 => some s66) else (bd (f_X8_put v 5 5 u59.2) fun u68 => bd (f_X8_binOf v u68) fun u70 => bd (f_X8_put v 6 u70.1 u70.2) fun u72 => some u72)) else (bd (f_X8_of v 3 u49.2) fun u74 => bd (f_X8_put v 3 (u74.1 + 1) u74.2) fun u76 => nm (up u76.1 12 ((u76.1 12) + 1), u76.2) fun s78 => bd (f_X8_binOf v s78) fun u80 => bd (f_X8_manyIn N u80.1 u80.2) fun u82 => gd (rg u82.1) <| gd (rg (u82.2.1 6)) <| if (u82.2.1 6) ≤ u82.1 then (bd (f_X8_toHopper v u82.2) fun u87 => nm (up u87.1 11 ((u87.1 11) + 1), u87.2) fun s89 => some s89) else (bd (f_X8_put v 5 5 u82.2) fun u91 => bd (f_X8_binOf v u91) fun u93 => bd (f_X8_put v 6 u93.1 u93.2) fun u95 => some u95))) else (bd (f_X8_binOf v u26.2) fun u32 => bd (f_X8_manyIn N u32.1 u32.2) fun u34 => gd (rg u34.1) <| gd (rg (u34.2.1 6)) <| if (u34.2.1 6) ≤ u34.1 then (bd (f_X8_toHopper v u34.2) fun u39 => nm (up u39.1 11 ((u39.1 11) + 1), u39.2) fun s41 => some s41) else (bd (f_X8_put v 5 5 u34.2) fun u43 => bd (f_X8_binOf v u43) fun u45 => bd (f_X8_put v 6 u45.1 u45.2) fun u47 => some u47))) else (bd (f_X8_bring v q s) fun u97 => if q = 2 then (bd (f_X8_at N 2 u97) fun u100 => gd (rg u100.1) <| gd (rg (u100.2.1 5)) <| if u100.1 < (u100.2.1 5) then (some u100.2) else (bd (f_X8_letGoNow N  u100.2) fun u105 => some u105.2)) else (some u97))
def soT (N : Nat) (v : Int) (s : bM) : Option bM := bd (f_X8_binOf v s) fun u32 => bd (f_X8_manyIn N u32.1 u32.2) fun u34 => gd (rg u34.1) <| gd (rg (u34.2.1 6)) <| if (u34.2.1 6) ≤ u34.1 then (bd (f_X8_toHopper v u34.2) fun u39 => nm (up u39.1 11 ((u39.1 11) + 1), u39.2) fun s41 => some s41) else (bd (f_X8_put v 5 5 u34.2) fun u43 => bd (f_X8_binOf v u43) fun u45 => bd (f_X8_put v 6 u45.1 u45.2) fun u47 => some u47)
def sfK (N : Nat) (v q : Int) (s : bS) : Option bS := gd (rg q) <| if q = 0 then (bd (f_X5_rub N v s) fun u16 => nm (u16.1, u16.2.1, u16.2.2.1, u16.2.2.2.1, u16.2.2.2.2.1, u16.2.2.2.2.2.1, u16.2.2.2.2.2.2.1 + 1, u16.2.2.2.2.2.2.2) fun s18 => bd (f_X4_bringToHopper v s18.2.1) fun u20 => nm (s18.1, u20, s18.2.2) fun s22 => some s22) else if q = 3 then (bd (f_X4_bring v 2 s.2.1) fun u25 => nm (s.1, u25, s.2.2) fun s27 => bd (f_X5_emptyMagnet N s27) fun u29 => some u29) else if q = 5 then (bd (f_X5_rub N v s) fun u32 => bd (f_X5_binFor N v u32) fun u34 => bd (f_X4_bringToBin v u34.1 u34.2.2.1) fun u36 => nm (u34.2.1, u36, u34.2.2.2) fun s38 => some s38) else (bd (f_X4_bring v q s.2.1) fun u40 => nm (s.1, u40, s.2.2) fun s42 => some s42)
/-- the state when the first one has been taken, and counted -/
def takS (b0 w : Nat) (z : bS) : bS := ((z.1.1, z.1.2.1, z.1.2.2.1, z.1.2.2.2.1, z.1.2.2.2.2.1, up z.1.2.2.2.2.2.1 b0 (z.1.2.2.2.2.2.1 b0 + 1), z.1.2.2.2.2.2.2), (z.2.1.1, z.2.1.2.1, z.2.1.2.2.1, va_cpy z.2.1.2.2.2.1 z.2.1.2.2.2.1 1 0 39, up z.2.1.2.2.2.2.1 0 (w : Int), z.2.1.2.2.2.2.2), z.2.2.1, z.2.2.2.1, z.2.2.2.2.1, z.2.2.2.2.2.1 + 1, z.2.2.2.2.2.2)
def takM (b0 w : Nat) (r : Nat → Int) : Nat → Int :=
  up (up (up (fun j => if 15 + 0 ≤ j ∧ j < 15 + w then up r 14 (r 14 - 1) (j + 1) else up r 14 (r 14 - 1) j) (15 + w) 0) 10 (r 10 + 1)) (55 + 9 * b0 + 8) (r (55 + 9 * b0 + 8) + 1)
theorem takM_hi {b0 w j : Nat} {r : Nat → Int} (hw : w < 40) (h : 55 ≤ j) : takM b0 w r j = up r (55 + 9 * b0 + 8) (r (55 + 9 * b0 + 8) + 1) j := by
  unfold takM
  by_cases e : j = 55 + 9 * b0 + 8
  · subst e
    rw [up_s, up_s]
  · rw [up_n _ _ e, up_n _ _ e, up_n _ _ (by omega), up_n _ _ (by omega), if_neg (by omega), up_n _ _ (by omega)]
theorem takM_lo {b0 w j : Nat} {r : Nat → Int} (h : j < 15) (h10 : j ≠ 10) (h14 : j ≠ 14) : takM b0 w r j = r j := by
  unfold takM
  rw [up_n _ _ (by omega), up_n _ _ h10, up_n _ _ (by omega), if_neg (by omega), up_n _ _ h14]
theorem takM_10 {b0 w : Nat} {r : Nat → Int} : takM b0 w r 10 = r 10 + 1 := by
  unfold takM
  rw [up_n _ _ (by omega), up_s]
theorem takM_14 {b0 w : Nat} {r : Nat → Int} : takM b0 w r 14 = r 14 - 1 := by
  unfold takM
  rw [up_n _ _ (by omega), up_n _ _ (by omega), up_n _ _ (by omega), if_neg (by omega), up_s]
theorem takM_h {b0 w k : Nat} {r : Nat → Int} (hw : w < 40) (hk : k < w) : takM b0 w r (15 + k) = r (15 + (k + 1)) := by
  unfold takM
  rw [up_n _ _ (by omega), up_n _ _ (by omega), up_n _ _ (by omega), if_pos (by omega), up_n _ _ (by omega)]
  rfl
theorem tak_R {z : bS} {r : Nat → Int} {n b0 w : Nat} (hR : R1 z r n) (hw : z.2.1.2.2.2.2.1 0 = ((w + 1 : Nat) : Int)) (hw40 : w < 40) : R1 (takS b0 w z) (takM b0 w r) n := by
  obtain ⟨⟨h1, ⟨a1, a2, a3, a4, a5⟩, h3, h4, h5⟩, hB⟩ := hR
  refine ⟨⟨fun k hk => by rw [takM_lo (by omega) (by omega) (by omega)]; exact h1 k hk, ⟨by rw [takM_lo (by omega) (by omega) (by omega)]; exact a1, by rw [takM_lo (by omega) (by omega) (by omega)]; exact a2, by rw [takM_10, a3]; rfl, by rw [takM_lo (by omega) (by omega) (by omega)]; exact a4, by rw [takM_lo (by omega) (by omega) (by omega)]; exact a5⟩, by rw [takM_lo (by omega) (by omega) (by omega)]; exact h3, ?_, fun k hk => ?_⟩, ?_⟩
  · rw [takM_14]
    show r 14 - 1 = up z.2.1.2.2.2.2.1 0 (w : Int) 0
    rw [up_s]
    omega
  · have hk' : (k : Int) < up z.2.1.2.2.2.2.1 0 (w : Int) 0 := hk
    rw [up_s] at hk'
    rw [takM_h hw40 (by omega)]
    show r (15 + (k + 1)) = va_cpy z.2.1.2.2.2.1 z.2.1.2.2.2.1 1 0 39 k
    rw [va_cpy, if_pos (by omega), show 1 + (k - 0) = k + 1 by omega]
    exact h5 (k + 1) (by omega)
  · intro b k hb hk
    rw [takM_hi hw40 (by omega)]
    have := RB_put (b0 := b0) (k0 := 8) (v := r (55 + 9 * b0 + 8) + 1) (F' := fun k x => if x = b0 ∧ k = 8 then r (55 + 9 * b0 + 8) + 1 else fld z k x) hB (by omega) (fun _ _ _ _ => rfl) b k hb hk
    rw [this]
    by_cases e : b = b0
    · subst e
      have e8 : r (55 + 9 * b + 8) = z.1.2.2.2.2.2.1 b := hB b 8 hb (by omega)
      rw [e8]
      rcases (show k = 0 ∨ k = 1 ∨ k = 2 ∨ k = 3 ∨ k = 4 ∨ k = 5 ∨ k = 6 ∨ k = 7 ∨ k = 8 by omega) with rfl | rfl | rfl | rfl | rfl | rfl | rfl | rfl | rfl <;> simp [fld, takS, up_s]
    · rcases (show k = 0 ∨ k = 1 ∨ k = 2 ∨ k = 3 ∨ k = 4 ∨ k = 5 ∨ k = 6 ∨ k = 7 ∨ k = 8 by omega) with rfl | rfl | rfl | rfl | rfl | rfl | rfl | rfl | rfl <;> simp [fld, takS, up_n _ _ e, e]
theorem has_1 {u : bU} {n b : Nat} {bb : Int} (hn : u.2.2.2.2.2.2 = (n : Int)) (h40 : n ≤ 40) (hb : b < n) (e : bb = (b : Int)) : f_X1_has bb u = some (1, u) := by
  subst e
  unfold f_X1_has
  exact gd_q (rg_of (by omega)) (it_q2 (by omega) (gd_q (rg_of (by omega)) (it_q2 (by omega) rfl)))
/-- both, up to the place -/
theorem sf_pre {N n : Nat} {z : bS} (hN : 50 ≤ N) (hC : CI z n) (h0 : 0 < z.2.1.2.2.2.2.1 0) : ∃ b0 w : Nat, b0 < n ∧ w < 40 ∧ z.2.1.2.2.2.1 0 = (b0 : Int) ∧ z.2.1.1 b0 = 0 ∧ z.2.1.2.2.2.2.1 0 = ((w + 1 : Nat) : Int) ∧ f_X5_sortFirst N z = sfK N (b0 : Int) (plcS b0 (takS b0 w z)) (takS b0 w z) ∧ LI (takS b0 w z).2.1 n b0 := by
  have hn40 := hC.1.2.1
  have hw := PI_w hC.2.2
  obtain ⟨b0, w, hb, e1, e2, e3, e4, hL⟩ := take_eq hC.2.2 hn40 h0
  refine ⟨b0, w, hb, by omega, e1, e2, e3, ?_, hL⟩
  obtain ⟨q1, q2, q3, q4, q5⟩ := CI_b hC hb
  unfold f_X5_sortFirst
  refine bd_q e4 (nm_q ?_)
  dsimp only
  refine bd_q (has_1 hC.1.1 hn40 hb rfl) (nm_q ?_)
  dsimp only
  refine gd_q (by decide) (it_q2 (by decide) ?_)
  refine gd_q (inb_of (by omega)) ?_
  refine nm_q ?_
  refine nm_q ?_
  have hLI := LI_at hL (q := 2) (by omega)
  refine bd_q (placeFor_eq (b := b0) (z := takS b0 w z) hN (by omega) rfl hC.2.1 (by show -1000 ≤ z.1.2.1 b0 ∧ z.1.2.1 b0 ≤ 1000; omega) q1 q4 q3 (by show 0 ≤ (takS b0 w z).2.1.2.2.2.2.1 2 ∧ (takS b0 w z).2.1.2.2.2.2.1 2 ≤ 40; exact ⟨hLI.1, by have := hLI.2; show (takS b0 w z).2.1.2.2.2.2.1 2 ≤ 40; exact Int.le_trans this (by omega)⟩) (fun q hq => by have := LI_ib hL hq; exact ⟨this.1, Int.le_trans this.2 (by omega)⟩)) ?_
  rfl
theorem so_pre {N n b0 w : Nat} {m : bm} {z : bS} {r : Nat → Int} (hN : 50 ≤ N) (hR : R1 z r n) (hC : CI z n) (hb : b0 < n) (e1 : z.2.1.2.2.2.1 0 = (b0 : Int)) (e3 : z.2.1.2.2.2.2.1 0 = ((w + 1 : Nat) : Int)) : f_X8_sortOne N (r, m) = soK N (b0 : Int) (plcM b0 (takM b0 w r)) (takM b0 w r, m) := by
  have hn40 := hC.1.2.1
  have hw := PI_w hC.2.2
  have hR2 := tak_R (b0 := b0) hR e3 (by omega)
  obtain ⟨⟨h1, -, h3, h4, h5⟩, hB⟩ := hR
  have h15 : r 15 = (b0 : Int) := by rw [← e1]; exact h5 0 (by omega)
  have hs := SI_rg hC.2.1
  obtain ⟨q1, q2, q3, q4, q5⟩ := CI_b hC hb
  have f1 : takM b0 w r (55 + 9 * b0 + 1) = z.1.2.1 b0 := hR2.2 b0 1 hb (by omega)
  have f2 : takM b0 w r (55 + 9 * b0 + 2) = z.1.2.2.1 b0 := hR2.2 b0 2 hb (by omega)
  have f3 : takM b0 w r (55 + 9 * b0 + 3) = z.1.2.2.2.1 b0 := hR2.2 b0 3 hb (by omega)
  obtain ⟨K, rfl⟩ : ∃ K, N = w + (K + 1) := ⟨N - w - 1, by omega⟩
  unfold f_X8_sortOne
  refine nm_q ?_
  refine nm_q ?_
  dsimp only
  rw [h15]
  have hsh := shift_loop (w + (K + 1)) m (b0 : Int) w (by omega) w 0 K (by omega) (up r 14 (r 14 - 1)) (by rw [up_s]; omega)
  refine Eq.trans hsh ?_
  obtain ⟨g, hg⟩ : ∃ g : Nat → Int, g = fun j => if 15 + 0 ≤ j ∧ j < 15 + w then up r 14 (r 14 - 1) (j + 1) else up r 14 (r 14 - 1) j := ⟨_, rfl⟩
  rw [← hg]
  have h14 : g 14 = (w : Int) := by
    rw [hg]
    show (if 15 + 0 ≤ 14 ∧ 14 < 15 + w then up r 14 (r 14 - 1) (14 + 1) else up r 14 (r 14 - 1) 14) = (w : Int)
    rw [if_neg (by omega), up_s]
    omega
  have h10 : g 10 = r 10 := by
    rw [hg]
    show (if 15 + 0 ≤ 10 ∧ 10 < 15 + w then up r 14 (r 14 - 1) (10 + 1) else up r 14 (r 14 - 1) 10) = r 10
    rw [if_neg (by omega), up_n _ _ (by omega)]
  have h8 : g (55 + 9 * b0 + 8) = r (55 + 9 * b0 + 8) := by
    rw [hg]
    show (if 15 + 0 ≤ 55 + 9 * b0 + 8 ∧ 55 + 9 * b0 + 8 < 15 + w then up r 14 (r 14 - 1) (55 + 9 * b0 + 8 + 1) else up r 14 (r 14 - 1) (55 + 9 * b0 + 8)) = _
    rw [if_neg (by omega), up_n _ _ (by omega)]
  rw [f_X8_sortOne_L21]
  refine gd_q (rg_of (by omega)) ?_
  refine gd_q (by dsimp only; rw [h14]; exact rg_of (by omega)) ?_
  refine it_q1 (by dsimp only; rw [h14]; omega) ?_
  refine gd_q (by dsimp only; rw [h14]; exact inb_of (by omega)) ?_
  refine nm_q ?_
  refine nm_q ?_
  refine bd_q (of_eq (b := b0) (k := 8) (by omega) (by omega) rfl rfl) ?_
  refine bd_q (put_eq (b := b0) (k := 8) (by omega) (by omega) rfl rfl) ?_
  dsimp only
  have hfun : up (up (up g (15 + g 14).toNat 0) 10 (up g (15 + g 14).toNat 0 10 + 1)) (55 + 9 * b0 + 8) (up (up g (15 + g 14).toNat 0) 10 (up g (15 + g 14).toNat 0 10 + 1) (55 + 9 * b0 + 8) + 1) = takM b0 w r := by
    unfold takM
    rw [← hg, h14, show (15 + (w : Int)).toNat = 15 + w by omega]
    rw [show up g (15 + w) 0 10 = r 10 by rw [up_n _ _ (by omega)]; exact h10]
    rw [show up (up g (15 + w) 0) 10 (r 10 + 1) (55 + 9 * b0 + 8) = r (55 + 9 * b0 + 8) by rw [up_n _ _ (by omega), up_n _ _ (by omega)]; exact h8]
  rw [hfun]
  refine bd_q (placeForM_eq (b := b0) (by omega) rfl (fun k hk => by rw [hR2.1.1 k hk]; exact hs k hk) (by rw [f1]; exact rg_of (by omega)) (by rw [f2]; exact rg_of (by omega)) (by rw [f3]; exact rg_of (by omega))) ?_
  rfl
