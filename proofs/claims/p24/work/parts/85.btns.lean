/-! p24: the buttons' numbers, where they would go, the numbers of the whole -/
theorem cnt_inj : ∀ (w : Nat) (f : Nat → Int) (h : Nat → Int) (n : Nat), (∀ k, k < w → ∃ b : Nat, b < n ∧ h k = (b : Int) ∧ f b = 0) → (∀ i j, i < j → j < w → h i ≠ h j) → (w : Int) ≤ cnt n f 0 := by
  intro w
  induction w with
  | zero => intro f h n _ _; exact (cnt_nn n f 0).1
  | succ w ih =>
    intro f h n h1 h2
    obtain ⟨b, b1, b2, b3⟩ := h1 w (by omega)
    have := ih (up f b 1) h n (fun k hk => by
      obtain ⟨b', c1, c2, c3⟩ := h1 k (by omega)
      refine ⟨b', c1, c2, ?_⟩
      rw [up_n _ _ (fun e => h2 k w hk (by omega) (by rw [c2, b2, e]))]
      exact c3) (fun i j hi hj => h2 i j hi (by omega))
    rw [cnt_up _ _ _ b1, if_pos b3, if_neg (by omega)] at this
    omega
/-- who is at the hopper's place stands in its row -/
theorem hop_mem {z : bS} {n b W : Nat} (hC : CI z n) (hw : z.2.1.2.2.2.2.1 0 = (W : Int)) (hb : b < n) (h0 : z.2.1.1 b = 0) : ∃ i, i < W ∧ z.2.1.2.2.2.1 i = (b : Int) := by
  obtain ⟨hV, hPC, w', w1, w2, w3⟩ := hC.2.2
  obtain rfl : w' = W := by omega
  by_cases e : ∃ i, i < w' ∧ z.2.1.2.2.2.1 i = (b : Int)
  · exact e
  · exfalso
    have h1 := cnt_inj w' (up z.2.1.1 b 1) z.2.1.2.2.2.1 n (fun k hk => by
      obtain ⟨b', c1, c2, c3⟩ := w2 k hk
      refine ⟨b', c1, c2, ?_⟩
      rw [up_n _ _ (fun eb => e ⟨k, hk, by rw [c2, eb]⟩)]
      exact c3) w3
    rw [cnt_up _ _ _ hb, if_pos h0, if_neg (by omega)] at h1
    have := hPC.1 0 (by omega)
    rw [w1] at this
    have e0 : ((0 : Nat) : Int) = 0 := rfl
    rw [e0] at this
    omega
def RKv (h : Nat → Int) (W b : Nat) (v : Int) : Prop := (∃ i, i < W ∧ h i = (b : Int) ∧ v = (i : Int)) ∨ (v = -5 ∧ ∀ i, i < W → h i ≠ (b : Int))
theorem RKv_uq {h h' : Nat → Int} {W b : Nat} {v v' : Int} (hd : ∀ i j, i < j → j < W → h i ≠ h j) (he : ∀ i, i < W → h' i = h i) (h1 : RKv h W b v) (h2 : RKv h' W b v') : v = v' := by
  rcases h1 with ⟨i, i1, i2, i3⟩ | ⟨i1, i2⟩ <;> rcases h2 with ⟨j, j1, j2, j3⟩ | ⟨j1, j2⟩
  · rw [he j j1] at j2
    rcases Nat.lt_trichotomy i j with g | g | g
    · exact absurd (i2.trans j2.symm) (hd i j g j1)
    · omega
    · exact absurd (j2.trans i2.symm) (hd j i g i1)
  · exact absurd (by rw [he i i1]; exact i2) (j2 i i1)
  · exact absurd (by rw [← he j j1]; exact j2) (i2 j j1)
  · omega
theorem rankC_loop {N n b W : Nat} {z : bS} (hC : CI z n) (hb : b < n) (hw : z.2.1.2.2.2.2.1 0 = (W : Int)) : ∀ d i k, i + d = W → d < k → (∀ j, j < i → z.2.1.2.2.2.1 j ≠ (b : Int)) → ∃ v, f_X4_rankInHopper_L2 N k (b : Int) (i : Int) z.2.1 = some (v, z.2.1) ∧ RKv z.2.1.2.2.2.1 W b v := by
  have h40 := CI_40 hC
  intro d
  induction d with
  | zero =>
    intro i k hi hk hn
    obtain ⟨k, rfl⟩ : ∃ j, k = j + 1 := ⟨k - 1, by omega⟩
    refine ⟨-5, ?_, Or.inr ⟨rfl, fun j hj => hn j (by omega)⟩⟩
    rw [f_X4_rankInHopper_L2]
    by_cases c40 : (40 : Int) ≤ (i : Int)
    · exact (gd_q (rg_of (by first | omega | (dsimp only; omega))) (it_q1 c40 (rfl)))
    · exact (gd_q (rg_of (by first | omega | (dsimp only; omega))) (it_q2 c40 (gd_q (rg_of (by first | omega | (dsimp only; omega))) (it_q1 (by first | omega | (dsimp only; omega)) (rfl)))))
  | succ d ih =>
    intro i k hi hk hn
    obtain ⟨k, rfl⟩ : ∃ j, k = j + 1 := ⟨k - 1, by omega⟩
    obtain ⟨w', w1, w2, w3⟩ := hC.2.2.2.2
    obtain ⟨x, x1, x2, x3⟩ := w2 i (by omega)
    by_cases e : z.2.1.2.2.2.1 i = (b : Int)
    · refine ⟨(i : Int), ?_, Or.inl ⟨i, by omega, e, rfl⟩⟩
      rw [f_X4_rankInHopper_L2]
      exact (gd_q (rg_of (by first | omega | (dsimp only; omega))) (it_q2 (by first | omega | (dsimp only; omega)) (gd_q (rg_of (by first | omega | (dsimp only; omega))) (it_q2 (by first | omega | (dsimp only; omega)) (gd_q (inb_of (by first | omega | (dsimp only; omega))) (gd_q (by rw [tn]; exact (rg_of (by first | omega | (dsimp only; omega)))) (gd_q (rg_of (by first | omega | (dsimp only; omega))) (it_q1 e (rfl)))))))))
    · obtain ⟨v, g1, g2⟩ := ih (i + 1) k (by omega) (by omega) (fun j hj => by
        by_cases ej : j = i
        · subst ej
          exact e
        · exact hn j (by omega))
      refine ⟨v, ?_, g2⟩
      rw [f_X4_rankInHopper_L2]
      exact (gd_q (rg_of (by first | omega | (dsimp only; omega))) (it_q2 (by first | omega | (dsimp only; omega)) (gd_q (rg_of (by first | omega | (dsimp only; omega))) (it_q2 (by first | omega | (dsimp only; omega)) (gd_q (inb_of (by first | omega | (dsimp only; omega))) (gd_q (by rw [tn]; exact (rg_of (by first | omega | (dsimp only; omega)))) (gd_q (rg_of (by first | omega | (dsimp only; omega))) (it_q2 e (g1)))))))))
theorem rankL_loop {N b W : Nat} {s : bLXgmpwn} {v19 v20 : Int} {h : Nat → Int} (hW : s.2.2.2.2.2 14 = (W : Int)) (hW20 : W ≤ 20) (hb : b < 40) (hh : ∀ i, i < W → s.2.2.2.2.1 i = h i ∧ 0 ≤ h i ∧ h i < 40) (hd : ∀ i j, i < j → j < W → h i ≠ h j) : ∀ d i k v, i + d = W → d < k → RKv h i b v → ∃ v', (∀ kt : Int → Int → Int → Int → Int → bLXgmpwn → Option (Int × bLXgmpwn), f_L_areButtons_L58 N kt k v19 v20 (b : Int) v (i : Int) s = kt v19 v20 (b : Int) v' (W : Int) s) ∧ RKv h W b v' := by
  intro d
  induction d with
  | zero =>
    intro i k v hi hk hR
    obtain ⟨k, rfl⟩ : ∃ j, k = j + 1 := ⟨k - 1, by omega⟩
    obtain rfl : i = W := by omega
    refine ⟨v, fun kt => ?_, hR⟩
    rw [f_L_areButtons_L58]
    exact (gd_q (rg_of (by first | omega | (dsimp only; omega))) (gd_q (rg_of (by first | omega | (dsimp only; omega))) (it_q1 (by first | omega | (dsimp only; omega)) (rfl))))
  | succ d ih =>
    intro i k v hi hk hR
    obtain ⟨k, rfl⟩ : ∃ j, k = j + 1 := ⟨k - 1, by omega⟩
    obtain ⟨e1, e2, e3⟩ := hh i (by omega)
    by_cases e : h i = (b : Int)
    · obtain ⟨v', g1, g2⟩ := ih (i + 1) k (i : Int) (by omega) (by omega) (Or.inl ⟨i, by omega, e, rfl⟩)
      refine ⟨v', fun kt => ?_, g2⟩
      rw [f_L_areButtons_L58]
      exact (gd_q (rg_of (by first | omega | (dsimp only; omega))) (gd_q (rg_of (by first | omega | (dsimp only; omega))) (it_q2 (by first | omega | (dsimp only; omega)) (gd_q (inb_of (by first | omega | (dsimp only; omega))) (gd_q (by rw [tn, e1]; exact (rg_of (by first | omega | (dsimp only; omega)))) (gd_q (rg_of (by first | omega | (dsimp only; omega))) (jn2_q (it_q1 (by rw [tn, e1]; exact e) (g1 kt)))))))))
    · obtain ⟨v', g1, g2⟩ := ih (i + 1) k v (by omega) (by omega) (by
        rcases hR with ⟨j, j1, j2, j3⟩ | ⟨j1, j2⟩
        · exact Or.inl ⟨j, by omega, j2, j3⟩
        · refine Or.inr ⟨j1, fun j hj => ?_⟩
          by_cases ej : j = i
          · subst ej
            exact e
          · exact j2 j (by omega))
      refine ⟨v', fun kt => ?_, g2⟩
      rw [f_L_areButtons_L58]
      exact (gd_q (rg_of (by first | omega | (dsimp only; omega))) (gd_q (rg_of (by first | omega | (dsimp only; omega))) (it_q2 (by first | omega | (dsimp only; omega)) (gd_q (inb_of (by first | omega | (dsimp only; omega))) (gd_q (by rw [tn, e1]; exact (rg_of (by first | omega | (dsimp only; omega)))) (gd_q (rg_of (by first | omega | (dsimp only; omega))) (jn2_q (it_q2 (by rw [tn, e1]; exact e) (g1 kt)))))))))
abbrev XS (bt : bBT) (O : bO) (H : bH) (S : bS) (P V : bS) (hs : Int) : bX := (bt, O, H, S, P, V, hs)
theorem btnX {N n b k : Nat} {bt : bBT} {O : bO} {H : bH} {S P V : bS} {hs bb kk : Int} (hC : CI S n) (hb : b < n) (e : bb = (b : Int)) (hk : k < 9) (ek : kk = ((if k < 7 then k else k + 1 : Nat) : Int)) : f_X7_button N bb kk (bt, O, H, S, P, V, hs) = some (fld S k b, (bt, O, H, S, P, V, hs)) := by
  have h40 := CI_40 hC
  subst e
  have h1 := has_1 hC.1.1 h40.1 hb (rfl : (b : Int) = (b : Int))
  unfold f_X7_button
  rcases (show k = 0 ∨ k = 1 ∨ k = 2 ∨ k = 3 ∨ k = 4 ∨ k = 5 ∨ k = 6 ∨ k = 7 ∨ k = 8 by omega) with rfl | rfl | rfl | rfl | rfl | rfl | rfl | rfl | rfl <;> subst ek
  · exact (bd_q h1 (nm_q (gd_q (rg_of (by first | omega | (dsimp only; omega))) (it_q2 (by first | omega | (dsimp only; omega)) (gd_q (by decide) (it_q2 (by decide) (it_q1 (by decide) (it_q1 rfl (gd_q (inb_of (by first | omega | (dsimp only; omega))) (rfl))))))))))
  · exact (bd_q h1 (nm_q (gd_q (rg_of (by first | omega | (dsimp only; omega))) (it_q2 (by first | omega | (dsimp only; omega)) (gd_q (by decide) (it_q2 (by decide) (it_q1 (by decide) (it_q2 (by decide) (it_q1 rfl (gd_q (inb_of (by first | omega | (dsimp only; omega))) (rfl)))))))))))
  · exact (bd_q h1 (nm_q (gd_q (rg_of (by first | omega | (dsimp only; omega))) (it_q2 (by first | omega | (dsimp only; omega)) (gd_q (by decide) (it_q2 (by decide) (it_q1 (by decide) (it_q2 (by decide) (it_q2 (by decide) (it_q1 rfl (gd_q (inb_of (by first | omega | (dsimp only; omega))) (rfl))))))))))))
  · exact (bd_q h1 (nm_q (gd_q (rg_of (by first | omega | (dsimp only; omega))) (it_q2 (by first | omega | (dsimp only; omega)) (gd_q (by decide) (it_q2 (by decide) (it_q1 (by decide) (it_q2 (by decide) (it_q2 (by decide) (it_q2 (by decide) (it_q1 rfl (gd_q (inb_of (by first | omega | (dsimp only; omega))) (rfl)))))))))))))
  · exact (bd_q h1 (nm_q (gd_q (rg_of (by first | omega | (dsimp only; omega))) (it_q2 (by first | omega | (dsimp only; omega)) (gd_q (by decide) (it_q2 (by decide) (it_q1 (by decide) (it_q2 (by decide) (it_q2 (by decide) (it_q2 (by decide) (it_q2 (by decide) (it_q1 rfl (gd_q (inb_of (by first | omega | (dsimp only; omega))) (rfl))))))))))))))
  · exact (bd_q h1 (nm_q (gd_q (rg_of (by first | omega | (dsimp only; omega))) (it_q2 (by first | omega | (dsimp only; omega)) (gd_q (by decide) (it_q2 (by decide) (it_q1 (by decide) (it_q2 (by decide) (it_q2 (by decide) (it_q2 (by decide) (it_q2 (by decide) (it_q2 (by decide) (it_q1 rfl (gd_q (inb_of (by first | omega | (dsimp only; omega))) (rfl)))))))))))))))
  · exact (bd_q h1 (nm_q (gd_q (rg_of (by first | omega | (dsimp only; omega))) (it_q2 (by first | omega | (dsimp only; omega)) (gd_q (by decide) (it_q2 (by decide) (it_q1 (by decide) (it_q2 (by decide) (it_q2 (by decide) (it_q2 (by decide) (it_q2 (by decide) (it_q2 (by decide) (it_q2 (by decide) (it_q1 rfl (gd_q (inb_of (by first | omega | (dsimp only; omega))) (rfl))))))))))))))))
  · exact (bd_q h1 (nm_q (gd_q (rg_of (by first | omega | (dsimp only; omega))) (it_q2 (by first | omega | (dsimp only; omega)) (gd_q (by decide) (it_q2 (by decide) (it_q1 (by decide) (it_q2 (by decide) (it_q2 (by decide) (it_q2 (by decide) (it_q2 (by decide) (it_q2 (by decide) (it_q2 (by decide) (it_q2 (by decide) (it_q2 (by decide) (it_q1 rfl (gd_q (inb_of (by first | omega | (dsimp only; omega))) (rfl))))))))))))))))))
  · exact (bd_q h1 (nm_q (gd_q (rg_of (by first | omega | (dsimp only; omega))) (it_q2 (by first | omega | (dsimp only; omega)) (gd_q (by decide) (it_q2 (by decide) (it_q1 (by decide) (it_q2 (by decide) (it_q2 (by decide) (it_q2 (by decide) (it_q2 (by decide) (it_q2 (by decide) (it_q2 (by decide) (it_q2 (by decide) (it_q2 (by decide) (it_q2 (by decide) (gd_q (inb_of (by first | omega | (dsimp only; omega))) (rfl))))))))))))))))))
theorem btn7X {N n b W : Nat} {bt : bBT} {O : bO} {H : bH} {S P V : bS} {hs bb : Int} (hN : 50 ≤ N) (hC : CI S n) (hb : b < n) (e : bb = (b : Int)) (hw : S.2.1.2.2.2.2.1 0 = (W : Int)) : ∃ v, f_X7_button N bb 7 (bt, O, H, S, P, V, hs) = some (v, (bt, O, H, S, P, V, hs)) ∧ RKv S.2.1.2.2.2.1 W b v := by
  have h40 := CI_40 hC
  subst e
  have h1 := has_1 hC.1.1 h40.1 hb (rfl : (b : Int) = (b : Int))
  obtain ⟨v, g1, g2⟩ := rankC_loop (N := N) hC hb hw W 0 N (by omega) (by omega) (fun j hj => absurd hj (by omega))
  refine ⟨v, ?_, g2⟩
  unfold f_X7_button
  exact (bd_q h1 (nm_q (gd_q (rg_of (by first | omega | (dsimp only; omega))) (it_q2 (by first | omega | (dsimp only; omega)) (gd_q (by decide) (it_q2 (by decide) (it_q1 (by decide) (it_q2 (by decide) (it_q2 (by decide) (it_q2 (by decide) (it_q2 (by decide) (it_q2 (by decide) (it_q2 (by decide) (it_q2 (by decide) (it_q1 rfl (bd_q g1 (nm_q (rfl))))))))))))))))))
theorem btn10X {N n b : Nat} {bt : bBT} {O : bO} {H : bH} {S P V : bS} {hs bb : Int} (hC : CI S n) (hb : b < n) (e : bb = (b : Int)) : f_X7_button N bb 10 (bt, O, H, S, P, V, hs) = some (-2, (bt, O, H, S, P, V, hs)) := by
  have h40 := CI_40 hC
  subst e
  have h1 := has_1 hC.1.1 h40.1 hb (rfl : (b : Int) = (b : Int))
  unfold f_X7_button
  exact (bd_q h1 (nm_q (gd_q (rg_of (by first | omega | (dsimp only; omega))) (it_q2 (by first | omega | (dsimp only; omega)) (gd_q (by decide) (it_q2 (by decide) (it_q2 (by decide) (rfl))))))))
theorem btnNX {N n : Nat} {bt : bBT} {O : bO} {H : bH} {S P V : bS} {hs bb kk : Int} (hC : CI S n) (e : bb = (n : Int)) : f_X7_button N bb kk (bt, O, H, S, P, V, hs) = some (-1, (bt, O, H, S, P, V, hs)) := by
  have h40 := CI_40 hC
  subst e
  have h1 := has_eq (a := (n : Int)) (rg_of (by first | omega | (dsimp only; omega))) hC.1.1 h40.1
  rw [if_neg (by omega)] at h1
  unfold f_X7_button
  exact (bd_q h1 (nm_q (gd_q (rg_of (by first | omega | (dsimp only; omega))) (it_q1 (by first | omega | (dsimp only; omega)) (rfl)))))
theorem goNX {N n : Nat} {bt : bBT} {O : bO} {H : bH} {S P V : bS} {hs : Int} (hC : CI S n) : f_X7_goesTo N (-1) (bt, O, H, S, P, V, hs) = some (-1, (bt, O, H, S, P, V, hs)) := by
  have h40 := CI_40 hC
  have h1 := has_eq (a := -1) (by decide) hC.1.1 h40.1
  rw [if_neg (by omega)] at h1
  unfold f_X7_goesTo
  exact (bd_q h1 (nm_q (gd_q (rg_of (by first | omega | (dsimp only; omega))) (it_q1 (by first | omega | (dsimp only; omega)) (rfl)))))
theorem goX {N n b : Nat} {bt : bBT} {O : bO} {H : bH} {S P V : bS} {hs bb : Int} (hN : 50 ≤ N) (hC : CI S n) (hb : b < n) (e : bb = (b : Int)) : f_X7_goesTo N bb (bt, O, H, S, P, V, hs) = some ((if S.2.1.1 b = 0 then plcS b S else -4), (bt, O, H, S, P, V, hs)) := by
  have h40 := CI_40 hC
  subst e
  have h1 := has_1 hC.1.1 h40.1 hb (rfl : (b : Int) = (b : Int))
  have hpb := bin_rg hC hb
  obtain ⟨q1, q2, q3, q4, q5⟩ := CI_b hC hb
  have hat := PI_at hC.2.2 (q := 2) (by omega)
  unfold f_X7_goesTo
  by_cases e2 : S.2.1.1 b = 0
  · have hpc := placeFor_eq (N := N) (b := b) (bb := (b : Int)) (z := S) (by omega) (by omega) rfl hC.2.1 (by omega) q1 q4 q3 (by omega) (fun q hq => by have := PI_ib hC.2.2 hq; omega)
    rw [if_pos e2]
    exact (bd_q h1 (nm_q (gd_q (rg_of (by first | omega | (dsimp only; omega))) (it_q2 (by first | omega | (dsimp only; omega)) (gd_q (inb_of (by first | omega | (dsimp only; omega))) (gd_q (by rw [tn]; exact (rg_of (by first | omega | (dsimp only; omega)))) (it_q1 e2 (bd_q hpc (nm_q (rfl))))))))))
  · rw [if_neg e2]
    exact (bd_q h1 (nm_q (gd_q (rg_of (by first | omega | (dsimp only; omega))) (it_q2 (by first | omega | (dsimp only; omega)) (gd_q (inb_of (by first | omega | (dsimp only; omega))) (gd_q (by rw [tn]; exact (rg_of (by first | omega | (dsimp only; omega)))) (it_q2 e2 (rfl))))))))
theorem plcS_rg {b : Nat} {z : bS} : 0 ≤ plcS b z ∧ plcS b z ≤ 5 := by
  unfold plcS
  split
  · omega
  · split
    · split <;> omega
    · split
      · omega
      · split <;> omega
theorem goesAdj {N n b : Nat} {X : bX} {S : bS} {g m p w nn : Nat → Int} {K : Int → bLXgmpwn → Option (Int × bLXgmpwn)} {v38 u42 : Int} {s41 : bLXgmpwn} (hN : 50 ≤ N) (hn20 : n ≤ 20) (hC : CI S n) (hB : GB S g m p w nn n) (hb : b < n) (e : v38 = (b : Int)) (eu : u42 = plcG b S) (es : s41 = (X, g, m, p, w, nn)) : jn2 K (fun (j47 : Int → bLXgmpwn → Option (Int × bLXgmpwn)) => if u42 = 2 then (bd (f_L_at N 2 (s41.2.2.2.1, s41.2.2.2.2.2)) fun u155 => gd (rg (u155 + 1)) <| gd (rg (s41.2.2.2.2.2 5)) <| if (u155 + 1) < (s41.2.2.2.2.2 5) then (if u42 = 5 then (bd (f_L_binOf N v38 (s41.2.1, s41.2.2.2.2.2)) fun u161 => bd (f_L_in N u161 (s41.2.2.2.1, s41.2.2.2.2.2)) fun u163 => gd (rg u163) <| gd (rg (s41.2.2.2.2.2 6)) <| if u163 < (s41.2.2.2.2.2 6) then (j47 u42 s41) else (j47 0 s41)) else (j47 u42 s41)) else (j47 3 s41)) else (if u42 = 5 then (bd (f_L_binOf N v38 (s41.2.1, s41.2.2.2.2.2)) fun u148 => bd (f_L_in N u148 (s41.2.2.2.1, s41.2.2.2.2.2)) fun u150 => gd (rg u150) <| gd (rg (s41.2.2.2.2.2 6)) <| if u150 < (s41.2.2.2.2.2 6) then (j47 u42 s41) else (j47 0 s41)) else (j47 u42 s41))) = K (plcS b S) s41 := by
  subst e
  subst es
  obtain ⟨⟨n1, n2, n7, n8⟩, hG, hM, hP, hW⟩ := hB
  have hat := atG (N := N) (q := 2) (qq := 2) (nn := nn) hN hn20 hC n7 hP (by omega) rfl
  have hzat := PI_at hC.2.2 (q := 2) (by omega)
  have hsr := SI_rg hC.2.1
  have r5 := hsr 5 (by omega)
  have r6 := hsr 6 (by omega)
  have s5 := n1 5 (by omega)
  have s6 := n1 6 (by omega)
  refine jn2_q ?_
  unfold plcG at eu
  unfold plcS
  by_cases c1 : S.2.2.1 3 < S.1.2.2.2.1 b
  · rw [if_pos c1] at eu ⊢
    subst eu
    exact (it_q2 (by decide) (it_q2 (by decide) (rfl)))
  · rw [if_neg c1] at eu ⊢
    by_cases c2 : S.2.2.1 4 ≤ S.1.2.2.1 b
    · rw [if_pos c2] at eu ⊢
      subst eu
      refine (it_q1 rfl (bd_q hat (gd_q (rg_of (by first | omega | (dsimp only; omega))) (gd_q (by show rg (nn 5) = true; rw [s5]; exact (rg_of (by first | omega | (dsimp only; omega)))) (?_)))))
      by_cases c3 : S.2.2.1 5 ≤ S.2.1.2.2.2.2.1 2 + 1
      · rw [if_pos c3]
        exact (it_q2 (by show ¬ _ < nn 5; rw [s5]; omega) (rfl))
      · rw [if_neg c3]
        exact (it_q1 (by show _ < nn 5; rw [s5]; omega) (it_q2 (by decide) (rfl)))
    · rw [if_neg c2] at eu ⊢
      by_cases c3 : S.2.2.1 2 < S.1.2.1 b
      · rw [if_pos c3] at eu ⊢
        subst eu
        exact (it_q2 (by decide) (it_q2 (by decide) (rfl)))
      · rw [if_neg c3] at eu ⊢
        subst eu
        obtain ⟨q1, q2, q3, q4, q5⟩ := CI_b hC hb
        have hmc := mcl_lt S.2.2.1 (S.1.2.1 b)
        have hbl : binN S b < 12 := by unfold binN; omega
        have hbo := binOfG (N := N) (bb := (b : Int)) (nn := nn) hN hn20 hC n1 hG hb rfl (by omega)
        have hin := inG (N := N) (q := binN S b) (qq := (binN S b : Int)) (nn := nn) hN hn20 hC n7 hP hbl rfl
        have hib := PI_ib hC.2.2 hbl
        refine (it_q2 (by decide) (it_q1 rfl (bd_q hbo (bd_q hin (gd_q (rg_of (by first | omega | (dsimp only; omega))) (gd_q (by show rg (nn 6) = true; rw [s6]; exact (rg_of (by first | omega | (dsimp only; omega)))) (?_)))))))
        by_cases c4 : S.2.1.2.2.2.2.2 (binN S b) < S.2.2.1 6
        · rw [if_pos c4]
          exact (it_q1 (by show _ < nn 6; rw [s6]; omega) (rfl))
        · rw [if_neg c4]
          exact (it_q2 (by show ¬ _ < nn 6; rw [s6]; omega) (rfl))
def sm : Nat → (Nat → Int) → Int
  | 0, _ => 0
  | n + 1, f => sm n f + f n
theorem sm_rg {n : Nat} {f : Nat → Int} (h : ∀ b, b < n → 0 ≤ f b ∧ f b ≤ 9) : 0 ≤ sm n f ∧ sm n f ≤ 9 * (n : Int) := by
  induction n with
  | zero => simp [sm]
  | succ n ih =>
    have h1 := ih (fun b hb => h b (by omega))
    have h2 := h n (by omega)
    simp only [sm]
    omega
theorem btns_loop {N n : Nat} {bt : bBT} {O : bO} {H : bH} {S P V : bS} {hs : Int} {g m p w nn : Nat → Int} {kt : Int → Int → Int → bLXgmpwn → Option (Int × bLXgmpwn)} {K : Int} (hN : 50 ≤ N) (hn20 : n ≤ 20) (hC : CI S n) (hB : GB S g m p w nn n) (hK : K ≤ 1000000) (hL : LM S n K) : ∀ d i k, i + d = n → d < k → f_L_areButtons_L36 N kt k (sm i S.1.2.2.2.1) 1 (i : Int) ((bt, O, H, S, P, V, hs), g, m, p, w, nn) = kt (sm n S.1.2.2.2.1) 1 (n : Int) ((bt, O, H, S, P, V, hs), g, m, p, w, nn) := by
  have h40 := CI_40 hC
  have hB' := hB
  obtain ⟨⟨n1, n2, n7, n8⟩, hG, hM, hP, hWw⟩ := hB'
  obtain ⟨W, hW⟩ : ∃ W : Nat, S.2.1.2.2.2.2.1 0 = (W : Int) := ⟨(S.2.1.2.2.2.2.1 0).toNat, by omega⟩
  have hWn := (PI_w hC.2.2).2
  obtain ⟨-, -, w', w1, w2, w3⟩ := hC.2.2
  obtain rfl : w' = W := by omega
  intro d
  induction d with
  | zero =>
    intro i k hi hk
    obtain ⟨k, rfl⟩ : ∃ j, k = j + 1 := ⟨k - 1, by omega⟩
    obtain rfl : i = n := by omega
    rw [f_L_areButtons_L36]
    exact (gd_q (rg_of (by first | omega | (dsimp only; omega))) (gd_q (by show rg (nn 13) = true; rw [n7]; exact (rg_of (by first | omega | (dsimp only; omega)))) (it_q1 (by show nn 13 ≤ _; rw [n7]; omega) (rfl))))
  | succ d ih =>
    intro b k hi hk
    obtain ⟨k, rfl⟩ : ∃ j, k = j + 1 := ⟨k - 1, by omega⟩
    have ih' := ih (b + 1) k (by omega) (by omega)
    have hb : b < n := by omega
    obtain ⟨q1, q2, q3, q4, q5⟩ := CI_b hC hb
    have hpb := bin_rg hC hb
    obtain ⟨l1, l2⟩ := hL.2.2.2.2.2 b hb
    obtain ⟨g1, g2, g3⟩ := hG b hb
    obtain ⟨m1, m2, m3⟩ := hM b hb
    obtain ⟨p1, p2, p3⟩ := hP b hb
    have hgo := goesG (bb := (b : Int)) (m := m) (nn := nn) hn20 hC n1 hG m1 hb rfl
    obtain ⟨rk, r1, r2⟩ := rankL_loop (N := N) (b := b) (W := w') (s := ((bt, O, H, S, P, V, hs), g, m, p, w, nn)) (v19 := sm b S.1.2.2.2.1) (v20 := 1) (h := S.2.1.2.2.2.1) (by show nn 14 = _; rw [n8]; exact w1) (by omega) (by omega) (fun i hi => by
      obtain ⟨x, x1, x2, x3⟩ := w2 i hi
      refine ⟨hWw i (by omega), by omega, by omega⟩) w3 w' 0 N (-5) (by omega) (by omega) (Or.inr ⟨rfl, fun i hi => absurd hi (by omega)⟩)
    obtain ⟨rv, v1, v2⟩ := btn7X (N := N) (bt := bt) (O := O) (H := H) (P := P) (V := V) (hs := hs) hN hC hb (rfl : (b : Int) = (b : Int)) w1
    obtain rfl : rv = rk := RKv_uq w3 (fun _ _ => rfl) v2 r2
    have hr5 : -5 ≤ rv ∧ rv ≤ 40 := by
      rcases r2 with ⟨i, i1, i2, i3⟩ | ⟨i1, i2⟩ <;> omega
    have hr0 : 0 ≤ rv ↔ S.2.1.1 b = 0 := by
      constructor
      · intro h
        rcases r2 with ⟨i, i1, i2, i3⟩ | ⟨i1, i2⟩
        · obtain ⟨x, x1, x2, x3⟩ := w2 i i1
          obtain rfl : x = b := by omega
          exact x3
        · omega
      · intro h
        obtain ⟨i, i1, i2⟩ := hop_mem hC w1 hb h
        rcases r2 with ⟨j, j1, j2, j3⟩ | ⟨j1, j2⟩
        · omega
        · exact absurd i2 (j2 i i1)
    have hps := plcS_rg (b := b) (z := S)
    rw [f_L_areButtons_L36]
    refine (gd_q (rg_of (by first | omega | (dsimp only; omega))) (gd_q (by show rg (nn 13) = true; rw [n7]; exact (rg_of (by first | omega | (dsimp only; omega)))) (it_q2 (by show ¬ nn 13 ≤ _; rw [n7]; omega) (gd_q (rg_of (by first | omega | (dsimp only; omega))) (it_q2 (by first | omega | (dsimp only; omega)) (?_))))))
    refine Eq.trans (r1 _) ?_
    have hpg : 0 ≤ plcG b S ∧ plcG b S ≤ 5 := by
      unfold plcG
      split
      · omega
      · split
        · omega
        · split <;> omega
    refine (bd_q hgo (gd_q (rg_of (by first | omega | (dsimp only; omega))) (?_)))
    refine Eq.trans (goesAdj hN hn20 hC hB hb rfl rfl rfl) ?_
    refine (bd_q (btnX (k := 0) hC hb rfl (by omega) rfl) (nm_q (gd_q (inb_of (by first | omega | (dsimp only; omega))) (gd_q (by show rg (S.1.1 b) = true; exact (rg_of (by first | omega | (dsimp only; omega)))) (gd_q (by show rg (g (3 * (b : Int)).toNat) = true; rw [t3, g1]; exact (rg_of (by first | omega | (dsimp only; omega)))) (jn2_q (it_q1 (by show S.1.1 b = g (3 * (b : Int)).toNat; rw [t3, g1]) (bd_q (btnX (k := 1) hC hb rfl (by omega) rfl) (nm_q (gd_q (inb_of (by first | omega | (dsimp only; omega))) (gd_q (by show rg (S.1.2.1 b) = true; exact (rg_of (by first | omega | (dsimp only; omega)))) (gd_q (by show rg (g (3 * (b : Int) + 1).toNat) = true; rw [t31, g2]; exact (rg_of (by first | omega | (dsimp only; omega)))) (it_q1 (by show S.1.2.1 b = g (3 * (b : Int) + 1).toNat; rw [t31, g2]) (bd_q (btnX (k := 2) hC hb rfl (by omega) rfl) (nm_q (gd_q (inb_of (by first | omega | (dsimp only; omega))) (gd_q (by show rg (S.1.2.2.1 b) = true; exact (rg_of (by first | omega | (dsimp only; omega)))) (gd_q (by show rg (g (3 * (b : Int) + 2).toNat) = true; rw [t32, g3]; exact (rg_of (by first | omega | (dsimp only; omega)))) (it_q1 (by show S.1.2.2.1 b = g (3 * (b : Int) + 2).toNat; rw [t32, g3]) (bd_q (btnX (k := 3) hC hb rfl (by omega) rfl) (nm_q (gd_q (by show rg (S.1.2.2.2.1 b) = true; exact (rg_of (by first | omega | (dsimp only; omega)))) (gd_q (by show rg (m (3 * (b : Int)).toNat) = true; rw [t3, m1]; exact (rg_of (by first | omega | (dsimp only; omega)))) (it_q1 (by show S.1.2.2.2.1 b = m (3 * (b : Int)).toNat; rw [t3, m1]) (bd_q (btnX (k := 4) hC hb rfl (by omega) rfl) (nm_q (gd_q (by show rg (S.1.2.2.2.2.1 b) = true; exact (rg_of (by first | omega | (dsimp only; omega)))) (gd_q (by show rg (m (3 * (b : Int) + 1).toNat) = true; rw [t31, m2]; exact (rg_of (by first | omega | (dsimp only; omega)))) (it_q1 (by show S.1.2.2.2.2.1 b = m (3 * (b : Int) + 1).toNat; rw [t31, m2]) (bd_q (btnX (k := 5) hC hb rfl (by omega) rfl) (nm_q (gd_q (by show rg (S.2.1.1 b) = true; exact (rg_of (by first | omega | (dsimp only; omega)))) (gd_q (by show rg (p (3 * (b : Int)).toNat) = true; rw [t3, p1]; exact (rg_of (by first | omega | (dsimp only; omega)))) (it_q1 (by show S.2.1.1 b = p (3 * (b : Int)).toNat; rw [t3, p1]) (bd_q (btnX (k := 6) hC hb rfl (by omega) rfl) (nm_q (gd_q (by show rg (S.2.1.2.1 b) = true; exact (rg_of (by first | omega | (dsimp only; omega)))) (gd_q (by show rg (p (3 * (b : Int) + 1).toNat) = true; rw [t31, p2]; exact (rg_of (by first | omega | (dsimp only; omega)))) (it_q1 (by show S.2.1.2.1 b = p (3 * (b : Int) + 1).toNat; rw [t31, p2]) (bd_q v1 (nm_q (gd_q (rg_of (by first | omega | (dsimp only; omega))) (gd_q (rg_of (by first | omega | (dsimp only; omega))) (it_q1 rfl (bd_q (btnX (k := 7) hC hb rfl (by omega) rfl) (nm_q (gd_q (by show rg (S.2.1.2.2.1 b) = true; exact (rg_of (by first | omega | (dsimp only; omega)))) (gd_q (by show rg (p (3 * (b : Int) + 2).toNat) = true; rw [t32, p3]; exact (rg_of (by first | omega | (dsimp only; omega)))) (it_q1 (by show S.2.1.2.2.1 b = p (3 * (b : Int) + 2).toNat; rw [t32, p3]) (bd_q (btnX (k := 8) hC hb rfl (by omega) rfl) (nm_q (gd_q (by show rg (S.1.2.2.2.2.2.1 b) = true; exact (rg_of (by first | omega | (dsimp only; omega)))) (gd_q (by show rg (m (3 * (b : Int) + 2).toNat) = true; rw [t32, m3]; exact (rg_of (by first | omega | (dsimp only; omega)))) (it_q1 (by show S.1.2.2.2.2.2.1 b = m (3 * (b : Int) + 2).toNat; rw [t32, m3]) (bd_q (btn10X hC hb rfl) (nm_q (gd_q (rg_of (by first | omega | (dsimp only; omega))) (it_q1 rfl (bd_q (goX hN hC hb rfl) (nm_q (jn2_q (?_))))))))))))))))))))))))))))))))))))))))))))))))))))))))))))))
    by_cases e0 : S.2.1.1 b = 0
    · rw [if_pos e0]
      refine (it_q1 (hr0.mpr e0) (gd_q (rg_of (by first | omega | (dsimp only; omega))) (gd_q (rg_of (by first | omega | (dsimp only; omega))) (it_q1 rfl (nm_q (?_))))))
      refine Eq.trans ?_ ih'
      show f_L_areButtons_L36 N kt k (sm b S.1.2.2.2.1 + m (3 * (b : Int)).toNat) 1 _ _ = f_L_areButtons_L36 N kt k (sm b S.1.2.2.2.1 + S.1.2.2.2.1 b) 1 _ _
      rw [t3, m1]
      rfl
    · rw [if_neg e0]
      refine (it_q2 (fun h => e0 (hr0.mp h)) (gd_q (rg_of (by first | omega | (dsimp only; omega))) (gd_q (rg_of (by first | omega | (dsimp only; omega))) (it_q1 rfl (nm_q (?_))))))
      refine Eq.trans ?_ ih'
      show f_L_areButtons_L36 N kt k (sm b S.1.2.2.2.1 + m (3 * (b : Int)).toNat) 1 _ _ = f_L_areButtons_L36 N kt k (sm b S.1.2.2.2.1 + S.1.2.2.2.1 b) 1 _ _
      rw [t3, m1]
      rfl
