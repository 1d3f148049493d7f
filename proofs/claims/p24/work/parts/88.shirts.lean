/-! p24: copies of rows; shirts that could be made, in class and law -/
theorem cp60_loop {N : Nat} {f : Nat → Int} {kt : Int → bLc60 → Option bLc60} : ∀ (d i k : Nat) (y : Nat → Int), i + d = 60 → d < k → (∀ j, j < i → y j = f j) → ∃ y' : Nat → Int, f_L_copy60_L2 N kt k (i : Int) (f, y) = kt 60 (f, y') ∧ ∀ j, j < 60 → y' j = f j := by
  intro d
  induction d with
  | zero =>
    intro i k y hi hk hy
    obtain ⟨k, rfl⟩ : ∃ j, k = j + 1 := ⟨k - 1, by omega⟩
    obtain rfl : i = 60 := by omega
    refine ⟨y, ?_, hy⟩
    rw [f_L_copy60_L2]
    exact (gd_q (rg_of (by first | omega | (dsimp only; omega))) (it_q1 (by first | omega | (dsimp only; omega)) (rfl)))
  | succ d ih =>
    intro i k y hi hk hy
    obtain ⟨k, rfl⟩ : ∃ j, k = j + 1 := ⟨k - 1, by omega⟩
    obtain ⟨y', g1, g2⟩ := ih (i + 1) k (up y i (f i)) (by omega) (by omega) (fun j hj => by
      by_cases e : j = i
      · subst e
        exact up_s _ _ _
      · rw [up_n _ _ e]
        exact hy j (by omega))
    refine ⟨y', ?_, g2⟩
    rw [f_L_copy60_L2]
    exact (gd_q (rg_of (by first | omega | (dsimp only; omega))) (it_q2 (by first | omega | (dsimp only; omega)) (gd_q (inb_of (by first | omega | (dsimp only; omega))) (nm_q (g1)))))
theorem cp60G {N : Nat} {f y : Nat → Int} (hN : 100 ≤ N) : ∃ y' : Nat → Int, f_L_copy60 N (f, y) = some (f, y') ∧ ∀ j, j < 60 → y' j = f j := cp60_loop (N := N) (kt := fun v8 s9 => some s9) 60 0 N y (by omega) (by omega) (fun j hj => absurd hj (by omega))
theorem cp20_loop {N : Nat} {f : Nat → Int} {kt : Int → bLc20 → Option bLc20} : ∀ (d i k : Nat) (y : Nat → Int), i + d = 20 → d < k → (∀ j, j < i → y j = f j) → ∃ y' : Nat → Int, f_L_copy20_L2 N kt k (i : Int) (f, y) = kt 20 (f, y') ∧ ∀ j, j < 20 → y' j = f j := by
  intro d
  induction d with
  | zero =>
    intro i k y hi hk hy
    obtain ⟨k, rfl⟩ : ∃ j, k = j + 1 := ⟨k - 1, by omega⟩
    obtain rfl : i = 20 := by omega
    refine ⟨y, ?_, hy⟩
    rw [f_L_copy20_L2]
    exact (gd_q (rg_of (by first | omega | (dsimp only; omega))) (it_q1 (by first | omega | (dsimp only; omega)) (rfl)))
  | succ d ih =>
    intro i k y hi hk hy
    obtain ⟨k, rfl⟩ : ∃ j, k = j + 1 := ⟨k - 1, by omega⟩
    obtain ⟨y', g1, g2⟩ := ih (i + 1) k (up y i (f i)) (by omega) (by omega) (fun j hj => by
      by_cases e : j = i
      · subst e
        exact up_s _ _ _
      · rw [up_n _ _ e]
        exact hy j (by omega))
    refine ⟨y', ?_, g2⟩
    rw [f_L_copy20_L2]
    exact (gd_q (rg_of (by first | omega | (dsimp only; omega))) (it_q2 (by first | omega | (dsimp only; omega)) (gd_q (inb_of (by first | omega | (dsimp only; omega))) (nm_q (g1)))))
theorem cp20G {N : Nat} {f y : Nat → Int} (hN : 100 ≤ N) : ∃ y' : Nat → Int, f_L_copy20 N (f, y) = some (f, y') ∧ ∀ j, j < 20 → y' j = f j := cp20_loop (N := N) (kt := fun v8 s9 => some s9) 20 0 N y (by omega) (by omega) (fun j hj => absurd hj (by omega))
theorem cp15_loop {N : Nat} {f : Nat → Int} {kt : Int → bLc15 → Option bLc15} : ∀ (d i k : Nat) (y : Nat → Int), i + d = 15 → d < k → (∀ j, j < i → y j = f j) → ∃ y' : Nat → Int, f_L_copy15_L2 N kt k (i : Int) (f, y) = kt 15 (f, y') ∧ ∀ j, j < 15 → y' j = f j := by
  intro d
  induction d with
  | zero =>
    intro i k y hi hk hy
    obtain ⟨k, rfl⟩ : ∃ j, k = j + 1 := ⟨k - 1, by omega⟩
    obtain rfl : i = 15 := by omega
    refine ⟨y, ?_, hy⟩
    rw [f_L_copy15_L2]
    exact (gd_q (rg_of (by first | omega | (dsimp only; omega))) (it_q1 (by first | omega | (dsimp only; omega)) (rfl)))
  | succ d ih =>
    intro i k y hi hk hy
    obtain ⟨k, rfl⟩ : ∃ j, k = j + 1 := ⟨k - 1, by omega⟩
    obtain ⟨y', g1, g2⟩ := ih (i + 1) k (up y i (f i)) (by omega) (by omega) (fun j hj => by
      by_cases e : j = i
      · subst e
        exact up_s _ _ _
      · rw [up_n _ _ e]
        exact hy j (by omega))
    refine ⟨y', ?_, g2⟩
    rw [f_L_copy15_L2]
    exact (gd_q (rg_of (by first | omega | (dsimp only; omega))) (it_q2 (by first | omega | (dsimp only; omega)) (gd_q (inb_of (by first | omega | (dsimp only; omega))) (nm_q (g1)))))
theorem cp15G {N : Nat} {f y : Nat → Int} (hN : 100 ≤ N) : ∃ y' : Nat → Int, f_L_copy15 N (f, y) = some (f, y') ∧ ∀ j, j < 15 → y' j = f j := cp15_loop (N := N) (kt := fun v8 s9 => some s9) 15 0 N y (by omega) (by omega) (fun j hj => absurd hj (by omega))
theorem GM_cp {z : bS} {m m' : Nat → Int} {n : Nat} (hn20 : n ≤ 20) (h : GM z m n) (e : ∀ j, j < 60 → m' j = m j) : GM z m' n := fun b hb => by
  rw [e _ (by omega), e _ (by omega), e _ (by omega)]
  exact h b hb
theorem GP_cp {z : bS} {m m' : Nat → Int} {n : Nat} (hn20 : n ≤ 20) (h : GP z m n) (e : ∀ j, j < 60 → m' j = m j) : GP z m' n := fun b hb => by
  rw [e _ (by omega), e _ (by omega), e _ (by omega)]
  exact h b hb
theorem GN_cp {z : bS} {m m' : Nat → Int} {n : Nat} (h : GN z m n) (e : ∀ j, j < 15 → m' j = m j) : GN z m' n := by
  obtain ⟨n1, ⟨n2, n3, n4, n5, n6⟩, n7, n8⟩ := h
  refine ⟨fun k hk => (e k (by omega)).trans (n1 k hk), ⟨?_, ?_, ?_, ?_, ?_⟩, ?_, ?_⟩
  · rw [e _ (by omega), n2]
  · rw [e _ (by omega), n3]
  · rw [e _ (by omega), n4]
  · rw [e _ (by omega), n5]
  · rw [e _ (by omega), n6]
  · rw [e _ (by omega), n7]
  · rw [e _ (by omega), n8]
theorem GW_cp {z : bS} {m m' : Nat → Int} {n : Nat} (hn20 : n ≤ 20) (hC : CI z n) (h : GW z m) (e : ∀ j, j < 20 → m' j = m j) : GW z m' := fun k hk => by
  have := PI_w hC.2.2
  rw [e _ (by omega)]
  exact h k hk
theorem gr_le {s : Nat → Int} {c m : Nat} {sp : Int} : ∀ d k, gr s c m sp d k ≤ d := by
  intro d
  induction d with
  | zero => intro k; exact Nat.le_refl _
  | succ d ih =>
    intro k
    rw [gr]
    have h1 := ih (k + m)
    have h2 := ih (k + 1)
    split
    · split <;> omega
    · omega
theorem lwl {N n x mm : Nat} {X : bX} {g m0 p0 w0 n0 m bw : Nat → Int} {a1 a2 mi xx : Int} (hN : 100 ≤ N) (hn20 : n ≤ 20) (hx : x < 12) (ex : xx = (x : Int)) (hm : 1 ≤ mm) (hm9 : mm ≤ 9) (em : mi = (mm : Int)) : ∀ d k (z : bS) (p nn : Nat → Int) (f : Nat → Nat) (c : Nat) (made : Int) (fu : Nat), CI z n → GN z nn n → GM z m n → GP z p n → OD z n (x : Int) f c → c < k + d → (∀ i, i < k → i + mm ≤ c → ¬ shf z f (i + mm - 1) - shf z f i ≤ z.2.2.1 7) → c < fu → ∃ (z' : bS) (p' nn' : Nat → Int), (∀ kt : Int → Int → Int → Int → Int → bLXbig → Option (Int × bLXbig), f_L_would_L56 N kt fu a1 a2 mi made xx (X, g, m0, p0, w0, n0, m, p, bw, nn) = kt a1 a2 mi (made + (gr (shf z f) c mm (z.2.2.1 7) d k : Int)) xx (X, g, m0, p0, w0, n0, m, p', bw, nn')) ∧ CI z' n ∧ GN z' nn' n ∧ GP z' p' n ∧ z'.1 = z.1 ∧ z'.2.2.1 = z.2.2.1 ∧ ∀ y : Nat, y ≠ x → ∀ b, b < n → (z'.2.1.2.1 b = (y : Int) ↔ z.2.1.2.1 b = (y : Int)) := by
  intro d
  have hF : ∀ (z : bS) (p nn : Nat → Int) (f : Nat → Nat) (c : Nat), CI z n → GN z nn n → GM z m n → GP z p n → OD z n (x : Int) f c → f_L_first N xx mi (m, p, nn) = some (oF f (fa (shf z f) c mm (z.2.2.1 7) (c + 1) 0)) := by
    intro z p nn f c hC hGN hM hP hD
    have hc := OD_c hD
    have hsp : 0 ≤ z.2.2.1 7 ∧ z.2.2.1 7 ≤ 9 := by
      have := hC.2.1
      unfold SI at this
      omega
    have hBR := BR_of hn20 hC hGN.2.2.1 hM hP
    have hO := OL_of (m := m) (p := p) hD (fun b hb => (hM b hb).2.1) (fun b hb => (hP b hb).2.1)
    have hsh : ∀ j, j < c → shm m f j = shf z f j := fun j hj => (hM _ (hD.1 j hj).1).2.1
    have hfi := firstG (N := N) (sp := z.2.2.1 7) (mm := mi) (by omega) hBR hx ex hO hm hm9 em (hGN.1 7 (by omega)) hsp hc
    rw [fa_congr hm hsh] at hfi
    exact hfi
  have stop : ∀ (d k : Nat) (z : bS) (p nn : Nat → Int) (f : Nat → Nat) (c : Nat) (made : Int) (fu : Nat), CI z n → GN z nn n → GM z m n → GP z p n → OD z n (x : Int) f c → c < k + mm → (∀ i, i < k → i + mm ≤ c → ¬ shf z f (i + mm - 1) - shf z f i ≤ z.2.2.1 7) → c < fu → ∃ (z' : bS) (p' nn' : Nat → Int), (∀ kt : Int → Int → Int → Int → Int → bLXbig → Option (Int × bLXbig), f_L_would_L56 N kt fu a1 a2 mi made xx (X, g, m0, p0, w0, n0, m, p, bw, nn) = kt a1 a2 mi (made + (gr (shf z f) c mm (z.2.2.1 7) d k : Int)) xx (X, g, m0, p0, w0, n0, m, p', bw, nn')) ∧ CI z' n ∧ GN z' nn' n ∧ GP z' p' n ∧ z'.1 = z.1 ∧ z'.2.2.1 = z.2.2.1 ∧ ∀ y : Nat, y ≠ x → ∀ b, b < n → (z'.2.1.2.1 b = (y : Int) ↔ z.2.1.2.1 b = (y : Int)) := by
    intro d k z p nn f c made fu hC hGN hM hP hD hck hnb hfu
    obtain ⟨fu, rfl⟩ : ∃ j, fu = j + 1 := ⟨fu - 1, by omega⟩
    have hfi := hF z p nn f c hC hGN hM hP hD
    have hno : fa (shf z f) c mm (z.2.2.1 7) (c + 1) 0 = none := by
      cases ho : fa (shf z f) c mm (z.2.2.1 7) (c + 1) 0 with
      | none => rfl
      | some j =>
        have := fa_some _ _ _ ho
        exact absurd this.2.2.1 (hnb j (by omega) (by omega))
    rw [hno] at hfi
    refine ⟨z, p, nn, fun kt => ?_, hC, hGN, hP, rfl, rfl, fun y hy b hb => Iff.rfl⟩
    rw [f_L_would_L56, grz_0 hck, show made + ((0 : Nat) : Int) = made by omega]
    exact (bd_q hfi (gd_q (rg_of (show -2147483648 ≤ (-5 : Int) ∧ (-5 : Int) < 2147483648 by omega)) (it_q1 (show (-5 : Int) < 0 by omega) (rfl))))
  induction d with
  | zero =>
    intro k z p nn f c made fu hC hGN hM hP hD hck hnb hfu
    exact stop 0 k z p nn f c made fu hC hGN hM hP hD (by omega) hnb hfu
  | succ d ih =>
    intro k z p nn f c made fu hC hGN hM hP hD hck hnb hfu
    by_cases e : k + mm ≤ c
    · by_cases e2 : shf z f (k + mm - 1) - shf z f k ≤ z.2.2.1 7
      · obtain ⟨fu, rfl⟩ : ∃ j, fu = j + 1 := ⟨fu - 1, by omega⟩
        have h40 := CI_40 hC
        have hc := OD_c hD
        have hk : fa (shf z f) c mm (z.2.2.1 7) (c + 1) 0 = some k := by
          cases ho : fa (shf z f) c mm (z.2.2.1 7) (c + 1) 0 with
          | none => exact absurd e2 (fa_none hm (c + 1) 0 (by omega) ho k (by omega) e)
          | some j =>
            have hj := fa_some _ _ _ ho
            rcases Nat.lt_trichotomy j k with h | h | h
            · exact absurd hj.2.2.1 (hnb j h hj.2.1)
            · rw [h]
            · exact absurd e2 (hj.2.2.2 k (by omega) h)
        have hfi := hF z p nn f c hC hGN hM hP hD
        rw [hk] at hfi
        obtain ⟨wf, z1, p1, nn1, -, y2, y3, y4, y5, y6, y7, -⟩ := sewsG (N := N) (O := ((fun j => (f j : Int)), (fun j => z.1.2.2.2.2.1 (f j)), (c : Int))) (xx := xx) (kk := (k : Int)) (mi := mi) hN hn20 hC hGN hM hP hD hx ex ⟨rfl, fun j _ => ⟨rfl, rfl⟩⟩ hm hm9 em rfl hk
        have hD1 := MK_OD hD e y7
        have ho := fun (y : Nat) (hy : y ≠ x) => MK_other (y := y) hD e y7 hy
        obtain ⟨-, -, m3, m4, -, -, -⟩ := y7
        have hM1 : GM z1 m n := fun b hb => by rw [m3]; exact hM b hb
        have hfk := (hD.1 k (by omega)).1
        have hsh : ∀ j, shf z1 (cutF f k mm) j = if j < k then shf z f j else shf z f (j + mm) := by
          intro j
          unfold shf cutF
          rw [m3]
          split <;> rfl
        obtain ⟨z2, p2, nn2, w1, w2, w3, w4, w5, w6, w7⟩ := ih k z1 p1 nn1 (cutF f k mm) (c - mm) (made + 1) fu y3 y4 hM1 y5 hD1 (by omega) (fun i hi hic => by
          rw [hsh, hsh, if_pos hi, m4]
          have := hnb i hi (by omega)
          split
          · exact this
          · have := OD_le hD (show i + mm - 1 ≤ i + mm - 1 + mm by omega) (by omega)
            omega) (by omega)
        refine ⟨z2, p2, nn2, fun kt => ?_, w2, w3, w4, w5.trans m3, w6.trans m4, fun y hy b hb => (w7 y hy b hb).trans (ho y hy b hb)⟩
        have hsf := gr_shift (s := shf z f) (s' := shf z1 (cutF f k mm)) (c := c) (c' := c - mm) (sp := z.2.2.1 7) (by omega) hm d k (fun j hj => by rw [hsh, if_neg (by omega)])
        have w1 := w1 kt
        rw [m4, ← hsf] at w1
        rw [f_L_would_L56, gr, if_pos e, if_pos e2, show made + ((gr (shf z f) c mm (z.2.2.1 7) d (k + mm) + 1 : Nat) : Int) = made + 1 + (gr (shf z f) c mm (z.2.2.1 7) d (k + mm) : Int) by omega]
        exact (bd_q hfi (gd_q (rg_of (show -2147483648 ≤ (f k : Int) ∧ (f k : Int) < 2147483648 by omega)) (it_q2 (show ¬ (f k : Int) < 0 by omega) (bd_q y2 (nm_q (nm_q (nm_q (w1))))))))
      · obtain ⟨z2, p2, nn2, w1, w2, w3, w4, w5, w6, w7⟩ := ih (k + 1) z p nn f c made fu hC hGN hM hP hD (by omega) (fun i hi hic => by
          by_cases ei : i = k
          · subst ei
            exact e2
          · exact hnb i (by omega) hic) hfu
        refine ⟨z2, p2, nn2, fun kt => ?_, w2, w3, w4, w5, w6, w7⟩
        rw [gr, if_pos e, if_neg e2]
        exact w1 kt
    · exact stop (d + 1) k z p nn f c made fu hC hGN hM hP hD (by omega) hnb hfu
theorem shG_loop {N n mm : Nat} {bt : bBT} {H : bH} {S : bS} {r : bS × bS × Int} {X : bX} {g m0 p0 w0 n0 m bw : Nat → Int} {a1 a2 mi : Int} (hN : 100 ≤ N) (hn20 : n ≤ 20) (hm : 1 ≤ mm) (hm9 : mm ≤ 9) (em : mi = (mm : Int)) (hS : CI S n) (hM : GM S m n) : ∀ (d v : Nat), v + d = 12 → ∀ (z : bS) (p nn : Nat → Int) (O : bO) (made : Int) (fu fu' : Nat), CI z n → GN z nn n → GP z p n → z.1 = S.1 → z.2.2.1 = S.2.2.1 → (∀ y : Nat, v ≤ y → ∀ b, b < n → (z.2.1.2.1 b = (y : Int) ↔ S.2.1.2.1 b = (y : Int))) → d < fu → d < fu' → ∃ (u : Int) (O' : bO) (p' nn' : Nat → Int), f_X7_shirts_L14 N fu mi made (v : Int) (bt, O, H, S, r) = some (made + u, (bt, O', H, S, r)) ∧ (∀ kt : Int → Int → Int → Int → Int → bLXbig → Option (Int × bLXbig), f_L_would_L49 N kt fu' a1 a2 mi made (v : Int) (X, g, m0, p0, w0, n0, m, p, bw, nn) = kt a1 a2 mi (made + u) 12 (X, g, m0, p0, w0, n0, m, p', bw, nn')) ∧ 0 ≤ u ∧ u ≤ 21 * (d : Int) := by
  subst em
  have h40 := CI_40 hS
  have s7 := SI_rg hS.2.1 7 (by omega)
  intro d
  induction d with
  | zero =>
    intro v hv z p nn O made fu fu' hC hGN hP h1 h2 h3 hf hf'
    obtain ⟨fu, rfl⟩ : ∃ j, fu = j + 1 := ⟨fu - 1, by omega⟩
    obtain ⟨fu', rfl⟩ : ∃ j, fu' = j + 1 := ⟨fu' - 1, by omega⟩
    obtain rfl : v = 12 := by omega
    refine ⟨0, O, p, nn, ?_, fun kt => ?_, by omega, by omega⟩
    · rw [f_X7_shirts_L14, Int.add_zero]
      exact (gd_q (rg_of (by first | omega | (dsimp only; omega))) (it_q1 (by first | omega | (dsimp only; omega)) (rfl)))
    · rw [f_L_would_L49, Int.add_zero]
      exact (gd_q (rg_of (by first | omega | (dsimp only; omega))) (it_q1 (by first | omega | (dsimp only; omega)) (rfl)))
  | succ d ih =>
    intro v hv z p nn O made fu fu' hC hGN hP h1 h2 h3 hf hf'
    obtain ⟨fu, rfl⟩ : ∃ j, fu = j + 1 := ⟨fu - 1, by omega⟩
    obtain ⟨fu', rfl⟩ : ∃ j, fu' = j + 1 := ⟨fu' - 1, by omega⟩
    obtain ⟨O', f, c, g1, g2, g3⟩ := fill_eq (N := N) (O := O) (xx := (v : Int)) (by omega) hS (show v < 12 by omega) rfl
    have hc := OD_c g2
    have hg := grC0 (N := N) (m := mm) (sp := S.2.2.1 7) hS g2 g3 hm hm9 (rg_of (by first | omega | (dsimp only; omega))) (by omega)
    have hDz := OD_same (z' := z) g2 h1 (h3 v (Nat.le_refl _))
    have hMz : GM z m n := fun b hb => by rw [h1]; exact hM b hb
    have hsh : shf z f = shf S f := by
      funext j
      unfold shf
      rw [h1]
    obtain ⟨z2, p2, nn2, w1, w2, w3, w4, w5, w6, w7⟩ := lwl (N := N) (X := X) (g := g) (m0 := m0) (p0 := p0) (w0 := w0) (n0 := n0) (m := m) (bw := bw) (a1 := a1) (a2 := a2) (mi := (mm : Int)) (xx := (v : Int)) hN hn20 (show v < 12 by omega) rfl hm hm9 rfl (c + 1) 0 z p nn f c made N hC hGN hMz hP hDz (by omega) (fun i hi => absurd hi (by omega)) (by omega)
    have w1 := fun kt => (w1 kt)
    rw [hsh, h2] at w1
    have hgl := gr_le (s := shf S f) (c := c) (m := mm) (sp := S.2.2.1 7) (c + 1) 0
    obtain ⟨u, O2, p', nn', u1, u2, u3, u4⟩ := ih (v + 1) (by omega) z2 p2 nn2 O' (made + (gr (shf S f) c mm (S.2.2.1 7) (c + 1) 0 : Int)) fu fu' w2 w3 w4 (w5.trans h1) (w6.trans h2) (fun y hy b hb => (w7 y (by omega) b hb).trans (h3 y (by omega) b hb)) (by omega) (by omega)
    refine ⟨(gr (shf S f) c mm (S.2.2.1 7) (c + 1) 0 : Int) + u, O2, p', nn', ?_, fun kt => ?_, by omega, by omega⟩
    · rw [f_X7_shirts_L14]
      refine (gd_q (rg_of (by first | omega | (dsimp only; omega))) (it_q2 (by first | omega | (dsimp only; omega)) (bd_q g1 (nm_q (nm_q (bd_q hg (nm_q (nm_q (?_)))))))))
      refine Eq.trans u1 ?_
      rw [Int.add_assoc]
    · rw [f_L_would_L49]
      refine (gd_q (rg_of (by first | omega | (dsimp only; omega))) (it_q2 (by first | omega | (dsimp only; omega)) (?_)))
      refine Eq.trans (w1 _) ?_
      refine Eq.trans (u2 kt) ?_
      rw [Int.add_assoc]
