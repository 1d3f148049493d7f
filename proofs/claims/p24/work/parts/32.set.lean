/-! set, polish, pour, what would be with another mesh -/
def okV (j : Nat) (v : Int) : Prop := match j with
  | 0 => 1 ≤ v ∧ v ≤ 30
  | 1 => 1 ≤ v ∧ v ≤ 30
  | 2 => 1 ≤ v ∧ v ≤ 30
  | 3 => 0 ≤ v ∧ v ≤ 9
  | 4 => 1 ≤ v ∧ v ≤ 10
  | 5 => 1 ≤ v ∧ v ≤ 9
  | 6 => 0 ≤ v ∧ v ≤ 20
  | _ => 0 ≤ v ∧ v ≤ 9
theorem isV_1 {j : Nat} {jj v lo hi : Int} (hj : j < 8) (e : jj = (j : Int)) (hv : rg v = true) (e1 : lowT j = lo) (e2 : highT j = hi) (g1 : rg lo = true) (g2 : rg hi = true) : f_X7_isValue jj v = some (if lo ≤ v ∧ v ≤ hi then 1 else 0) := by
  subst e
  subst e1
  subst e2
  unfold f_X7_isValue
  refine gd_q (inb_of (by first | omega | (dsimp only; omega))) (gd_q hv ?_)
  rw [tn]
  refine gd_q g1 ?_
  by_cases c1 : v < lowT j
  · rw [if_neg (show ¬ (lowT j ≤ v ∧ v ≤ highT j) by omega)]
    exact it_q1 c1 rfl
  · refine it_q2 c1 (gd_q g2 ?_)
    by_cases c2 : highT j < v
    · rw [if_neg (show ¬ (lowT j ≤ v ∧ v ≤ highT j) by omega)]
      exact it_q1 c2 rfl
    · rw [if_pos (show lowT j ≤ v ∧ v ≤ highT j by omega)]
      exact it_q2 c2 rfl
theorem ms_in {v lo hi : Int} (hv : rg v = true) (g1 : rg lo = true) (g2 : rg hi = true) : (bd (f_X8_in v lo hi) fun u3 => gd (inb u3 2) <| some u3) = some (if lo ≤ v ∧ v ≤ hi then (1 : Int) else 0) := by
  refine bd_q (in_eq hv g1 g2) ?_
  by_cases c : lo ≤ v ∧ v ≤ hi
  · rw [if_pos c]
    exact gd_q (by decide) rfl
  · rw [if_neg c]
    exact gd_q (by decide) rfl
theorem isV {j : Nat} {jj v : Int} (hj : j < 8) (e : jj = (j : Int)) (hv : rg v = true) : (okV j v → f_X7_isValue jj v = some 1 ∧ f_X8_maySet jj v = some 1) ∧ (¬ okV j v → f_X7_isValue jj v = some 0 ∧ f_X8_maySet jj v = some 0) := by
  subst e
  have key : ∃ lo hi, (okV j v ↔ lo ≤ v ∧ v ≤ hi) ∧ f_X7_isValue (j : Int) v = some (if lo ≤ v ∧ v ≤ hi then 1 else 0) ∧ f_X8_maySet (j : Int) v = some (if lo ≤ v ∧ v ≤ hi then 1 else 0) := by
    match j, hj with
    | 0, _ => exact ⟨1, 30, Iff.rfl, isV_1 (by omega) rfl hv rfl rfl (by decide) (by decide), gd_q (by decide) (it_q2 (by omega) (it_q2 (by omega) (it_q2 (by omega) (it_q2 (by omega) (it_q2 (by omega) (ms_in hv (by decide) (by decide)))))))⟩
    | 1, _ => exact ⟨1, 30, Iff.rfl, isV_1 (by omega) rfl hv rfl rfl (by decide) (by decide), gd_q (by decide) (it_q2 (by omega) (it_q2 (by omega) (it_q2 (by omega) (it_q2 (by omega) (it_q2 (by omega) (ms_in hv (by decide) (by decide)))))))⟩
    | 2, _ => exact ⟨1, 30, Iff.rfl, isV_1 (by omega) rfl hv rfl rfl (by decide) (by decide), gd_q (by decide) (it_q2 (by omega) (it_q2 (by omega) (it_q2 (by omega) (it_q2 (by omega) (it_q2 (by omega) (ms_in hv (by decide) (by decide)))))))⟩
    | 3, _ => exact ⟨0, 9, Iff.rfl, isV_1 (by omega) rfl hv rfl rfl (by decide) (by decide), gd_q (by decide) (it_q1 (by omega) (ms_in hv (by decide) (by decide)))⟩
    | 4, _ => exact ⟨1, 10, Iff.rfl, isV_1 (by omega) rfl hv rfl rfl (by decide) (by decide), gd_q (by decide) (it_q2 (by omega) (it_q1 (by omega) (ms_in hv (by decide) (by decide))))⟩
    | 5, _ => exact ⟨1, 9, Iff.rfl, isV_1 (by omega) rfl hv rfl rfl (by decide) (by decide), gd_q (by decide) (it_q2 (by omega) (it_q2 (by omega) (it_q1 (by omega) (ms_in hv (by decide) (by decide)))))⟩
    | 6, _ => exact ⟨0, 20, Iff.rfl, isV_1 (by omega) rfl hv rfl rfl (by decide) (by decide), gd_q (by decide) (it_q2 (by omega) (it_q2 (by omega) (it_q2 (by omega) (it_q1 (by omega) (ms_in hv (by decide) (by decide))))))⟩
    | 7, _ => exact ⟨0, 9, Iff.rfl, isV_1 (by omega) rfl hv rfl rfl (by decide) (by decide), gd_q (by decide) (it_q2 (by omega) (it_q2 (by omega) (it_q2 (by omega) (it_q2 (by omega) (it_q1 (by omega) (ms_in hv (by decide) (by decide)))))))⟩
    | j + 8, hj => exact absurd hj (by omega)
  obtain ⟨lo, hi, k1, k2, k3⟩ := key
  refine ⟨fun h => ?_, fun h => ?_⟩
  · rw [if_pos (k1.mp h)] at k2 k3
    exact ⟨k2, k3⟩
  · rw [if_neg (fun hh => h (k1.mpr hh))] at k2 k3
    exact ⟨k2, k3⟩
def okM (s : Nat → Int) (j : Nat) (v : Int) : Prop := match j with
  | 0 => v ≤ s 1
  | 1 => s 0 ≤ v ∧ v ≤ s 2
  | 2 => s 1 ≤ v
  | _ => True
theorem mAC {j : Nat} {jj v : Int} {z : bS} (hj : j < 8) (e : jj = (j : Int)) (hv : rg v = true) (hs : SI z.2.2.1) : (okM z.2.2.1 j v → f_X5_meshesAllow jj v z = some (1, z)) ∧ (¬ okM z.2.2.1 j v → f_X5_meshesAllow jj v z = some (0, z)) := by
  subst e
  have hr := SI_rg hs
  have r0 := hr 0 (by omega)
  have r1 := hr 1 (by omega)
  have r2 := hr 2 (by omega)
  unfold f_X5_meshesAllow
  match j, hj with
  | 0, _ =>
    refine ⟨fun h => ?_, fun h => ?_⟩
    · refine gd_q (by decide) (it_q1 (by decide) (it_q1 (by decide) (it_q2 (by decide) (gd_q (by decide) (gd_q hv (gd_q (rg_of (by show -2147483648 ≤ z.2.2.1 1 ∧ z.2.2.1 1 < 2147483648; omega)) (it_q2 ?_ rfl)))))))
      show ¬ z.2.2.1 1 < v
      have : v ≤ z.2.2.1 1 := h
      omega
    · refine gd_q (by decide) (it_q1 (by decide) (it_q1 (by decide) (it_q2 (by decide) (gd_q (by decide) (gd_q hv (gd_q (rg_of (by show -2147483648 ≤ z.2.2.1 1 ∧ z.2.2.1 1 < 2147483648; omega)) (it_q1 ?_ rfl)))))))
      show z.2.2.1 1 < v
      have : ¬ v ≤ z.2.2.1 1 := h
      omega
  | 1, _ =>
    have g0 : rg (z.2.2.1 (((1 : Nat) : Int) - 1).toNat) = true := rg_of (by show -2147483648 ≤ z.2.2.1 0 ∧ z.2.2.1 0 < 2147483648; omega)
    have g2 : rg (z.2.2.1 (((1 : Nat) : Int) + 1).toNat) = true := rg_of (by show -2147483648 ≤ z.2.2.1 2 ∧ z.2.2.1 2 < 2147483648; omega)
    refine ⟨fun h => ?_, fun h => ?_⟩
    · have : z.2.2.1 0 ≤ v ∧ v ≤ z.2.2.1 2 := h
      refine gd_q (by decide) (it_q1 (by decide) (it_q2 (by decide) (gd_q (by decide) (gd_q g0 (gd_q hv (it_q1 this.1 (it_q2 (by decide) (gd_q (by decide) (gd_q g2 (it_q2 ?_ rfl))))))))))
      show ¬ z.2.2.1 2 < v
      omega
    · have : ¬ (z.2.2.1 0 ≤ v ∧ v ≤ z.2.2.1 2) := h
      by_cases c : z.2.2.1 0 ≤ v
      · refine gd_q (by decide) (it_q1 (by decide) (it_q2 (by decide) (gd_q (by decide) (gd_q g0 (gd_q hv (it_q1 c (it_q2 (by decide) (gd_q (by decide) (gd_q g2 (it_q1 ?_ rfl))))))))))
        show z.2.2.1 2 < v
        omega
      · exact gd_q (by decide) (it_q1 (by decide) (it_q2 (by decide) (gd_q (by decide) (gd_q g0 (gd_q hv (it_q2 c rfl))))))
  | 2, _ =>
    have g1 : rg (z.2.2.1 (((2 : Nat) : Int) - 1).toNat) = true := rg_of (by show -2147483648 ≤ z.2.2.1 1 ∧ z.2.2.1 1 < 2147483648; omega)
    refine ⟨fun h => ?_, fun h => ?_⟩
    · have : z.2.2.1 1 ≤ v := h
      exact gd_q (by decide) (it_q1 (by decide) (it_q2 (by decide) (gd_q (by decide) (gd_q g1 (gd_q hv (it_q1 this (it_q1 (by decide) rfl)))))))
    · have : ¬ z.2.2.1 1 ≤ v := h
      exact gd_q (by decide) (it_q1 (by decide) (it_q2 (by decide) (gd_q (by decide) (gd_q g1 (gd_q hv (it_q2 this rfl))))))
  | j + 3, hj =>
    exact ⟨fun _ => gd_q (rg_of (by omega)) (it_q2 (by omega) rfl), fun h => absurd trivial h⟩
theorem mAM {j : Nat} {jj v : Int} {r s : Nat → Int} {m : bm} (hj : j < 8) (e : jj = (j : Int)) (hv : rg v = true) (hs : SI s) (hr : ∀ k, k < 8 → r k = s k) : (okM s j v → f_X8_areMeshes jj v (r, m) = some (1, (r, m))) ∧ (¬ okM s j v → f_X8_areMeshes jj v (r, m) = some (0, (r, m))) := by
  subst e
  have hr' := SI_rg hs
  have r0 := hr' 0 (by omega)
  have r1 := hr' 1 (by omega)
  have r2 := hr' 2 (by omega)
  have e0 := hr 0 (by omega)
  have e1 := hr 1 (by omega)
  have e2 := hr 2 (by omega)
  have g0 : rg (r 0) = true := rg_of (by omega)
  have g1 : rg (r 1) = true := rg_of (by omega)
  have g2 : rg (r 2) = true := rg_of (by omega)
  have l01 := hs.2.1
  have l12 := hs.2.2.1
  unfold f_X8_areMeshes
  dsimp only
  match j, hj with
  | 0, _ =>
    refine ⟨fun h => ?_, fun h => ?_⟩
    · have : v ≤ s 1 := h
      exact gd_q (by decide) (it_q1 (by decide) (it_q2 (by decide) (nm_q (it_q2 (by decide) (nm_q (gd_q hv (gd_q g1 (it_q2 (by omega) (gd_q g2 (it_q2 (by omega) rfl))))))))))
    · have : ¬ v ≤ s 1 := h
      exact gd_q (by decide) (it_q1 (by decide) (it_q2 (by decide) (nm_q (it_q2 (by decide) (nm_q (gd_q hv (gd_q g1 (it_q1 (by omega) rfl))))))))
  | 1, _ =>
    refine ⟨fun h => ?_, fun h => ?_⟩
    · have : s 0 ≤ v ∧ v ≤ s 2 := h
      exact gd_q (by decide) (it_q2 (by decide) (nm_q (it_q1 (by decide) (it_q2 (by decide) (nm_q (gd_q g0 (gd_q hv (it_q2 (by omega) (gd_q g2 (it_q2 (by omega) rfl))))))))))
    · have : ¬ (s 0 ≤ v ∧ v ≤ s 2) := h
      by_cases c : v < r 0
      · exact gd_q (by decide) (it_q2 (by decide) (nm_q (it_q1 (by decide) (it_q2 (by decide) (nm_q (gd_q g0 (gd_q hv (it_q1 c rfl))))))))
      · exact gd_q (by decide) (it_q2 (by decide) (nm_q (it_q1 (by decide) (it_q2 (by decide) (nm_q (gd_q g0 (gd_q hv (it_q2 c (gd_q g2 (it_q1 (by omega) rfl))))))))))
  | 2, _ =>
    refine ⟨fun h => ?_, fun h => ?_⟩
    · have : s 1 ≤ v := h
      exact gd_q (by decide) (it_q2 (by decide) (nm_q (it_q2 (by decide) (nm_q (it_q1 (by decide) (gd_q g0 (gd_q g1 (it_q2 (by omega) (gd_q hv (it_q2 (by omega) rfl))))))))))
    · have : ¬ s 1 ≤ v := h
      exact gd_q (by decide) (it_q2 (by decide) (nm_q (it_q2 (by decide) (nm_q (it_q1 (by decide) (gd_q g0 (gd_q g1 (it_q2 (by omega) (gd_q hv (it_q1 (by omega) rfl))))))))))
  | j + 3, hj =>
    refine ⟨fun _ => ?_, fun h => absurd trivial h⟩
    exact gd_q (rg_of (by omega)) (it_q2 (by omega) (nm_q (it_q2 (by omega) (nm_q (it_q2 (by omega) (nm_q (gd_q g0 (gd_q g1 (it_q2 (by omega) (gd_q g2 (it_q2 (by omega) rfl)))))))))))
theorem set_SI {s : Nat → Int} {j : Nat} {v : Int} (hj : j < 8) (hs : SI s) (h1 : okV j v) (h2 : okM s j v) : SI (up s j v) := by
  unfold SI at hs ⊢
  match j, hj with
  | 0, _ =>
    have h2 : v ≤ s 1 := h2
    have h1 : 1 ≤ v ∧ v ≤ 30 := h1
    rw [up_s, up_n _ _ (by omega), up_n _ _ (by omega), up_n _ _ (by omega), up_n _ _ (by omega), up_n _ _ (by omega), up_n _ _ (by omega), up_n _ _ (by omega)]
    omega
  | 1, _ =>
    have h2 : s 0 ≤ v ∧ v ≤ s 2 := h2
    have h1 : 1 ≤ v ∧ v ≤ 30 := h1
    rw [up_s, up_n _ _ (show 0 ≠ 1 by omega), up_n _ _ (show 2 ≠ 1 by omega), up_n _ _ (show 3 ≠ 1 by omega), up_n _ _ (show 4 ≠ 1 by omega), up_n _ _ (show 5 ≠ 1 by omega), up_n _ _ (show 6 ≠ 1 by omega), up_n _ _ (show 7 ≠ 1 by omega)]
    omega
  | 2, _ =>
    have h2 : s 1 ≤ v := h2
    have h1 : 1 ≤ v ∧ v ≤ 30 := h1
    rw [up_s, up_n _ _ (show 0 ≠ 2 by omega), up_n _ _ (show 1 ≠ 2 by omega), up_n _ _ (show 3 ≠ 2 by omega), up_n _ _ (show 4 ≠ 2 by omega), up_n _ _ (show 5 ≠ 2 by omega), up_n _ _ (show 6 ≠ 2 by omega), up_n _ _ (show 7 ≠ 2 by omega)]
    omega
  | 3, _ =>
    have h1 : 0 ≤ v ∧ v ≤ 9 := h1
    rw [up_s, up_n _ _ (show 0 ≠ 3 by omega), up_n _ _ (show 1 ≠ 3 by omega), up_n _ _ (show 2 ≠ 3 by omega), up_n _ _ (show 4 ≠ 3 by omega), up_n _ _ (show 5 ≠ 3 by omega), up_n _ _ (show 6 ≠ 3 by omega), up_n _ _ (show 7 ≠ 3 by omega)]
    omega
  | 4, _ =>
    have h1 : 1 ≤ v ∧ v ≤ 10 := h1
    rw [up_s, up_n _ _ (show 0 ≠ 4 by omega), up_n _ _ (show 1 ≠ 4 by omega), up_n _ _ (show 2 ≠ 4 by omega), up_n _ _ (show 3 ≠ 4 by omega), up_n _ _ (show 5 ≠ 4 by omega), up_n _ _ (show 6 ≠ 4 by omega), up_n _ _ (show 7 ≠ 4 by omega)]
    omega
  | 5, _ =>
    have h1 : 1 ≤ v ∧ v ≤ 9 := h1
    rw [up_s, up_n _ _ (show 0 ≠ 5 by omega), up_n _ _ (show 1 ≠ 5 by omega), up_n _ _ (show 2 ≠ 5 by omega), up_n _ _ (show 3 ≠ 5 by omega), up_n _ _ (show 4 ≠ 5 by omega), up_n _ _ (show 6 ≠ 5 by omega), up_n _ _ (show 7 ≠ 5 by omega)]
    omega
  | 6, _ =>
    have h1 : 0 ≤ v ∧ v ≤ 20 := h1
    rw [up_s, up_n _ _ (show 0 ≠ 6 by omega), up_n _ _ (show 1 ≠ 6 by omega), up_n _ _ (show 2 ≠ 6 by omega), up_n _ _ (show 3 ≠ 6 by omega), up_n _ _ (show 4 ≠ 6 by omega), up_n _ _ (show 5 ≠ 6 by omega), up_n _ _ (show 7 ≠ 6 by omega)]
    omega
  | 7, _ =>
    have h1 : 0 ≤ v ∧ v ≤ 9 := h1
    rw [up_s, up_n _ _ (show 0 ≠ 7 by omega), up_n _ _ (show 1 ≠ 7 by omega), up_n _ _ (show 2 ≠ 7 by omega), up_n _ _ (show 3 ≠ 7 by omega), up_n _ _ (show 4 ≠ 7 by omega), up_n _ _ (show 5 ≠ 7 by omega), up_n _ _ (show 6 ≠ 7 by omega)]
    omega
  | j + 8, hj => exact absurd hj (by omega)
theorem set_RS {n j : Nat} {v : Int} {z : bS} {r : Nat → Int} (hC : CI z n) (hR : R1 z r n) (hj : j < 8) (h1 : okV j v) (h2 : okM z.2.2.1 j v) : CI (z.1, z.2.1, up z.2.2.1 j v, z.2.2.2) n ∧ R1 (z.1, z.2.1, up z.2.2.1 j v, z.2.2.2) (up r j v) n := by
  have h40 := CI_40 hC
  refine ⟨⟨hC.1, set_SI hj hC.2.1 h1 h2, hC.2.2⟩, ?_⟩
  obtain ⟨⟨g1, ⟨a1, a2, a3, a4, a5⟩, g3, g4, g5⟩, hB⟩ := hR
  refine ⟨⟨fun k hk => ?_, ⟨by rw [up_n _ _ (by omega)]; exact a1, by rw [up_n _ _ (by omega)]; exact a2, by rw [up_n _ _ (by omega)]; exact a3, by rw [up_n _ _ (by omega)]; exact a4, by rw [up_n _ _ (by omega)]; exact a5⟩, by rw [up_n _ _ (by omega)]; exact g3, by rw [up_n _ _ (by omega)]; exact g4, fun k hk => by rw [up_n _ _ (by omega)]; exact g5 k hk⟩, RB_F (RB_low hB (by omega)) (fun _ _ _ _ => rfl)⟩
  show up r j v k = up z.2.2.1 j v k
  by_cases e : k = j
  · subst e
    rw [up_s, up_s]
  · rw [up_n _ _ e, up_n _ _ e]
    exact g1 k hk
theorem s_set {N : Nat} (hN : 1300 ≤ N) {a v : Int} (ha : rg a = true) (hv : rg v = true) : SIM (f_X7_set a v) (f_X8_set N a v) := by
  rintro ⟨⟨B, s, l⟩, O, H, S, P, V, hs⟩ ⟨r, hi, st, sn, ik, as, li, lm, tx, le, sp, re, rd⟩ ⟨hT, hH, hS, hK⟩
  dsimp only at hT hH hS hK
  have hS0 := hS
  obtain ⟨n, hC, hR⟩ := hS
  have hin := in_eq ha (show rg 0 = true by decide) (show rg 7 = true by decide)
  by_cases e1 : 0 ≤ a ∧ a ≤ 7
  · rw [if_pos e1] at hin
    obtain ⟨j, rfl⟩ : ∃ j : Nat, a = (j : Int) := ⟨a.toNat, by omega⟩
    obtain ⟨v1, v2⟩ := isV (j := j) (v := v) (by omega) rfl hv
    obtain ⟨m1, m2⟩ := mAC (j := j) (z := S) (by omega) rfl hv hC.2.1
    obtain ⟨m3, m4⟩ := mAM (j := j) (m := (hi, st, sn, ik, as, li, lm, tx, le, sp, re, rd)) (by omega) rfl hv hC.2.1 hR.1.1
    have hsr := SI_rg hC.2.1 j (by omega)
    have hrj := hR.1.1 j (by omega)
    by_cases e2 : okV j v
    · obtain ⟨v1, v3⟩ := v1 e2
      by_cases e3 : okM S.2.2.1 j v
      · have m1 := m1 e3
        have m3 := m3 e3
        by_cases e4 : S.2.2.1 j = v
        · refine ⟨-5, ((B, s, l), O, H, S, P, V, hs), (r, hi, st, sn, ik, as, li, lm, tx, le, sp, re, rd), ?_, ?_, ⟨hT, hH, hS0, hK⟩⟩
          · exact gd_q ha (it_q2 (by first | omega | (dsimp only; omega)) (it_q1 (by first | omega | (dsimp only; omega)) (bd_q v1 (gd_q (by decide) (it_q2 (by decide) (bd_q m1 (nm_q (gd_q (rg_of (by first | omega | (dsimp only; omega))) (it_q2 (by first | omega | (dsimp only; omega)) (gd_q (inb_of (by first | omega | (dsimp only; omega))) (nm_q (gd_q (by rw [tn]; exact (rg_of (by first | omega | (dsimp only; omega)))) (gd_q hv (it_q1 e4 rfl))))))))))))))
          · exact bd_q hin (gd_q (by decide) (it_q2 (by decide) (bd_q v3 (gd_q (by decide) (it_q2 (by decide) (bd_q m3 (gd_q (rg_of (by first | omega | (dsimp only; omega))) (it_q2 (by first | omega | (dsimp only; omega)) (gd_q (inb_of (by first | omega | (dsimp only; omega))) (nm_q (gd_q (by rw [tn]; exact (rg_of (by first | omega | (dsimp only; omega)))) (gd_q hv (it_q1 (hrj.trans e4) rfl)))))))))))))
        · obtain ⟨h', hi', st', g1, g2, g3⟩ := rem_eq (t := (sn, ik, as, li, lm, tx, le, sp, re, rd)) hN hH hS0
          obtain ⟨q1, q2⟩ := set_RS hC hR (show j < 8 by omega) e2 e3
          refine ⟨S.2.2.1 j, ((B, s, l), O, h', (S.1, S.2.1, up S.2.2.1 j v, S.2.2.2), P, V, hs), (up r j v, hi', st', sn, ik, as, li, lm, tx, le, sp, re, rd), ?_, ?_, ⟨hT, g3, ⟨n, q1, q2⟩, hK⟩⟩
          · exact gd_q ha (it_q2 (by first | omega | (dsimp only; omega)) (it_q1 (by first | omega | (dsimp only; omega)) (bd_q v1 (gd_q (by decide) (it_q2 (by decide) (bd_q m1 (nm_q (gd_q (rg_of (by first | omega | (dsimp only; omega))) (it_q2 (by first | omega | (dsimp only; omega)) (gd_q (inb_of (by first | omega | (dsimp only; omega))) (nm_q (gd_q (by rw [tn]; exact (rg_of (by first | omega | (dsimp only; omega)))) (gd_q hv (it_q2 e4 (bd_q g1 (nm_q (nm_q (nm_q rfl))))))))))))))))))
          · refine bd_q hin (gd_q (by decide) (it_q2 (by decide) (bd_q v3 (gd_q (by decide) (it_q2 (by decide) (bd_q m3 (gd_q (rg_of (by first | omega | (dsimp only; omega))) (it_q2 (by first | omega | (dsimp only; omega)) (gd_q (inb_of (by first | omega | (dsimp only; omega))) (nm_q (gd_q (by rw [tn]; exact (rg_of (by first | omega | (dsimp only; omega)))) (gd_q hv (it_q2 (by rw [tn]; dsimp only; rw [hrj]; exact e4) (bd_q g2 (nm_q ?_)))))))))))))))
            show some (r j, _) = _
            rw [hrj]
            rfl
      · have m2 := m2 e3
        have m4 := m4 e3
        refine ⟨-4, ((B, s, l), O, H, S, P, V, hs), (r, hi, st, sn, ik, as, li, lm, tx, le, sp, re, rd), ?_, ?_, ⟨hT, hH, hS0, hK⟩⟩
        · exact gd_q ha (it_q2 (by first | omega | (dsimp only; omega)) (it_q1 (by first | omega | (dsimp only; omega)) (bd_q v1 (gd_q (by decide) (it_q2 (by decide) (bd_q m2 (nm_q (gd_q (rg_of (by first | omega | (dsimp only; omega))) (it_q1 rfl rfl)))))))))
        · exact bd_q hin (gd_q (by decide) (it_q2 (by decide) (bd_q v3 (gd_q (by decide) (it_q2 (by decide) (bd_q m4 (gd_q (rg_of (by first | omega | (dsimp only; omega))) (it_q1 rfl rfl))))))))
    · obtain ⟨v2, v3⟩ := v2 e2
      refine ⟨-2, ((B, s, l), O, H, S, P, V, hs), (r, hi, st, sn, ik, as, li, lm, tx, le, sp, re, rd), ?_, ?_, ⟨hT, hH, hS0, hK⟩⟩
      · exact gd_q ha (it_q2 (by first | omega | (dsimp only; omega)) (it_q1 (by first | omega | (dsimp only; omega)) (bd_q v2 (gd_q (by decide) (it_q1 rfl rfl)))))
      · exact bd_q hin (gd_q (by decide) (it_q2 (by decide) (bd_q v3 (gd_q (by decide) (it_q1 rfl rfl)))))
  · rw [if_neg e1] at hin
    refine ⟨-1, ((B, s, l), O, H, S, P, V, hs), (r, hi, st, sn, ik, as, li, lm, tx, le, sp, re, rd), ?_, ?_, ⟨hT, hH, hS0, hK⟩⟩
    · by_cases e2 : a < 0
      · exact gd_q ha (it_q1 e2 rfl)
      · exact gd_q ha (it_q2 e2 (it_q2 (by first | omega | (dsimp only; omega)) rfl))
    · exact bd_q hin (gd_q (by decide) (it_q1 rfl rfl))
