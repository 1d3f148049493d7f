/-! p24: the numbers of the bins; areBins and isSpread answer true -/
theorem fillX {N n c x : Nat} {S : bS} {O : bO} {f : Nat → Nat} {xx : Int} (hN : 50 ≤ N) (hC : CI S n) (hx : x < 12) (ex : xx = (x : Int)) (hD : OD S n (x : Int) f c) : ∃ O' : bO, f_X3_fill N xx (O, S) = some (O', S) ∧ OA O' S f c := by
  obtain ⟨O', f', c', g1, g2, g3⟩ := fill_eq (N := N) (O := O) (xx := xx) hN hC hx ex
  obtain ⟨u1, u2⟩ := OD_uniq hD g2
  subst u1
  refine ⟨O', g1, g3.1, fun j hj => ?_⟩
  rw [u2 j hj]
  exact g3.2 j hj
theorem isBinX {x : Nat} {xx : Int} (hx : x < 12) (ex : xx = (x : Int)) : f_X7_isBin xx = some 1 := by
  subst ex
  rw [isBin1 (rg_of (by first | omega | (dsimp only; omega))), if_pos (by omega)]
theorem isWX {k : Nat} {kk : Int} (h1 : 1 ≤ k) (h9 : k ≤ 9) (e : kk = (k : Int)) : f_X7_isWanted kk = some 1 := by
  subst e
  rw [isW (rg_of (by first | omega | (dsimp only; omega))), if_pos (by omega)]
theorem inBinX {N n c x j : Nat} {bt : bBT} {O : bO} {H : bH} {S P V : bS} {hs : Int} {f : Nat → Nat} {xx jj : Int} (hN : 50 ≤ N) (hC : CI S n) (hx : x < 12) (ex : xx = (x : Int)) (hD : OD S n (x : Int) f c) (hj : j < c) (ej : jj = (j : Int)) : ∃ O' : bO, f_X7_inBin N xx jj (bt, O, H, S, P, V, hs) = some ((f j : Int), (bt, O', H, S, P, V, hs)) := by
  subst ej
  have h40 := CI_40 hC
  have hc := OD_c hD
  obtain ⟨O', g1, g2⟩ := fillX (O := O) hN hC hx ex hD
  refine ⟨O', ?_⟩
  unfold f_X7_inBin
  refine (bd_q (isBinX hx ex) (gd_q (rg_of (by first | omega | (dsimp only; omega))) (it_q2 (by first | omega | (dsimp only; omega)) (gd_q (rg_of (by first | omega | (dsimp only; omega))) (it_q1 (by first | omega | (dsimp only; omega)) (bd_q g1 (nm_q (nm_q (bd_q (numAt_1 (j := j) g2.1 (by omega) hj rfl) (nm_q (?_)))))))))))
  dsimp only
  rw [(g2.2 j hj).1]
theorem inBinY {N n c x : Nat} {bt : bBT} {O : bO} {H : bH} {S P V : bS} {hs : Int} {f : Nat → Nat} {xx jj : Int} (hN : 50 ≤ N) (hC : CI S n) (hx : x < 12) (ex : xx = (x : Int)) (hD : OD S n (x : Int) f c) (ej : jj = (c : Int)) : ∃ O' : bO, f_X7_inBin N xx jj (bt, O, H, S, P, V, hs) = some (-5, (bt, O', H, S, P, V, hs)) := by
  subst ej
  have h40 := CI_40 hC
  have hc := OD_c hD
  obtain ⟨O', g1, g2⟩ := fillX (O := O) hN hC hx ex hD
  refine ⟨O', ?_⟩
  unfold f_X7_inBin
  exact (bd_q (isBinX hx ex) (gd_q (rg_of (by first | omega | (dsimp only; omega))) (it_q2 (by first | omega | (dsimp only; omega)) (gd_q (rg_of (by first | omega | (dsimp only; omega))) (it_q1 (by first | omega | (dsimp only; omega)) (bd_q g1 (nm_q (nm_q (bd_q (numAt_0 g2.1 (by omega) (rg_of (by first | omega | (dsimp only; omega))) (by omega)) (nm_q (rfl)))))))))))
theorem sumX_loop {N n c : Nat} {z : bS} {x : Int} {f : Nat → Nat} {O : bO} (hC : CI z n) (hD : OD z n x f c) (hA : OA O z f c) : ∀ d k fu, k + d = c → d < fu → f_X3_shineSum_L4 N fu (sm k (shf z f)) (k : Int) O = some (sm c (shf z f), O) := by
  have h40 := CI_40 hC
  have hc := OD_c hD
  have hA1 := hA.1
  intro d
  induction d with
  | zero =>
    intro k fu hk hf
    obtain ⟨fu, rfl⟩ : ∃ j, fu = j + 1 := ⟨fu - 1, by omega⟩
    obtain rfl : k = c := by omega
    rw [f_X3_shineSum_L4]
    exact (gd_q (rg_of (by first | omega | (dsimp only; omega))) (gd_q (rg_of (by first | omega | (dsimp only; omega))) (it_q1 (by first | omega | (dsimp only; omega)) (rfl))))
  | succ d ih =>
    intro k fu hk hf
    obtain ⟨fu, rfl⟩ : ∃ j, fu = j + 1 := ⟨fu - 1, by omega⟩
    have ih' := ih (k + 1) fu (by omega) (by omega)
    rw [f_X3_shineSum_L4]
    refine (gd_q (rg_of (by first | omega | (dsimp only; omega))) (gd_q (rg_of (by first | omega | (dsimp only; omega))) (it_q2 (by first | omega | (dsimp only; omega)) (gd_q (inb_of (by first | omega | (dsimp only; omega))) (nm_q (?_))))))
    rw [tn, (hA.2 k (by omega)).2]
    exact ih'
/-- a bin's five numbers -/
def bv (S : bS) (f : Nat → Nat) (c : Nat) (q : Nat) : Int := match q with
  | 0 => (c : Int)
  | 1 => if S.2.2.1 6 - (c : Int) < 0 then 0 else S.2.2.1 6 - (c : Int)
  | 2 => sm c (shf S f)
  | 3 => (ma (fun m => fa (shf S f) c m (S.2.2.1 7) (c + 1) 0) 9 : Int)
  | _ => if (c : Int) = 0 then 0 else shf S f (c - 1) - shf S f 0
theorem bv_4a {S : bS} {f : Nat → Nat} {c : Nat} (h : c = 0) : bv S f c 4 = 0 := by
  show (if (c : Int) = 0 then (0 : Int) else shf S f (c - 1) - shf S f 0) = 0
  rw [if_pos (by omega)]
theorem bv_4b {S : bS} {f : Nat → Nat} {c : Nat} (h : ¬ c = 0) : bv S f c 4 = shf S f (c - 1) - shf S f 0 := by
  show (if (c : Int) = 0 then (0 : Int) else shf S f (c - 1) - shf S f 0) = _
  rw [if_neg (by omega)]
theorem binX {N n c x q : Nat} {bt : bBT} {O : bO} {H : bH} {S P V : bS} {hs : Int} {f : Nat → Nat} {xx qq : Int} (hN : 60 ≤ N) (hC : CI S n) (hx : x < 12) (ex : xx = (x : Int)) (hD : OD S n (x : Int) f c) (hq : q < 5) (eq : qq = (q : Int)) : ∃ O' : bO, f_X7_bin N xx qq (bt, O, H, S, P, V, hs) = some (bv S f c q, (bt, O', H, S, P, V, hs)) := by
  have h40 := CI_40 hC
  have hc := OD_c hD
  have s6 := SI_rg hC.2.1 6 (by omega)
  have s7 := SI_rg hC.2.1 7 (by omega)
  obtain ⟨O', g1, g3⟩ := fillX (N := N) (O := O) (by omega) hC hx ex hD
  have hA1 := g3.1
  refine ⟨O', ?_⟩
  unfold f_X7_bin
  rcases (show q = 0 ∨ q = 1 ∨ q = 2 ∨ q = 3 ∨ q = 4 by omega) with rfl | rfl | rfl | rfl | rfl <;> subst eq
  · refine (bd_q (isBinX hx ex) (gd_q (rg_of (by first | omega | (dsimp only; omega))) (it_q2 (by first | omega | (dsimp only; omega)) (gd_q (rg_of (by first | omega | (dsimp only; omega))) (it_q2 (by first | omega | (dsimp only; omega)) (it_q1 (by first | omega | (dsimp only; omega)) (bd_q g1 (nm_q (nm_q (it_q1 rfl (?_)))))))))))
    dsimp only
    rw [hA1]
    rfl
  · refine (bd_q (isBinX hx ex) (gd_q (rg_of (by first | omega | (dsimp only; omega))) (it_q2 (by first | omega | (dsimp only; omega)) (gd_q (rg_of (by first | omega | (dsimp only; omega))) (it_q2 (by first | omega | (dsimp only; omega)) (it_q1 (by first | omega | (dsimp only; omega)) (bd_q g1 (nm_q (nm_q (it_q2 (by first | omega | (dsimp only; omega)) (it_q1 rfl (gd_q (rg_of (by first | omega | (dsimp only; omega))) (?_)))))))))))))
    dsimp only
    rw [hA1]
    rfl
  · have q1 := sumX_loop (N := N) hC hD g3 c 0 N (by omega) (by omega)
    exact (bd_q (isBinX hx ex) (gd_q (rg_of (by first | omega | (dsimp only; omega))) (it_q2 (by first | omega | (dsimp only; omega)) (gd_q (rg_of (by first | omega | (dsimp only; omega))) (it_q2 (by first | omega | (dsimp only; omega)) (it_q1 (by first | omega | (dsimp only; omega)) (bd_q g1 (nm_q (nm_q (it_q2 (by first | omega | (dsimp only; omega)) (it_q2 (by first | omega | (dsimp only; omega)) (it_q1 rfl (bd_q q1 (nm_q (rfl)))))))))))))))
  · have q1 := maC (N := N) (by omega) hC hD g3 9 N (by omega) (by omega)
    exact (bd_q (isBinX hx ex) (gd_q (rg_of (by first | omega | (dsimp only; omega))) (it_q2 (by first | omega | (dsimp only; omega)) (gd_q (rg_of (by first | omega | (dsimp only; omega))) (it_q2 (by first | omega | (dsimp only; omega)) (it_q1 (by first | omega | (dsimp only; omega)) (bd_q g1 (nm_q (nm_q (it_q2 (by first | omega | (dsimp only; omega)) (it_q2 (by first | omega | (dsimp only; omega)) (it_q2 (by first | omega | (dsimp only; omega)) (it_q1 rfl (bd_q q1 (nm_q (rfl))))))))))))))))
  · by_cases e3 : c = 0
    · rw [bv_4a e3]
      exact (bd_q (isBinX hx ex) (gd_q (rg_of (by first | omega | (dsimp only; omega))) (it_q2 (by first | omega | (dsimp only; omega)) (gd_q (rg_of (by first | omega | (dsimp only; omega))) (it_q2 (by first | omega | (dsimp only; omega)) (it_q1 (by first | omega | (dsimp only; omega)) (bd_q g1 (nm_q (nm_q (it_q2 (by first | omega | (dsimp only; omega)) (it_q2 (by first | omega | (dsimp only; omega)) (it_q2 (by first | omega | (dsimp only; omega)) (it_q2 (by first | omega | (dsimp only; omega)) (gd_q (rg_of (by first | omega | (dsimp only; omega))) (it_q1 (by first | omega | (dsimp only; omega)) (rfl))))))))))))))))
    · rw [bv_4b e3]
      have s1 := OD_sh hC hD (show 0 < c by omega)
      have s2 := OD_sh hC hD (show c - 1 < c by omega)
      have hC1 := sprC (n := n) (x := (x : Int)) (k := 0) (m := c) (kk := 0) (mm := (c : Int)) (show c ≤ 40 by omega) g3 rfl rfl (by omega) (by omega)
      rw [show 0 + c - 1 = c - 1 by omega] at hC1
      refine (bd_q (isBinX hx ex) (gd_q (rg_of (by first | omega | (dsimp only; omega))) (it_q2 (by first | omega | (dsimp only; omega)) (gd_q (rg_of (by first | omega | (dsimp only; omega))) (it_q2 (by first | omega | (dsimp only; omega)) (it_q1 (by first | omega | (dsimp only; omega)) (bd_q g1 (nm_q (nm_q (it_q2 (by first | omega | (dsimp only; omega)) (it_q2 (by first | omega | (dsimp only; omega)) (it_q2 (by first | omega | (dsimp only; omega)) (it_q2 (by first | omega | (dsimp only; omega)) (gd_q (rg_of (by first | omega | (dsimp only; omega))) (it_q2 (by first | omega | (dsimp only; omega)) (bd_q (a := (shf S f (c - 1) - shf S f 0, O')) ?_ (nm_q (rfl))))))))))))))))))
      obtain ⟨K, rfl⟩ : ∃ K, N = K + 2 := ⟨N - 2, by omega⟩
      unfold f_X3_narrowest
      dsimp only
      rw [hA1, f_X3_narrowest_L5]
      refine (gd_q (rg_of (by first | omega | (dsimp only; omega))) (gd_q (rg_of (by first | omega | (dsimp only; omega))) (it_q2 (by first | omega | (dsimp only; omega)) (bd_q hC1 (gd_q (rg_of (by first | omega | (dsimp only; omega))) (gd_q (rg_of (by first | omega | (dsimp only; omega))) (nm_q (?_))))))))
      dsimp only
      have : (if shf S f (c - 1) - shf S f 0 < 9 then shf S f (c - 1) - shf S f 0 else 9) = shf S f (c - 1) - shf S f 0 := by
        split <;> omega
      rw [this, f_X3_narrowest_L5]
      exact (gd_q (rg_of (by first | omega | (dsimp only; omega))) (gd_q (rg_of (by first | omega | (dsimp only; omega))) (it_q1 (by first | omega | (dsimp only; omega)) (rfl))))
theorem bin5X {N x : Nat} {X : bX} {xx : Int} (hx : x < 12) (ex : xx = (x : Int)) : f_X7_bin N xx 5 X = some (-2, X) := by
  unfold f_X7_bin
  exact (bd_q (isBinX hx ex) (gd_q (rg_of (by first | omega | (dsimp only; omega))) (it_q2 (by first | omega | (dsimp only; omega)) (gd_q (rg_of (by first | omega | (dsimp only; omega))) (it_q2 (by first | omega | (dsimp only; omega)) (it_q2 (by first | omega | (dsimp only; omega)) (rfl)))))))
theorem bin12X {N : Nat} {X : bX} : f_X7_bin N 12 0 X = some (-1, X) := by
  unfold f_X7_bin
  exact (bd_q (isBin1 (by decide)) (gd_q (by decide) (it_q1 (by decide) (rfl))))
theorem roomJ {β σ : Type} {K : Int → σ → Option β} {c q : Int} {s : σ} : jn2 K (fun j => if c ≤ q then (j (q - c) s) else (j 0 s)) = K (if q - c < 0 then 0 else q - c) s := by
  refine jn2_q ?_
  by_cases e : c ≤ q
  · rw [if_neg (show ¬ q - c < 0 by omega)]
    exact it_q1 e rfl
  · rw [if_pos (show q - c < 0 by omega)]
    exact it_q2 e rfl
theorem l68_loop {N n c x : Nat} {bt : bBT} {H : bH} {S P V : bS} {hs : Int} {f : Nat → Nat} {m p nn : Nat → Int} {xx mn fs : Int} (hN : 60 ≤ N) (hC : CI S n) (hB : BR m p nn n) (hO : OL m p n x f c) (hD : OD S n (x : Int) f c) (hx : x < 12) (ex : xx = (x : Int)) (hsh : ∀ j, j < c → m (3 * f j + 1) = shf S f j) : ∀ d i fu (O : bO), i + d = c → d < fu → ∃ O' : bO, ∀ kt : Int → Int → Int → Int → Int → Int → Int → Int → bLXmpn → Option (Int × bLXmpn), f_L_areBins_L68 N kt fu 1 xx mn (sm i (shf S f)) (if i < c then (f i : Int) else -5) (i : Int) (if 0 < c then (f (i - 1) : Int) else -5) fs ((bt, O, H, S, P, V, hs), m, p, nn) = kt 1 xx mn (sm c (shf S f)) (-5) (c : Int) (if 0 < c then (f (c - 1) : Int) else -5) fs ((bt, O', H, S, P, V, hs), m, p, nn) := by
  have hn20 := hB.2.1
  have hc := OD_c hD
  intro d
  induction d with
  | zero =>
    intro i fu O hi hf
    obtain ⟨fu, rfl⟩ : ∃ j, fu = j + 1 := ⟨fu - 1, by omega⟩
    obtain rfl : i = c := by omega
    refine ⟨O, fun kt => ?_⟩
    rw [f_L_areBins_L68, if_neg (show ¬ i < i by omega)]
    exact (gd_q (rg_of (by first | omega | (dsimp only; omega))) (it_q1 (by first | omega | (dsimp only; omega)) (rfl)))
  | succ d ih =>
    intro i fu O hi hf
    obtain ⟨fu, rfl⟩ : ∃ j, fu = j + 1 := ⟨fu - 1, by omega⟩
    have hic : i < c := by omega
    have hfi := (hD.1 i hic).1
    obtain ⟨O1, g1⟩ := inBinX (N := N) (bt := bt) (O := O) (H := H) (P := P) (V := V) (hs := hs) (jj := (i : Int)) (by omega) hC hx ex hD hic rfl
    obtain ⟨O2, g2⟩ := ih (i + 1) fu O1 (by omega) (by omega)
    have hnx := nextK (a := (f i : Int)) (N := N) (by omega) hB hx ex hO hic rfl
    refine ⟨O2, fun kt => ?_⟩
    have g3 := g2 kt
    rw [if_pos (show 0 < c by omega), if_pos (show 0 < c by omega), show i + 1 - 1 = i by omega] at g3
    rw [f_L_areBins_L68, if_pos hic, if_pos (show 0 < c by omega)]
    refine (gd_q (rg_of (by first | omega | (dsimp only; omega))) (it_q2 (by first | omega | (dsimp only; omega)) (gd_q (rg_of (by first | omega | (dsimp only; omega))) (jn2_q (it_q2 (by first | omega | (dsimp only; omega)) (bd_q g1 (nm_q (gd_q (rg_of (by first | omega | (dsimp only; omega))) (it_q1 rfl (gd_q (inb_of (by first | omega | (dsimp only; omega))) (nm_q (bd_q hnx (?_)))))))))))))
    simp only [t31]
    rw [hsh i hic, if_pos (show 0 < c by omega)]
    exact g3
theorem l139_loop {N c : Nat} {f : Nat → Nat} {Pf : Nat → Option Nat} {X : bX} {m p nn : Nat → Int} {xx a1 a3 a4 a5 a6 a7 a8 : Int} {kt : Int → Int → Int → Int → Int → Int → Int → Int → Int → Int → bLXmpn → Option (Int × bLXmpn)} (hfi : ∀ (k : Nat) (kk : Int), 1 ≤ k → k ≤ 9 → kk = (k : Int) → f_L_first N xx kk (m, p, nn) = some (oF f (Pf k))) (hj : ∀ k j, Pf k = some j → f j < 100) : ∀ d k fu, k + d = 9 → d < fu → f_L_areBins_L139 N kt fu a1 xx a3 a4 a5 a6 a7 a8 (ma Pf k : Int) ((k : Int) + 1) (X, m, p, nn) = kt a1 xx a3 a4 a5 a6 a7 a8 (ma Pf 9 : Int) 10 (X, m, p, nn) := by
  intro d
  induction d with
  | zero =>
    intro k fu hk hf
    obtain ⟨fu, rfl⟩ : ∃ j, fu = j + 1 := ⟨fu - 1, by omega⟩
    obtain rfl : k = 9 := by omega
    rw [f_L_areBins_L139]
    exact (gd_q (rg_of (by first | omega | (dsimp only; omega))) (it_q1 (by first | omega | (dsimp only; omega)) (rfl)))
  | succ d ih =>
    intro k fu hk hf
    obtain ⟨fu, rfl⟩ : ∃ j, fu = j + 1 := ⟨fu - 1, by omega⟩
    have ih' := ih (k + 1) fu (by omega) (by omega)
    have h1 := hfi (k + 1) ((k : Int) + 1) (by omega) (by omega) (by omega)
    rw [ma] at ih'
    rw [f_L_areBins_L139]
    refine (gd_q (rg_of (by first | omega | (dsimp only; omega))) (it_q2 (by first | omega | (dsimp only; omega)) (bd_q h1 (?_))))
    cases ho : Pf (k + 1) with
    | none =>
      rw [ho] at ih'
      exact (gd_q (rg_of (show -2147483648 ≤ (-5 : Int) ∧ (-5 : Int) < 2147483648 by omega)) (jn2_q (it_q1 (show (-5 : Int) < 0 by omega) (ih'))))
    | some j =>
      have := hj _ _ ho
      rw [ho] at ih'
      refine (gd_q (rg_of ?_) (jn2_q (it_q2 ?_ (ih'))))
      · show -2147483648 ≤ (f j : Int) ∧ (f j : Int) < 2147483648
        omega
      · show ¬ (f j : Int) < 0
        omega
theorem bin_step {N n x k : Nat} {bt : bBT} {O : bO} {H : bH} {S P V : bS} {hs : Int} {m p nn : Nat → Int} {kt : Int → Int → bLXmpn → Option (Int × bLXmpn)} (hN : 100 ≤ N) (hn20 : n ≤ 20) (hC : CI S n) (hGN : GN S nn n) (hM : GM S m n) (hP : GP S p n) (hx : x < 12) : ∃ O' : bO, f_L_areBins_L21 N kt (k + 1) 1 (x : Int) ((bt, O, H, S, P, V, hs), m, p, nn) = f_L_areBins_L21 N kt k 1 ((x : Int) + 1) ((bt, O', H, S, P, V, hs), m, p, nn) := by
  have h40 := CI_40 hC
  obtain ⟨gn1, gn2, gn7, gn8⟩ := hGN
  have hsr := SI_rg hC.2.1
  have s6 := hsr 6 (by omega)
  have s7 := hsr 7 (by omega)
  have hsp : 0 ≤ S.2.2.1 7 ∧ S.2.2.1 7 ≤ 9 := by
    have := hC.2.1
    unfold SI at this
    omega
  have n6 : nn 6 = S.2.2.1 6 := gn1 6 (by omega)
  obtain ⟨-, f, c, -, hD, -⟩ := fill_eq (N := N) (O := O) (xx := (x : Int)) (by omega) hC hx rfl
  have hc := OD_c hD
  have hBR := BR_of hn20 hC gn7 hM hP
  have hO := OL_of (m := m) (p := p) hD (fun b hb => (hM b hb).2.1) (fun b hb => (hP b hb).2.1)
  have hsh : ∀ j, j < c → shm m f j = shf S f j := fun j hj => (hM _ (hD.1 j hj).1).2.1
  have hmy := OD_many hC hx hD
  have hin := inG (N := N) (qq := (x : Int)) (by omega) hn20 hC gn7 hP hx rfl
  rw [hmy] at hin
  have hnx := nextO (N := N) (xx := (x : Int)) (by omega) hBR hx rfl hO
  have hsm := sm_rg (n := c) (f := shf S f) (fun j hj => OD_sh hC hD hj)
  have hfi : ∀ (k : Nat) (kk : Int), 1 ≤ k → k ≤ 9 → kk = (k : Int) → f_L_first N (x : Int) kk (m, p, nn) = some (oF f (fa (shf S f) c k (S.2.2.1 7) (c + 1) 0)) := by
    intro k kk h1 h9 e
    have := firstG (N := N) (xx := (x : Int)) (sp := S.2.2.1 7) (by omega) hBR hx rfl hO h1 h9 e (gn1 7 (by omega)) hsp hc
    rw [fa_congr h1 hsh] at this
    exact this
  have hfr : ∀ k j, 1 ≤ k → fa (shf S f) c k (S.2.2.1 7) (c + 1) 0 = some j → f j < 100 := by
    intro k j h1 h
    have := fa_some _ _ _ h
    have := (hD.1 j (by omega)).1
    omega
  have hma := ma_le (fun m => fa (shf S f) c m (S.2.2.1 7) (c + 1) 0) 9
  obtain ⟨O1, g1⟩ := l68_loop (N := N) (bt := bt) (H := H) (P := P) (V := V) (hs := hs) (xx := (x : Int)) (mn := (c : Int)) (fs := (if 0 < c then (f 0 : Int) else -5)) (by omega) hC hBR hO hD hx rfl hsh c 0 N O (by omega) (by omega)
  obtain ⟨O2, g2⟩ := inBinY (N := N) (bt := bt) (O := O1) (H := H) (P := P) (V := V) (hs := hs) (xx := (x : Int)) (jj := (c : Int)) (by omega) hC hx rfl hD rfl
  obtain ⟨O3, g3⟩ := binX (N := N) (q := 0) (qq := 0) (bt := bt) (O := O2) (H := H) (P := P) (V := V) (hs := hs) (xx := (x : Int)) (by omega) hC hx rfl hD (by omega) rfl
  obtain ⟨O4, g4⟩ := binX (N := N) (q := 1) (qq := 1) (bt := bt) (O := O3) (H := H) (P := P) (V := V) (hs := hs) (xx := (x : Int)) (by omega) hC hx rfl hD (by omega) rfl
  obtain ⟨O5, g5⟩ := binX (N := N) (q := 2) (qq := 2) (bt := bt) (O := O4) (H := H) (P := P) (V := V) (hs := hs) (xx := (x : Int)) (by omega) hC hx rfl hD (by omega) rfl
  obtain ⟨O6, g6⟩ := binX (N := N) (q := 3) (qq := 3) (bt := bt) (O := O5) (H := H) (P := P) (V := V) (hs := hs) (xx := (x : Int)) (by omega) hC hx rfl hD (by omega) rfl
  obtain ⟨O7, g7⟩ := binX (N := N) (q := 4) (qq := 4) (bt := bt) (O := O6) (H := H) (P := P) (V := V) (hs := hs) (xx := (x : Int)) (by omega) hC hx rfl hD (by omega) rfl
  have r1 : rg (bv S f c 1) = true := by
    show rg (if S.2.2.1 6 - (c : Int) < 0 then 0 else S.2.2.1 6 - (c : Int)) = true
    split
    · decide
    · exact (rg_of (by first | omega | (dsimp only; omega)))
  have r4 : rg (bv S f c 4) = true := by
    by_cases e : c = 0
    · rw [bv_4a e]
      decide
    · rw [bv_4b e]
      have s1 := OD_sh hC hD (show 0 < c by omega)
      have s2 := OD_sh hC hD (show c - 1 < c by omega)
      exact (rg_of (by first | omega | (dsimp only; omega)))
  refine ⟨O7, ?_⟩
  rw [f_L_areBins_L21]
  refine (gd_q (rg_of (by first | omega | (dsimp only; omega))) (it_q2 (by first | omega | (dsimp only; omega)) (gd_q (rg_of (by first | omega | (dsimp only; omega))) (it_q2 (by first | omega | (dsimp only; omega)) (bd_q hin (bd_q hnx (?_)))))))
  refine Eq.trans (g1 _) ?_
  refine Eq.trans (l139_loop (Pf := fun k => if 1 ≤ k then fa (shf S f) c k (S.2.2.1 7) (c + 1) 0 else none) (c := c) (fun k kk h1 h9 e => by rw [if_pos h1]; exact hfi k kk h1 h9 e) (fun k j h => by
    by_cases e : 1 ≤ k
    · rw [if_pos e] at h
      exact hfr k j e h
    · rw [if_neg e] at h
      exact absurd h (by simp)) 9 0 N (by omega) (by omega)) ?_
  refine (gd_q (rg_of (by first | omega | (dsimp only; omega))) (jn2_q (it_q2 (by first | omega | (dsimp only; omega)) (gd_q (rg_of (by first | omega | (dsimp only; omega))) (gd_q (rg_of (by first | omega | (dsimp only; omega))) (it_q1 rfl (bd_q g2 (nm_q (gd_q (show rg (-5) = true by decide) (it_q1 rfl (bd_q g3 (nm_q (gd_q (rg_of (show -2147483648 ≤ (c : Int) ∧ (c : Int) < 2147483648 by omega)) (it_q1 rfl (bd_q g4 (nm_q (gd_q (by show rg (nn 6) = true; rw [n6]; exact (rg_of (by first | omega | (dsimp only; omega)))) (?_))))))))))))))))))
  refine Eq.trans roomJ ?_
  refine (gd_q r1 (gd_q (by show rg (if nn 6 - (c : Int) < 0 then 0 else nn 6 - (c : Int)) = true; rw [n6]; exact r1) (it_q1 (by show bv S f c 1 = (if nn 6 - (c : Int) < 0 then 0 else nn 6 - (c : Int)); rw [n6]; rfl) (bd_q g5 (nm_q (gd_q (by show rg (sm c (shf S f)) = true; exact (rg_of (by first | omega | (dsimp only; omega)))) (gd_q (by show rg (sm c (shf S f)) = true; exact (rg_of (by first | omega | (dsimp only; omega)))) (it_q1 rfl (bd_q g6 (nm_q (?_)))))))))))
  refine (gd_q (by show rg (ma (fun m => fa (shf S f) c m (S.2.2.1 7) (c + 1) 0) 9 : Int) = true; exact (rg_of (by first | omega | (dsimp only; omega)))) (gd_q (by show rg (ma (fun m => fa (shf S f) c m (S.2.2.1 7) (c + 1) 0) 9 : Int) = true; exact (rg_of (by first | omega | (dsimp only; omega)))) (it_q1 rfl (bd_q g7 (nm_q (jn2_q (?_)))))))
  by_cases e3 : c = 0
  · have eb : bv S f c 4 = 0 := bv_4a e3
    exact (it_q1 (by first | omega | (dsimp only; omega)) (gd_q r4 (gd_q (by decide) (it_q1 eb (bd_q (bin5X hx rfl) (nm_q (gd_q (show rg (-2) = true by decide) (it_q1 rfl (rfl)))))))))
  · have eb : bv S f c 4 = shf S f (c - 1) - shf S f 0 := bv_4b e3
    have f1 := (hD.1 0 (by omega)).1
    have f2 := (hD.1 (c - 1) (by omega)).1
    rw [if_pos (show 0 < c by omega), if_pos (show 0 < c by omega)]
    refine (it_q2 (by first | omega | (dsimp only; omega)) (gd_q (inb_of (by first | omega | (dsimp only; omega))) (gd_q (inb_of (by first | omega | (dsimp only; omega))) (gd_q r4 (?_)))))
    simp only [t31]
    have h1 := hsh 0 (by omega)
    have h2 := hsh (c - 1) (by omega)
    unfold shm at h1 h2
    rw [h1, h2, ← eb]
    exact (gd_q r4 (it_q1 rfl (bd_q (bin5X hx rfl) (nm_q (gd_q (show rg (-2) = true by decide) (it_q1 rfl (rfl)))))))
theorem bins_loop {N n : Nat} {bt : bBT} {H : bH} {S P V : bS} {hs : Int} {m p nn : Nat → Int} {kt : Int → Int → bLXmpn → Option (Int × bLXmpn)} (hN : 100 ≤ N) (hn20 : n ≤ 20) (hC : CI S n) (hGN : GN S nn n) (hM : GM S m n) (hP : GP S p n) : ∀ (d x k : Nat) (O : bO), x + d = 12 → d < k → ∃ O' : bO, f_L_areBins_L21 N kt k 1 (x : Int) ((bt, O, H, S, P, V, hs), m, p, nn) = kt 1 12 ((bt, O', H, S, P, V, hs), m, p, nn) := by
  intro d
  induction d with
  | zero =>
    intro x k O hx hk
    obtain ⟨k, rfl⟩ : ∃ j, k = j + 1 := ⟨k - 1, by omega⟩
    obtain rfl : x = 12 := by omega
    refine ⟨O, ?_⟩
    rw [f_L_areBins_L21]
    exact (gd_q (rg_of (by first | omega | (dsimp only; omega))) (it_q1 (by first | omega | (dsimp only; omega)) (rfl)))
  | succ d ih =>
    intro x k O hx hk
    obtain ⟨k, rfl⟩ : ∃ j, k = j + 1 := ⟨k - 1, by omega⟩
    obtain ⟨O1, g1⟩ := bin_step (k := k) (kt := kt) (bt := bt) (O := O) (H := H) (P := P) (V := V) (hs := hs) hN hn20 hC hGN hM hP (show x < 12 by omega)
    obtain ⟨O2, g2⟩ := ih (x + 1) k O1 (by omega) (by omega)
    exact ⟨O2, Eq.trans g1 g2⟩
theorem areBinsG {N n : Nat} {bt : bBT} {O : bO} {H : bH} {S P V : bS} {hs : Int} {m p nn : Nat → Int} (hN : 100 ≤ N) (hn20 : n ≤ 20) (hC : CI S n) (hGN : GN S nn n) (hM : GM S m n) (hP : GP S p n) : ∃ O' : bO, f_L_areBins N ((bt, O, H, S, P, V, hs), m, p, nn) = some (1, ((bt, O', H, S, P, V, hs), m, p, nn)) := by
  obtain ⟨O', g⟩ := bins_loop (N := N) (bt := bt) (H := H) (P := P) (V := V) (hs := hs) (kt := fun v158 v159 s160 => gd (inb v158 2) <| some (v158, s160)) hN hn20 hC hGN hM hP 12 0 N O (by omega) (by omega)
  refine ⟨O', ?_⟩
  unfold f_L_areBins
  refine (bd_q bin12X (nm_q (gd_q (rg_of (by first | omega | (dsimp only; omega))) (jn2_q (it_q1 rfl (?_))))))
  refine Eq.trans g ?_
  exact (gd_q (inb_of (by first | omega | (dsimp only; omega))) (rfl))
/-- the narrowest of so many -/
def nw (s : Nat → Int) (c m : Nat) : Nat → Nat → Int → Int
  | 0, _, v => v
  | d + 1, k, v => if k + m ≤ c then nw s c m d (k + 1) (if s (k + m - 1) - s k < v then s (k + m - 1) - s k else v) else v
theorem nw_le {s : Nat → Int} {c m : Nat} : ∀ d k v, nw s c m d k v ≤ v := by
  intro d
  induction d with
  | zero => intro k v; exact Int.le_refl _
  | succ d ih =>
    intro k v
    rw [nw]
    by_cases e : k + m ≤ c
    · rw [if_pos e]
      refine Int.le_trans (ih _ _) ?_
      split <;> omega
    · rw [if_neg e]
      exact Int.le_refl _
theorem nw_all {s : Nat → Int} {c m : Nat} (hm : 1 ≤ m) : ∀ d k v, k + d = c + 1 → ∀ i, k ≤ i → i + m ≤ c → nw s c m d k v ≤ s (i + m - 1) - s i := by
  intro d
  induction d with
  | zero => intro k v hk i h1 h2; omega
  | succ d ih =>
    intro k v hk i h1 h2
    rw [nw, if_pos (show k + m ≤ c by omega)]
    by_cases e : i = k
    · subst e
      refine Int.le_trans (nw_le _ _ _) ?_
      split <;> omega
    · exact ih (k + 1) _ (by omega) i (by omega) h2
theorem nw_is {s : Nat → Int} {c m : Nat} : ∀ d k v, nw s c m d k v = v ∨ ∃ i, k ≤ i ∧ i + m ≤ c ∧ nw s c m d k v = s (i + m - 1) - s i := by
  intro d
  induction d with
  | zero => intro k v; exact Or.inl rfl
  | succ d ih =>
    intro k v
    rw [nw]
    by_cases e : k + m ≤ c
    · rw [if_pos e]
      by_cases e2 : s (k + m - 1) - s k < v
      · rw [if_pos e2]
        rcases ih (k + 1) (s (k + m - 1) - s k) with h | ⟨i, h1, h2, h3⟩
        · exact Or.inr ⟨k, Nat.le_refl _, e, h⟩
        · exact Or.inr ⟨i, by omega, h2, h3⟩
      · rw [if_neg e2]
        rcases ih (k + 1) v with h | ⟨i, h1, h2, h3⟩
        · exact Or.inl h
        · exact Or.inr ⟨i, by omega, h2, h3⟩
    · rw [if_neg e]
      exact Or.inl rfl
theorem nw_stop {s : Nat → Int} {c m d k : Nat} {v : Int} (e : ¬ k + m ≤ c) : nw s c m d k v = v := by
  cases d with
  | zero => rfl
  | succ d => rw [nw, if_neg e]
theorem narX_loop {N n c m : Nat} {z : bS} {x : Int} {f : Nat → Nat} {O : bO} (hC : CI z n) (hD : OD z n x f c) (hA : OA O z f c) (hm : 1 ≤ m) (hm9 : m ≤ 100) : ∀ d k v fu, k + d = c + 1 → d < fu → 0 ≤ v → v ≤ 9 → f_X3_narrowest_L5 N fu (m : Int) v (k : Int) O = some (nw (shf z f) c m d k v, O) := by
  have h40 := CI_40 hC
  have hc := OD_c hD
  have hA1 := hA.1
  intro d
  induction d with
  | zero =>
    intro k v fu hk hf hv hv9
    obtain ⟨fu, rfl⟩ : ∃ j, fu = j + 1 := ⟨fu - 1, by omega⟩
    rw [f_X3_narrowest_L5]
    exact (gd_q (rg_of (by first | omega | (dsimp only; omega))) (gd_q (rg_of (by first | omega | (dsimp only; omega))) (it_q1 (by first | omega | (dsimp only; omega)) (rfl))))
  | succ d ih =>
    intro k v fu hk hf hv hv9
    obtain ⟨fu, rfl⟩ : ∃ j, fu = j + 1 := ⟨fu - 1, by omega⟩
    rw [f_X3_narrowest_L5, nw]
    by_cases e : k + m ≤ c
    · have s1 := OD_sh hC hD (show k < c by omega)
      have s2 := OD_sh hC hD (show k + m - 1 < c by omega)
      have s3 := OD_le hD (show k ≤ k + m - 1 by omega) (show k + m - 1 < c by omega)
      have hC1 := sprC (n := n) (x := x) (kk := (k : Int)) (mm := (m : Int)) (show c ≤ 40 by omega) hA rfl rfl hm e
      rw [if_pos e]
      refine (gd_q (rg_of (by first | omega | (dsimp only; omega))) (gd_q (rg_of (by first | omega | (dsimp only; omega))) (it_q2 (by first | omega | (dsimp only; omega)) (bd_q hC1 (gd_q (rg_of (by first | omega | (dsimp only; omega))) (gd_q (rg_of (by first | omega | (dsimp only; omega))) (nm_q (?_))))))))
      refine ih (k + 1) _ fu (by omega) (by omega) ?_ ?_
      · dsimp only
        split <;> omega
      · dsimp only
        split <;> omega
    · rw [if_neg e]
      exact (gd_q (rg_of (by first | omega | (dsimp only; omega))) (gd_q (rg_of (by first | omega | (dsimp only; omega))) (it_q1 (by first | omega | (dsimp only; omega)) (rfl))))
theorem lspX {N n c x k : Nat} {bt : bBT} {O : bO} {H : bH} {S P V : bS} {hs : Int} {f : Nat → Nat} {xx kk : Int} (hN : 60 ≤ N) (hC : CI S n) (hx : x < 12) (ex : xx = (x : Int)) (hD : OD S n (x : Int) f c) (h1 : 1 ≤ k) (h9 : k ≤ 9) (ek : kk = (k : Int)) : ∃ O' : bO, f_X7_leastSpread N xx kk (bt, O, H, S, P, V, hs) = some ((if k ≤ c then nw (shf S f) c k (c + 1) 0 9 else -5), (bt, O', H, S, P, V, hs)) := by
  subst ek
  have h40 := CI_40 hC
  have hc := OD_c hD
  obtain ⟨O', g1, g3⟩ := fillX (N := N) (O := O) (by omega) hC hx ex hD
  have hA1 := g3.1
  refine ⟨O', ?_⟩
  unfold f_X7_leastSpread
  by_cases e : k ≤ c
  · rw [if_pos e]
    have hl := narX_loop (N := N) hC hD g3 h1 (by omega) (c + 1) 0 9 N (by omega) (by omega) (by omega) (by omega)
    exact (bd_q (isBinX hx ex) (gd_q (rg_of (by first | omega | (dsimp only; omega))) (it_q2 (by first | omega | (dsimp only; omega)) (bd_q (isWX h1 h9 rfl) (gd_q (rg_of (by first | omega | (dsimp only; omega))) (it_q2 (by first | omega | (dsimp only; omega)) (bd_q g1 (nm_q (nm_q (gd_q (rg_of (by first | omega | (dsimp only; omega))) (gd_q (rg_of (by first | omega | (dsimp only; omega))) (it_q1 (by first | omega | (dsimp only; omega)) (bd_q hl (nm_q (rfl)))))))))))))))
  · rw [if_neg e]
    exact (bd_q (isBinX hx ex) (gd_q (rg_of (by first | omega | (dsimp only; omega))) (it_q2 (by first | omega | (dsimp only; omega)) (bd_q (isWX h1 h9 rfl) (gd_q (rg_of (by first | omega | (dsimp only; omega))) (it_q2 (by first | omega | (dsimp only; omega)) (bd_q g1 (nm_q (nm_q (gd_q (rg_of (by first | omega | (dsimp only; omega))) (gd_q (rg_of (by first | omega | (dsimp only; omega))) (it_q2 (by first | omega | (dsimp only; omega)) (rfl)))))))))))))
theorem reaX {N n c x k : Nat} {bt : bBT} {O : bO} {H : bH} {S P V : bS} {hs : Int} {f : Nat → Nat} {xx kk : Int} (hN : 60 ≤ N) (hC : CI S n) (hx : x < 12) (ex : xx = (x : Int)) (hD : OD S n (x : Int) f c) (h1 : 1 ≤ k) (h9 : k ≤ 9) (ek : kk = (k : Int)) : ∃ O' : bO, f_X7_reason N xx kk (bt, O, H, S, P, V, hs) = some (why c k (fa (shf S f) c k (S.2.2.1 7) (c + 1) 0), (bt, O', H, S, P, V, hs)) := by
  subst ek
  obtain ⟨O', g1, g3⟩ := fillX (N := N) (O := O) (by omega) hC hx ex hD
  have u1 := refC (N := N) (bt := bt) (H := H) (p := (P, V, hs)) (mm := (k : Int)) (by omega) hC hD g3 h1 (by omega) rfl
  refine ⟨O', ?_⟩
  unfold f_X7_reason
  exact (bd_q (isBinX hx ex) (gd_q (rg_of (by first | omega | (dsimp only; omega))) (it_q2 (by first | omega | (dsimp only; omega)) (bd_q (isWX h1 h9 rfl) (gd_q (rg_of (by first | omega | (dsimp only; omega))) (it_q2 (by first | omega | (dsimp only; omega)) (bd_q g1 (nm_q (nm_q (bd_q u1 (rfl)))))))))))
theorem spr_loop {N n c x k : Nat} {X : bX} {f : Nat → Nat} {m p nn : Nat → Int} {xx kk : Int} {kt : Int → Int → Int → Int → bLXmpn → Option (Int × bLXmpn)} (hN : 50 ≤ N) (hB : BR m p nn n) (hx : x < 12) (ex : xx = (x : Int)) (hO : OL m p n x f c) (hcn : c ≤ n) (h1 : 1 ≤ k) (h9 : k ≤ 9) (ek : kk = (k : Int)) : ∀ d i fu v, i + d = c → d < fu → (0 ≤ v ∧ v ≤ 9 ∨ v = -5 ∧ ¬ i + k ≤ c) → f_L_isSpread_L16 N kt fu xx kk v (if i < c then (f i : Int) else -5) (X, m, p, nn) = kt xx kk (nw (shm m f) c k (d + 1) i v) (-5) (X, m, p, nn) := by
  have hn20 := hB.2.1
  have hmono := shm_mono hO
  intro d
  induction d with
  | zero =>
    intro i fu v hi hf hv
    obtain ⟨fu, rfl⟩ : ∃ j, fu = j + 1 := ⟨fu - 1, by omega⟩
    rw [f_L_isSpread_L16, if_neg (show ¬ i < c by omega), nw_stop (show ¬ i + k ≤ c by omega)]
    exact (gd_q (rg_of (by first | omega | (dsimp only; omega))) (it_q1 (by first | omega | (dsimp only; omega)) (rfl)))
  | succ d ih =>
    intro i fu v hi hf hv
    obtain ⟨fu, rfl⟩ : ∃ j, fu = j + 1 := ⟨fu - 1, by omega⟩
    have hic : i < c := by omega
    have hfi := (hO.1 i hic).1
    have hdf := difG (N := N) (a := (f i : Int)) (mm := kk) hN hB hx ex hO hic h1 h9 rfl ek
    have hnx := nextK (N := N) (a := (f i : Int)) hN hB hx ex hO hic rfl
    rw [f_L_isSpread_L16, if_pos hic]
    refine (gd_q (rg_of (by first | omega | (dsimp only; omega))) (it_q2 (by first | omega | (dsimp only; omega)) (bd_q hdf (?_))))
    by_cases e : i + k ≤ c
    · have hs1 : 0 ≤ shm m f (i + k - 1) ∧ shm m f (i + k - 1) ≤ 9 := hB.2.2.1 _ (hO.1 (i + k - 1) (by omega)).1
      have hs2 : 0 ≤ shm m f i ∧ shm m f i ≤ 9 := hB.2.2.1 _ hfi
      have hmo := hmono i (i + k - 1) (by omega) (by omega)
      have hv' : 0 ≤ v ∧ v ≤ 9 := by
        rcases hv with h | h
        · exact h
        · exact absurd e h.2
      rw [if_pos e, nw, if_pos e]
      by_cases e2 : v ≤ shm m f (i + k - 1) - shm m f i
      · rw [if_neg (show ¬ shm m f (i + k - 1) - shm m f i < v by omega)]
        exact (gd_q (rg_of (by first | omega | (dsimp only; omega))) (jn2_q (it_q2 (by first | omega | (dsimp only; omega)) (gd_q (rg_of (by first | omega | (dsimp only; omega))) (it_q2 (by first | omega | (dsimp only; omega)) (it_q1 e2 (bd_q hnx (ih (i + 1) fu v (by omega) (by omega) (Or.inl hv')))))))))
      · rw [if_pos (show shm m f (i + k - 1) - shm m f i < v by omega)]
        exact (gd_q (rg_of (by first | omega | (dsimp only; omega))) (jn2_q (it_q2 (by first | omega | (dsimp only; omega)) (gd_q (rg_of (by first | omega | (dsimp only; omega))) (it_q2 (by first | omega | (dsimp only; omega)) (it_q2 e2 (bd_q hnx (ih (i + 1) fu _ (by omega) (by omega) (Or.inl (by omega))))))))))
    · have ih' := ih (i + 1) fu v (by omega) (by omega) (by
        rcases hv with h | h
        · exact Or.inl h
        · exact Or.inr ⟨h.1, by omega⟩)
      rw [nw_stop (show ¬ i + 1 + k ≤ c by omega)] at ih'
      rw [if_neg e, nw_stop e]
      exact (gd_q (rg_of (by first | omega | (dsimp only; omega))) (jn2_q (it_q1 (by first | omega | (dsimp only; omega)) (bd_q hnx (ih')))))
theorem nw_congr {s s' : Nat → Int} {c m : Nat} (hm : 1 ≤ m) (h : ∀ j, j < c → s j = s' j) : ∀ d k v, nw s c m d k v = nw s' c m d k v := by
  intro d
  induction d with
  | zero => intro k v; rfl
  | succ d ih =>
    intro k v
    rw [nw, nw]
    by_cases e : k + m ≤ c
    · rw [if_pos e, if_pos e, h _ (by omega), h k (by omega), ih]
    · rw [if_neg e, if_neg e]
theorem nw_why {s : Nat → Int} {c m : Nat} {sp : Int} (hm : 1 ≤ m) (e : m ≤ c) (h9 : s (0 + m - 1) - s 0 ≤ 9) : why c m (fa s c m sp (c + 1) 0) = if nw s c m (c + 1) 0 9 ≤ sp then 0 else 2 := by
  unfold why
  rw [if_pos e]
  cases ho : fa s c m sp (c + 1) 0 with
  | some k =>
    have h := fa_some _ _ _ ho
    have h2 := nw_all (s := s) (c := c) hm (c + 1) 0 9 (by omega) k (by omega) h.2.1
    rw [if_pos (by omega)]
  | none =>
    have h := fa_none hm _ _ (by omega) ho
    have h0 := h 0 (by omega) (by omega)
    rw [if_neg]
    intro h2
    rw [nw, if_pos (show 0 + m ≤ c by omega)] at h2
    have e0 : (if s (0 + m - 1) - s 0 < 9 then s (0 + m - 1) - s 0 else 9) = s (0 + m - 1) - s 0 := by
      split <;> omega
    rw [e0] at h2
    rcases nw_is (s := s) (c := c) (m := m) c (0 + 1) (s (0 + m - 1) - s 0) with g | ⟨i, g1, g2, g3⟩
    · omega
    · have := h i (by omega) g2
      omega
theorem isSprG {N n x k : Nat} {bt : bBT} {O : bO} {H : bH} {S P V : bS} {hs : Int} {m p nn : Nat → Int} {xx kk : Int} (hN : 100 ≤ N) (hn20 : n ≤ 20) (hC : CI S n) (hGN : GN S nn n) (hM : GM S m n) (hP : GP S p n) (hx : x < 12) (ex : xx = (x : Int)) (h1 : 1 ≤ k) (h9 : k ≤ 9) (ek : kk = (k : Int)) : ∃ O' : bO, f_L_isSpread N xx kk ((bt, O, H, S, P, V, hs), m, p, nn) = some (1, ((bt, O', H, S, P, V, hs), m, p, nn)) := by
  have h40 := CI_40 hC
  obtain ⟨gn1, gn2, gn7, gn8⟩ := hGN
  have s7 := SI_rg hC.2.1 7 (by omega)
  have n7 : nn 7 = S.2.2.1 7 := gn1 7 (by omega)
  obtain ⟨-, f, c, -, hD, -⟩ := fill_eq (N := N) (O := O) (xx := (x : Int)) (by omega) hC hx rfl
  have hc := OD_c hD
  have hBR := BR_of hn20 hC gn7 hM hP
  have hO := OL_of (m := m) (p := p) hD (fun b hb => (hM b hb).2.1) (fun b hb => (hP b hb).2.1)
  have hsh : ∀ j, j < c → shm m f j = shf S f j := fun j hj => (hM _ (hD.1 j hj).1).2.1
  have hmy := OD_many hC hx hD
  have hin := inG (N := N) (qq := xx) (by omega) hn20 hC gn7 hP hx ex
  rw [hmy] at hin
  have hnx := nextO (N := N) (xx := xx) (by omega) hBR hx ex hO
  obtain ⟨O1, g1⟩ := lspX (N := N) (bt := bt) (O := O) (H := H) (P := P) (V := V) (hs := hs) (by omega) hC hx ex hD h1 h9 ek
  obtain ⟨O2, g2⟩ := reaX (N := N) (bt := bt) (O := O1) (H := H) (P := P) (V := V) (hs := hs) (by omega) hC hx ex hD h1 h9 ek
  refine ⟨O2, ?_⟩
  unfold f_L_isSpread
  refine bd_q hnx ?_
  by_cases e : k ≤ c
  · have hs1 := OD_sh hC hD (show 0 + k - 1 < c by omega)
    have hs2 := OD_sh hC hD (show 0 < c by omega)
    have hs3 := OD_le hD (show 0 ≤ 0 + k - 1 by omega) (show 0 + k - 1 < c by omega)
    rw [if_pos e] at g1
    rw [nw_why (s := shf S f) (sp := S.2.2.1 7) h1 e (by omega)] at g2
    have hb : rg (nw (shf S f) c k (c + 1) 0 9) = true := by
      have b1 := nw_le (s := shf S f) (c := c) (m := k) (c + 1) 0 9
      rcases nw_is (s := shf S f) (c := c) (m := k) (c + 1) 0 9 with g | ⟨i, i1, i2, i3⟩
      · rw [g]
        decide
      · have t1 := OD_sh hC hD (show i + k - 1 < c by omega)
        have t2 := OD_sh hC hD (show i < c by omega)
        rw [i3]
        exact (rg_of (by first | omega | (dsimp only; omega)))
    have hd0 : (if shf S f (0 + k - 1) - shf S f 0 < 9 then shf S f (0 + k - 1) - shf S f 0 else 9) = shf S f (0 + k - 1) - shf S f 0 := by
      split <;> omega
    obtain ⟨K, rfl⟩ : ∃ K, N = K + 1 := ⟨N - 1, by omega⟩
    rw [if_pos (show 0 < c by omega)] at hnx ⊢
    have hdf := difG (N := K + 1) (k := 0) (a := (f 0 : Int)) (mm := kk) (by omega) hBR hx ex hO (show 0 < c by omega) h1 h9 rfl ek
    rw [if_pos (show 0 + k ≤ c by omega), hsh _ (by omega), hsh 0 (by omega)] at hdf
    have hn1 := nextK (N := K + 1) (k := 0) (a := (f 0 : Int)) (by omega) hBR hx ex hO (show 0 < c by omega) rfl
    have hf0 := (hD.1 0 (by omega)).1
    rw [f_L_isSpread_L16]
    refine (gd_q (rg_of (by first | omega | (dsimp only; omega))) (it_q2 (by first | omega | (dsimp only; omega)) (bd_q hdf (gd_q (rg_of (by first | omega | (dsimp only; omega))) (jn2_q (it_q2 (by first | omega | (dsimp only; omega)) (gd_q (rg_of (by first | omega | (dsimp only; omega))) (it_q1 (by first | omega | (dsimp only; omega)) (bd_q hn1 (?_))))))))))
    refine Eq.trans (spr_loop (N := K + 1) (by omega) hBR hx ex hO hc h1 h9 ek (c - 1) (0 + 1) K _ (by omega) (by omega) (Or.inl (by omega))) ?_
    rw [nw_congr h1 hsh]
    have eN : nw (shf S f) c k (c - 1 + 1) (0 + 1) (shf S f (0 + k - 1) - shf S f 0) = nw (shf S f) c k (c + 1) 0 9 := by
      rw [show nw (shf S f) c k (c + 1) 0 9 = _ from nw.eq_2 .., if_pos (show 0 + k ≤ c by omega), hd0, show c - 1 + 1 = c by omega]
    rw [eN]
    refine (bd_q hin (gd_q (rg_of (by first | omega | (dsimp only; omega))) (gd_q (rg_of (by first | omega | (dsimp only; omega))) (jn2_q (it_q1 (by first | omega | (dsimp only; omega)) (gd_q hb (gd_q (by show rg (nn 7) = true; rw [n7]; exact (rg_of (by first | omega | (dsimp only; omega)))) (?_))))))))
    by_cases e7 : nw (shf S f) c k (c + 1) 0 9 ≤ S.2.2.1 7
    · rw [if_pos e7] at g2
      exact (it_q1 (by show _ ≤ nn 7; rw [n7]; exact e7) (bd_q g1 (nm_q (gd_q hb (gd_q hb (jn2_q (it_q1 rfl (bd_q g2 (nm_q (gd_q (rg_of (by first | omega | (dsimp only; omega))) (gd_q (rg_of (by first | omega | (dsimp only; omega))) (it_q1 rfl (gd_q (inb_of (by first | omega | (dsimp only; omega))) (rfl))))))))))))))
    · rw [if_neg e7] at g2
      exact (it_q2 (by show ¬ _ ≤ nn 7; rw [n7]; exact e7) (bd_q g1 (nm_q (gd_q hb (gd_q hb (jn2_q (it_q1 rfl (bd_q g2 (nm_q (gd_q (rg_of (by first | omega | (dsimp only; omega))) (gd_q (rg_of (by first | omega | (dsimp only; omega))) (it_q1 rfl (gd_q (inb_of (by first | omega | (dsimp only; omega))) (rfl))))))))))))))
  · rw [if_neg e] at g1
    have ew : why c k (fa (shf S f) c k (S.2.2.1 7) (c + 1) 0) = 1 := by
      unfold why
      rw [if_neg e]
    rw [ew] at g2
    refine Eq.trans (spr_loop (N := N) (by omega) hBR hx ex hO hc h1 h9 ek c 0 N (-5) (by omega) (by omega) (Or.inr ⟨rfl, by omega⟩)) ?_
    rw [nw_stop (show ¬ 0 + k ≤ c by omega)]
    exact (bd_q hin (gd_q (rg_of (by first | omega | (dsimp only; omega))) (gd_q (rg_of (by first | omega | (dsimp only; omega))) (jn2_q (it_q2 (by first | omega | (dsimp only; omega)) (bd_q g1 (nm_q (gd_q (show rg (-5) = true by decide) (gd_q (show rg (-5) = true by decide) (jn2_q (it_q1 rfl (bd_q g2 (nm_q (gd_q (rg_of (by first | omega | (dsimp only; omega))) (gd_q (rg_of (by first | omega | (dsimp only; omega))) (it_q1 rfl (gd_q (inb_of (by first | omega | (dsimp only; omega))) (rfl))))))))))))))))))
