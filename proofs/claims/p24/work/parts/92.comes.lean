/-! p24: buttons come, in class and law -/
theorem nm_y {α β : Type} {x y : α} {f : α → Option β} {r : Option β} (e : x = y) (h : f y = r) : nm x f = r := by
  subst e
  exact h
theorem ifJ {β σ : Type} {c : Prop} [Decidable c] {K : Int → σ → Option β} {a b : Int} {s : σ} : jn2 K (fun j => if c then (j a s) else (j b s)) = K (if c then a else b) s := by
  refine jn2_q ?_
  by_cases e : c
  · rw [if_pos e, if_pos e]
  · rw [if_neg e, if_neg e]
theorem lowJ {β σ : Type} {c : Prop} [Decidable c] {K : Int → σ → Option β} {a : Int} {s : σ} : jn2 K (fun j => if c then (bd (f_L_low a 10) fun u => j u s) else (bd (f_L_low a 3) fun u => j u s)) = K (if c then lowV a 10 else lowV a 3) s := by
  refine jn2_q ?_
  by_cases e : c
  · rw [if_pos e, if_pos e]
    exact bd_q (lowG (k := 10) rfl (by omega) (by omega)) rfl
  · rw [if_neg e, if_neg e]
    exact bd_q (lowG (k := 3) rfl (by omega) (by omega)) rfl
theorem low0J {β σ : Type} {c : Prop} [Decidable c] {K : Int → σ → Option β} {a : Int} {s : σ} : jn2 K (fun j => if c then (bd (f_L_low a 10) fun u => j u s) else (j 0 s)) = K (if c then lowV a 10 else 0) s := by
  refine jn2_q ?_
  by_cases e : c
  · rw [if_pos e, if_pos e]
    exact bd_q (lowG (k := 10) rfl (by omega) (by omega)) rfl
  · rw [if_neg e, if_neg e]
theorem chD {d : Int} (h : 0 ≤ d ∧ d ≤ 9) : chI (48 + d) = 48 + d := by
  rcases (show d = 0 ∨ d = 1 ∨ d = 2 ∨ d = 3 ∨ d = 4 ∨ d = 5 ∨ d = 6 ∨ d = 7 ∨ d = 8 ∨ d = 9 by omega) with rfl | rfl | rfl | rfl | rfl | rfl | rfl | rfl | rfl | rfl <;> decide +kernel
theorem tdG {B : bB} {s : Nat → Int} {L : Nat} {r : bO × bH × bS × bS × bS × Int} {c d al : Int} (hL : L + 2 ≤ 60) (hc : 0 ≤ c ∧ c < 65536) (hd : 0 ≤ d ∧ d ≤ 9) (ha : rg al = true) : ∃ (t : Int) (s' : Nat → Int) (q : Nat), f_L_typesDigit c d al ((B, s, (L : Int)), r) = some (t, ((B, s', (q : Int)), r)) ∧ PRT s' L q c d ∧ L ≤ q ∧ q ≤ L + 2 ∧ ∀ j, j < L → s' j = s j := by
  have h1 := typX (B := B) (s := s) (L := L) (r := r) (c := c) (l := (L : Int)) rfl (by omega) hc
  have h2 := typX (B := B) (s := up s L c) (L := L + 1) (r := r) (c := 48 + d) (l := ((L + 1 : Nat) : Int)) rfl (by omega) (by omega)
  have hch := chD hd
  rw [← hch] at h2
  unfold f_L_typesDigit
  by_cases e : 0 < d
  · refine ⟨_, _, L + 2, (gd_q (rg_of (by first | omega | (dsimp only; omega))) (jn2_q (it_q1 e (bd_q h1 (nm_q (jn2_q (it_q1 e (bd_q h2 (nm_q (rfl)))))))))), Or.inr ⟨?_, ?_, rfl⟩, by omega, by omega, fun j hj => ?_⟩
    · rw [up_n _ _ (by omega), up_s]
    · rw [up_s, hch]
    · rw [up_n _ _ (by omega), up_n _ _ (by omega)]
  · by_cases e2 : al = 0
    · exact ⟨0, s, L, (gd_q (rg_of (by first | omega | (dsimp only; omega))) (jn2_q (it_q2 e (gd_q ha (it_q1 e2 (jn2_q (it_q2 e (gd_q ha (it_q1 e2 (rfl)))))))))), Or.inl ⟨by omega, rfl⟩, by omega, by omega, fun j hj => rfl⟩
    · refine ⟨_, _, L + 2, (gd_q (rg_of (by first | omega | (dsimp only; omega))) (jn2_q (it_q2 e (gd_q ha (it_q2 e2 (bd_q h1 (nm_q (jn2_q (it_q2 e (gd_q ha (it_q2 e2 (bd_q h2 (nm_q (rfl)))))))))))))), Or.inr ⟨?_, ?_, rfl⟩, by omega, by omega, fun j hj => ?_⟩
      · rw [up_n _ _ (by omega), up_s]
      · rw [up_s, hch]
      · rw [up_n _ _ (by omega), up_n _ _ (by omega)]
theorem cmJ {σ β : Type} {B : bB} {s : Nat → Int} {L i : Nat} {r : bO × bH × bS × bS × bS × Int} {y : σ} {v9 v10 : Int} (hL : L < 60) (ei : v10 = (i : Int)) : ∃ (t : Int) (s' : Nat → Int) (L' : Nat), (∀ K : Int → (bX × σ) → Option β, jn2 K (fun j76 => if v10 ≤ 0 then (j76 v9 (((B, s, (L : Int)), r), y)) else (bd (f_X7_type 44 ((B, s, (L : Int)), r)) fun u137 => nm (u137.2, y) fun s139 => j76 u137.1 s139)) = K t (((B, s', (L' : Int)), r), y)) ∧ L ≤ L' ∧ L' ≤ L + 1 ∧ (∀ j, j < L → s' j = s j) ∧ (i = 0 → L' = L) ∧ (0 < i → L' = L + 1 ∧ s' L = 44) := by
  subst ei
  by_cases e : i = 0
  · exact ⟨v9, s, L, fun K => (jn2_q (it_q1 (by first | omega | (dsimp only; omega)) (rfl))), by omega, by omega, fun j hj => rfl, fun _ => rfl, fun h => absurd h (by omega)⟩
  · have h1 := typX (B := B) (s := s) (L := L) (r := r) (c := 44) (l := (L : Int)) rfl hL (by omega)
    refine ⟨_, _, L + 1, fun K => (jn2_q (it_q2 (by first | omega | (dsimp only; omega)) (bd_q h1 (nm_q (rfl))))), by omega, by omega, fun j hj => ?_, fun h => absurd h e, fun _ => ⟨rfl, ?_⟩⟩
    · rw [up_n _ _ (by omega)]
    · rw [up_s]
theorem tnJ {σ β : Type} {B : bB} {s : Nat → Int} {L : Nat} {r : bO × bH × bS × bS × bS × Int} {y : σ} {v z : Int} (hL : L < 60) (hz : 1 ≤ z ∧ z ≤ 30) : ∃ (t : Int) (s' : Nat → Int) (L' : Nat), (∀ K : Int → (bX × σ) → Option β, jn2 K (fun j89 => if z ≤ 9 then (j89 v (((B, s, (L : Int)), r), y)) else (bd (f_X7_type (chI (48 + (dvI z 10))) ((B, s, (L : Int)), r)) fun u132 => nm (u132.2, y) fun s134 => j89 u132.1 s134)) = K t (((B, s', (L' : Int)), r), y)) ∧ (∀ j, j < L → s' j = s j) ∧ (z ≤ 9 ∧ L' = L ∨ 9 < z ∧ L' = L + 1 ∧ s' L = 48 + z / 10) := by
  by_cases e : z ≤ 9
  · exact ⟨v, s, L, fun K => (jn2_q (it_q1 e (rfl))), fun j hj => rfl, Or.inl ⟨e, rfl⟩⟩
  · have hd := dvN2 (x := z.toNat) (k := 10) (y := z) (w := 10) (by omega) rfl (by omega) (by omega) (by omega)
    have hd2 : dvI z 10 = z / 10 := by omega
    have hch := chD (d := z / 10) (by omega)
    have h1 := typX (B := B) (s := s) (L := L) (r := r) (c := 48 + z / 10) (l := (L : Int)) rfl hL (by omega)
    rw [← hch, ← hd2] at h1
    refine ⟨_, _, L + 1, fun K => (jn2_q (it_q2 e (bd_q h1 (nm_q (rfl))))), fun j hj => ?_, Or.inr ⟨by omega, rfl, ?_⟩⟩
    · rw [up_n _ _ (by omega)]
    · rw [up_s, hd2, hch]
def yV (x : Int) (i : Nat) : Int := srI x (3 * (i : Int))
def hV (x : Int) (i : Nat) : Int := 1 + dvI (lowV (yV x i) 4) 2
def zV (x : Int) (i : Nat) : Int := 1 + lowV (srI (yV x i) 2) (if lowV (srI (yV x i) 9) 2 = 0 then 30 else 16)
def rV (x : Int) (i : Nat) : Int := if lowV (srI (yV x i) 4) 3 = 0 then lowV (srI (yV x i) 6) 10 else 0
def kV (x : Int) (i : Nat) : Int := if lowV (srI (yV x i) 5) 4 = 0 then lowV (srI (yV x i) 7) 10 else lowV (srI (yV x i) 7) 3
def dV (x : Int) (i : Nat) : Int := lowV (srI (yV x i) 8) 10
theorem low30 {a : Int} {c : Prop} [Decidable c] : f_L_low a (if c then 30 else 16) = some (lowV a (if c then 30 else 16)) ∧ 0 ≤ lowV a (if c then 30 else 16) ∧ lowV a (if c then 30 else 16) < 30 := by
  by_cases e : c
  · rw [if_pos e]
    have := lowV_rg (x := a) (n := 30) (k := 30) rfl (by omega) (by omega)
    exact ⟨lowG (k := 30) rfl (by omega) (by omega), by omega, by omega⟩
  · rw [if_neg e]
    have := lowV_rg (x := a) (n := 16) (k := 16) rfl (by omega) (by omega)
    exact ⟨lowG (k := 16) rfl (by omega) (by omega), by omega, by omega⟩
theorem B5V (x : Int) (i : Nat) : B5 (hV x) (zV x) (rV x) (kV x) (dV x) i := by
  have a1 := lowV_rg (x := yV x i) (n := 4) (k := 4) rfl (by omega) (by omega)
  have a2 := dvN2 (x := (lowV (yV x i) 4).toNat) (k := 2) (y := lowV (yV x i) 4) (w := 2) (by omega) rfl (by omega) (by omega) (by omega)
  have a3 := (low30 (a := srI (yV x i) 2) (c := lowV (srI (yV x i) 9) 2 = 0)).2
  have a4 := lowV_rg (x := srI (yV x i) 6) (n := 10) (k := 10) rfl (by omega) (by omega)
  have a5 := lowV_rg (x := srI (yV x i) 7) (n := 10) (k := 10) rfl (by omega) (by omega)
  have a6 := lowV_rg (x := srI (yV x i) 7) (n := 3) (k := 3) rfl (by omega) (by omega)
  have a7 := lowV_rg (x := srI (yV x i) 8) (n := 10) (k := 10) rfl (by omega) (by omega)
  refine ⟨?_, ?_, ?_, ?_, ?_⟩
  · unfold hV
    omega
  · unfold zV
    omega
  · unfold rV
    split <;> omega
  · unfold kV
    split <;> omega
  · unfold dV
    omega
def cmZ (x : Int) (n W : Nat) (S : bS) : Nat → bS
  | 0 => S
  | i + 1 => cmS (n + i) (W + i) (hV x i) (zV x i) (rV x i) (kV x i) (dV x i) (cmZ x n W S i)
theorem cmZ_0 {x : Int} {n W : Nat} {S : bS} (hW : S.2.1.2.2.2.2.1 0 = (W : Int)) : ∀ i, (cmZ x n W S i).2.1.2.2.2.2.1 0 = ((W + i : Nat) : Int) := by
  intro i
  induction i with
  | zero => exact hW
  | succ i ih =>
    show up (cmZ x n W S i).2.1.2.2.2.2.1 0 ((cmZ x n W S i).2.1.2.2.2.2.1 0 + 1) 0 = _
    rw [up_s, ih]
    omega
theorem cmZ_CI {x : Int} {n W : Nat} {S : bS} (hC : CI S n) (hW : S.2.1.2.2.2.2.1 0 = (W : Int)) : ∀ i, n + i ≤ 20 → CI (cmZ x n W S i) (n + i) := by
  intro i
  induction i with
  | zero => intro _; exact hC
  | succ i ih =>
    intro hi
    obtain ⟨b1, b2, b3, b4, b5⟩ := B5V x i
    exact cm_CI (ih (by omega)) (by omega) (cmZ_0 hW i) b1 b2 b3 b4 b5
theorem cmG {z : bS} {g m p w nn : Nat → Int} {k W : Nat} {a b c d e : Int} (h : GB z g m p w nn k) (hw : z.2.1.2.2.2.2.1 0 = (W : Int)) : GB (cmS k W a b c d e z) (up (up (up g (3 * k) a) (3 * k + 1) b) (3 * k + 2) c) (up (up (up m (3 * k) d) (3 * k + 1) e) (3 * k + 2) 0) (up (up (up p (3 * k) 0) (3 * k + 1) (-5)) (3 * k + 2) (-5)) (up w W (k : Int)) (up (up nn 13 (nn 13 + 1)) 14 (up nn 13 (nn 13 + 1) 14 + 1)) (k + 1) := by
  obtain ⟨⟨n1, ⟨n2, n3, n4, n5, n6⟩, n7, n8⟩, hG, hM, hP, hW⟩ := h
  have row : ∀ (f : Nat → Int) (u v t : Int) (x : Nat), x < k + 1 → up (up (up f (3 * k) u) (3 * k + 1) v) (3 * k + 2) t (3 * x) = (if x = k then u else f (3 * x)) ∧ up (up (up f (3 * k) u) (3 * k + 1) v) (3 * k + 2) t (3 * x + 1) = (if x = k then v else f (3 * x + 1)) ∧ up (up (up f (3 * k) u) (3 * k + 1) v) (3 * k + 2) t (3 * x + 2) = (if x = k then t else f (3 * x + 2)) := by
    intro f u v t x hx
    by_cases e : x = k
    · subst e
      rw [if_pos rfl, if_pos rfl, if_pos rfl]
      refine ⟨?_, ?_, ?_⟩
      · rw [up_n _ _ (by omega), up_n _ _ (by omega), up_s]
      · rw [up_n _ _ (by omega), up_s]
      · rw [up_s]
    · rw [if_neg e, if_neg e, if_neg e]
      refine ⟨?_, ?_, ?_⟩
      · rw [up_n _ _ (by omega), up_n _ _ (by omega), up_n _ _ (by omega)]
      · rw [up_n _ _ (by omega), up_n _ _ (by omega), up_n _ _ (by omega)]
      · rw [up_n _ _ (by omega), up_n _ _ (by omega), up_n _ _ (by omega)]
  refine ⟨⟨fun j hj => ?_, ⟨?_, ?_, ?_, ?_, ?_⟩, ?_, ?_⟩, fun x hx => ?_, fun x hx => ?_, fun x hx => ?_, fun j hj => ?_⟩
  · rw [up_n _ _ (by omega), up_n _ _ (by omega)]
    exact n1 j hj
  · rw [up_n _ _ (by omega), up_n _ _ (by omega)]
    exact n2
  · rw [up_n _ _ (by omega), up_n _ _ (by omega)]
    exact n3
  · rw [up_n _ _ (by omega), up_n _ _ (by omega)]
    exact n4
  · rw [up_n _ _ (by omega), up_n _ _ (by omega)]
    exact n5
  · rw [up_n _ _ (by omega), up_n _ _ (by omega)]
    exact n6
  · rw [up_n _ _ (by omega), up_s, n7]
    omega
  · show _ = up z.2.1.2.2.2.2.1 0 (z.2.1.2.2.2.2.1 0 + 1) 0
    rw [up_s, up_s, up_n _ _ (by omega), n8]
  · obtain ⟨r1, r2, r3⟩ := row g a b c x hx
    rw [r1, r2, r3]
    show _ = up z.1.1 k a x ∧ _ = up z.1.2.1 k b x ∧ _ = up z.1.2.2.1 k c x
    by_cases e : x = k
    · subst e
      rw [up_s, up_s, up_s, if_pos rfl, if_pos rfl, if_pos rfl]
      exact ⟨rfl, rfl, rfl⟩
    · rw [up_n _ _ e, up_n _ _ e, up_n _ _ e, if_neg e, if_neg e, if_neg e]
      exact hG x (by omega)
  · obtain ⟨r1, r2, r3⟩ := row m d e 0 x hx
    rw [r1, r2, r3]
    show _ = up z.1.2.2.2.1 k d x ∧ _ = up z.1.2.2.2.2.1 k e x ∧ _ = up z.1.2.2.2.2.2.1 k 0 x
    by_cases e : x = k
    · subst e
      rw [up_s, up_s, up_s, if_pos rfl, if_pos rfl, if_pos rfl]
      exact ⟨rfl, rfl, rfl⟩
    · rw [up_n _ _ e, up_n _ _ e, up_n _ _ e, if_neg e, if_neg e, if_neg e]
      exact hM x (by omega)
  · obtain ⟨r1, r2, r3⟩ := row p 0 (-5) (-5) x hx
    rw [r1, r2, r3]
    show _ = up z.2.1.1 k 0 x ∧ _ = up z.2.1.2.1 k (-5) x ∧ _ = up z.2.1.2.2.1 k (-5) x
    by_cases e : x = k
    · subst e
      rw [up_s, up_s, up_s, if_pos rfl, if_pos rfl, if_pos rfl]
      exact ⟨rfl, rfl, rfl⟩
    · rw [up_n _ _ e, up_n _ _ e, up_n _ _ e, if_neg e, if_neg e, if_neg e]
      exact hP x (by omega)
  · have hj' : (j : Int) < up z.2.1.2.2.2.2.1 0 (z.2.1.2.2.2.2.1 0 + 1) 0 := hj
    rw [up_s, hw] at hj'
    show up w W (k : Int) j = up z.2.1.2.2.2.1 W (k : Int) j
    by_cases e : j = W
    · subst e
      rw [up_s, up_s]
    · rw [up_n _ _ e, up_n _ _ e]
      exact hW j (by omega)
theorem cmL {z : bS} {k W : Nat} {a b c d e K : Int} (hK : 0 ≤ K) (h : LM z k K) : LM (cmS k W a b c d e z) (k + 1) K := by
  obtain ⟨k1, k2, k3, k4, k5, k6⟩ := h
  refine ⟨k1, k2, k3, k4, k5, fun x hx => ?_⟩
  show (0 ≤ up z.1.2.2.2.2.2.1 k 0 x ∧ up z.1.2.2.2.2.2.1 k 0 x ≤ K) ∧ (-5 ≤ up z.2.1.2.2.1 k (-5) x ∧ up z.2.1.2.2.1 k (-5) x ≤ K)
  by_cases e : x = k
  · subst e
    rw [up_s, up_s]
    omega
  · rw [up_n _ _ e, up_n _ _ e]
    exact k6 x (by omega)
theorem cmZ_LM {x K : Int} {n W : Nat} {S : bS} (hK : 0 ≤ K) (h : LM S n K) : ∀ i, LM (cmZ x n W S i) (n + i) K := by
  intro i
  induction i with
  | zero => exact h
  | succ i ih => exact cmL hK ih
theorem ENC_same {s s' : Nat → Int} {p q : Nat} {h z i c d : Int} (hE : ENC s p q h z i c d) (he : ∀ j, j < q → s' j = s j) : ENC s' p q h z i c d := by
  obtain ⟨a, b, e, e1, e2, e3, e4, e5, e6⟩ := hE
  have q6 : e ≤ q ∧ (PRT s' e q 115 d) := by
    rcases e6 with ⟨g1, g2⟩ | ⟨g1, g2, g3⟩
    · exact ⟨by omega, Or.inl ⟨g1, g2⟩⟩
    · exact ⟨by omega, Or.inr ⟨by rw [he _ (by omega)]; exact g1, by rw [he _ (by omega)]; exact g2, g3⟩⟩
  have q5 : b ≤ e ∧ (PRT s' b e 99 c) := by
    rcases e5 with ⟨g1, g2⟩ | ⟨g1, g2, g3⟩
    · exact ⟨by omega, Or.inl ⟨g1, g2⟩⟩
    · exact ⟨by omega, Or.inr ⟨by rw [he _ (by omega)]; exact g1, by rw [he _ (by omega)]; exact g2, g3⟩⟩
  have q4 : a ≤ b ∧ (PRT s' a b 105 i) := by
    rcases e4 with ⟨g1, g2⟩ | ⟨g1, g2, g3⟩
    · exact ⟨by omega, Or.inl ⟨g1, g2⟩⟩
    · exact ⟨by omega, Or.inr ⟨by rw [he _ (by omega)]; exact g1, by rw [he _ (by omega)]; exact g2, g3⟩⟩
  have q3 : p + 3 ≤ a ∧ SIZ s' (p + 2) a z := by
    rcases e3 with ⟨g0, g1, g2⟩ | ⟨g0, g1, g2, g3⟩
    · exact ⟨by omega, Or.inl ⟨g0, by rw [he _ (by omega)]; exact g1, g2⟩⟩
    · exact ⟨by omega, Or.inr ⟨g0, by rw [he _ (by omega)]; exact g1, by rw [he _ (by omega)]; exact g2, g3⟩⟩
  exact ⟨a, b, e, by rw [he _ (by omega)]; exact e1, by rw [he _ (by omega)]; exact e2, q3.2, q4.2, q5.2, q6.2⟩
theorem TE_more {s s' : Nat → Int} {L i P L' : Nat} {ps es : Nat → Nat} {h z r k d : Nat → Int} (hT : TE s L i ps es h z r k d) (he : ∀ j, j < L → s' j = s j) (h0 : i = 0 → P = L) (h1 : 0 < i → P = L + 1 ∧ s' L = 44) (hE : ENC s' P L' (h i) (z i) (r i) (k i) (d i)) (hP : P ≤ L') : TE s' L' (i + 1) (fun j => if j = i then P else ps j) (fun j => if j = i then L' else es j) h z r k d := by
  obtain ⟨t0, t1, t2, t3, t4⟩ := hT
  refine ⟨?_, fun j hj => ?_, fun j hj => ?_, fun h => absurd h (by omega), fun _ => ?_⟩
  · by_cases e : i = 0
    · subst e
      show (if 0 = 0 then P else ps 0) = 0
      rw [if_pos rfl, h0 rfl, t3 rfl]
    · show (if 0 = i then P else ps 0) = 0
      rw [if_neg (by omega), t0]
  · dsimp only
    by_cases e : j = i
    · subst e
      rw [if_pos rfl, if_pos rfl]
      exact ⟨hE, Nat.le_refl _⟩
    · rw [if_neg e, if_neg e]
      have hj1 := t1 j (by omega)
      have hPL : L ≤ P := by
        by_cases e0 : i = 0
        · omega
        · have := h1 (by omega)
          omega
      exact ⟨ENC_same hj1.1 (fun j' hj' => he j' (by omega)), by omega⟩
  · dsimp only
    have h1' := h1 (by omega)
    by_cases e : j + 1 = i
    · rw [if_neg (show ¬ j = i by omega), if_pos e]
      have h4 := t4 (by omega)
      rw [show i - 1 = j by omega] at h4
      rw [h4]
      exact ⟨h1'.2, h1'.1, by omega⟩
    · rw [if_neg (show ¬ j = i by omega), if_neg e]
      obtain ⟨g1, g2, g3⟩ := t2 j (by omega)
      exact ⟨by rw [he _ g3]; exact g1, g2, by omega⟩
  · show (if i + 1 - 1 = i then L' else _) = L'
    rw [if_pos (by omega)]
