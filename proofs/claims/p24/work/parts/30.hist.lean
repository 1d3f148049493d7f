/-! the history: remember beside record, taking back beside undo -/
def RS (z : bS) (r : Nat → Int) : Prop := ∃ n, CI z n ∧ R1 z r n
theorem CI_40 {z : bS} {n : Nat} (h : CI z n) : n ≤ 40 ∧ 0 ≤ z.2.1.2.2.2.2.1 0 ∧ z.2.1.2.2.2.2.1 0 ≤ 40 := by
  have h1 := h.1.2.1
  have h2 := PI_w h.2.2
  exact ⟨h1, h2.1, by omega⟩
theorem RS_row {z : bS} {r r' : Nat → Int} (h : RS z r) (e : ∀ j, j < 415 → r' j = r j) : RS z r' := by
  obtain ⟨n, hC, hR⟩ := h
  have := CI_40 hC
  exact ⟨n, hC, R1_row hR this.1 this.2.2 e⟩
theorem RS_cpy {a z : bS} {r r' : Nat → Int} (h : RS z r) (e : ∀ j, j < 415 → r' j = r j) : RS (cpyS a z) r' := by
  obtain ⟨n, hC, hR⟩ := RS_row h e
  have hs := cpyS_SEq (a := a) hC
  exact ⟨n, SEq_CI hs hC, SEq_R1 hs hR⟩
def nthS (h : bH) (j : Nat) : bS := match j with
  | 0 => h.2.1
  | 1 => h.2.2.1
  | 2 => h.2.2.2.1
  | _ => h.2.2.2.2
def HR (h : bH) (hi : Nat → Int) (st : Int) : Prop := ∃ c : Nat, c ≤ 4 ∧ h.1 = (c : Int) ∧ st = (c : Int) ∧ ∀ j, j < c → RS (nthS h j) (fun k => hi (415 * j + k))
def stS (h : bH) (v : Int) (j : Nat) (s : bS) : bH := match j with
  | 0 => (v, s, h.2.2)
  | 1 => (v, h.2.1, s, h.2.2.2)
  | 2 => (v, h.2.1, h.2.2.1, s, h.2.2.2.2)
  | _ => (v, h.2.1, h.2.2.1, h.2.2.2.1, s)
theorem HR_push {h : bH} {hi hi' r : Nat → Int} {c : Nat} {z a : bS} (hc : c < 4) (hH : ∀ j, j < c → RS (nthS h j) (fun k => hi (415 * j + k))) (hz : RS z r) (h1 : ∀ j, j < 415 → hi' (415 * c + j) = r j) (h2 : ∀ j, j < 415 * c → hi' j = hi j) : HR (stS h ((c : Int) + 1) c (cpyS a z)) hi' ((c : Int) + 1) := by
  have hnew : RS (cpyS a z) (fun k => hi' (415 * c + k)) := RS_cpy hz h1
  have hold : ∀ j, j < c → RS (nthS h j) (fun k => hi' (415 * j + k)) := fun j hj => RS_row (hH j hj) (fun k hk => h2 _ (by omega))
  refine ⟨c + 1, by omega, ?_, by omega, fun j hj => ?_⟩
  · match c, hc with
    | 0, _ => rfl
    | 1, _ => rfl
    | 2, _ => rfl
    | 3, _ => rfl
    | c + 4, hc => exact absurd hc (by omega)
  · by_cases e : j = c
    · subst e
      match j, hc with
      | 0, _ => exact hnew
      | 1, _ => exact hnew
      | 2, _ => exact hnew
      | 3, _ => exact hnew
      | c + 4, hc => exact absurd hc (by omega)
    · have hj' : j < c := by omega
      have := hold j hj'
      match c, hc, j, hj' with
      | 0, _, _, hj' => exact absurd hj' (by omega)
      | 1, _, 0, _ => exact this
      | 1, _, j + 1, hj' => exact absurd hj' (by omega)
      | 2, _, 0, _ => exact this
      | 2, _, 1, _ => exact this
      | 2, _, j + 2, hj' => exact absurd hj' (by omega)
      | 3, _, 0, _ => exact this
      | 3, _, 1, _ => exact this
      | 3, _, 2, _ => exact this
      | 3, _, j + 3, hj' => exact absurd hj' (by omega)
      | c + 4, hc, _, _ => exact absurd hc (by omega)
theorem remC_lt {h : bH} {c n : Nat} {z : bS} (hc : c < 4) (h1 : h.1 = (c : Int)) (hC : CI z n) : f_X2_remember (h, z) = some (stS h ((c : Int) + 1) c (cpyS (nthS h c) z), z) := by
  obtain ⟨h0, S0, S1, S2, S3⟩ := h
  dsimp only at h1
  subst h1
  unfold f_X2_remember
  dsimp only
  refine gd_q (rg_of (by omega)) ?_
  refine it_q1 (by omega) ?_
  match c, hc with
  | 0, _ => exact it_q1 (by omega) (bd_q (copyFrom_eq hC) rfl)
  | 1, _ => exact it_q2 (by omega) (it_q1 (by omega) (bd_q (copyFrom_eq hC) rfl))
  | 2, _ => exact it_q2 (by omega) (it_q2 (by omega) (it_q1 (by omega) (bd_q (copyFrom_eq hC) rfl)))
  | 3, _ => exact it_q2 (by omega) (it_q2 (by omega) (it_q2 (by omega) (it_q1 (by omega) (bd_q (copyFrom_eq hC) rfl))))
  | c + 4, hc => exact absurd hc (by omega)
theorem remC_4 {S0 S1 S2 S3 : bS} {n : Nat} {z : bS} (hC : CI z n) : f_X2_remember ((4, S0, S1, S2, S3), z) = some ((4, S1, S2, S3, cpyS S0 z), z) := by
  unfold f_X2_remember
  dsimp only
  refine gd_q (by decide) ?_
  refine it_q2 (by decide) ?_
  refine bd_q (a := (3, S1, S2, S3, S0)) rfl ?_
  refine nm_q ?_
  dsimp only
  exact it_q2 (by decide) (it_q2 (by decide) (it_q2 (by decide) (it_q1 (by decide) (bd_q (copyFrom_eq hC) rfl))))
theorem rem_eq {N : Nat} {h : bH} {z : bS} {r hi : Nat → Int} {st : Int} {t : (Nat → Int) × Int × (Nat → Int) × (Nat → Int) × Int × (Nat → Int) × Int × Int × Int × (Nat → Int)} (hN : 1300 ≤ N) (hH : HR h hi st) (hz : RS z r) : ∃ h' hi' st', f_X2_remember (h, z) = some (h', z) ∧ f_X8_record N (r, hi, st, t) = some (r, hi', st', t) ∧ HR h' hi' st' := by
  obtain ⟨c, hc, e1, e2, hj⟩ := hH
  obtain ⟨n, hC, hR⟩ := hz
  subst e2
  by_cases hc4 : c < 4
  · obtain ⟨hi', g1, g2, g3⟩ := rec_loop N r c hc4 t 415 0 (by omega) N hi (by omega) (fun j hj => absurd hj (by omega))
    refine ⟨_, hi', (c : Int) + 1, remC_lt hc4 e1 hC, ?_, HR_push hc4 hj ⟨n, hC, hR⟩ g2 g3⟩
    unfold f_X8_record
    refine gd_q (rg_of (by dsimp only; omega)) ?_
    exact it_q2 (by dsimp only; omega) g1
  · have ec : c = 4 := by omega
    subst ec
    obtain ⟨h0, S0, S1, S2, S3⟩ := h
    dsimp only at e1
    subst e1
    obtain ⟨hi1, d1, d2⟩ := drop_loop N r 4 t hi 1245 0 (by omega) N hi (by omega) (fun j hj => absurd hj (by omega)) (fun j hj => rfl)
    obtain ⟨hi', g1, g2, g3⟩ := rec_loop N r 3 (by omega) t 415 0 (by omega) N hi1 (by omega) (fun j hj => absurd hj (by omega))
    have hp := HR_push (h := (3, S1, S2, S3, S0)) (hi := hi1) (c := 3) (a := S0) (by omega) (fun j hj' => by
      have := hj (j + 1) (by omega)
      have e3 : nthS (3, S1, S2, S3, S0) j = nthS (((4 : Nat) : Int), S0, S1, S2, S3) (j + 1) := by
        match j, hj' with
        | 0, _ => rfl
        | 1, _ => rfl
        | 2, _ => rfl
        | j + 3, hj' => exact absurd hj' (by omega)
      rw [e3]
      refine RS_row this (fun k hk => ?_)
      rw [d2 _ (by omega)]
      congr 1
      omega) ⟨n, hC, hR⟩ g2 g3
    refine ⟨_, hi', 4, remC_4 hC, ?_, hp⟩
    unfold f_X8_record
    refine gd_q (rg_of (by dsimp only; omega)) ?_
    refine it_q1 rfl ?_
    exact d1.trans g1
theorem takeBack_eq {h : bH} {z : bS} {hi : Nat → Int} {st : Int} (hH : HR h hi st) (h0 : 0 < h.1) : ∃ (c : Nat) (a : bS), c < 4 ∧ st = (c : Int) + 1 ∧ f_X2_takeBack (h, z) = some (1, (((c : Int), h.2), cpyS z a)) ∧ RS a (fun k => hi (415 * c + k)) ∧ HR ((c : Int), h.2) hi (c : Int) := by
  obtain ⟨c, hc, e1, e2, hj⟩ := hH
  obtain ⟨k, rfl⟩ : ∃ k, c = k + 1 := ⟨c - 1, by omega⟩
  obtain ⟨n, hC, hR⟩ := hj k (by omega)
  refine ⟨k, nthS h k, by omega, by omega, ?_, ⟨n, hC, hR⟩, k, by omega, rfl, rfl, fun j hjk => ?_⟩
  · obtain ⟨hv, S0, S1, S2, S3⟩ := h
    dsimp only at e1
    subst e1
    unfold f_X2_takeBack
    dsimp only
    refine gd_q (rg_of (by omega)) ?_
    refine it_q1 (by omega) ?_
    refine nm_q ?_
    dsimp only
    have ek : ((k + 1 : Nat) : Int) - 1 = (k : Int) := by omega
    rw [ek]
    have hk : k < 4 := by omega
    clear hj hc
    match k, hk, hC with
    | 0, _, hC => exact it_q1 (by omega) (bd_q (copyFrom_eq hC) rfl)
    | 1, _, hC => exact it_q2 (by omega) (it_q1 (by omega) (bd_q (copyFrom_eq hC) rfl))
    | 2, _, hC => exact it_q2 (by omega) (it_q2 (by omega) (it_q1 (by omega) (bd_q (copyFrom_eq hC) rfl)))
    | 3, _, hC => exact it_q2 (by omega) (it_q2 (by omega) (it_q2 (by omega) (it_q1 (by omega) (bd_q (copyFrom_eq hC) rfl))))
    | c + 4, hc, _ => exact absurd hc (by omega)
  · have := hj j (by omega)
    have e3 : nthS ((k : Int), h.2) j = nthS h j := by
      match j with
      | 0 => rfl
      | 1 => rfl
      | 2 => rfl
      | j + 3 => rfl
    rw [e3]
    exact this
