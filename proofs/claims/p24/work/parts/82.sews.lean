/-! p24: a shirt is made, in class and law -/
theorem fa_congr {s s' : Nat → Int} {c m : Nat} {sp : Int} (hm : 1 ≤ m) (h : ∀ j, j < c → s j = s' j) : ∀ d k, fa s c m sp d k = fa s' c m sp d k := by
  intro d
  induction d with
  | zero => intro k; rfl
  | succ d ih =>
    intro k
    rw [fa, fa]
    by_cases e : k + m ≤ c
    · rw [if_pos e, if_pos e, h _ (by omega), h k (by omega), ih]
    · rw [if_neg e, if_neg e]
theorem BR_of {z : bS} {m p nn : Nat → Int} {n : Nat} (hn20 : n ≤ 20) (hC : CI z n) (hn : nn 13 = (n : Int)) (hM : GM z m n) (hP : GP z p n) : BR m p nn n := by
  refine ⟨hn, hn20, fun b hb => ?_, fun b hb => ?_⟩
  · rw [(hM b hb).2.1]
    exact (CI_b hC hb).2.2.2.2
  · have := GP_rg hC hP hb
    exact ⟨this.1, this.2.1, this.2.2.1, this.2.2.2.1, this.2.2.2.2.1⟩
/-- a row that says what the state says -/
def crow (z : bS) (n : Nat) : Nat → Int := fun j => if j < 8 then z.2.2.1 j else if j = 8 then z.2.2.2.1 else if j = 9 then z.2.2.2.2.1 else if j = 10 then z.2.2.2.2.2.1 else if j = 11 then z.2.2.2.2.2.2.1 else if j = 12 then z.2.2.2.2.2.2.2 else if j = 13 then (n : Int) else if j = 14 then z.2.1.2.2.2.2.1 0 else if j < 55 then z.2.1.2.2.2.1 (j - 15) else fld z ((j - 55) % 9) ((j - 55) / 9)
theorem crow_R {z : bS} {n : Nat} (hw : z.2.1.2.2.2.2.1 0 ≤ 40) : R1 z (crow z n) n := by
  refine ⟨⟨fun k hk => ?_, ⟨rfl, rfl, rfl, rfl, rfl⟩, rfl, rfl, fun k hk => ?_⟩, fun b k hb hk => ?_⟩
  · unfold crow
    rw [if_pos hk]
  · unfold crow
    rw [if_neg (by omega), if_neg (by omega), if_neg (by omega), if_neg (by omega), if_neg (by omega), if_neg (by omega), if_neg (by omega), if_neg (by omega), if_pos (by omega), show 15 + k - 15 = k by omega]
  · unfold crow
    rw [if_neg (by omega), if_neg (by omega), if_neg (by omega), if_neg (by omega), if_neg (by omega), if_neg (by omega), if_neg (by omega), if_neg (by omega), if_neg (by omega)]
    rw [show (55 + 9 * b + k - 55) % 9 = k by omega, show (55 + 9 * b + k - 55) / 9 = b by omega]
def MG (z : bS) (n x : Nat) (f : Nat → Nat) (c k i : Nat) (zi : bS) (pi : Nat → Int) : Prop := CI zi n ∧ GP zi pi n ∧ zi.1 = z.1 ∧ zi.2.2 = z.2.2 ∧ (∀ b, (∀ j, j < i → f (k + j) ≠ b) → zi.2.1.2.1 b = z.2.1.2.1 b) ∧ (∀ j, j < i → zi.2.1.2.1 (f (k + j)) = -5) ∧ cnt n zi.2.1.2.1 (x : Int) = (c : Int) - (i : Int) ∧ zi.2.1.2.2.2.1 = z.2.1.2.2.2.1 ∧ zi.2.1.2.2.2.2.1 0 = z.2.1.2.2.2.2.1 0 ∧ ∀ b, zi.2.1.2.2.1 b = z.2.1.2.2.1 b ∨ zi.2.1.2.2.1 b = z.2.2.2.1
theorem MG_0 {z : bS} {n x c k : Nat} {f : Nat → Nat} {p : Nat → Int} (hC : CI z n) (hP : GP z p n) (hD : OD z n (x : Int) f c) : MG z n x f c k 0 z p := ⟨hC, hP, rfl, rfl, fun _ _ => rfl, fun j hj => absurd hj (by omega), by rw [← hD.2.2.2]; omega, rfl, rfl, fun _ => Or.inl rfl⟩
theorem sews_loop {N n x c k mm : Nat} {z : bS} {f : Nat → Nat} {O : bO} {m nn : Nat → Int} {xx : Int} {kt : Int → Int → Int → Int → Int → bLmpn → Option (Int × bLmpn)} (hN : 60 ≤ N) (hn20 : n ≤ 20) (hD : OD z n (x : Int) f c) (hx : x < 12) (ex : xx = (x : Int)) (hA : OA O z f c) (hnn : nn 13 = (n : Int)) (h8 : nn 8 = z.2.2.2.1) (hM : GM z m n) (hkm : k + mm ≤ c) (hm9 : mm ≤ 9) : ∀ d i, i + d = mm → ∀ (zi : bS) (pi : Nat → Int) (w : Int) (fu fu' : Nat), MG z n x f c k i zi pi → -(9 * (i : Int)) ≤ w → w ≤ 9 * (i : Int) → d < fu → d < fu' → ∃ (wf : Int) (z' : bS) (p' : Nat → Int) (at' : Int), f_X5_makeShirt_L6 N fu (k : Int) (mm : Int) w (i : Int) (zi, O) = some ((if wf < 0 then 0 else wf), ((z'.1, z'.2.1, z'.2.2.1, z'.2.2.2.1 + 1, z'.2.2.2.2.1 + (if wf < 0 then 0 else wf), z'.2.2.2.2.2), O)) ∧ f_L_sews_L17 N kt fu' xx (mm : Int) (if k + i < c then (f (k + i) : Int) else -5) w (i : Int) (m, pi, nn) = kt xx (mm : Int) at' wf (mm : Int) (m, p', nn) ∧ MG z n x f c k mm z' p' ∧ -81 ≤ wf ∧ wf ≤ 81 := by
  have hc := OD_c hD
  intro d
  induction d with
  | zero =>
    intro i hi' zi pi w fu fu' hG hw1 hw2 hf hf'
    obtain ⟨fu, rfl⟩ : ∃ j, fu = j + 1 := ⟨fu - 1, by omega⟩
    obtain ⟨fu', rfl⟩ : ∃ j, fu' = j + 1 := ⟨fu' - 1, by omega⟩
    obtain rfl : i = mm := by omega
    refine ⟨w, zi, pi, (if k + i < c then (f (k + i) : Int) else -5), ?_, ?_, hG, by omega, by omega⟩
    · rw [f_X5_makeShirt_L6]
      exact (gd_q (rg_of (by first | omega | (dsimp only; omega))) (gd_q (rg_of (by first | omega | (dsimp only; omega))) (it_q1 (by first | omega | (dsimp only; omega)) (gd_q (rg_of (by first | omega | (dsimp only; omega))) (nm_q (nm_q (nm_q (rfl))))))))
    · rw [f_L_sews_L17]
      exact (gd_q (rg_of (by first | omega | (dsimp only; omega))) (gd_q (rg_of (by first | omega | (dsimp only; omega))) (it_q1 (by first | omega | (dsimp only; omega)) (rfl))))
  | succ d ih =>
    intro i hi' zi pi w fu fu' hG hw1 hw2 hf hf'
    obtain ⟨fu, rfl⟩ : ∃ j, fu = j + 1 := ⟨fu - 1, by omega⟩
    obtain ⟨fu', rfl⟩ : ∃ j, fu' = j + 1 := ⟨fu' - 1, by omega⟩
    obtain ⟨m1, m2, m3, m4, m5, m6, m7, m8, m9, m10⟩ := hG
    have h40 := CI_40 m1
    have hki : k + i < c := by omega
    obtain ⟨b, hbe⟩ : ∃ b, b = f (k + i) := ⟨_, rfl⟩
    have hb : b < n := by rw [hbe]; exact (hD.1 _ hki).1
    have hnew : ∀ j, j < i → f (k + j) ≠ b := fun j hj e => by
      have := OD_inj hD (show k + j < c by omega) hki (by rw [e, hbe])
      omega
    have hbx : zi.2.1.2.1 b = (x : Int) := by
      rw [m5 b hnew, hbe]
      exact (hD.1 _ hki).2
    have hpb := bin_rg m1 hb
    obtain ⟨q1, q2, q3, q4, q5⟩ := CI_b m1 hb
    have h5 : zi.2.1.1 b = 5 := hpb.2.2.2.2.2 (by omega)
    have hL := leave_LI m1.2.2 hb (by omega)
    have hP := shirt_PI (v := zi.2.2.2.1) hL hb
    have hw0 : (leaveS b zi.2.1).2.2.2.2.1 0 = zi.2.1.2.2.2.2.1 0 := leave_at0 (by omega)
    have f4 : m (3 * b + 1) = zi.1.2.2.2.2.1 b := by rw [m3]; exact (hM b hb).2.1
    have f3 : m (3 * b) = zi.1.2.2.2.1 b := by rw [m3]; exact (hM b hb).1
    have hOb : O.1 (k + i) = (b : Int) := by rw [hbe]; exact (hA.2 _ hki).1
    have hz8 : nn 8 = zi.2.2.2.1 := by rw [m4]; exact h8
    have hMi : GM zi m n := fun b hb => by rw [m3]; exact hM b hb
    have hBR := BR_of hn20 m1 hnn hMi m2
    have hlo : ∀ j j', j < j' → j' < c → lo m (f j) (f j') := fun j j' h1 h2 => by
      have := hD.2.1 j j' h1 h2
      unfold lo
      rw [(hM _ (hD.1 j (by omega)).1).2.1, (hM _ (hD.1 j' h2).1).2.1]
      exact this
    have hnx : f_L_next N xx (b : Int) (m, pi, nn) = some (if k + i + 1 < c then (f (k + i + 1) : Int) else -5) := by
      refine nextJ (by omega) hBR hx ex (Or.inr ⟨b, rfl, hb⟩) (fun j hj => (hD.1 j hj).1) (fun b' hb' => ⟨fun h => ?_, fun h => ?_⟩) (fun j j' _ h1 h2 => hlo j j' h1 h2)
      · obtain ⟨h1, h2⟩ := h
        rw [(m2 b' hb').2.1] at h1
        have hnt : ∀ j, j < i → f (k + j) ≠ b' := fun j hj e => by
          have := m6 j hj
          rw [e, h1] at this
          omega
        rw [m5 b' hnt] at h1
        obtain ⟨j, j1, j2⟩ := hD.2.2.1 b' hb' h1
        refine ⟨j, ?_, j1, j2⟩
        rcases h2 with h2 | h2
        · omega
        · rw [tn, hbe, ← j2] at h2
          rcases Nat.lt_trichotomy j (k + i) with g | g | g
          · exact absurd (hlo j (k + i) g hki) (fun q => lo_as q h2)
          · subst g
            exact absurd h2 (fun q => lo_as q q)
          · omega
      · obtain ⟨j, j0, j1, j2⟩ := h
        refine ⟨?_, Or.inr ?_⟩
        · rw [(m2 b' hb').2.1, m5 b' (fun j' hj' e => by
            have := OD_inj hD (show k + j' < c by omega) j1 (by rw [e, j2])
            omega), ← j2]
          exact (hD.1 j j1).2
        · rw [tn, hbe, ← j2]
          exact hlo (k + i) j (by omega) j1
    have hMG : MG z n x f c k (i + 1) (zi.1, (up (leaveS b zi.2.1).1 b 6, up (leaveS b zi.2.1).2.1 b (-5), up (leaveS b zi.2.1).2.2.1 b zi.2.2.2.1, (leaveS b zi.2.1).2.2.2.1, up (leaveS b zi.2.1).2.2.2.2.1 6 ((leaveS b zi.2.1).2.2.2.2.1 6 + 1), (leaveS b zi.2.1).2.2.2.2.2), zi.2.2) (up (up (up pi (3 * b) 6) (3 * b + 1) (-5)) (3 * b + 2) (nn 8)) := by
      refine ⟨⟨m1.1, m1.2.1, hP⟩, fun b' hb' => ?_, m3, m4, fun b' hb' => ?_, fun j hj => ?_, ?_, m8, ?_, fun b' => ?_⟩
      · obtain ⟨e1, e2, e3⟩ := m2 b' hb'
        refine ⟨?_, ?_, ?_⟩
        · show up (up (up pi (3 * b) 6) (3 * b + 1) (-5)) (3 * b + 2) (nn 8) (3 * b') = up zi.2.1.1 b 6 b'
          rw [up_n _ _ (by omega), up_n _ _ (by omega), up30, e1]
          rfl
        · show up (up (up pi (3 * b) 6) (3 * b + 1) (-5)) (3 * b + 2) (nn 8) (3 * b' + 1) = up zi.2.1.2.1 b (-5) b'
          rw [up_n _ _ (by omega), up3 _ _ (by omega) (by omega), up_n _ _ (by omega), e2]
          simp only [up, and_true]
        · show up (up (up pi (3 * b) 6) (3 * b + 1) (-5)) (3 * b + 2) (nn 8) (3 * b' + 2) = up zi.2.1.2.2.1 b zi.2.2.2.1 b'
          rw [up3 _ _ (by omega) (by omega), up_n _ _ (by omega), up_n _ _ (by omega), e3, hz8]
          simp only [up, and_true]
      · show up zi.2.1.2.1 b (-5) b' = z.2.1.2.1 b'
        have := hb' i (by omega)
        rw [up_n _ _ (by rw [hbe]; exact fun h => this h.symm)]
        exact m5 b' (fun j hj => hb' j (by omega))
      · show up zi.2.1.2.1 b (-5) (f (k + j)) = -5
        by_cases e : j = i
        · subst e
          rw [← hbe, up_s]
        · rw [up_n _ _ (hnew j (by omega))]
          exact m6 j (by omega)
      · show cnt n (up zi.2.1.2.1 b (-5)) (x : Int) = (c : Int) - ((i + 1 : Nat) : Int)
        rw [cnt_up _ _ _ hb, if_pos hbx, if_neg (by omega), m7]
        omega
      · show up (leaveS b zi.2.1).2.2.2.2.1 6 ((leaveS b zi.2.1).2.2.2.2.1 6 + 1) 0 = z.2.1.2.2.2.2.1 0
        rw [up_n _ _ (by omega), hw0, m9]
      · show up zi.2.1.2.2.1 b zi.2.2.2.1 b' = _ ∨ up zi.2.1.2.2.1 b zi.2.2.2.1 b' = _
        by_cases eb : b' = b
        · subst eb
          rw [up_s, m4]
          exact Or.inr rfl
        · rw [up_n _ _ eb]
          exact m10 b'
    obtain ⟨wf, z', p', at', g1, g2, g3, g4⟩ := ih (i + 1) (by omega) _ _ (w + (zi.1.2.2.2.2.1 b - zi.1.2.2.2.1 b)) fu fu' hMG (by omega) (by omega) (by omega) (by omega)
    refine ⟨wf, z', p', at', ?_, ?_, g3, g4⟩
    · rw [f_X5_makeShirt_L6]
      refine (gd_q (rg_of (by first | omega | (dsimp only; omega))) (gd_q (rg_of (by first | omega | (dsimp only; omega))) (it_q2 (by first | omega | (dsimp only; omega)) (bd_q (numAt_1 (j := k + i) hA.1 (by omega) hki (by omega)) (nm_q (?_))))))
      dsimp only
      rw [hOb]
      refine (bd_q (has_1 (b := b) m1.1.1 h40.1 hb rfl) (nm_q (gd_q (rg_of (by first | omega | (dsimp only; omega))) (it_q2 (by first | omega | (dsimp only; omega)) (gd_q (inb_of (by first | omega | (dsimp only; omega))) (nm_q (?_)))))))
      dsimp only
      refine (bd_q (leave_eq (b := b) (by omega) rfl (by omega) (by omega)) (nm_q (bd_q (bringToShirt_eq (b := b) (by omega) rfl) (nm_q (?_)))))
      exact g1
    · rw [f_L_sews_L17, if_pos hki, ← hbe]
      refine (gd_q (rg_of (by first | omega | (dsimp only; omega))) (gd_q (rg_of (by first | omega | (dsimp only; omega))) (it_q2 (by first | omega | (dsimp only; omega)) (bd_q hnx (gd_q (inb_of (by first | omega | (dsimp only; omega))) (gd_q (inb_of (by first | omega | (dsimp only; omega))) (nm_q (nm_q (nm_q (gd_q (inb_of (by first | omega | (dsimp only; omega))) (nm_q (?_))))))))))))
      simp only [t3, t31, t32]
      rw [f4, f3]
      exact g2
theorem sewsG {N n x c k mm : Nat} {z : bS} {f : Nat → Nat} {O : bO} {m p nn : Nat → Int} {xx kk mi : Int} (hN : 100 ≤ N) (hn20 : n ≤ 20) (hC : CI z n) (hGN : GN z nn n) (hM : GM z m n) (hP : GP z p n) (hD : OD z n (x : Int) f c) (hx : x < 12) (ex : xx = (x : Int)) (hA : OA O z f c) (hm : 1 ≤ mm) (hm9 : mm ≤ 9) (em : mi = (mm : Int)) (ek : kk = (k : Int)) (hk : fa (shf z f) c mm (z.2.2.1 7) (c + 1) 0 = some k) : ∃ (wf : Int) (z' : bS) (p' nn' : Nat → Int), f_X5_makeShirt N kk mi (z, O) = some (wf, (z', O)) ∧ f_L_sews N xx mi (m, p, nn) = some (wf, (m, p', nn')) ∧ CI z' n ∧ GN z' nn' n ∧ GP z' p' n ∧ z'.1 = z.1 ∧ MK z n x f c k mm z' (crow z' n) ∧ z'.2.2.2.1 = z.2.2.2.1 + 1 ∧ z'.2.1.2.2.2.1 = z.2.1.2.2.2.1 ∧ z'.2.1.2.2.2.2.1 0 = z.2.1.2.2.2.2.1 0 ∧ 0 ≤ wf ∧ wf ≤ 81 ∧ ∀ K : Int, LM z n K → LM z' n (K + 100) := by
  subst ek
  subst em
  have hc := OD_c hD
  have hs7 := SI_rg hC.2.1 7 (by omega)
  obtain ⟨gn1, ⟨gn2, gn3, gn4, gn5, gn6⟩, gn7, gn8⟩ := hGN
  have hsp : 0 ≤ z.2.2.1 7 ∧ z.2.2.1 7 ≤ 9 := by
    have := hC.2.1
    unfold SI at this
    omega
  have hBR := BR_of hn20 hC gn7 hM hP
  have hO := OL_of (m := m) (p := p) hD (fun b hb => (hM b hb).2.1) (fun b hb => (hP b hb).2.1)
  have hsh : ∀ j, j < c → shm m f j = shf z f j := fun j hj => (hM _ (hD.1 j hj).1).2.1
  have hfk := fa_some _ _ _ hk
  have hfi := firstG (N := N) (sp := z.2.2.1 7) (mm := (mm : Int)) (by omega) hBR hx ex hO hm hm9 rfl (gn1 7 (by omega)) hsp hc
  rw [fa_congr hm hsh, hk] at hfi
  obtain ⟨wf, z', p', at', g1, g2, g3, g4, g5⟩ := sews_loop (N := N) (nn := nn) (kt := fun v25 v26 v27 v28 v29 s30 => gd (rg v28) <| jn2 (fun (v32 : Int) (s33 : bLmpn) => nm (s33.1, s33.2.1, up s33.2.2 8 ((s33.2.2 8) + 1)) fun s36 => nm (s36.1, s36.2.1, up s36.2.2 9 ((s36.2.2 9) + v32)) fun s38 => some (v32, s38)) fun j34 => if v28 ≤ 0 then (j34 0 s30) else (j34 v28 s30)) (by omega) hn20 hD hx ex hA gn7 gn2 hM hfk.2.1 hm9 mm 0 (by omega) z p 0 N N (MG_0 hC hP hD) (by omega) (by omega) (by omega) (by omega)
  obtain ⟨m1, m2, m3, m4, m5, m6, m7, m8, m9, m10⟩ := g3
  have h40 := CI_40 m1
  refine ⟨(if wf < 0 then 0 else wf), (z'.1, z'.2.1, z'.2.2.1, z'.2.2.2.1 + 1, z'.2.2.2.2.1 + (if wf < 0 then 0 else wf), z'.2.2.2.2.2), p', up (up nn 8 (nn 8 + 1)) 9 (nn 9 + (if wf < 0 then 0 else wf)), g1, ?_, m1, ?_, m2, m3, ?_, ?_, m8, m9, ?_, ?_, fun K hK => ?_⟩
  · unfold f_L_sews
    refine bd_q hfi ?_
    rw [if_pos (show k + 0 < c by omega)] at g2
    refine Eq.trans g2 ?_
    have hu9 : up nn 8 (nn 8 + 1) 9 = nn 9 := up_n _ _ (by omega)
    by_cases e : wf ≤ 0
    · have e0 : (if wf < 0 then (0 : Int) else wf) = 0 := by
        split <;> omega
      rw [e0]
      refine (gd_q (rg_of (by first | omega | (dsimp only; omega))) (jn2_q (it_q1 e (nm_q (nm_q (?_))))))
      dsimp only
      rw [hu9]
    · rw [if_neg (show ¬ wf < 0 by omega)]
      refine (gd_q (rg_of (by first | omega | (dsimp only; omega))) (jn2_q (it_q2 e (nm_q (nm_q (?_))))))
      dsimp only
      rw [hu9]
  · have e8 : z'.2.2.2.1 = z.2.2.2.1 := by rw [m4]
    have e9 : z'.2.2.2.2.1 = z.2.2.2.2.1 := by rw [m4]
    refine ⟨fun j hj => ?_, ⟨?_, ?_, ?_, ?_, ?_⟩, ?_, ?_⟩
    · rw [up_n _ _ (by omega), up_n _ _ (by omega), gn1 j hj]
      show z.2.2.1 j = z'.2.2.1 j
      rw [m4]
    · rw [up_n _ _ (by omega), up_s, gn2]
      show _ = z'.2.2.2.1 + 1
      rw [e8]
    · rw [up_s, gn3]
      show _ = z'.2.2.2.2.1 + _
      rw [e9]
    · rw [up_n _ _ (by omega), up_n _ _ (by omega), gn4]
      show _ = z'.2.2.2.2.2.1
      rw [m4]
    · rw [up_n _ _ (by omega), up_n _ _ (by omega), gn5]
      show _ = z'.2.2.2.2.2.2.1
      rw [m4]
    · rw [up_n _ _ (by omega), up_n _ _ (by omega), gn6]
      show _ = z'.2.2.2.2.2.2.2
      rw [m4]
    · rw [up_n _ _ (by omega), up_n _ _ (by omega), gn7]
    · rw [up_n _ _ (by omega), up_n _ _ (by omega), gn8]
      exact m9.symm
  · exact ⟨m1, crow_R h40.2.2, m3, (show z'.2.2.1 = z.2.2.1 by rw [m4]), m5, m6, m7⟩
  · show z'.2.2.2.1 + 1 = _
    rw [m4]
  · split <;> omega
  · split <;> omega
  · obtain ⟨k1, k2, k3, k4, k5, k6⟩ := hK
    have hwf : 0 ≤ (if wf < 0 then (0 : Int) else wf) ∧ (if wf < 0 then (0 : Int) else wf) ≤ 81 := by
      split <;> omega
    have e8 : z'.2.2.2.1 = z.2.2.2.1 := by rw [m4]
    have e9 : z'.2.2.2.2.1 = z.2.2.2.2.1 := by rw [m4]
    have e10 : z'.2.2.2.2.2 = z.2.2.2.2.2 := by rw [m4]
    refine ⟨?_, ?_, ?_, ?_, ?_, fun b hb => ?_⟩
    · show 0 ≤ z'.2.2.2.1 + 1 ∧ z'.2.2.2.1 + 1 ≤ K + 100
      omega
    · show 0 ≤ z'.2.2.2.2.1 + (if wf < 0 then (0 : Int) else wf) ∧ z'.2.2.2.2.1 + (if wf < 0 then (0 : Int) else wf) ≤ K + 100
      omega
    · show 0 ≤ z'.2.2.2.2.2.1 ∧ z'.2.2.2.2.2.1 ≤ K + 100
      rw [e10]
      omega
    · show 0 ≤ z'.2.2.2.2.2.2.1 ∧ z'.2.2.2.2.2.2.1 ≤ K + 100
      rw [e10]
      omega
    · show 0 ≤ z'.2.2.2.2.2.2.2 ∧ z'.2.2.2.2.2.2.2 ≤ K + 100
      rw [e10]
      omega
    · have := k6 b hb
      show (0 ≤ z'.1.2.2.2.2.2.1 b ∧ z'.1.2.2.2.2.2.1 b ≤ K + 100) ∧ (-5 ≤ z'.2.1.2.2.1 b ∧ z'.2.1.2.2.1 b ≤ K + 100)
      rw [m3]
      rcases m10 b with h | h
      · rw [h]
        omega
      · rw [h]
        omega
