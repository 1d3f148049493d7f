/-! pour; what would be with another mesh -/
theorem leave_R {z : bS} {r : Nat → Int} {n b0 : Nat} (h : R1 z r n) (h0 : 0 < z.2.1.1 b0) : R1 (z.1, leaveS b0 z.2.1, z.2.2) r n := by
  obtain ⟨⟨h1, h2, h3, h4, h5⟩, hB⟩ := h
  have e := leave_at0 (p := z.2.1) (b := b0) h0
  refine ⟨⟨h1, h2, h3, ?_, fun k hk => ?_⟩, RB_F hB (fun x k hx hk => ?_)⟩
  · show r 14 = (leaveS b0 z.2.1).2.2.2.2.1 0
    rw [e]
    exact h4
  · have hk' : (k : Int) < (leaveS b0 z.2.1).2.2.2.2.1 0 := hk
    rw [e] at hk'
    exact h5 k hk'
  · rcases (show k = 0 ∨ k = 1 ∨ k = 2 ∨ k = 3 ∨ k = 4 ∨ k = 5 ∨ k = 6 ∨ k = 7 ∨ k = 8 by omega) with rfl | rfl | rfl | rfl | rfl | rfl | rfl | rfl | rfl <;> rfl
theorem pour_loop {N n : Nat} {m : bm} (q : Nat) (hq : q < 12) (c : Int) : ∀ d i, i + d = n → ∀ (z : bS) (r : Nat → Int) (k k' : Nat), CI z n → R1 z r n → d < k → d < k' → ∃ (z' : bS) (r' : Nat → Int), f_X5_emptyBin_L2 N k (q : Int) (i : Int) z = some z' ∧ f_X8_pour_L28 N k' (q : Int) c (i : Int) (r, m) = some (c, (r', m)) ∧ CI z' n ∧ R1 z' r' n := by
  intro d
  induction d with
  | zero =>
    intro i hi z r k k' hC hR hk hk'
    obtain ⟨k, rfl⟩ : ∃ j, k = j + 1 := ⟨k - 1, by omega⟩
    obtain ⟨k', rfl⟩ : ∃ j, k' = j + 1 := ⟨k' - 1, by omega⟩
    have h40 := CI_40 hC
    have hn := hC.1.1
    have h13 := R1_n hR
    refine ⟨z, r, ?_, ?_, hC, hR⟩
    · rw [f_X5_emptyBin_L2]
      exact (gd_q (rg_of (by first | omega | (dsimp only; omega))) (gd_q (rg_of (by first | omega | (dsimp only; omega))) (it_q1 (by first | omega | (dsimp only; omega)) (rfl))))
    · rw [f_X8_pour_L28]
      exact (gd_q (rg_of (by first | omega | (dsimp only; omega))) (gd_q (rg_of (by first | omega | (dsimp only; omega))) (it_q1 (by first | omega | (dsimp only; omega)) (rfl))))
  | succ d ih =>
    intro i hi z r k k' hC hR hk hk'
    obtain ⟨k, rfl⟩ : ∃ j, k = j + 1 := ⟨k - 1, by omega⟩
    obtain ⟨k', rfl⟩ : ∃ j, k' = j + 1 := ⟨k' - 1, by omega⟩
    have h40 := CI_40 hC
    have hn := hC.1.1
    have h13 := R1_n hR
    have hb : i < n := by omega
    have hpb := bin_rg hC hb
    have hpb2 := CI_p hC hb
    unfold PB at hpb2
    have hin := isInR (m := m) (bb := (i : Int)) (x := (q : Int)) hC hR hb rfl (by omega)
    by_cases e : z.2.1.2.1 i = (q : Int)
    · rw [if_pos e] at hin
      have h5 : z.2.1.1 i = 5 := hpb.2.2.2.2.2 (by omega)
      have hL := leave_LI hC.2.2 hb (by omega)
      have hw := LI_w hL hb
      have hR1 := leave_R hR (b0 := i) (by omega)
      obtain ⟨w, hw1⟩ : ∃ w : Nat, (leaveS i z.2.1).2.2.2.2.1 0 = (w : Int) := ⟨((leaveS i z.2.1).2.2.2.2.1 0).toNat, by omega⟩
      have hP := hop_PI hL hb hw1
      have hR2 := hop_R (b0 := i) (w := w) hR1 hw1 (by omega) (hpb2.2.2.2.2 (by omega))
      obtain ⟨z', r', g1, g2, g3, g4⟩ := ih (i + 1) (by omega) (z.1, bringS i 0 ((leaveS i z.2.1).1, (leaveS i z.2.1).2.1, (leaveS i z.2.1).2.2.1, up (leaveS i z.2.1).2.2.2.1 w (i : Int), (leaveS i z.2.1).2.2.2.2), z.2.2) _ k k' ⟨hC.1, hC.2.1, hP⟩ hR2 (by omega) (by omega)
      refine ⟨z', r', ?_, ?_, g3, g4⟩
      · rw [f_X5_emptyBin_L2]
        refine (gd_q (rg_of (by first | omega | (dsimp only; omega))) (gd_q (rg_of (by first | omega | (dsimp only; omega))) (it_q2 (by first | omega | (dsimp only; omega)) (gd_q (inb_of (by first | omega | (dsimp only; omega))) (gd_q (by rw [tn]; exact (rg_of (by first | omega | (dsimp only; omega)))) (gd_q (rg_of (by first | omega | (dsimp only; omega))) (it_q1 e (bd_q (leave_eq (b := i) (by omega) rfl (by omega) (by omega)) (nm_q (?_))))))))))
        exact bd_q (bringToHopper_eq (b := i) (w := w) (by omega) rfl hw1 (by omega)) (nm_q g1)
      · rw [f_X8_pour_L28]
        have h14 : r 14 = (w : Int) := by
          have := hR1.1.2.2.2.1
          exact this.trans hw1
        exact (gd_q (rg_of (by first | omega | (dsimp only; omega))) (gd_q (rg_of (by first | omega | (dsimp only; omega))) (it_q2 (by first | omega | (dsimp only; omega)) (bd_q hin (gd_q (rg_of (by first | omega | (dsimp only; omega))) (it_q2 (by first | omega | (dsimp only; omega)) (bd_q (toHopper_eq (b := i) (w := w) (by omega) rfl h14 (by omega)) (g2))))))))
    · rw [if_neg e] at hin
      obtain ⟨z', r', g1, g2, g3, g4⟩ := ih (i + 1) (by omega) z r k k' hC hR (by omega) (by omega)
      refine ⟨z', r', ?_, ?_, g3, g4⟩
      · rw [f_X5_emptyBin_L2]
        exact (gd_q (rg_of (by first | omega | (dsimp only; omega))) (gd_q (rg_of (by first | omega | (dsimp only; omega))) (it_q2 (by first | omega | (dsimp only; omega)) (gd_q (inb_of (by first | omega | (dsimp only; omega))) (gd_q (by rw [tn]; exact (rg_of (by first | omega | (dsimp only; omega)))) (gd_q (rg_of (by first | omega | (dsimp only; omega))) (it_q2 e (g1))))))))
      · rw [f_X8_pour_L28]
        exact (gd_q (rg_of (by first | omega | (dsimp only; omega))) (gd_q (rg_of (by first | omega | (dsimp only; omega))) (it_q2 (by first | omega | (dsimp only; omega)) (bd_q hin (gd_q (rg_of (by first | omega | (dsimp only; omega))) (it_q1 (by first | omega | (dsimp only; omega)) (g2)))))))
theorem isPl_0 {q : Int} (hr : rg q = true) (h : ¬ (0 ≤ q ∧ q ≤ 6)) : f_X7_isPlace q = some 0 := by
  unfold f_X7_isPlace
  by_cases c : q < 0
  · exact gd_q hr (it_q1 c rfl)
  · exact gd_q hr (it_q2 c (it_q1 (by omega) rfl))
theorem isBin1 {a : Int} (ha : rg a = true) : f_X7_isBin a = some (if 0 ≤ a ∧ a ≤ 11 then 1 else 0) := by
  unfold f_X7_isBin
  refine gd_q ha ?_
  by_cases e : a < 0
  · rw [if_neg (show ¬ (0 ≤ a ∧ a ≤ 11) by omega)]
    exact it_q1 e rfl
  · refine it_q2 e ?_
    by_cases e2 : 12 ≤ a
    · rw [if_neg (show ¬ (0 ≤ a ∧ a ≤ 11) by omega)]
      exact it_q1 e2 rfl
    · rw [if_pos (show 0 ≤ a ∧ a ≤ 11 by omega)]
      exact it_q2 e2 rfl
theorem isBin2 {a : Int} (ha : rg a = true) : f_X8_isBin a = some (if 0 ≤ a ∧ a ≤ 11 then 1 else 0) := by
  unfold f_X8_isBin
  refine bd_q (in_eq ha (by decide) (by decide)) ?_
  by_cases c : 0 ≤ a ∧ a ≤ 11
  · rw [if_pos c]
    exact gd_q (by decide) rfl
  · rw [if_neg c]
    exact gd_q (by decide) rfl
theorem s_pour {N : Nat} (hN : 1300 ≤ N) {a : Int} (ha : rg a = true) : SIM (f_X7_pour N a) (f_X8_pour N a) := by
  rintro ⟨⟨B, s, l⟩, O, H, S, P, V, hs⟩ ⟨r, hi, st, sn, ik, as, li, lm, tx, le, sp, re, rd⟩ ⟨hT, hH, hS, hK⟩
  dsimp only at hT hH hS hK
  have hS0 := hS
  obtain ⟨n, hC, hR⟩ := hS
  have h40 := CI_40 hC
  have c1 := isBin1 ha
  have m1 := isBin2 ha
  by_cases e1 : 0 ≤ a ∧ a ≤ 11
  · rw [if_pos e1] at c1 m1
    obtain ⟨q, rfl⟩ : ∃ q : Nat, a = (q : Int) := ⟨a.toNat, by omega⟩
    have hmi := manyR (N := N) (m := (hi, st, sn, ik, as, li, lm, tx, le, sp, re, rd)) (q := q) (qq := (q : Int)) (by omega) hC hR (by omega) rfl
    have hib := PI_ib hC.2.2 (show q < 12 by omega)
    by_cases e2 : S.2.1.2.2.2.2.2 q = 0
    · refine ⟨-5, ((B, s, l), O, H, S, P, V, hs), (r, hi, st, sn, ik, as, li, lm, tx, le, sp, re, rd), ?_, ?_, ⟨hT, hH, hS0, hK⟩⟩
      · exact (bd_q c1 (gd_q (rg_of (by first | omega | (dsimp only; omega))) (it_q2 (by first | omega | (dsimp only; omega)) (gd_q (inb_of (by first | omega | (dsimp only; omega))) (nm_q (gd_q (by rw [tn]; exact (rg_of (by first | omega | (dsimp only; omega)))) (it_q1 e2 (rfl))))))))
      · exact (bd_q m1 (gd_q (rg_of (by first | omega | (dsimp only; omega))) (it_q2 (by first | omega | (dsimp only; omega)) (bd_q hmi (gd_q (rg_of (by first | omega | (dsimp only; omega))) (it_q1 e2 (rfl)))))))
    · obtain ⟨h', hi', st', g1, g2, g3⟩ := rem_eq (t := (sn, ik, as, li, lm, tx, le, sp, re, rd)) hN hH hS0
      obtain ⟨z', r', u1, u2, u3, u4⟩ := pour_loop (N := N) (m := (hi', st', sn, ik, as, li, lm, tx, le, sp, re, rd)) q (by omega) (S.2.1.2.2.2.2.2 q) n 0 (by omega) S r N N hC hR (by omega) (by omega)
      refine ⟨S.2.1.2.2.2.2.2 q, ((B, s, l), O, h', z', P, V, hs), (r', hi', st', sn, ik, as, li, lm, tx, le, sp, re, rd), ?_, ?_, ⟨hT, g3, ⟨n, u3, u4⟩, hK⟩⟩
      · exact (bd_q c1 (gd_q (rg_of (by first | omega | (dsimp only; omega))) (it_q2 (by first | omega | (dsimp only; omega)) (gd_q (inb_of (by first | omega | (dsimp only; omega))) (nm_q (gd_q (by rw [tn]; exact (rg_of (by first | omega | (dsimp only; omega)))) (it_q2 e2 (bd_q g1 (nm_q (nm_q (bd_q u1 (nm_q (rfl)))))))))))))
      · exact (bd_q m1 (gd_q (rg_of (by first | omega | (dsimp only; omega))) (it_q2 (by first | omega | (dsimp only; omega)) (bd_q hmi (gd_q (rg_of (by first | omega | (dsimp only; omega))) (it_q2 e2 (bd_q g2 (u2))))))))
  · rw [if_neg e1] at c1 m1
    refine ⟨-1, ((B, s, l), O, H, S, P, V, hs), (r, hi, st, sn, ik, as, li, lm, tx, le, sp, re, rd), ?_, ?_, ⟨hT, hH, hS0, hK⟩⟩
    · exact bd_q c1 (gd_q (rg_of (by first | omega | (dsimp only; omega))) (it_q1 rfl rfl))
    · exact bd_q m1 (gd_q (rg_of (by first | omega | (dsimp only; omega))) (it_q1 rfl rfl))
theorem mesh_loop {N n : Nat} (hN : 1300 ≤ N) (bt : bBT) (O : bO) (H : bH) (S P : bS) (hs : Int) (hi : Nat → Int) (st : Int) (sn : Nat → Int) (ik : Int) (as : Nat → Int) (t : (Nat → Int) × Int × (Nat → Int) × Int × Int × Int × (Nat → Int)) (x1 x2 : Int) (q : Nat) (hq : q < 7) (W : Nat) (hW : W ≤ 40) : ∀ d i, i + d = W → ∀ (T : bS) (r : Nat → Int) (k k' : Nat), CI T n → R1 T r n → (d : Int) ≤ T.2.1.2.2.2.2.1 0 → d < k → d < k' → ∃ (v : Int) (T' : bS) (r' : Nat → Int), f_X7_ifMesh_L82 N k x1 x2 (q : Int) (W : Int) (i : Int) (bt, O, H, S, P, T, hs) = some (v, (bt, O, H, S, P, T', hs)) ∧ f_X8_ifMesh_L66 N k' x1 x2 (q : Int) (d : Int) (r, hi, st, sn, ik, as, t) = some (v, (r', hi, st, sn, ik, as, t)) ∧ ∀ j, j < 415 → r' j = as j := by
  intro d
  induction d with
  | zero =>
    intro i hi' T r k k' hC hR hd hk hk'
    obtain ⟨k, rfl⟩ : ∃ j, k = j + 1 := ⟨k - 1, by omega⟩
    obtain ⟨k', rfl⟩ : ∃ j, k' = j + 1 := ⟨k' - 1, by omega⟩
    have hat := atR (N := N) (m := (hi, st, sn, ik, as, t)) (q := q) (qq := (q : Int)) (by omega) hC hR hq rfl
    obtain ⟨r', b1, b2⟩ := back_loop N hi as (st, sn, ik) as t 415 0 (by omega) N r (by omega) (fun j hj => absurd hj (by omega))
    refine ⟨T.2.1.2.2.2.2.1 q, T, r', ?_, ?_, b2⟩
    · rw [f_X7_ifMesh_L82]
      exact (gd_q (rg_of (by first | omega | (dsimp only; omega))) (gd_q (rg_of (by first | omega | (dsimp only; omega))) (it_q1 (by first | omega | (dsimp only; omega)) (gd_q (inb_of (by first | omega | (dsimp only; omega))) (rfl)))))
    · rw [f_X8_ifMesh_L66]
      exact (gd_q (rg_of (by first | omega | (dsimp only; omega))) (it_q1 (by first | omega | (dsimp only; omega)) (bd_q hat (bd_q b1 (rfl)))))
  | succ d ih =>
    intro i hi' T r k k' hC hR hd hk hk'
    obtain ⟨k, rfl⟩ : ∃ j, k = j + 1 := ⟨k - 1, by omega⟩
    obtain ⟨k', rfl⟩ : ∃ j, k' = j + 1 := ⟨k' - 1, by omega⟩
    obtain ⟨T1, r1, g1, g2, g3, g4, g5⟩ := sort_step (N := N) (m := (hi, st, sn, ik, as, t)) (by omega) hC hR (by omega)
    obtain ⟨v, T', r', u1, u2, u3⟩ := ih (i + 1) (by omega) T1 r1 k k' g3 g4 (by omega) (by omega) (by omega)
    refine ⟨v, T', r', ?_, ?_, u3⟩
    · rw [f_X7_ifMesh_L82]
      exact (gd_q (rg_of (by first | omega | (dsimp only; omega))) (gd_q (rg_of (by first | omega | (dsimp only; omega))) (it_q2 (by first | omega | (dsimp only; omega)) (bd_q g1 (nm_q (u1))))))
    · rw [f_X8_ifMesh_L66]
      refine (gd_q (rg_of (by first | omega | (dsimp only; omega))) (it_q2 (by first | omega | (dsimp only; omega)) (bd_q g2 (?_))))
      rw [show ((d + 1 : Nat) : Int) + (-1) = (d : Int) by omega]
      exact u2
theorem okV3 {j : Nat} {v : Int} (hj : j < 3) : okV j v ↔ 1 ≤ v ∧ v ≤ 30 := by
  match j, hj with
  | 0, _ => exact Iff.rfl
  | 1, _ => exact Iff.rfl
  | 2, _ => exact Iff.rfl
  | j + 3, hj => exact absurd hj (by omega)
theorem okM3 {s s' : Nat → Int} {j : Nat} {v : Int} (es : ∀ k, k < 8 → s' k = s k) (h : okM s j v) : okM s' j v := by
  match j, h with
  | 0, h => show v ≤ s' 1; rw [es 1 (by omega)]; exact h
  | 1, h => show s' 0 ≤ v ∧ v ≤ s' 2; rw [es 0 (by omega), es 2 (by omega)]; exact h
  | 2, h => show s' 1 ≤ v; rw [es 1 (by omega)]; exact h
  | j + 3, h => exact trivial
theorem s_ifMesh {N : Nat} (hN : 1300 ≤ N) {a v w : Int} (ha : rg a = true) (hv : rg v = true) (hw : rg w = true) : SIM (f_X7_ifMesh N a v w) (f_X8_ifMesh N a v w) := by
  rintro ⟨⟨B, s, l⟩, O, H, S, P, V, hs⟩ ⟨r, hi, st, sn, ik, as, li, lm, tx, le, sp, re, rd⟩ ⟨hT, hH, hS, hK⟩
  dsimp only at hT hH hS hK
  have hS0 := hS
  obtain ⟨n, hC, hR⟩ := hS
  have h40 := CI_40 hC
  have i1 := in_eq ha (show rg 0 = true by decide) (show rg 2 = true by decide)
  have i2 := in_eq hv (show rg 1 = true by decide) (show rg 30 = true by decide)
  have i3 := in_eq hw (show rg 0 = true by decide) (show rg 6 = true by decide)
  by_cases e1 : 0 ≤ a ∧ a ≤ 2
  · rw [if_pos e1] at i1
    obtain ⟨j, rfl⟩ : ∃ j : Nat, a = (j : Int) := ⟨a.toNat, by omega⟩
    obtain ⟨v1, v2⟩ := isV (j := j) (v := v) (by omega) rfl hv
    have hok : okV j v ↔ 1 ≤ v ∧ v ≤ 30 := okV3 (by omega)
    by_cases e2 : 1 ≤ v ∧ v ≤ 30
    · rw [if_pos e2] at i2
      have v1 := (v1 (hok.mpr e2)).1
      by_cases e3 : 0 ≤ w ∧ w ≤ 6
      · rw [if_pos e3] at i3
        obtain ⟨q, rfl⟩ : ∃ q : Nat, w = (q : Int) := ⟨w.toNat, by omega⟩
        obtain ⟨m1, m2⟩ := mAC (j := j) (z := S) (by omega) rfl hv hC.2.1
        obtain ⟨m3, m4⟩ := mAM (j := j) (m := (hi, st, sn, ik, as, li, lm, tx, le, sp, re, rd)) (by omega) rfl hv hC.2.1 hR.1.1
        by_cases e4 : okM S.2.2.1 j v
        · have m1 := m1 e4
          have m3 := m3 e4
          obtain ⟨x', a1, a2⟩ := aside_loop N hi as (st, sn, ik, sn) (li, lm, tx, le, sp, re, rd) r 415 0 (by omega) N as (by omega) (fun j hj => absurd hj (by omega))
          have hsq := cpyS_SEq (a := V) hC
          have hCc := SEq_CI hsq hC
          have hRc := SEq_R1 hsq hR
          have es : ∀ k, k < 8 → (cpyS V S).2.2.1 k = S.2.2.1 k := hsq.2.2.1
          have hok2 : okM (cpyS V S).2.2.1 j v := okM3 es e4
          obtain ⟨q1, q2⟩ := set_RS hCc hRc (show j < 8 by omega) (hok.mpr e2) hok2
          have hw0 : (cpyS V S).2.1.2.2.2.2.1 0 = S.2.1.2.2.2.2.1 0 := hsq.2.2.2.2.1 0 (by omega)
          obtain ⟨W, hW⟩ : ∃ W : Nat, S.2.1.2.2.2.2.1 0 = (W : Int) := ⟨(S.2.1.2.2.2.2.1 0).toNat, by omega⟩
          have h14 : up r j v 14 = (W : Int) := by
            rw [up_n _ _ (by omega)]
            exact hR.1.2.2.2.1.trans hW
          obtain ⟨vv, T', r', u1, u2, u3⟩ := mesh_loop (N := N) hN (B, s, l) O H S P hs hi st sn ik x' (li, lm, tx, le, sp, re, rd) (j : Int) v q (by omega) W (by omega) W 0 (by omega) ((cpyS V S).1, (cpyS V S).2.1, up (cpyS V S).2.2.1 j v, (cpyS V S).2.2.2) (up r j v) N N q1 q2 (by show (W : Int) ≤ (cpyS V S).2.1.2.2.2.2.1 0; omega) (by omega) (by omega)
          refine ⟨vv, ((B, s, l), O, H, S, P, T', hs), (r', hi, st, sn, ik, x', li, lm, tx, le, sp, re, rd), ?_, ?_, ⟨hT, hH, RS_row hS0 (fun j hj => (u3 j hj).trans (a2 j hj)), hK⟩⟩
          · refine (gd_q ha (it_q2 (by first | omega | (dsimp only; omega)) (it_q1 (by first | omega | (dsimp only; omega)) (bd_q v1 (gd_q (rg_of (by first | omega | (dsimp only; omega))) (it_q2 (by first | omega | (dsimp only; omega)) (bd_q (isPl_eq (by omega)) (gd_q (rg_of (by first | omega | (dsimp only; omega))) (it_q2 (by first | omega | (dsimp only; omega)) (bd_q m1 (nm_q (gd_q (rg_of (by first | omega | (dsimp only; omega))) (it_q2 (by first | omega | (dsimp only; omega)) (bd_q (copyFrom_eq hC) (nm_q (nm_q (gd_q (inb_of (by first | omega | (dsimp only; omega))) (nm_q (nm_q (?_))))))))))))))))))))
            dsimp only
            rw [hw0, hW]
            exact u1
          · refine (bd_q i1 (gd_q (rg_of (by first | omega | (dsimp only; omega))) (it_q2 (by first | omega | (dsimp only; omega)) (bd_q i2 (gd_q (rg_of (by first | omega | (dsimp only; omega))) (it_q2 (by first | omega | (dsimp only; omega)) (bd_q i3 (gd_q (rg_of (by first | omega | (dsimp only; omega))) (it_q2 (by first | omega | (dsimp only; omega)) (bd_q m3 (gd_q (rg_of (by first | omega | (dsimp only; omega))) (it_q2 (by first | omega | (dsimp only; omega)) (bd_q a1 (gd_q (inb_of (by first | omega | (dsimp only; omega))) (nm_q (nm_q (?_)))))))))))))))))
            dsimp only [tn]
            rw [h14]
            exact u2
        · have m2 := m2 e4
          have m4 := m4 e4
          refine ⟨-4, ((B, s, l), O, H, S, P, V, hs), (r, hi, st, sn, ik, as, li, lm, tx, le, sp, re, rd), ?_, ?_, ⟨hT, hH, hS0, hK⟩⟩
          · exact (gd_q ha (it_q2 (by first | omega | (dsimp only; omega)) (it_q1 (by first | omega | (dsimp only; omega)) (bd_q v1 (gd_q (rg_of (by first | omega | (dsimp only; omega))) (it_q2 (by first | omega | (dsimp only; omega)) (bd_q (isPl_eq (by omega)) (gd_q (rg_of (by first | omega | (dsimp only; omega))) (it_q2 (by first | omega | (dsimp only; omega)) (bd_q m2 (nm_q (gd_q (rg_of (by first | omega | (dsimp only; omega))) (it_q1 (by first | omega | (dsimp only; omega)) (rfl))))))))))))))
          · exact (bd_q i1 (gd_q (rg_of (by first | omega | (dsimp only; omega))) (it_q2 (by first | omega | (dsimp only; omega)) (bd_q i2 (gd_q (rg_of (by first | omega | (dsimp only; omega))) (it_q2 (by first | omega | (dsimp only; omega)) (bd_q i3 (gd_q (rg_of (by first | omega | (dsimp only; omega))) (it_q2 (by first | omega | (dsimp only; omega)) (bd_q m4 (gd_q (rg_of (by first | omega | (dsimp only; omega))) (it_q1 (by first | omega | (dsimp only; omega)) (rfl)))))))))))))
      · rw [if_neg e3] at i3
        refine ⟨-2, ((B, s, l), O, H, S, P, V, hs), (r, hi, st, sn, ik, as, li, lm, tx, le, sp, re, rd), ?_, ?_, ⟨hT, hH, hS0, hK⟩⟩
        · exact (gd_q ha (it_q2 (by first | omega | (dsimp only; omega)) (it_q1 (by first | omega | (dsimp only; omega)) (bd_q v1 (gd_q (rg_of (by first | omega | (dsimp only; omega))) (it_q2 (by first | omega | (dsimp only; omega)) (bd_q (isPl_0 hw e3) (gd_q (rg_of (by first | omega | (dsimp only; omega))) (it_q1 (by first | omega | (dsimp only; omega)) (rfl))))))))))
        · exact (bd_q i1 (gd_q (rg_of (by first | omega | (dsimp only; omega))) (it_q2 (by first | omega | (dsimp only; omega)) (bd_q i2 (gd_q (rg_of (by first | omega | (dsimp only; omega))) (it_q2 (by first | omega | (dsimp only; omega)) (bd_q i3 (gd_q (rg_of (by first | omega | (dsimp only; omega))) (it_q1 (by first | omega | (dsimp only; omega)) (rfl))))))))))
    · rw [if_neg e2] at i2
      have v2 := (v2 (fun h => e2 (hok.mp h))).1
      refine ⟨-2, ((B, s, l), O, H, S, P, V, hs), (r, hi, st, sn, ik, as, li, lm, tx, le, sp, re, rd), ?_, ?_, ⟨hT, hH, hS0, hK⟩⟩
      · exact (gd_q ha (it_q2 (by first | omega | (dsimp only; omega)) (it_q1 (by first | omega | (dsimp only; omega)) (bd_q v2 (gd_q (rg_of (by first | omega | (dsimp only; omega))) (it_q1 (by first | omega | (dsimp only; omega)) (rfl)))))))
      · exact (bd_q i1 (gd_q (rg_of (by first | omega | (dsimp only; omega))) (it_q2 (by first | omega | (dsimp only; omega)) (bd_q i2 (gd_q (rg_of (by first | omega | (dsimp only; omega))) (it_q1 (by first | omega | (dsimp only; omega)) (rfl)))))))
  · rw [if_neg e1] at i1
    refine ⟨-1, ((B, s, l), O, H, S, P, V, hs), (r, hi, st, sn, ik, as, li, lm, tx, le, sp, re, rd), ?_, ?_, ⟨hT, hH, hS0, hK⟩⟩
    · by_cases c : a < 0
      · exact (gd_q ha (it_q1 c (rfl)))
      · exact (gd_q ha (it_q2 c (it_q2 (by first | omega | (dsimp only; omega)) (rfl))))
    · exact (bd_q i1 (gd_q (rg_of (by first | omega | (dsimp only; omega))) (it_q1 (by first | omega | (dsimp only; omega)) (rfl))))
