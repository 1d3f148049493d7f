/-! a world as blocks one behind another: what a callee reaches is taken out, and put back, by permutation -/
theorem pm_P {D : va_G} {cl : List vw_C} {ws ws' : va_W} {H : Heap} (h : ws.Perm ws') (hP : va_P D cl ws H) : va_P D cl ws' H := by
  intro k q hq
  obtain ⟨i, hi⟩ := List.getElem?_of_mem (h.mem_iff.mpr (List.mem_of_getElem? hq))
  exact hP i q hi
theorem pm_nd {ws : va_W} (h : ∀ (i j : Nat) (p q : Nat × va_E), ws[i]? = some p → ws[j]? = some q → p.1 = q.1 → i = j) : (ws.map (fun q => q.1)).Nodup := by
  rw [List.Nodup, List.pairwise_iff_getElem]
  intro i j hi hj hij e
  have hi' : i < ws.length := by simpa using hi
  have hj' : j < ws.length := by simpa using hj
  rw [List.getElem_map, List.getElem_map] at e
  have := h i j ws[i] ws[j] (List.getElem?_eq_getElem hi') (List.getElem?_eq_getElem hj') e
  omega
theorem pm_of {ws : va_W} (h : (ws.map (fun q => q.1)).Nodup) : ∀ (i j : Nat) (p q : Nat × va_E), ws[i]? = some p → ws[j]? = some q → p.1 = q.1 → i = j := by
  intro i j p q hi hj e
  rw [List.Nodup, List.pairwise_iff_getElem] at h
  obtain ⟨hi1, hi2⟩ := List.getElem?_eq_some_iff.mp hi
  obtain ⟨hj1, hj2⟩ := List.getElem?_eq_some_iff.mp hj
  have l1 : i < (ws.map (fun q => q.1)).length := by simpa using hi1
  have l2 : j < (ws.map (fun q => q.1)).length := by simpa using hj1
  rcases Nat.lt_trichotomy i j with z | z | z
  · have := h i j l1 l2 z
    rw [List.getElem_map, List.getElem_map, hi2, hj2] at this
    exact absurd e this
  · exact z
  · have := h j i l2 l1 z
    rw [List.getElem_map, List.getElem_map, hi2, hj2] at this
    exact absurd e.symm this
theorem pm_D {A : Nat → Prop} {ws ws' : va_W} (h : ws.Perm ws') (hD : va_D A ws) : va_D A ws' := by
  refine ⟨pm_of ((h.map (fun q => q.1)).nodup_iff.mp (pm_nd hD.1)), fun k q hq => ?_⟩
  obtain ⟨i, hi⟩ := List.getElem?_of_mem (h.mem_iff.mpr (List.mem_of_getElem? hq))
  exact hD.2 i q hi
theorem ap_l {wr wc : va_W} {i : Nat} {q : Nat × va_E} (h : wr[i]? = some q) : (wr ++ wc)[i]? = some q := by
  rw [List.getElem?_append_left (List.getElem?_eq_some_iff.mp h).1]
  exact h
theorem ap_r {wr wc : va_W} {k : Nat} {q : Nat × va_E} (h : wc[k]? = some q) : (wr ++ wc)[wr.length + k]? = some q := by
  rw [List.getElem?_append_right (by omega)]
  simpa using h
theorem fr_join {A0 : Nat → Prop} {D : va_G} {cl : List vw_C} {wr wc w1 : va_W} {H H1 : Heap} (hP : va_P D cl (wr ++ wc) H) (hD : va_D A0 (wr ++ wc))
    (hk : ∀ q : Nat, q < H.size → ¬ va_A wc H.size q → H1[q]? = H[q]?) (hF : ∀ q, va_A wc H.size q → A0 q) (hP1 : va_P D cl w1 H1) (hD1 : va_D (va_A wc H.size) w1) : va_P D cl (wr ++ w1) H1 ∧ va_D A0 (wr ++ w1) := by
  have apart : ∀ (k : Nat) (q : Nat × va_E), wr[k]? = some q → q.1 < H.size ∧ ¬ va_A wc H.size q.1 := by
    intro k q hq
    have hl := (hP k q (ap_l hq)).lt
    refine ⟨hl, fun h => ?_⟩
    rcases h with ⟨k2, e, h⟩ | h
    · have := hD.1 k (wr.length + k2) q (q.1, e) (ap_l hq) (ap_r h) rfl
      have := (List.getElem?_eq_some_iff.mp hq).1
      omega
    · omega
  refine ⟨va_P.app (fun k q hq => ?_) hP1, va_D.app ⟨fun i j x y hi hj => hD.1 i j x y (ap_l hi) (ap_l hj), fun k q hq => hD.2 k q (ap_l hq)⟩ (hD1.weaken (fun k q _ h => hF q.1 h)) (fun i j x y hx hy hxy => ?_)⟩
  · obtain ⟨g1, g2⟩ := apart k q hq
    exact (hP k q (ap_l hq)).kept (hk q.1 g1 g2)
  · exact (apart i x hx).2 (by rw [hxy]; exact hD1.2 j y hy)
theorem pm_skip {b l wr wc : va_W} (h : l.Perm (wr ++ wc)) : (b ++ l).Perm ((b ++ wr) ++ wc) := by
  rw [List.append_assoc]
  exact h.append_left b
theorem pm_last {c l : va_W} : (c ++ l).Perm (l ++ c) := List.perm_append_comm
theorem pm_end {c : va_W} : c.Perm ([] ++ c) := List.Perm.refl c
theorem pm_take {c l wr wc : va_W} (h : l.Perm (wr ++ wc)) : (c ++ l).Perm (wr ++ (c ++ wc)) := (h.append_left c).trans (List.perm_append_comm_assoc c wr wc)
theorem pm_takeR {c l wr wc : va_W} (h : l.Perm (wr ++ wc)) : (c ++ l).Perm (wr ++ (wc ++ c)) := by
  have h1 := (h.append_left c).trans (List.perm_append_comm (l₁ := c) (l₂ := wr ++ wc))
  rw [List.append_assoc] at h1
  exact h1
theorem pm_in {b1 b2 l X : va_W} (h : (b1 ++ (b2 ++ l)).Perm X) : ((b1 ++ b2) ++ l).Perm X := by
  rw [List.append_assoc]
  exact h
section IP
variable {p : Program} {l : Launch} {e : Env} {R : Room} {s : State} {m : MethodId} {args : Array Value} {below : List Frame} {meth : Method} {c : Code} {H : Heap} {locs : List Loc} {cells slots : Nat} {Q : State → Prop}
variable {cc bytes : ByteArray} {pc nL maxL n index : Nat} {ls : Array Slot} {rest As : List Value} {E : wE} {A : Nat → Prop} {b : Nat} {ws ws1 wc wr w1 : va_W} {H0 : Heap} {Ts wt : List Cond} {own C : String} {y : MethodName} {ret : Option FieldType} {rm : Room} {r : Int}
theorem va_wc {D : va_G} {cl : List vw_C} (hP : va_P D cl (wr ++ wc) H) : va_P D cl wc H := fun k q hq => hP _ q (ap_r hq)
theorem va_wcD (hD : va_D A (wr ++ wc)) : va_D A wc := ⟨fun i j x y hi hj h => by
  have := hD.1 _ _ x y (ap_r (wr := wr) hi) (ap_r (wr := wr) hj) h
  omega, fun k q hq => hD.2 _ q (ap_r hq)⟩
theorem va_wcF (hD : va_D A (wr ++ wc)) (hS : va_S A H0 H locs) (hA : ∀ q, H0.size ≤ q → A q) : ∀ q, va_A wc H.size q → A q := fun q h => by
  rcases h with ⟨k, z, h⟩ | h
  · exact hD.2 _ (q, z) (ap_r h)
  · exact hA q (Nat.le_trans hS.1 h)
theorem iv_callIp (S : CallFix p m c cc nL s args Ts own) (hM : cI l y wt rm E H.size (.ref b :: As) wc w1 r) (cw : CallW R s args own C index y bytes maxL ret wt rm 0 0 n)
    (hK : KK E s) (hP : va_P E.1 vwCl ws H) (hD : va_D A ws) (hS : va_S A H0 H locs) (hA : ∀ q, H0.size ≤ q → A q) (q0 ci : Nat) {T : u_T} {N : Nat} {fs : List Value} (he : ws[q0]? = some (b, .inr (ci, fs))) (hc : vwCl[ci]? = some (C, T, N))
    (hw : ws.Perm (wr ++ wc)) (hw1 : ws1.Perm (wr ++ w1))
    (hlen : As.length = n) (hl : ls.size = nL) (hroom : (rest.map fun v => v.category).sum ≤ 8) (hf : cells ≤ R.cells ∧ slots ≤ R.slots) (hdg : decode cc pc = .ok (.invokevirtual index, 3))
    (kk : ∀ (H1 : Heap) (locs1 : List Loc), va_P E.1 vwCl ws1 H1 → va_D A ws1 → va_S A H0 H1 locs1 → W p l e R s m args below meth c H1 locs1 cells slots Q (F0 m (pc + 3) ls (.int (zi r) :: rest))) : W p l e R s m args below meth c H locs cells slots Q (F0 m pc ls (As.reverse ++ .ref b :: rest)) := by
  have hP' := pm_P hw hP
  have hD' := pm_D hw hD
  have hFc := va_wcF hD' hS hA
  refine va_calli (va_runV (As := As) (rest := rest) S hM cw ⟨mPre_blind, va_recv hK.1 hP hc he, fun U hU hW => ⟨rfl, by rw [hU], by rw [hU]; exact va_wc hP', KK.warm hW hK, (va_wcD hD').weaken (fun _ _ _ _ => trivial)⟩⟩ rfl hlen hl rfl (lv_room hroom) hdg hf) hS (fun q _ h => hFc q h) hFc (fun r0 u t H1 locs1 ht hvm hw hB hz1 hk1 hS1 => ?_)
  obtain ⟨hP1, hK1, hD1⟩ := hB
  rw [ht] at hP1
  subst hw
  obtain ⟨hP2, hD2⟩ := fr_join hP' hD' hk1 hFc hP1 hD1
  exact kk H1 locs1 (pm_P hw1.symm hP2) (pm_D hw1.symm hD2) hS1
theorem iv_callVp (S : CallFix p m c cc nL s args Ts own) (hM : cV l y wt rm E H.size (.ref b :: As) wc w1) (cw : CallW R s args own C index y bytes maxL ret wt rm 0 0 n)
    (hK : KK E s) (hP : va_P E.1 vwCl ws H) (hD : va_D A ws) (hS : va_S A H0 H locs) (hA : ∀ q, H0.size ≤ q → A q) (q0 ci : Nat) {T : u_T} {N : Nat} {fs : List Value} (he : ws[q0]? = some (b, .inr (ci, fs))) (hc : vwCl[ci]? = some (C, T, N))
    (hw : ws.Perm (wr ++ wc)) (hw1 : ws1.Perm (wr ++ w1))
    (hlen : As.length = n) (hl : ls.size = nL) (hroom : (rest.map fun v => v.category).sum ≤ 8) (hf : cells ≤ R.cells ∧ slots ≤ R.slots) (hdg : decode cc pc = .ok (.invokevirtual index, 3))
    (kk : ∀ (H1 : Heap) (locs1 : List Loc), va_P E.1 vwCl ws1 H1 → va_D A ws1 → va_S A H0 H1 locs1 → W p l e R s m args below meth c H1 locs1 cells slots Q (F0 m (pc + 3) ls rest)) : W p l e R s m args below meth c H locs cells slots Q (F0 m pc ls (As.reverse ++ .ref b :: rest)) := by
  have hP' := pm_P hw hP
  have hD' := pm_D hw hD
  have hFc := va_wcF hD' hS hA
  refine va_callv (va_runV (As := As) (rest := rest) S hM cw ⟨mPre_blind, va_recv hK.1 hP hc he, fun U hU hW => ⟨rfl, by rw [hU], by rw [hU]; exact va_wc hP', KK.warm hW hK, (va_wcD hD').weaken (fun _ _ _ _ => trivial)⟩⟩ rfl hlen hl rfl (lv_room hroom) hdg hf) hS (fun q _ h => hFc q h) hFc (fun u t H1 locs1 ht hvm hw hB hz1 hk1 hS1 => ?_)
  obtain ⟨hP1, hK1, hD1⟩ := hB
  rw [ht] at hP1
  obtain ⟨hP2, hD2⟩ := fr_join hP' hD' hk1 hFc hP1 hD1
  exact kk H1 locs1 (pm_P hw1.symm hP2) (pm_D hw1.symm hD2) hS1
end IP
