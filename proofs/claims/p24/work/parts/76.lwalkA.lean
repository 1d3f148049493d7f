set_option maxRecDepth 20000 in
theorem wd_L_low_c8 : Cond.constant RL 8 (2147483647) ∈ wsL_low := by decide +kernel
set_option maxHeartbeats 4000000 in
set_option maxRecDepth 100000 in
theorem k_L_low (l : Launch) (E : wE) (sz : Nat) (x0 x1 : Int) (u : Int) (hf : f_L_low x0 x1  = some u) : cI l yL_low wsL_low { frames := 0, cells := 0, slots := 0, locals := 0 } E sz [.int (zi x0), .int (zi x1)] ([]) ([]) u := by
  refine met_go (cc := cL_low) (maxL := 2) (ret := (some .int)) (Q0 := mQi E ([]) u) (by decide +kernel) rfl (Nat.le_of_ble_eq_true rfl) ?_
  intro A p e s m below meth c hx hb hr hml hts hown hlocks hP hK hD hA hS ls hl
  have hl : lv_has ls 2 [(0, .int (zi x0)), (1, .int (zi x1))] := hl
  generalize hH : s.heap = H at hP
  have hS : va_S A s.heap H [] := by rw [← hH]; exact hS
  have hown : s.vm.findClass RL = some m.cls := hown
  have h := hf
  rw [f_L_low] at h
  refine lv_iload_n hx hb dL_low_0 rfl (lv_at hl 0 rfl) ?_
  refine iv_ldc (n := 2147483647) (by decide +kernel) hx hb hown (hts _ wd_L_low_c8) dL_low_1 ?_
  refine iv_iand hx hb dL_low_3 ?_
  refine lv_iload_n hx hb dL_low_4 rfl (lv_at hl 1 rfl) ?_
  obtain ⟨g1, h⟩ := gd_t h
  refine iv_irem hx hb g1 dL_low_5 ?_
  cases h
  exact iv_iret hx hb hr hlocks hK hP hD hS dL_low_6
set_option maxHeartbeats 4000000 in
set_option maxRecDepth 100000 in
theorem k_L_at (l : Launch) (E : wE) (ap an : Nat → Nat) (sz : Nat) (N : Nat) (x2 : Int) (z : bLpn) (u : Int) (hf : f_L_at N x2 z = some u) : cI l yL_at wsL_at { frames := 0, cells := 0, slots := 0, locals := 0 } E sz [.ref (ap 0), .ref (an 0), .int (zi x2)] (wLpn ap an E z) (wLpn ap an E z) u := by
  refine met_go (cc := cL_at) (maxL := 5) (ret := (some .int)) (Q0 := mQi E (wLpn ap an E z) u) (by decide +kernel) rfl (Nat.le_of_ble_eq_true rfl) ?_
  intro A p e s m below meth c hx hb hr hml hts hown hlocks hP hK hD hA hS ls hl
  have hl : lv_has ls 5 [(0, .ref (ap 0)), (1, .ref (an 0)), (2, .int (zi x2))] := hl
  generalize hH : s.heap = H at hP
  have hS : va_S A s.heap H [] := by rw [← hH]; exact hS
  have hown : s.vm.findClass RL = some m.cls := hown
  have loop5 : ∀ (kt : Int → Int → Int → Option Int) (n : Nat), (∀ (v1 : Int) (v2 : Int) (v3 : Int) (H : Heap) (locs : List Loc) (ls : Array Slot), kt v1 v2 v3 = some u → va_P E.1 vwCl (wLpn ap an E z) H → va_D A (wLpn ap an E z) → va_S A s.heap H locs → lv_has ls 5 [(0, .ref (ap 0)), (1, .ref (an 0)), (2, .int (zi v1)), (3, .int (zi v2)), (4, .int (zi v3))] → W p l e ({ frames := 0, cells := 0, slots := 0, locals := 0 }) s m ([.ref (ap 0), .ref (an 0), .int (zi x2)] : List Value).toArray below meth c H locs 0 0 (MQ below (mQi E (wLpn ap an E z) u A) ([.ref (ap 0), .ref (an 0), .int (zi x2)] : List Value).toArray s 0 0 A) (F0 m 38 ls [])) → ∀ (v1 : Int) (v2 : Int) (v3 : Int) (H : Heap) (locs : List Loc) (ls : Array Slot), f_L_at_L5 N z kt n v1 v2 v3 = some u → va_P E.1 vwCl (wLpn ap an E z) H → va_D A (wLpn ap an E z) → va_S A s.heap H locs → lv_has ls 5 [(0, .ref (ap 0)), (1, .ref (an 0)), (2, .int (zi v1)), (3, .int (zi v2)), (4, .int (zi v3))] → W p l e ({ frames := 0, cells := 0, slots := 0, locals := 0 }) s m ([.ref (ap 0), .ref (an 0), .int (zi x2)] : List Value).toArray below meth c H locs 0 0 (MQ below (mQi E (wLpn ap an E z) u A) ([.ref (ap 0), .ref (an 0), .int (zi x2)] : List Value).toArray s 0 0 A) (F0 m 5 ls []) := by
    intro kt n hk
    induction n with
    | zero =>
      intro v1 v2 v3 H locs ls h
      exact absurd (show (none : Option Int) = some u from h) (by simp)
    | succ n ih =>
      intro v1 v2 v3 H locs ls h hP hD hS hl
      rw [f_L_at_L5] at h
      refine lv_iload hx hb dL_at_5 (lv_at hl 4 rfl) ?_
      refine lv_aload_n hx hb dL_at_7 rfl (lv_at hl 1 rfl) ?_
      refine iv_bipush hx hb dL_at_8 (by decide +kernel) ?_
      refine iv_iald (f := z.2) (j := 13) hx hb hK.1 hP 1 0 rfl rfl (by decide) (by decide +kernel) rfl dL_at_10 ?_
      obtain ⟨g4, h⟩ := gd_t h
      obtain ⟨g5, h⟩ := gd_t h
      refine iv_ige (tgt := 38) hx hb g4 g5 dL_at_11 (by decide) (fun c6 => ?_) (fun c6 => ?_)
      · have h := it_t c6 h
        exact hk v1 v2 v3 _ _ _ h hP hD hS (lv_sub hl [0, 1, 2, 3, 4] rfl)
      · have h := it_f c6 h
        refine lv_iload_n hx hb dL_at_14 rfl (lv_at hl 3 rfl) ?_
        refine lv_aload_n hx hb dL_at_15 rfl (lv_at hl 0 rfl) ?_
        refine iv_iconst hx hb dL_at_16 ?_
        refine lv_iload hx hb dL_at_17 (lv_at hl 4 rfl) ?_
        refine iv_imul hx hb dL_at_19 ?_
        obtain ⟨g7, h⟩ := gd_t h
        refine iv_iald (f := z.1) (j := (3 * v3).toNat) hx hb hK.1 hP 0 0 rfl rfl (by decide) g7 rfl dL_at_20 ?_
        refine lv_iload_n hx hb dL_at_21 rfl (lv_at hl 2 rfl) ?_
        obtain ⟨g8, h⟩ := gd_t h
        obtain ⟨g9, h⟩ := gd_t h
        obtain ⟨j11, e12, h⟩ := jn1_t h
        have hj11 : ∀ (v10 : Int) (H : Heap) (locs : List Loc) (ls : Array Slot), j11 v10 = some u → va_P E.1 vwCl (wLpn ap an E z) H → va_D A (wLpn ap an E z) → va_S A s.heap H locs → lv_has ls 5 [(0, .ref (ap 0)), (1, .ref (an 0)), (2, .int (zi v1)), (3, .int (zi v2)), (4, .int (zi v3))] → W p l e ({ frames := 0, cells := 0, slots := 0, locals := 0 }) s m ([.ref (ap 0), .ref (an 0), .int (zi x2)] : List Value).toArray below meth c H locs 0 0 (MQ below (mQi E (wLpn ap an E z) u A) ([.ref (ap 0), .ref (an 0), .int (zi x2)] : List Value).toArray s 0 0 A) (F0 m 30 ls [.int (zi v10), .int (zi v2)]) := by
          intro v10 H locs ls h hP hD hS hl
          rw [e12] at h
          refine iv_iadd hx hb dL_at_30 ?_
          obtain ⟨v13, e14, h⟩ := nm_t h
          refine iv_nm e14 ?_
          refine lv_istore_n (lv' := [(3, .int (zi v13)), (0, .ref (ap 0)), (1, .ref (an 0)), (2, .int (zi v1)), (4, .int (zi v3))]) hx hb dL_at_31 rfl hl (by decide) rfl (fun ls hl => ?_)
          refine lv_iinc (v := zi (v3 + 1)) (lv' := [(4, .int (zi (v3 + 1))), (3, .int (zi v13)), (0, .ref (ap 0)), (1, .ref (an 0)), (2, .int (zi v1))]) hx hb dL_at_32 hl (k := 4) rfl (by rw [zi_add]; rfl) (by decide) rfl (fun ls hl => ?_)
          refine lv_goto (tgt := 5) hx hb dL_at_35 (by decide) ?_
          exact ih v1 v13 (v3 + 1) _ _ _ h hP hD hS (lv_sub hl [2, 3, 4, 1, 0] rfl)
        refine iv_ine (tgt := 29) hx hb g8 g9 dL_at_22 (by decide) (fun c15 => ?_) (fun c15 => ?_)
        · have h := it_f c15 h
          refine iv_iconst hx hb dL_at_29 ?_
          exact hj11 0 _ _ _ h hP hD hS (lv_sub hl [0, 1, 2, 3, 4] rfl)
        · have h := it_t c15 h
          refine iv_iconst hx hb dL_at_25 ?_
          refine lv_goto (tgt := 30) hx hb dL_at_26 (by decide) ?_
          exact hj11 1 _ _ _ h hP hD hS (lv_sub hl [0, 1, 2, 3, 4] rfl)
  have h := hf
  rw [f_L_at] at h
  refine iv_iconst hx hb dL_at_0 ?_
  refine lv_istore_n (lv' := [(3, .int (zi 0)), (0, .ref (ap 0)), (1, .ref (an 0)), (2, .int (zi x2))]) hx hb dL_at_1 rfl hl (by decide) rfl (fun ls hl => ?_)
  refine iv_iconst hx hb dL_at_2 ?_
  refine lv_istore (lv' := [(4, .int (zi 0)), (3, .int (zi 0)), (0, .ref (ap 0)), (1, .ref (an 0)), (2, .int (zi x2))]) hx hb dL_at_3 hl (by decide) rfl (fun ls hl => ?_)
  refine loop5 (fun v16 v17 v18 => some v17) N (fun v16 v17 v18 H locs ls h hP hD hS hl => ?_) x2 0 0 _ _ _ h hP hD hS (lv_sub hl [2, 3, 4, 1, 0] rfl)
  refine lv_iload_n hx hb dL_at_38 rfl (lv_at hl 3 rfl) ?_
  cases h
  exact iv_iret hx hb hr hlocks hK hP hD hS dL_at_39
set_option maxHeartbeats 4000000 in
set_option maxRecDepth 100000 in
theorem k_L_in (l : Launch) (E : wE) (ap an : Nat → Nat) (sz : Nat) (N : Nat) (x2 : Int) (z : bLpn) (u : Int) (hf : f_L_in N x2 z = some u) : cI l yL_in wsL_in { frames := 0, cells := 0, slots := 0, locals := 0 } E sz [.ref (ap 0), .ref (an 0), .int (zi x2)] (wLpn ap an E z) (wLpn ap an E z) u := by
  refine met_go (cc := cL_in) (maxL := 5) (ret := (some .int)) (Q0 := mQi E (wLpn ap an E z) u) (by decide +kernel) rfl (Nat.le_of_ble_eq_true rfl) ?_
  intro A p e s m below meth c hx hb hr hml hts hown hlocks hP hK hD hA hS ls hl
  have hl : lv_has ls 5 [(0, .ref (ap 0)), (1, .ref (an 0)), (2, .int (zi x2))] := hl
  generalize hH : s.heap = H at hP
  have hS : va_S A s.heap H [] := by rw [← hH]; exact hS
  have hown : s.vm.findClass RL = some m.cls := hown
  have loop5 : ∀ (kt : Int → Int → Int → Option Int) (n : Nat), (∀ (v1 : Int) (v2 : Int) (v3 : Int) (H : Heap) (locs : List Loc) (ls : Array Slot), kt v1 v2 v3 = some u → va_P E.1 vwCl (wLpn ap an E z) H → va_D A (wLpn ap an E z) → va_S A s.heap H locs → lv_has ls 5 [(0, .ref (ap 0)), (1, .ref (an 0)), (2, .int (zi v1)), (3, .int (zi v2)), (4, .int (zi v3))] → W p l e ({ frames := 0, cells := 0, slots := 0, locals := 0 }) s m ([.ref (ap 0), .ref (an 0), .int (zi x2)] : List Value).toArray below meth c H locs 0 0 (MQ below (mQi E (wLpn ap an E z) u A) ([.ref (ap 0), .ref (an 0), .int (zi x2)] : List Value).toArray s 0 0 A) (F0 m 50 ls [])) → ∀ (v1 : Int) (v2 : Int) (v3 : Int) (H : Heap) (locs : List Loc) (ls : Array Slot), f_L_in_L5 N z kt n v1 v2 v3 = some u → va_P E.1 vwCl (wLpn ap an E z) H → va_D A (wLpn ap an E z) → va_S A s.heap H locs → lv_has ls 5 [(0, .ref (ap 0)), (1, .ref (an 0)), (2, .int (zi v1)), (3, .int (zi v2)), (4, .int (zi v3))] → W p l e ({ frames := 0, cells := 0, slots := 0, locals := 0 }) s m ([.ref (ap 0), .ref (an 0), .int (zi x2)] : List Value).toArray below meth c H locs 0 0 (MQ below (mQi E (wLpn ap an E z) u A) ([.ref (ap 0), .ref (an 0), .int (zi x2)] : List Value).toArray s 0 0 A) (F0 m 5 ls []) := by
    intro kt n hk
    induction n with
    | zero =>
      intro v1 v2 v3 H locs ls h
      exact absurd (show (none : Option Int) = some u from h) (by simp)
    | succ n ih =>
      intro v1 v2 v3 H locs ls h hP hD hS hl
      rw [f_L_in_L5] at h
      refine lv_iload hx hb dL_in_5 (lv_at hl 4 rfl) ?_
      refine lv_aload_n hx hb dL_in_7 rfl (lv_at hl 1 rfl) ?_
      refine iv_bipush hx hb dL_in_8 (by decide +kernel) ?_
      refine iv_iald (f := z.2) (j := 13) hx hb hK.1 hP 1 0 rfl rfl (by decide) (by decide +kernel) rfl dL_in_10 ?_
      obtain ⟨g4, h⟩ := gd_t h
      obtain ⟨g5, h⟩ := gd_t h
      refine iv_ige (tgt := 50) hx hb g4 g5 dL_in_11 (by decide) (fun c6 => ?_) (fun c6 => ?_)
      · have h := it_t c6 h
        exact hk v1 v2 v3 _ _ _ h hP hD hS (lv_sub hl [0, 1, 2, 3, 4] rfl)
      · have h := it_f c6 h
        refine lv_iload_n hx hb dL_in_14 rfl (lv_at hl 3 rfl) ?_
        refine lv_aload_n hx hb dL_in_15 rfl (lv_at hl 0 rfl) ?_
        refine iv_iconst hx hb dL_in_16 ?_
        refine lv_iload hx hb dL_in_17 (lv_at hl 4 rfl) ?_
        refine iv_imul hx hb dL_in_19 ?_
        obtain ⟨g7, h⟩ := gd_t h
        refine iv_iald (f := z.1) (j := (3 * v3).toNat) hx hb hK.1 hP 0 0 rfl rfl (by decide) g7 rfl dL_in_20 ?_
        refine iv_iconst hx hb dL_in_21 ?_
        obtain ⟨g8, h⟩ := gd_t h
        obtain ⟨j10, e11, h⟩ := jn1_t h
        have hj10 : ∀ (v9 : Int) (H : Heap) (locs : List Loc) (ls : Array Slot), j10 v9 = some u → va_P E.1 vwCl (wLpn ap an E z) H → va_D A (wLpn ap an E z) → va_S A s.heap H locs → lv_has ls 5 [(0, .ref (ap 0)), (1, .ref (an 0)), (2, .int (zi v1)), (3, .int (zi v2)), (4, .int (zi v3))] → W p l e ({ frames := 0, cells := 0, slots := 0, locals := 0 }) s m ([.ref (ap 0), .ref (an 0), .int (zi x2)] : List Value).toArray below meth c H locs 0 0 (MQ below (mQi E (wLpn ap an E z) u A) ([.ref (ap 0), .ref (an 0), .int (zi x2)] : List Value).toArray s 0 0 A) (F0 m 42 ls [.int (zi v9), .int (zi v2)]) := by
          intro v9 H locs ls h hP hD hS hl
          rw [e11] at h
          refine iv_iadd hx hb dL_in_42 ?_
          obtain ⟨v12, e13, h⟩ := nm_t h
          refine iv_nm e13 ?_
          refine lv_istore_n (lv' := [(3, .int (zi v12)), (0, .ref (ap 0)), (1, .ref (an 0)), (2, .int (zi v1)), (4, .int (zi v3))]) hx hb dL_in_43 rfl hl (by decide) rfl (fun ls hl => ?_)
          refine lv_iinc (v := zi (v3 + 1)) (lv' := [(4, .int (zi (v3 + 1))), (3, .int (zi v12)), (0, .ref (ap 0)), (1, .ref (an 0)), (2, .int (zi v1))]) hx hb dL_in_44 hl (k := 4) rfl (by rw [zi_add]; rfl) (by decide) rfl (fun ls hl => ?_)
          refine lv_goto (tgt := 5) hx hb dL_in_47 (by decide) ?_
          exact ih v1 v12 (v3 + 1) _ _ _ h hP hD hS (lv_sub hl [2, 3, 4, 1, 0] rfl)
        refine iv_ine (tgt := 41) hx hb g8 (by decide +kernel) dL_in_22 (by decide) (fun c14 => ?_) (fun c14 => ?_)
        · have h := it_f c14 h
          refine iv_iconst hx hb dL_in_41 ?_
          exact hj10 0 _ _ _ h hP hD hS (lv_sub hl [0, 1, 2, 3, 4] rfl)
        · have h := it_t c14 h
          refine lv_aload_n hx hb dL_in_25 rfl (lv_at hl 0 rfl) ?_
          refine iv_iconst hx hb dL_in_26 ?_
          refine lv_iload hx hb dL_in_27 (lv_at hl 4 rfl) ?_
          refine iv_imul hx hb dL_in_29 ?_
          refine iv_iconst hx hb dL_in_30 ?_
          refine iv_iadd hx hb dL_in_31 ?_
          obtain ⟨g15, h⟩ := gd_t h
          refine iv_iald (f := z.1) (j := ((3 * v3) + 1).toNat) hx hb hK.1 hP 0 0 rfl rfl (by decide) g15 rfl dL_in_32 ?_
          refine lv_iload_n hx hb dL_in_33 rfl (lv_at hl 2 rfl) ?_
          obtain ⟨g16, h⟩ := gd_t h
          obtain ⟨g17, h⟩ := gd_t h
          refine iv_ine (tgt := 41) hx hb g16 g17 dL_in_34 (by decide) (fun c18 => ?_) (fun c18 => ?_)
          · have h := it_f c18 h
            refine iv_iconst hx hb dL_in_41 ?_
            exact hj10 0 _ _ _ h hP hD hS (lv_sub hl [0, 1, 2, 3, 4] rfl)
          · have h := it_t c18 h
            refine iv_iconst hx hb dL_in_37 ?_
            refine lv_goto (tgt := 42) hx hb dL_in_38 (by decide) ?_
            exact hj10 1 _ _ _ h hP hD hS (lv_sub hl [0, 1, 2, 3, 4] rfl)
  have h := hf
  rw [f_L_in] at h
  refine iv_iconst hx hb dL_in_0 ?_
  refine lv_istore_n (lv' := [(3, .int (zi 0)), (0, .ref (ap 0)), (1, .ref (an 0)), (2, .int (zi x2))]) hx hb dL_in_1 rfl hl (by decide) rfl (fun ls hl => ?_)
  refine iv_iconst hx hb dL_in_2 ?_
  refine lv_istore (lv' := [(4, .int (zi 0)), (3, .int (zi 0)), (0, .ref (ap 0)), (1, .ref (an 0)), (2, .int (zi x2))]) hx hb dL_in_3 hl (by decide) rfl (fun ls hl => ?_)
  refine loop5 (fun v19 v20 v21 => some v20) N (fun v19 v20 v21 H locs ls h hP hD hS hl => ?_) x2 0 0 _ _ _ h hP hD hS (lv_sub hl [2, 3, 4, 1, 0] rfl)
  refine lv_iload_n hx hb dL_in_50 rfl (lv_at hl 3 rfl) ?_
  cases h
  exact iv_iret hx hb hr hlocks hK hP hD hS dL_in_51
set_option maxHeartbeats 4000000 in
set_option maxRecDepth 100000 in
theorem k_L_goes (l : Launch) (E : wE) (ag am an : Nat → Nat) (sz : Nat) (x3 : Int) (z : bLgmn) (u : Int) (hf : f_L_goes x3 z = some u) : cI l yL_goes wsL_goes { frames := 0, cells := 0, slots := 0, locals := 0 } E sz [.ref (ag 0), .ref (am 0), .ref (an 0), .int (zi x3)] (wLgmn ag am an E z) (wLgmn ag am an E z) u := by
  refine met_go (cc := cL_goes) (maxL := 4) (ret := (some .int)) (Q0 := mQi E (wLgmn ag am an E z) u) (by decide +kernel) rfl (Nat.le_of_ble_eq_true rfl) ?_
  intro A p e s m below meth c hx hb hr hml hts hown hlocks hP hK hD hA hS ls hl
  have hl : lv_has ls 4 [(0, .ref (ag 0)), (1, .ref (am 0)), (2, .ref (an 0)), (3, .int (zi x3))] := hl
  generalize hH : s.heap = H at hP
  have hS : va_S A s.heap H [] := by rw [← hH]; exact hS
  have hown : s.vm.findClass RL = some m.cls := hown
  have h := hf
  rw [f_L_goes] at h
  refine lv_aload_n hx hb dL_goes_0 rfl (lv_at hl 1 rfl) ?_
  refine iv_iconst hx hb dL_goes_1 ?_
  refine lv_iload_n hx hb dL_goes_2 rfl (lv_at hl 3 rfl) ?_
  refine iv_imul hx hb dL_goes_3 ?_
  obtain ⟨g1, h⟩ := gd_t h
  refine iv_iald (f := z.2.1) (j := (3 * x3).toNat) hx hb hK.1 hP 1 0 rfl rfl (by decide) g1 rfl dL_goes_4 ?_
  refine lv_aload_n hx hb dL_goes_5 rfl (lv_at hl 2 rfl) ?_
  refine iv_iconst hx hb dL_goes_6 ?_
  refine iv_iald (f := z.2.2) (j := 3) hx hb hK.1 hP 2 0 rfl rfl (by decide) (by decide +kernel) rfl dL_goes_7 ?_
  obtain ⟨g2, h⟩ := gd_t h
  obtain ⟨g3, h⟩ := gd_t h
  refine iv_ile (tgt := 13) hx hb g2 g3 dL_goes_8 (by decide) (fun c4 => ?_) (fun c4 => ?_)
  · have h := it_t c4 h
    refine lv_aload_n hx hb dL_goes_13 rfl (lv_at hl 0 rfl) ?_
    refine iv_iconst hx hb dL_goes_14 ?_
    refine lv_iload_n hx hb dL_goes_15 rfl (lv_at hl 3 rfl) ?_
    refine iv_imul hx hb dL_goes_16 ?_
    refine iv_iconst hx hb dL_goes_17 ?_
    refine iv_iadd hx hb dL_goes_18 ?_
    obtain ⟨g5, h⟩ := gd_t h
    refine iv_iald (f := z.1) (j := ((3 * x3) + 2).toNat) hx hb hK.1 hP 0 0 rfl rfl (by decide) g5 rfl dL_goes_19 ?_
    refine lv_aload_n hx hb dL_goes_20 rfl (lv_at hl 2 rfl) ?_
    refine iv_iconst hx hb dL_goes_21 ?_
    refine iv_iald (f := z.2.2) (j := 4) hx hb hK.1 hP 2 0 rfl rfl (by decide) (by decide +kernel) rfl dL_goes_22 ?_
    obtain ⟨g6, h⟩ := gd_t h
    obtain ⟨g7, h⟩ := gd_t h
    refine iv_ilt (tgt := 28) hx hb g6 g7 dL_goes_23 (by decide) (fun c8 => ?_) (fun c8 => ?_)
    · have h := it_t c8 h
      refine lv_aload_n hx hb dL_goes_28 rfl (lv_at hl 0 rfl) ?_
      refine iv_iconst hx hb dL_goes_29 ?_
      refine lv_iload_n hx hb dL_goes_30 rfl (lv_at hl 3 rfl) ?_
      refine iv_imul hx hb dL_goes_31 ?_
      refine iv_iconst hx hb dL_goes_32 ?_
      refine iv_iadd hx hb dL_goes_33 ?_
      obtain ⟨g9, h⟩ := gd_t h
      refine iv_iald (f := z.1) (j := ((3 * x3) + 1).toNat) hx hb hK.1 hP 0 0 rfl rfl (by decide) g9 rfl dL_goes_34 ?_
      refine lv_aload_n hx hb dL_goes_35 rfl (lv_at hl 2 rfl) ?_
      refine iv_iconst hx hb dL_goes_36 ?_
      refine iv_iald (f := z.2.2) (j := 2) hx hb hK.1 hP 2 0 rfl rfl (by decide) (by decide +kernel) rfl dL_goes_37 ?_
      obtain ⟨g10, h⟩ := gd_t h
      obtain ⟨g11, h⟩ := gd_t h
      obtain ⟨j13, e14, h⟩ := jn1_t h
      have hj13 : ∀ (v12 : Int) (H : Heap) (locs : List Loc) (ls : Array Slot), j13 v12 = some u → va_P E.1 vwCl (wLgmn ag am an E z) H → va_D A (wLgmn ag am an E z) → va_S A s.heap H locs → lv_has ls 4 [(0, .ref (ag 0)), (1, .ref (am 0)), (2, .ref (an 0)), (3, .int (zi x3))] → W p l e ({ frames := 0, cells := 0, slots := 0, locals := 0 }) s m ([.ref (ag 0), .ref (am 0), .ref (an 0), .int (zi x3)] : List Value).toArray below meth c H locs 0 0 (MQ below (mQi E (wLgmn ag am an E z) u A) ([.ref (ag 0), .ref (am 0), .ref (an 0), .int (zi x3)] : List Value).toArray s 0 0 A) (F0 m 46 ls [.int (zi v12)]) := by
        intro v12 H locs ls h hP hD hS hl
        rw [e14] at h
        cases h
        exact iv_iret hx hb hr hlocks hK hP hD hS dL_goes_46
      refine iv_ile (tgt := 45) hx hb g10 g11 dL_goes_38 (by decide) (fun c15 => ?_) (fun c15 => ?_)
      · have h := it_t c15 h
        refine iv_iconst hx hb dL_goes_45 ?_
        exact hj13 5 _ _ _ h hP hD hS (lv_sub hl [0, 1, 2, 3] rfl)
      · have h := it_f c15 h
        refine iv_iconst hx hb dL_goes_41 ?_
        refine lv_goto (tgt := 46) hx hb dL_goes_42 (by decide) ?_
        exact hj13 4 _ _ _ h hP hD hS (lv_sub hl [0, 1, 2, 3] rfl)
    · have h := it_f c8 h
      refine iv_iconst hx hb dL_goes_26 ?_
      cases h
      exact iv_iret (r := 2) hx hb hr hlocks hK hP hD hS dL_goes_27
  · have h := it_f c4 h
    refine iv_iconst hx hb dL_goes_11 ?_
    cases h
    exact iv_iret (r := 1) hx hb hr hlocks hK hP hD hS dL_goes_12
set_option maxHeartbeats 4000000 in
set_option maxRecDepth 100000 in
theorem k_L_binOf (l : Launch) (E : wE) (ag an : Nat → Nat) (sz : Nat) (N : Nat) (x2 : Int) (z : bLgn) (u : Int) (hf : f_L_binOf N x2 z = some u) : cI l yL_binOf wsL_binOf { frames := 0, cells := 0, slots := 0, locals := 0 } E sz [.ref (ag 0), .ref (an 0), .int (zi x2)] (wLgn ag an E z) (wLgn ag an E z) u := by
  refine met_go (cc := cL_binOf) (maxL := 4) (ret := (some .int)) (Q0 := mQi E (wLgn ag an E z) u) (by decide +kernel) rfl (Nat.le_of_ble_eq_true rfl) ?_
  intro A p e s m below meth c hx hb hr hml hts hown hlocks hP hK hD hA hS ls hl
  have hl : lv_has ls 4 [(0, .ref (ag 0)), (1, .ref (an 0)), (2, .int (zi x2))] := hl
  generalize hH : s.heap = H at hP
  have hS : va_S A s.heap H [] := by rw [← hH]; exact hS
  have hown : s.vm.findClass RL = some m.cls := hown
  have loop2 : ∀ (kt : Int → Int → Option Int) (n : Nat), (∀ (v1 : Int) (v2 : Int) (H : Heap) (locs : List Loc) (ls : Array Slot), kt v1 v2 = some u → va_P E.1 vwCl (wLgn ag an E z) H → va_D A (wLgn ag an E z) → va_S A s.heap H locs → lv_has ls 4 [(0, .ref (ag 0)), (1, .ref (an 0)), (2, .int (zi v1)), (3, .int (zi v2))] → W p l e ({ frames := 0, cells := 0, slots := 0, locals := 0 }) s m ([.ref (ag 0), .ref (an 0), .int (zi x2)] : List Value).toArray below meth c H locs 0 0 (MQ below (mQi E (wLgn ag an E z) u A) ([.ref (ag 0), .ref (an 0), .int (zi x2)] : List Value).toArray s 0 0 A) (F0 m 21 ls [])) → ∀ (v1 : Int) (v2 : Int) (H : Heap) (locs : List Loc) (ls : Array Slot), f_L_binOf_L2 N z kt n v1 v2 = some u → va_P E.1 vwCl (wLgn ag an E z) H → va_D A (wLgn ag an E z) → va_S A s.heap H locs → lv_has ls 4 [(0, .ref (ag 0)), (1, .ref (an 0)), (2, .int (zi v1)), (3, .int (zi v2))] → W p l e ({ frames := 0, cells := 0, slots := 0, locals := 0 }) s m ([.ref (ag 0), .ref (an 0), .int (zi x2)] : List Value).toArray below meth c H locs 0 0 (MQ below (mQi E (wLgn ag an E z) u A) ([.ref (ag 0), .ref (an 0), .int (zi x2)] : List Value).toArray s 0 0 A) (F0 m 2 ls []) := by
    intro kt n hk
    induction n with
    | zero =>
      intro v1 v2 H locs ls h
      exact absurd (show (none : Option Int) = some u from h) (by simp)
    | succ n ih =>
      intro v1 v2 H locs ls h hP hD hS hl
      rw [f_L_binOf_L2] at h
      refine lv_aload_n hx hb dL_binOf_2 rfl (lv_at hl 1 rfl) ?_
      refine lv_iload_n hx hb dL_binOf_3 rfl (lv_at hl 3 rfl) ?_
      obtain ⟨g3, h⟩ := gd_t h
      refine iv_iald (f := z.2) (j := v2.toNat) hx hb hK.1 hP 1 0 rfl rfl (by decide) g3 rfl dL_binOf_4 ?_
      refine lv_aload_n hx hb dL_binOf_5 rfl (lv_at hl 0 rfl) ?_
      refine iv_iconst hx hb dL_binOf_6 ?_
      refine lv_iload_n hx hb dL_binOf_7 rfl (lv_at hl 2 rfl) ?_
      refine iv_imul hx hb dL_binOf_8 ?_
      refine iv_iconst hx hb dL_binOf_9 ?_
      refine iv_iadd hx hb dL_binOf_10 ?_
      obtain ⟨g4, h⟩ := gd_t h
      refine iv_iald (f := z.1) (j := ((3 * v1) + 1).toNat) hx hb hK.1 hP 0 0 rfl rfl (by decide) g4 rfl dL_binOf_11 ?_
      obtain ⟨g5, h⟩ := gd_t h
      obtain ⟨g6, h⟩ := gd_t h
      refine iv_ige (tgt := 21) hx hb g5 g6 dL_binOf_12 (by decide) (fun c7 => ?_) (fun c7 => ?_)
      · have h := it_t c7 h
        exact hk v1 v2 _ _ _ h hP hD hS (lv_sub hl [0, 1, 2, 3] rfl)
      · have h := it_f c7 h
        refine lv_iinc (v := zi (v2 + 1)) (lv' := [(3, .int (zi (v2 + 1))), (0, .ref (ag 0)), (1, .ref (an 0)), (2, .int (zi v1))]) hx hb dL_binOf_15 hl (k := 3) rfl (by rw [zi_add]; rfl) (by decide) rfl (fun ls hl => ?_)
        refine lv_goto (tgt := 2) hx hb dL_binOf_18 (by decide) ?_
        exact ih v1 (v2 + 1) _ _ _ h hP hD hS (lv_sub hl [1, 2, 3, 0] rfl)
  have h := hf
  rw [f_L_binOf] at h
  refine iv_iconst hx hb dL_binOf_0 ?_
  refine lv_istore_n (lv' := [(3, .int (zi 0)), (0, .ref (ag 0)), (1, .ref (an 0)), (2, .int (zi x2))]) hx hb dL_binOf_1 rfl hl (by decide) rfl (fun ls hl => ?_)
  refine loop2 (fun v8 v9 => gd (inb (3 * v8) 60) <| some (((4 * v9) + (z.1 ((3 * v8).toNat))) - 1)) N (fun v8 v9 H locs ls h hP hD hS hl => ?_) x2 0 _ _ _ h hP hD hS (lv_sub hl [1, 2, 3, 0] rfl)
  refine iv_iconst hx hb dL_binOf_21 ?_
  refine lv_iload_n hx hb dL_binOf_22 rfl (lv_at hl 3 rfl) ?_
  refine iv_imul hx hb dL_binOf_23 ?_
  refine lv_aload_n hx hb dL_binOf_24 rfl (lv_at hl 0 rfl) ?_
  refine iv_iconst hx hb dL_binOf_25 ?_
  refine lv_iload_n hx hb dL_binOf_26 rfl (lv_at hl 2 rfl) ?_
  refine iv_imul hx hb dL_binOf_27 ?_
  obtain ⟨g10, h⟩ := gd_t h
  refine iv_iald (f := z.1) (j := (3 * v8).toNat) hx hb hK.1 hP 0 0 rfl rfl (by decide) g10 rfl dL_binOf_28 ?_
  refine iv_iadd hx hb dL_binOf_29 ?_
  refine iv_iconst hx hb dL_binOf_30 ?_
  refine iv_isub hx hb dL_binOf_31 ?_
  cases h
  exact iv_iret hx hb hr hlocks hK hP hD hS dL_binOf_32
set_option maxHeartbeats 4000000 in
set_option maxRecDepth 100000 in
theorem k_L_sorts (l : Launch) (E : wE) (ag am ap aw an : Nat → Nat) (sz : Nat) (N : Nat) (z : bLgmpwn) (u : bLgmpwn) (hf : f_L_sorts N z = some u) : cV l yL_sorts wsL_sorts { frames := 1, cells := 0, slots := 0, locals := 24 } E sz [.ref (ag 0), .ref (am 0), .ref (ap 0), .ref (aw 0), .ref (an 0)] (wLgmpwn ag am ap aw an E z) (wLgmpwn ag am ap aw an E u) := by
  refine met_go (cc := cL_sorts) (maxL := 9) (ret := none) (Q0 := mQv E (wLgmpwn ag am ap aw an E u)) (by decide +kernel) rfl (Nat.le_of_ble_eq_true rfl) ?_
  intro A p e s m below meth c hx hb hr hml hts hown hlocks hP hK hD hA hS ls hl
  have hl : lv_has ls 9 [(0, .ref (ag 0)), (1, .ref (am 0)), (2, .ref (ap 0)), (3, .ref (aw 0)), (4, .ref (an 0))] := hl
  generalize hH : s.heap = H at hP
  have hS : va_S A s.heap H [] := by rw [← hH]; exact hS
  have hown : s.vm.findClass RL = some m.cls := hown
  have loop17 : ∀ (kt : Int → Int → bLgmpwn → Option bLgmpwn) (n : Nat), (∀ (v5 : Int) (v6 : Int) (s7 : bLgmpwn) (H : Heap) (locs : List Loc) (ls : Array Slot), kt v5 v6 s7 = some u → va_P E.1 vwCl (wLgmpwn ag am ap aw an E s7) H → va_D A (wLgmpwn ag am ap aw an E s7) → va_S A s.heap H locs → lv_has ls 9 [(0, .ref (ag 0)), (1, .ref (am 0)), (2, .ref (ap 0)), (3, .ref (aw 0)), (4, .ref (an 0)), (5, .int (zi v5)), (6, .int (zi v6))] → W p l e ({ frames := 1, cells := 0, slots := 0, locals := 24 }) s m ([.ref (ag 0), .ref (am 0), .ref (ap 0), .ref (aw 0), .ref (an 0)] : List Value).toArray below meth c H locs 0 0 (MQ below (mQv E (wLgmpwn ag am ap aw an E u) A) ([.ref (ag 0), .ref (am 0), .ref (ap 0), .ref (aw 0), .ref (an 0)] : List Value).toArray s 0 0 A) (F0 m 43 ls [])) → ∀ (v5 : Int) (v6 : Int) (s7 : bLgmpwn) (H : Heap) (locs : List Loc) (ls : Array Slot), f_L_sorts_L17 N kt n v5 v6 s7 = some u → va_P E.1 vwCl (wLgmpwn ag am ap aw an E s7) H → va_D A (wLgmpwn ag am ap aw an E s7) → va_S A s.heap H locs → lv_has ls 9 [(0, .ref (ag 0)), (1, .ref (am 0)), (2, .ref (ap 0)), (3, .ref (aw 0)), (4, .ref (an 0)), (5, .int (zi v5)), (6, .int (zi v6))] → W p l e ({ frames := 1, cells := 0, slots := 0, locals := 24 }) s m ([.ref (ag 0), .ref (am 0), .ref (ap 0), .ref (aw 0), .ref (an 0)] : List Value).toArray below meth c H locs 0 0 (MQ below (mQv E (wLgmpwn ag am ap aw an E u) A) ([.ref (ag 0), .ref (am 0), .ref (ap 0), .ref (aw 0), .ref (an 0)] : List Value).toArray s 0 0 A) (F0 m 17 ls []) := by
    intro kt n hk
    induction n with
    | zero =>
      intro v5 v6 s7 H locs ls h
      exact absurd (show (none : Option bLgmpwn) = some u from h) (by simp)
    | succ n ih =>
      intro v5 v6 s7 H locs ls h hP hD hS hl
      rw [f_L_sorts_L17] at h
      refine lv_iload hx hb dL_sorts_17 (lv_at hl 6 rfl) ?_
      refine lv_aload hx hb dL_sorts_19 (lv_at hl 4 rfl) ?_
      refine iv_bipush hx hb dL_sorts_21 (by decide +kernel) ?_
      refine iv_iald (f := s7.2.2.2.2) (j := 14) hx hb hK.1 hP 4 0 rfl rfl (by decide) (by decide +kernel) rfl dL_sorts_23 ?_
      obtain ⟨g8, h⟩ := gd_t h
      obtain ⟨g9, h⟩ := gd_t h
      refine iv_ige (tgt := 43) hx hb g8 g9 dL_sorts_24 (by decide) (fun c10 => ?_) (fun c10 => ?_)
      · have h := it_t c10 h
        exact hk v5 v6 s7 _ _ _ h hP hD hS (lv_sub hl [0, 1, 2, 3, 4, 5, 6] rfl)
      · have h := it_f c10 h
        refine lv_aload_n hx hb dL_sorts_27 rfl (lv_at hl 3 rfl) ?_
        refine lv_iload hx hb dL_sorts_28 (lv_at hl 6 rfl) ?_
        refine lv_aload_n hx hb dL_sorts_30 rfl (lv_at hl 3 rfl) ?_
        refine lv_iload hx hb dL_sorts_31 (lv_at hl 6 rfl) ?_
        refine iv_iconst hx hb dL_sorts_33 ?_
        refine iv_iadd hx hb dL_sorts_34 ?_
        obtain ⟨g11, h⟩ := gd_t h
        refine iv_iald (f := s7.2.2.2.1) (j := (v6 + 1).toNat) hx hb hK.1 hP 3 0 rfl rfl (by decide) g11 rfl dL_sorts_35 ?_
        obtain ⟨g12, h⟩ := gd_t h
        obtain ⟨s13, e14, h⟩ := nm_t h
        refine iv_iast (f := s7.2.2.2.1) (j := v6.toNat) (ws1 := wLgmpwn ag am ap aw an E s13) hx hb hK.1 hP hD hS 3 0 rfl rfl (by decide) g12 rfl (by rw [e14]; rfl) dL_sorts_36 (fun H locs hP hD hS => ?_)
        refine lv_iinc (v := zi (v6 + 1)) (lv' := [(6, .int (zi (v6 + 1))), (0, .ref (ag 0)), (1, .ref (am 0)), (2, .ref (ap 0)), (3, .ref (aw 0)), (4, .ref (an 0)), (5, .int (zi v5))]) hx hb dL_sorts_37 hl (k := 6) rfl (by rw [zi_add]; rfl) (by decide) rfl (fun ls hl => ?_)
        refine lv_goto (tgt := 17) hx hb dL_sorts_40 (by decide) ?_
        exact ih v5 (v6 + 1) s13 _ _ _ h hP hD hS (lv_sub hl [1, 2, 3, 4, 5, 6, 0] rfl)
  have loop113 : ∀ (kt : Int → Int → Int → Int → bLgmpwn → Option bLgmpwn) (n : Nat), (∀ (v95 : Int) (v96 : Int) (v97 : Int) (v98 : Int) (s99 : bLgmpwn) (H : Heap) (locs : List Loc) (ls : Array Slot), kt v95 v96 v97 v98 s99 = some u → va_P E.1 vwCl (wLgmpwn ag am ap aw an E s99) H → va_D A (wLgmpwn ag am ap aw an E s99) → va_S A s.heap H locs → lv_has ls 9 [(0, .ref (ag 0)), (1, .ref (am 0)), (2, .ref (ap 0)), (3, .ref (aw 0)), (4, .ref (an 0)), (5, .int (zi v95)), (6, .int (zi v96)), (7, .int (zi v97)), (8, .int (zi v98))] → W p l e ({ frames := 1, cells := 0, slots := 0, locals := 24 }) s m ([.ref (ag 0), .ref (am 0), .ref (ap 0), .ref (aw 0), .ref (an 0)] : List Value).toArray below meth c H locs 0 0 (MQ below (mQv E (wLgmpwn ag am ap aw an E u) A) ([.ref (ag 0), .ref (am 0), .ref (ap 0), .ref (aw 0), .ref (an 0)] : List Value).toArray s 0 0 A) (F0 m 166 ls [])) → ∀ (v95 : Int) (v96 : Int) (v97 : Int) (v98 : Int) (s99 : bLgmpwn) (H : Heap) (locs : List Loc) (ls : Array Slot), f_L_sorts_L113 N kt n v95 v96 v97 v98 s99 = some u → va_P E.1 vwCl (wLgmpwn ag am ap aw an E s99) H → va_D A (wLgmpwn ag am ap aw an E s99) → va_S A s.heap H locs → lv_has ls 9 [(0, .ref (ag 0)), (1, .ref (am 0)), (2, .ref (ap 0)), (3, .ref (aw 0)), (4, .ref (an 0)), (5, .int (zi v95)), (6, .int (zi v96)), (7, .int (zi v97)), (8, .int (zi v98))] → W p l e ({ frames := 1, cells := 0, slots := 0, locals := 24 }) s m ([.ref (ag 0), .ref (am 0), .ref (ap 0), .ref (aw 0), .ref (an 0)] : List Value).toArray below meth c H locs 0 0 (MQ below (mQv E (wLgmpwn ag am ap aw an E u) A) ([.ref (ag 0), .ref (am 0), .ref (ap 0), .ref (aw 0), .ref (an 0)] : List Value).toArray s 0 0 A) (F0 m 113 ls []) := by
    intro kt n hk
    induction n with
    | zero =>
      intro v95 v96 v97 v98 s99 H locs ls h
      exact absurd (show (none : Option bLgmpwn) = some u from h) (by simp)
    | succ n ih =>
      intro v95 v96 v97 v98 s99 H locs ls h hP hD hS hl
      rw [f_L_sorts_L113] at h
      refine lv_iload hx hb dL_sorts_113 (lv_at hl 8 rfl) ?_
      refine lv_aload hx hb dL_sorts_115 (lv_at hl 4 rfl) ?_
      refine iv_bipush hx hb dL_sorts_117 (by decide +kernel) ?_
      refine iv_iald (f := s99.2.2.2.2) (j := 13) hx hb hK.1 hP 4 0 rfl rfl (by decide) (by decide +kernel) rfl dL_sorts_119 ?_
      obtain ⟨g100, h⟩ := gd_t h
      obtain ⟨g101, h⟩ := gd_t h
      refine iv_ige (tgt := 166) hx hb g100 g101 dL_sorts_120 (by decide) (fun c102 => ?_) (fun c102 => ?_)
      · have h := it_t c102 h
        exact hk v95 v96 v97 v98 s99 _ _ _ h hP hD hS (lv_sub hl [0, 1, 2, 3, 4, 5, 6, 7, 8] rfl)
      · have h := it_f c102 h
        refine lv_iload hx hb dL_sorts_123 (lv_at hl 6 rfl) ?_
        refine iv_iconst hx hb dL_sorts_125 ?_
        obtain ⟨g103, h⟩ := gd_t h
        refine iv_ine (tgt := 166) hx hb g103 (by decide +kernel) dL_sorts_126 (by decide) (fun c104 => ?_) (fun c104 => ?_)
        · have h := it_f c104 h
          exact hk v95 v96 v97 v98 s99 _ _ _ h hP hD hS (lv_sub hl [0, 1, 2, 3, 4, 5, 6, 7, 8] rfl)
        · have h := it_t c104 h
          refine lv_iload hx hb dL_sorts_129 (lv_at hl 7 rfl) ?_
          obtain ⟨g105, h⟩ := gd_t h
          refine iv_eq (tgt := 166) hx hb g105 dL_sorts_131 (by decide) (fun c106 => ?_) (fun c106 => ?_)
          · have h := it_t c106 h
            exact hk v95 v96 v97 v98 s99 _ _ _ h hP hD hS (lv_sub hl [0, 1, 2, 3, 4, 5, 6, 7, 8] rfl)
          · have h := it_f c106 h
            refine lv_aload_n hx hb dL_sorts_134 rfl (lv_at hl 2 rfl) ?_
            refine iv_iconst hx hb dL_sorts_135 ?_
            refine lv_iload hx hb dL_sorts_136 (lv_at hl 8 rfl) ?_
            refine iv_imul hx hb dL_sorts_138 ?_
            refine lv_aload_n hx hb dL_sorts_139 rfl (lv_at hl 2 rfl) ?_
            refine iv_iconst hx hb dL_sorts_140 ?_
            refine lv_iload hx hb dL_sorts_141 (lv_at hl 8 rfl) ?_
            refine iv_imul hx hb dL_sorts_143 ?_
            obtain ⟨g107, h⟩ := gd_t h
            refine iv_iald (f := s99.2.2.1) (j := (3 * v98).toNat) hx hb hK.1 hP 2 0 rfl rfl (by decide) g107 rfl dL_sorts_144 ?_
            refine iv_iconst hx hb dL_sorts_145 ?_
            obtain ⟨g108, h⟩ := gd_t h
            obtain ⟨j111, e112, h⟩ := jn2_t h
            have hj111 : ∀ (v109 : Int) (s110 : bLgmpwn) (H : Heap) (locs : List Loc) (ls : Array Slot), j111 v109 s110 = some u → va_P E.1 vwCl (wLgmpwn ag am ap aw an E s110) H → va_D A (wLgmpwn ag am ap aw an E s110) → va_S A s.heap H locs → lv_has ls 9 [(0, .ref (ag 0)), (1, .ref (am 0)), (2, .ref (ap 0)), (3, .ref (aw 0)), (4, .ref (an 0)), (5, .int (zi v95)), (6, .int (zi v96)), (7, .int (zi v97)), (8, .int (zi v98))] → W p l e ({ frames := 1, cells := 0, slots := 0, locals := 24 }) s m ([.ref (ag 0), .ref (am 0), .ref (ap 0), .ref (aw 0), .ref (an 0)] : List Value).toArray below meth c H locs 0 0 (MQ below (mQv E (wLgmpwn ag am ap aw an E u) A) ([.ref (ag 0), .ref (am 0), .ref (ap 0), .ref (aw 0), .ref (an 0)] : List Value).toArray s 0 0 A) (F0 m 159 ls [.int (zi v109), .int (zi (3 * v98)), .ref (ap 0)]) := by
              intro v109 s110 H locs ls h hP hD hS hl
              rw [e112] at h
              obtain ⟨s113, e114, h⟩ := nm_t h
              refine iv_iast (f := s110.2.2.1) (j := (3 * v98).toNat) (ws1 := wLgmpwn ag am ap aw an E s113) hx hb hK.1 hP hD hS 2 0 rfl rfl (by decide) g107 rfl (by rw [e114]; rfl) dL_sorts_159 (fun H locs hP hD hS => ?_)
              refine lv_iinc (v := zi (v98 + 1)) (lv' := [(8, .int (zi (v98 + 1))), (0, .ref (ag 0)), (1, .ref (am 0)), (2, .ref (ap 0)), (3, .ref (aw 0)), (4, .ref (an 0)), (5, .int (zi v95)), (6, .int (zi v96)), (7, .int (zi v97))]) hx hb dL_sorts_160 hl (k := 8) rfl (by rw [zi_add]; rfl) (by decide) rfl (fun ls hl => ?_)
              refine lv_goto (tgt := 113) hx hb dL_sorts_163 (by decide) ?_
              exact ih v95 v96 v97 (v98 + 1) s113 _ _ _ h hP hD hS (lv_sub hl [1, 2, 3, 4, 5, 6, 7, 8, 0] rfl)
            refine iv_ine (tgt := 153) hx hb g108 (by decide +kernel) dL_sorts_146 (by decide) (fun c115 => ?_) (fun c115 => ?_)
            · have h := it_f c115 h
              refine lv_aload_n hx hb dL_sorts_153 rfl (lv_at hl 2 rfl) ?_
              refine iv_iconst hx hb dL_sorts_154 ?_
              refine lv_iload hx hb dL_sorts_155 (lv_at hl 8 rfl) ?_
              refine iv_imul hx hb dL_sorts_157 ?_
              refine iv_iald (f := s99.2.2.1) (j := (3 * v98).toNat) hx hb hK.1 hP 2 0 rfl rfl (by decide) g107 rfl dL_sorts_158 ?_
              exact hj111 (s99.2.2.1 ((3 * v98).toNat)) s99 _ _ _ h hP hD hS (lv_sub hl [0, 1, 2, 3, 4, 5, 6, 7, 8] rfl)
            · have h := it_t c115 h
              refine iv_iconst hx hb dL_sorts_149 ?_
              refine lv_goto (tgt := 159) hx hb dL_sorts_150 (by decide) ?_
              exact hj111 3 s99 _ _ _ h hP hD hS (lv_sub hl [0, 1, 2, 3, 4, 5, 6, 7, 8] rfl)
  have h := hf
  rw [f_L_sorts] at h
  refine lv_aload_n hx hb dL_sorts_0 rfl (lv_at hl 3 rfl) ?_
  refine iv_iconst hx hb dL_sorts_1 ?_
  refine iv_iald (f := z.2.2.2.1) (j := 0) hx hb hK.1 hP 3 0 rfl rfl (by decide) (by decide +kernel) rfl dL_sorts_2 ?_
  obtain ⟨v1, e2, h⟩ := nm_t h
  refine iv_nm e2 ?_
  refine lv_istore (lv' := [(5, .int (zi v1)), (0, .ref (ag 0)), (1, .ref (am 0)), (2, .ref (ap 0)), (3, .ref (aw 0)), (4, .ref (an 0))]) hx hb dL_sorts_3 hl (by decide) rfl (fun ls hl => ?_)
  refine lv_aload hx hb dL_sorts_5 (lv_at hl 5 rfl) ?_
  refine iv_bipush hx hb dL_sorts_7 (by decide +kernel) ?_
  refine lv_dup2_11 hx hb dL_sorts_9 rfl rfl ?_
  refine iv_iald (f := z.2.2.2.2) (j := 14) hx hb hK.1 hP 4 0 rfl rfl (by decide) (by decide +kernel) rfl dL_sorts_10 ?_
  refine iv_iconst hx hb dL_sorts_11 ?_
  refine iv_isub hx hb dL_sorts_12 ?_
  obtain ⟨s3, e4, h⟩ := nm_t h
  refine iv_iast (f := z.2.2.2.2) (j := 14) (ws1 := wLgmpwn ag am ap aw an E s3) hx hb hK.1 hP hD hS 4 0 rfl rfl (by decide) (by decide +kernel) rfl (by rw [e4]; rfl) dL_sorts_13 (fun H locs hP hD hS => ?_)
  refine iv_iconst hx hb dL_sorts_14 ?_
  refine lv_istore (lv' := [(6, .int (zi 0)), (5, .int (zi v1)), (0, .ref (ag 0)), (1, .ref (am 0)), (2, .ref (ap 0)), (3, .ref (aw 0)), (4, .ref (an 0))]) hx hb dL_sorts_15 hl (by decide) rfl (fun ls hl => ?_)
  refine loop17 (fun v15 v16 s17 => nm (s17.1, s17.2.1, s17.2.2.1, s17.2.2.2.1, up s17.2.2.2.2 10 ((s17.2.2.2.2 10) + 1)) fun s18 => gd (inb ((3 * v15) + 2) 60) <| nm (s18.1, up s18.2.1 (((3 * v15) + 2).toNat) ((s18.2.1 (((3 * v15) + 2).toNat)) + 1), s18.2.2) fun s21 => bd (f_L_goes v15 (s21.1, s21.2.1, s21.2.2.2.2)) fun u23 => gd (rg u23) <| if 5 ≤ u23 then (bd (f_L_binOf N v15 (s21.1, s21.2.2.2.2)) fun u27 => gd (inb ((3 * v15) + 1) 60) <| gd (inb (dvI u27 4) 15) <| gd (rg (s21.1 (((3 * v15) + 1).toNat))) <| gd (rg (s21.2.2.2.2 ((dvI u27 4).toNat))) <| jn1 (fun (s33 : bLgmpwn) => bd (f_L_in N u27 (s33.2.2.1, s33.2.2.2.2)) fun u36 => gd (rg u36) <| gd (rg (s33.2.2.2.2 6)) <| jn2 (fun (v40 : Int) (s41 : bLgmpwn) => gd (rg v40) <| jn2 (fun (v45 : Int) (s46 : bLgmpwn) => gd (inb (3 * v15) 60) <| nm (s46.1, s46.2.1, up s46.2.2.1 ((3 * v15).toNat) v45, s46.2.2.2) fun s50 => jn2 (fun (v52 : Int) (s53 : bLgmpwn) => nm (s53.1, s53.2.1, up s53.2.2.1 (((3 * v15) + 1).toNat) v52, s53.2.2.2) fun s56 => jn1 (fun (s58 : bLgmpwn) => some s58) fun j59 => if v40 = 0 then (gd (inb (s56.2.2.2.2 14) 20) <| nm (s56.1, s56.2.1, s56.2.2.1, up s56.2.2.2.1 ((s56.2.2.2.2 14).toNat) v15, s56.2.2.2.2) fun s63 => nm (s63.1, s63.2.1, s63.2.2.1, s63.2.2.2.1, up s63.2.2.2.2 14 ((s63.2.2.2.2 14) + 1)) fun s65 => nm (s65.1, s65.2.1, s65.2.2.1, s65.2.2.2.1, up s65.2.2.2.2 11 ((s65.2.2.2.2 11) + 1)) fun s67 => j59 s67) else (j59 s56)) fun j54 => if v40 = 0 then (j54 (-5) s50) else (j54 u27 s50)) fun j47 => if v40 = 0 then (j47 0 s41) else (j47 5 s41)) fun j42 => if (s33.2.2.2.2 6) ≤ u36 then (j42 0 s33) else (j42 1 s33)) fun j34 => if (s21.1 (((3 * v15) + 1).toNat)) = (s21.2.2.2.2 ((dvI u27 4).toNat)) then (gd (inb (3 * v15) 60) <| gd (rg (s21.2.1 ((3 * v15).toNat))) <| jn2 (fun (v75 : Int) (s76 : bLgmpwn) => nm (s76.1, up s76.2.1 ((3 * v15).toNat) ((s21.2.1 ((3 * v15).toNat)) + v75), s76.2.2) fun s79 => nm (s79.1, s79.2.1, s79.2.2.1, s79.2.2.2.1, up s79.2.2.2.2 12 ((s79.2.2.2.2 12) + 1)) fun s81 => j34 s81) fun j77 => if (s21.2.1 ((3 * v15).toNat)) = 9 then (j77 0 s21) else (j77 1 s21)) else (j34 s21)) else (gd (inb (3 * v15) 60) <| nm (s21.1, s21.2.1, up s21.2.2.1 ((3 * v15).toNat) u23, s21.2.2.2) fun s85 => bd (f_L_at N 2 (s85.2.2.1, s85.2.2.2.2)) fun u87 => gd (rg u87) <| gd (rg (s85.2.2.2.2 5)) <| jn2 (fun (v91 : Int) (s92 : bLgmpwn) => f_L_sorts_L113 N (fun v116 v117 v118 v119 s120 => some s120) N v15 u23 v91 0 s92) fun j93 => if u87 < (s85.2.2.2.2 5) then (j93 0 s85) else (j93 1 s85))) N (fun v15 v16 s17 H locs ls h hP hD hS hl => ?_) v1 0 s3 _ _ _ h hP hD hS (lv_sub hl [2, 3, 4, 5, 6, 1, 0] rfl)
  refine lv_aload hx hb dL_sorts_43 (lv_at hl 4 rfl) ?_
  refine iv_bipush hx hb dL_sorts_45 (by decide +kernel) ?_
  refine lv_dup2_11 hx hb dL_sorts_47 rfl rfl ?_
  refine iv_iald (f := s17.2.2.2.2) (j := 10) hx hb hK.1 hP 4 0 rfl rfl (by decide) (by decide +kernel) rfl dL_sorts_48 ?_
  refine iv_iconst hx hb dL_sorts_49 ?_
  refine iv_iadd hx hb dL_sorts_50 ?_
  obtain ⟨s18, e19, h⟩ := nm_t h
  refine iv_iast (f := s17.2.2.2.2) (j := 10) (ws1 := wLgmpwn ag am ap aw an E s18) hx hb hK.1 hP hD hS 4 0 rfl rfl (by decide) (by decide +kernel) rfl (by rw [e19]; rfl) dL_sorts_51 (fun H locs hP hD hS => ?_)
  refine lv_aload_n hx hb dL_sorts_52 rfl (lv_at hl 1 rfl) ?_
  refine iv_iconst hx hb dL_sorts_53 ?_
  refine lv_iload hx hb dL_sorts_54 (lv_at hl 5 rfl) ?_
  refine iv_imul hx hb dL_sorts_56 ?_
  refine iv_iconst hx hb dL_sorts_57 ?_
  refine iv_iadd hx hb dL_sorts_58 ?_
  refine lv_dup2_11 hx hb dL_sorts_59 rfl rfl ?_
  obtain ⟨g20, h⟩ := gd_t h
  refine iv_iald (f := s18.2.1) (j := ((3 * v15) + 2).toNat) hx hb hK.1 hP 1 0 rfl rfl (by decide) g20 rfl dL_sorts_60 ?_
  refine iv_iconst hx hb dL_sorts_61 ?_
  refine iv_iadd hx hb dL_sorts_62 ?_
  obtain ⟨s21, e22, h⟩ := nm_t h
  refine iv_iast (f := s18.2.1) (j := ((3 * v15) + 2).toNat) (ws1 := wLgmpwn ag am ap aw an E s21) hx hb hK.1 hP hD hS 1 0 rfl rfl (by decide) g20 rfl (by rw [e22]; rfl) dL_sorts_63 (fun H locs hP hD hS => ?_)
  refine lv_aload_n hx hb dL_sorts_64 rfl (lv_at hl 0 rfl) ?_
  refine lv_aload_n hx hb dL_sorts_65 rfl (lv_at hl 1 rfl) ?_
  refine lv_aload hx hb dL_sorts_66 (lv_at hl 4 rfl) ?_
  refine lv_iload hx hb dL_sorts_68 (lv_at hl 5 rfl) ?_
  obtain ⟨u23, q24, h⟩ := bd_t h
  refine iv_callWI (As := [.ref (ag 0), .ref (am 0), .ref (an 0), .int (zi v15)]) (rest := []) (ws1 := wLgmpwn ag am ap aw an E s21) ⟨hx, hb, hml, hown, hts⟩ (k_L_goes l E ag am an H.size v15 (s21.1, s21.2.1, s21.2.2.2.2) u23 q24) (va_cwS 4 hts gL_sorts_L_goes rfl rfl rfl (by decide +kernel) ⟨Nat.le_of_ble_eq_true rfl, Nat.le_of_ble_eq_true rfl⟩) hK hP hD hS hA (pm_take (pm_take (pm_skip (pm_skip (pm_end))))) (pm_take (pm_take (pm_skip (pm_skip (pm_end))))) rfl hl.1 (Nat.le_of_ble_eq_true rfl) ⟨Nat.le_of_ble_eq_true rfl, Nat.le_of_ble_eq_true rfl⟩ dL_sorts_70 (fun H locs hP hD hS => ?_)
  refine lv_istore (lv' := [(6, .int (zi u23)), (0, .ref (ag 0)), (1, .ref (am 0)), (2, .ref (ap 0)), (3, .ref (aw 0)), (4, .ref (an 0)), (5, .int (zi v15))]) hx hb dL_sorts_73 hl (by decide) rfl (fun ls hl => ?_)
  refine lv_iload hx hb dL_sorts_75 (lv_at hl 0 rfl) ?_
  refine iv_iconst hx hb dL_sorts_77 ?_
  obtain ⟨g25, h⟩ := gd_t h
  refine iv_ige (tgt := 167) hx hb g25 (by decide +kernel) dL_sorts_78 (by decide) (fun c26 => ?_) (fun c26 => ?_)
  · have h := it_t c26 h
    refine lv_aload_n hx hb dL_sorts_167 rfl (lv_at hl 1 rfl) ?_
    refine lv_aload hx hb dL_sorts_168 (lv_at hl 5 rfl) ?_
    refine lv_iload hx hb dL_sorts_170 (lv_at hl 6 rfl) ?_
    obtain ⟨u27, q28, h⟩ := bd_t h
    refine iv_callWI (As := [.ref (ag 0), .ref (an 0), .int (zi v15)]) (rest := []) (ws1 := wLgmpwn ag am ap aw an E s21) ⟨hx, hb, hml, hown, hts⟩ (k_L_binOf l E ag an H.size N v15 (s21.1, s21.2.2.2.2) u27 q28) (va_cwS 3 hts gL_sorts_L_binOf rfl rfl rfl (by decide +kernel) ⟨Nat.le_of_ble_eq_true rfl, Nat.le_of_ble_eq_true rfl⟩) hK hP hD hS hA (pm_take (pm_skip (pm_skip (pm_skip (pm_end))))) (pm_take (pm_skip (pm_skip (pm_skip (pm_end))))) rfl hl.1 (Nat.le_of_ble_eq_true rfl) ⟨Nat.le_of_ble_eq_true rfl, Nat.le_of_ble_eq_true rfl⟩ dL_sorts_172 (fun H locs hP hD hS => ?_)
    refine lv_istore (lv' := [(7, .int (zi u27)), (6, .int (zi u23)), (0, .ref (ag 0)), (1, .ref (am 0)), (2, .ref (ap 0)), (3, .ref (aw 0)), (4, .ref (an 0)), (5, .int (zi v15))]) hx hb dL_sorts_175 hl (by decide) rfl (fun ls hl => ?_)
    refine lv_aload_n hx hb dL_sorts_177 rfl (lv_at hl 2 rfl) ?_
    refine iv_iconst hx hb dL_sorts_178 ?_
    refine lv_iload hx hb dL_sorts_179 (lv_at hl 7 rfl) ?_
    refine iv_imul hx hb dL_sorts_181 ?_
    refine iv_iconst hx hb dL_sorts_182 ?_
    refine iv_iadd hx hb dL_sorts_183 ?_
    obtain ⟨g29, h⟩ := gd_t h
    refine iv_iald (f := s21.1) (j := ((3 * v15) + 1).toNat) hx hb hK.1 hP 0 0 rfl rfl (by decide) g29 rfl dL_sorts_184 ?_
    refine lv_aload hx hb dL_sorts_185 (lv_at hl 6 rfl) ?_
    refine lv_iload hx hb dL_sorts_187 (lv_at hl 0 rfl) ?_
    refine iv_iconst hx hb dL_sorts_189 ?_
    refine iv_idiv hx hb (by decide +kernel) dL_sorts_190 ?_
    obtain ⟨g30, h⟩ := gd_t h
    refine iv_iald (f := s21.2.2.2.2) (j := (dvI u27 4).toNat) hx hb hK.1 hP 4 0 rfl rfl (by decide) g30 rfl dL_sorts_191 ?_
    obtain ⟨g31, h⟩ := gd_t h
    obtain ⟨g32, h⟩ := gd_t h
    obtain ⟨j34, e35, h⟩ := jn1_t h
    have hj34 : ∀  (s33 : bLgmpwn) (H : Heap) (locs : List Loc) (ls : Array Slot), j34 s33 = some u → va_P E.1 vwCl (wLgmpwn ag am ap aw an E s33) H → va_D A (wLgmpwn ag am ap aw an E s33) → va_S A s.heap H locs → lv_has ls 9 [(7, .int (zi u27)), (6, .int (zi u23)), (0, .ref (ag 0)), (1, .ref (am 0)), (2, .ref (ap 0)), (3, .ref (aw 0)), (4, .ref (an 0)), (5, .int (zi v15))] → W p l e ({ frames := 1, cells := 0, slots := 0, locals := 24 }) s m ([.ref (ag 0), .ref (am 0), .ref (ap 0), .ref (aw 0), .ref (an 0)] : List Value).toArray below meth c H locs 0 0 (MQ below (mQv E (wLgmpwn ag am ap aw an E u) A) ([.ref (ag 0), .ref (am 0), .ref (ap 0), .ref (aw 0), .ref (an 0)] : List Value).toArray s 0 0 A) (F0 m 229 ls []) := by
      intro s33 H locs ls h hP hD hS hl
      rw [e35] at h
      refine lv_aload_n hx hb dL_sorts_229 rfl (lv_at hl 4 rfl) ?_
      refine lv_aload hx hb dL_sorts_230 (lv_at hl 6 rfl) ?_
      refine lv_iload hx hb dL_sorts_232 (lv_at hl 0 rfl) ?_
      obtain ⟨u36, q37, h⟩ := bd_t h
      refine iv_callWI (As := [.ref (ap 0), .ref (an 0), .int (zi u27)]) (rest := []) (ws1 := wLgmpwn ag am ap aw an E s33) ⟨hx, hb, hml, hown, hts⟩ (k_L_in l E ap an H.size N u27 (s33.2.2.1, s33.2.2.2.2) u36 q37) (va_cwS 3 hts gL_sorts_L_in rfl rfl rfl (by decide +kernel) ⟨Nat.le_of_ble_eq_true rfl, Nat.le_of_ble_eq_true rfl⟩) hK hP hD hS hA (pm_skip (pm_skip (pm_take (pm_skip (pm_end))))) (pm_skip (pm_skip (pm_take (pm_skip (pm_end))))) rfl hl.1 (Nat.le_of_ble_eq_true rfl) ⟨Nat.le_of_ble_eq_true rfl, Nat.le_of_ble_eq_true rfl⟩ dL_sorts_234 (fun H locs hP hD hS => ?_)
      refine lv_aload hx hb dL_sorts_237 (lv_at hl 6 rfl) ?_
      refine iv_bipush hx hb dL_sorts_239 (by decide +kernel) ?_
      refine iv_iald (f := s33.2.2.2.2) (j := 6) hx hb hK.1 hP 4 0 rfl rfl (by decide) (by decide +kernel) rfl dL_sorts_241 ?_
      obtain ⟨g38, h⟩ := gd_t h
      obtain ⟨g39, h⟩ := gd_t h
      obtain ⟨j42, e43, h⟩ := jn2_t h
      have hj42 : ∀ (v40 : Int) (s41 : bLgmpwn) (H : Heap) (locs : List Loc) (ls : Array Slot), j42 v40 s41 = some u → va_P E.1 vwCl (wLgmpwn ag am ap aw an E s41) H → va_D A (wLgmpwn ag am ap aw an E s41) → va_S A s.heap H locs → lv_has ls 9 [(7, .int (zi u27)), (6, .int (zi u23)), (0, .ref (ag 0)), (1, .ref (am 0)), (2, .ref (ap 0)), (3, .ref (aw 0)), (4, .ref (an 0)), (5, .int (zi v15))] → W p l e ({ frames := 1, cells := 0, slots := 0, locals := 24 }) s m ([.ref (ag 0), .ref (am 0), .ref (ap 0), .ref (aw 0), .ref (an 0)] : List Value).toArray below meth c H locs 0 0 (MQ below (mQv E (wLgmpwn ag am ap aw an E u) A) ([.ref (ag 0), .ref (am 0), .ref (ap 0), .ref (aw 0), .ref (an 0)] : List Value).toArray s 0 0 A) (F0 m 250 ls [.int (zi v40)]) := by
        intro v40 s41 H locs ls h hP hD hS hl
        rw [e43] at h
        refine lv_istore (lv' := [(8, .int (zi v40)), (7, .int (zi u27)), (6, .int (zi u23)), (0, .ref (ag 0)), (1, .ref (am 0)), (2, .ref (ap 0)), (3, .ref (aw 0)), (4, .ref (an 0)), (5, .int (zi v15))]) hx hb dL_sorts_250 hl (by decide) rfl (fun ls hl => ?_)
        refine lv_aload_n hx hb dL_sorts_252 rfl (lv_at hl 5 rfl) ?_
        refine iv_iconst hx hb dL_sorts_253 ?_
        refine lv_iload hx hb dL_sorts_254 (lv_at hl 8 rfl) ?_
        refine iv_imul hx hb dL_sorts_256 ?_
        refine lv_iload hx hb dL_sorts_257 (lv_at hl 0 rfl) ?_
        obtain ⟨g44, h⟩ := gd_t h
        obtain ⟨j47, e48, h⟩ := jn2_t h
        have hj47 : ∀ (v45 : Int) (s46 : bLgmpwn) (H : Heap) (locs : List Loc) (ls : Array Slot), j47 v45 s46 = some u → va_P E.1 vwCl (wLgmpwn ag am ap aw an E s46) H → va_D A (wLgmpwn ag am ap aw an E s46) → va_S A s.heap H locs → lv_has ls 9 [(8, .int (zi v40)), (7, .int (zi u27)), (6, .int (zi u23)), (0, .ref (ag 0)), (1, .ref (am 0)), (2, .ref (ap 0)), (3, .ref (aw 0)), (4, .ref (an 0)), (5, .int (zi v15))] → W p l e ({ frames := 1, cells := 0, slots := 0, locals := 24 }) s m ([.ref (ag 0), .ref (am 0), .ref (ap 0), .ref (aw 0), .ref (an 0)] : List Value).toArray below meth c H locs 0 0 (MQ below (mQv E (wLgmpwn ag am ap aw an E u) A) ([.ref (ag 0), .ref (am 0), .ref (ap 0), .ref (aw 0), .ref (an 0)] : List Value).toArray s 0 0 A) (F0 m 267 ls [.int (zi v45), .int (zi (3 * v15)), .ref (ap 0)]) := by
          intro v45 s46 H locs ls h hP hD hS hl
          rw [e48] at h
          obtain ⟨g49, h⟩ := gd_t h
          obtain ⟨s50, e51, h⟩ := nm_t h
          refine iv_iast (f := s46.2.2.1) (j := (3 * v15).toNat) (ws1 := wLgmpwn ag am ap aw an E s50) hx hb hK.1 hP hD hS 2 0 rfl rfl (by decide) g49 rfl (by rw [e51]; rfl) dL_sorts_267 (fun H locs hP hD hS => ?_)
          refine lv_aload_n hx hb dL_sorts_268 rfl (lv_at hl 5 rfl) ?_
          refine iv_iconst hx hb dL_sorts_269 ?_
          refine lv_iload hx hb dL_sorts_270 (lv_at hl 8 rfl) ?_
          refine iv_imul hx hb dL_sorts_272 ?_
          refine iv_iconst hx hb dL_sorts_273 ?_
          refine iv_iadd hx hb dL_sorts_274 ?_
          refine lv_iload hx hb dL_sorts_275 (lv_at hl 0 rfl) ?_
          obtain ⟨j54, e55, h⟩ := jn2_t h
          have hj54 : ∀ (v52 : Int) (s53 : bLgmpwn) (H : Heap) (locs : List Loc) (ls : Array Slot), j54 v52 s53 = some u → va_P E.1 vwCl (wLgmpwn ag am ap aw an E s53) H → va_D A (wLgmpwn ag am ap aw an E s53) → va_S A s.heap H locs → lv_has ls 9 [(8, .int (zi v40)), (7, .int (zi u27)), (6, .int (zi u23)), (0, .ref (ag 0)), (1, .ref (am 0)), (2, .ref (ap 0)), (3, .ref (aw 0)), (4, .ref (an 0)), (5, .int (zi v15))] → W p l e ({ frames := 1, cells := 0, slots := 0, locals := 24 }) s m ([.ref (ag 0), .ref (am 0), .ref (ap 0), .ref (aw 0), .ref (an 0)] : List Value).toArray below meth c H locs 0 0 (MQ below (mQv E (wLgmpwn ag am ap aw an E u) A) ([.ref (ag 0), .ref (am 0), .ref (ap 0), .ref (aw 0), .ref (an 0)] : List Value).toArray s 0 0 A) (F0 m 287 ls [.int (zi v52), .int (zi ((3 * v15) + 1)), .ref (ap 0)]) := by
            intro v52 s53 H locs ls h hP hD hS hl
            rw [e55] at h
            obtain ⟨s56, e57, h⟩ := nm_t h
            refine iv_iast (f := s53.2.2.1) (j := ((3 * v15) + 1).toNat) (ws1 := wLgmpwn ag am ap aw an E s56) hx hb hK.1 hP hD hS 2 0 rfl rfl (by decide) g29 rfl (by rw [e57]; rfl) dL_sorts_287 (fun H locs hP hD hS => ?_)
            refine lv_iload hx hb dL_sorts_288 (lv_at hl 0 rfl) ?_
            obtain ⟨j59, e60, h⟩ := jn1_t h
            have hj59 : ∀  (s58 : bLgmpwn) (H : Heap) (locs : List Loc) (ls : Array Slot), j59 s58 = some u → va_P E.1 vwCl (wLgmpwn ag am ap aw an E s58) H → va_D A (wLgmpwn ag am ap aw an E s58) → va_S A s.heap H locs → lv_has ls 9 [(8, .int (zi v40)), (7, .int (zi u27)), (6, .int (zi u23)), (0, .ref (ag 0)), (1, .ref (am 0)), (2, .ref (ap 0)), (3, .ref (aw 0)), (4, .ref (an 0)), (5, .int (zi v15))] → W p l e ({ frames := 1, cells := 0, slots := 0, locals := 24 }) s m ([.ref (ag 0), .ref (am 0), .ref (ap 0), .ref (aw 0), .ref (an 0)] : List Value).toArray below meth c H locs 0 0 (MQ below (mQv E (wLgmpwn ag am ap aw an E u) A) ([.ref (ag 0), .ref (am 0), .ref (ap 0), .ref (aw 0), .ref (an 0)] : List Value).toArray s 0 0 A) (F0 m 320 ls []) := by
              intro s58 H locs ls h hP hD hS hl
              rw [e60] at h
              cases h
              exact iv_vret hx hb hr hlocks hK hP hD hS dL_sorts_320
            refine iv_ne (tgt := 320) hx hb g44 dL_sorts_290 (by decide) (fun c61 => ?_) (fun c61 => ?_)
            · have h := it_f c61 h
              exact hj59 s56 _ _ _ h hP hD hS (lv_sub hl [0, 1, 2, 3, 4, 5, 6, 7, 8] rfl)
            · have h := it_t c61 h
              refine lv_aload_n hx hb dL_sorts_293 rfl (lv_at hl 6 rfl) ?_
              refine lv_aload hx hb dL_sorts_294 (lv_at hl 7 rfl) ?_
              refine iv_bipush hx hb dL_sorts_296 (by decide +kernel) ?_
              refine iv_iald (f := s56.2.2.2.2) (j := 14) hx hb hK.1 hP 4 0 rfl rfl (by decide) (by decide +kernel) rfl dL_sorts_298 ?_
              refine lv_iload hx hb dL_sorts_299 (lv_at hl 8 rfl) ?_
              obtain ⟨g62, h⟩ := gd_t h
              obtain ⟨s63, e64, h⟩ := nm_t h
              refine iv_iast (f := s56.2.2.2.1) (j := (s56.2.2.2.2 14).toNat) (ws1 := wLgmpwn ag am ap aw an E s63) hx hb hK.1 hP hD hS 3 0 rfl rfl (by decide) g62 rfl (by rw [e64]; rfl) dL_sorts_301 (fun H locs hP hD hS => ?_)
              refine lv_aload hx hb dL_sorts_302 (lv_at hl 7 rfl) ?_
              refine iv_bipush hx hb dL_sorts_304 (by decide +kernel) ?_
              refine lv_dup2_11 hx hb dL_sorts_306 rfl rfl ?_
              refine iv_iald (f := s63.2.2.2.2) (j := 14) hx hb hK.1 hP 4 0 rfl rfl (by decide) (by decide +kernel) rfl dL_sorts_307 ?_
              refine iv_iconst hx hb dL_sorts_308 ?_
              refine iv_iadd hx hb dL_sorts_309 ?_
              obtain ⟨s65, e66, h⟩ := nm_t h
              refine iv_iast (f := s63.2.2.2.2) (j := 14) (ws1 := wLgmpwn ag am ap aw an E s65) hx hb hK.1 hP hD hS 4 0 rfl rfl (by decide) (by decide +kernel) rfl (by rw [e66]; rfl) dL_sorts_310 (fun H locs hP hD hS => ?_)
              refine lv_aload hx hb dL_sorts_311 (lv_at hl 7 rfl) ?_
              refine iv_bipush hx hb dL_sorts_313 (by decide +kernel) ?_
              refine lv_dup2_11 hx hb dL_sorts_315 rfl rfl ?_
              refine iv_iald (f := s65.2.2.2.2) (j := 11) hx hb hK.1 hP 4 0 rfl rfl (by decide) (by decide +kernel) rfl dL_sorts_316 ?_
              refine iv_iconst hx hb dL_sorts_317 ?_
              refine iv_iadd hx hb dL_sorts_318 ?_
              obtain ⟨s67, e68, h⟩ := nm_t h
              refine iv_iast (f := s65.2.2.2.2) (j := 11) (ws1 := wLgmpwn ag am ap aw an E s67) hx hb hK.1 hP hD hS 4 0 rfl rfl (by decide) (by decide +kernel) rfl (by rw [e68]; rfl) dL_sorts_319 (fun H locs hP hD hS => ?_)
              exact hj59 s67 _ _ _ h hP hD hS (lv_sub hl [0, 1, 2, 3, 4, 5, 6, 7, 8] rfl)
          refine iv_eq (tgt := 285) hx hb g44 dL_sorts_277 (by decide) (fun c69 => ?_) (fun c69 => ?_)
          · have h := it_t c69 h
            refine iv_bipush hx hb dL_sorts_285 (by decide +kernel) ?_
            exact hj54 (-5) s50 _ _ _ h hP hD hS (lv_sub hl [0, 1, 2, 3, 4, 5, 6, 7, 8] rfl)
          · have h := it_f c69 h
            refine lv_iload hx hb dL_sorts_280 (lv_at hl 1 rfl) ?_
            refine lv_goto (tgt := 287) hx hb dL_sorts_282 (by decide) ?_
            exact hj54 u27 s50 _ _ _ h hP hD hS (lv_sub hl [0, 1, 2, 3, 4, 5, 6, 7, 8] rfl)
        refine iv_eq (tgt := 266) hx hb g44 dL_sorts_259 (by decide) (fun c70 => ?_) (fun c70 => ?_)
        · have h := it_t c70 h
          refine iv_iconst hx hb dL_sorts_266 ?_
          exact hj47 0 s41 _ _ _ h hP hD hS (lv_sub hl [0, 1, 2, 3, 4, 5, 6, 7, 8] rfl)
        · have h := it_f c70 h
          refine iv_iconst hx hb dL_sorts_262 ?_
          refine lv_goto (tgt := 267) hx hb dL_sorts_263 (by decide) ?_
          exact hj47 5 s41 _ _ _ h hP hD hS (lv_sub hl [0, 1, 2, 3, 4, 5, 6, 7, 8] rfl)
      refine iv_ige (tgt := 249) hx hb g38 g39 dL_sorts_242 (by decide) (fun c71 => ?_) (fun c71 => ?_)
      · have h := it_t c71 h
        refine iv_iconst hx hb dL_sorts_249 ?_
        exact hj42 0 s33 _ _ _ h hP hD hS (lv_sub hl [0, 1, 2, 3, 4, 5, 6, 7] rfl)
      · have h := it_f c71 h
        refine iv_iconst hx hb dL_sorts_245 ?_
        refine lv_goto (tgt := 250) hx hb dL_sorts_246 (by decide) ?_
        exact hj42 1 s33 _ _ _ h hP hD hS (lv_sub hl [0, 1, 2, 3, 4, 5, 6, 7] rfl)
    refine iv_ine (tgt := 229) hx hb g31 g32 dL_sorts_192 (by decide) (fun c72 => ?_) (fun c72 => ?_)
    · have h := it_f c72 h
      exact hj34 s21 _ _ _ h hP hD hS (lv_sub hl [0, 1, 2, 3, 4, 5, 6, 7] rfl)
    · have h := it_t c72 h
      refine lv_aload_n hx hb dL_sorts_195 rfl (lv_at hl 3 rfl) ?_
      refine iv_iconst hx hb dL_sorts_196 ?_
      refine lv_iload hx hb dL_sorts_197 (lv_at hl 7 rfl) ?_
      refine iv_imul hx hb dL_sorts_199 ?_
      refine lv_dup2_11 hx hb dL_sorts_200 rfl rfl ?_
      obtain ⟨g73, h⟩ := gd_t h
      refine iv_iald (f := s21.2.1) (j := (3 * v15).toNat) hx hb hK.1 hP 1 0 rfl rfl (by decide) g73 rfl dL_sorts_201 ?_
      refine lv_aload_n hx hb dL_sorts_202 rfl (lv_at hl 3 rfl) ?_
      refine iv_iconst hx hb dL_sorts_203 ?_
      refine lv_iload hx hb dL_sorts_204 (lv_at hl 7 rfl) ?_
      refine iv_imul hx hb dL_sorts_206 ?_
      refine iv_iald (f := s21.2.1) (j := (3 * v15).toNat) hx hb hK.1 hP 1 0 rfl rfl (by decide) g73 rfl dL_sorts_207 ?_
      refine iv_bipush hx hb dL_sorts_208 (by decide +kernel) ?_
      obtain ⟨g74, h⟩ := gd_t h
      obtain ⟨j77, e78, h⟩ := jn2_t h
      have hj77 : ∀ (v75 : Int) (s76 : bLgmpwn) (H : Heap) (locs : List Loc) (ls : Array Slot), j77 v75 s76 = some u → va_P E.1 vwCl (wLgmpwn ag am ap aw an E s76) H → va_D A (wLgmpwn ag am ap aw an E s76) → va_S A s.heap H locs → lv_has ls 9 [(7, .int (zi u27)), (6, .int (zi u23)), (0, .ref (ag 0)), (1, .ref (am 0)), (2, .ref (ap 0)), (3, .ref (aw 0)), (4, .ref (an 0)), (5, .int (zi v15))] → W p l e ({ frames := 1, cells := 0, slots := 0, locals := 24 }) s m ([.ref (ag 0), .ref (am 0), .ref (ap 0), .ref (aw 0), .ref (an 0)] : List Value).toArray below meth c H locs 0 0 (MQ below (mQv E (wLgmpwn ag am ap aw an E u) A) ([.ref (ag 0), .ref (am 0), .ref (ap 0), .ref (aw 0), .ref (an 0)] : List Value).toArray s 0 0 A) (F0 m 218 ls [.int (zi v75), .int (zi (s21.2.1 ((3 * v15).toNat))), .int (zi (3 * v15)), .ref (am 0)]) := by
        intro v75 s76 H locs ls h hP hD hS hl
        rw [e78] at h
        refine iv_iadd hx hb dL_sorts_218 ?_
        obtain ⟨s79, e80, h⟩ := nm_t h
        refine iv_iast (f := s76.2.1) (j := (3 * v15).toNat) (ws1 := wLgmpwn ag am ap aw an E s79) hx hb hK.1 hP hD hS 1 0 rfl rfl (by decide) g73 rfl (by rw [e80]; rfl) dL_sorts_219 (fun H locs hP hD hS => ?_)
        refine lv_aload hx hb dL_sorts_220 (lv_at hl 6 rfl) ?_
        refine iv_bipush hx hb dL_sorts_222 (by decide +kernel) ?_
        refine lv_dup2_11 hx hb dL_sorts_224 rfl rfl ?_
        refine iv_iald (f := s79.2.2.2.2) (j := 12) hx hb hK.1 hP 4 0 rfl rfl (by decide) (by decide +kernel) rfl dL_sorts_225 ?_
        refine iv_iconst hx hb dL_sorts_226 ?_
        refine iv_iadd hx hb dL_sorts_227 ?_
        obtain ⟨s81, e82, h⟩ := nm_t h
        refine iv_iast (f := s79.2.2.2.2) (j := 12) (ws1 := wLgmpwn ag am ap aw an E s81) hx hb hK.1 hP hD hS 4 0 rfl rfl (by decide) (by decide +kernel) rfl (by rw [e82]; rfl) dL_sorts_228 (fun H locs hP hD hS => ?_)
        exact hj34 s81 _ _ _ h hP hD hS (lv_sub hl [0, 1, 2, 3, 4, 5, 6, 7] rfl)
      refine iv_ine (tgt := 217) hx hb g74 (by decide +kernel) dL_sorts_210 (by decide) (fun c83 => ?_) (fun c83 => ?_)
      · have h := it_f c83 h
        refine iv_iconst hx hb dL_sorts_217 ?_
        exact hj77 1 s21 _ _ _ h hP hD hS (lv_sub hl [0, 1, 2, 3, 4, 5, 6, 7] rfl)
      · have h := it_t c83 h
        refine iv_iconst hx hb dL_sorts_213 ?_
        refine lv_goto (tgt := 218) hx hb dL_sorts_214 (by decide) ?_
        exact hj77 0 s21 _ _ _ h hP hD hS (lv_sub hl [0, 1, 2, 3, 4, 5, 6, 7] rfl)
  · have h := it_f c26 h
    refine lv_aload_n hx hb dL_sorts_81 rfl (lv_at hl 3 rfl) ?_
    refine iv_iconst hx hb dL_sorts_82 ?_
    refine lv_iload hx hb dL_sorts_83 (lv_at hl 6 rfl) ?_
    refine iv_imul hx hb dL_sorts_85 ?_
    refine lv_iload hx hb dL_sorts_86 (lv_at hl 0 rfl) ?_
    obtain ⟨g84, h⟩ := gd_t h
    obtain ⟨s85, e86, h⟩ := nm_t h
    refine iv_iast (f := s21.2.2.1) (j := (3 * v15).toNat) (ws1 := wLgmpwn ag am ap aw an E s85) hx hb hK.1 hP hD hS 2 0 rfl rfl (by decide) g84 rfl (by rw [e86]; rfl) dL_sorts_88 (fun H locs hP hD hS => ?_)
    refine lv_aload_n hx hb dL_sorts_89 rfl (lv_at hl 3 rfl) ?_
    refine lv_aload hx hb dL_sorts_90 (lv_at hl 5 rfl) ?_
    refine iv_iconst hx hb dL_sorts_92 ?_
    obtain ⟨u87, q88, h⟩ := bd_t h
    refine iv_callWI (As := [.ref (ap 0), .ref (an 0), .int (zi 2)]) (rest := []) (ws1 := wLgmpwn ag am ap aw an E s85) ⟨hx, hb, hml, hown, hts⟩ (k_L_at l E ap an H.size N 2 (s85.2.2.1, s85.2.2.2.2) u87 q88) (va_cwS 3 hts gL_sorts_L_at rfl rfl rfl (by decide +kernel) ⟨Nat.le_of_ble_eq_true rfl, Nat.le_of_ble_eq_true rfl⟩) hK hP hD hS hA (pm_skip (pm_skip (pm_take (pm_skip (pm_end))))) (pm_skip (pm_skip (pm_take (pm_skip (pm_end))))) rfl hl.1 (Nat.le_of_ble_eq_true rfl) ⟨Nat.le_of_ble_eq_true rfl, Nat.le_of_ble_eq_true rfl⟩ dL_sorts_93 (fun H locs hP hD hS => ?_)
    refine lv_aload hx hb dL_sorts_96 (lv_at hl 5 rfl) ?_
    refine iv_iconst hx hb dL_sorts_98 ?_
    refine iv_iald (f := s85.2.2.2.2) (j := 5) hx hb hK.1 hP 4 0 rfl rfl (by decide) (by decide +kernel) rfl dL_sorts_99 ?_
    obtain ⟨g89, h⟩ := gd_t h
    obtain ⟨g90, h⟩ := gd_t h
    obtain ⟨j93, e94, h⟩ := jn2_t h
    have hj93 : ∀ (v91 : Int) (s92 : bLgmpwn) (H : Heap) (locs : List Loc) (ls : Array Slot), j93 v91 s92 = some u → va_P E.1 vwCl (wLgmpwn ag am ap aw an E s92) H → va_D A (wLgmpwn ag am ap aw an E s92) → va_S A s.heap H locs → lv_has ls 9 [(6, .int (zi u23)), (0, .ref (ag 0)), (1, .ref (am 0)), (2, .ref (ap 0)), (3, .ref (aw 0)), (4, .ref (an 0)), (5, .int (zi v15))] → W p l e ({ frames := 1, cells := 0, slots := 0, locals := 24 }) s m ([.ref (ag 0), .ref (am 0), .ref (ap 0), .ref (aw 0), .ref (an 0)] : List Value).toArray below meth c H locs 0 0 (MQ below (mQv E (wLgmpwn ag am ap aw an E u) A) ([.ref (ag 0), .ref (am 0), .ref (ap 0), .ref (aw 0), .ref (an 0)] : List Value).toArray s 0 0 A) (F0 m 108 ls [.int (zi v91)]) := by
      intro v91 s92 H locs ls h hP hD hS hl
      rw [e94] at h
      refine lv_istore (lv' := [(7, .int (zi v91)), (6, .int (zi u23)), (0, .ref (ag 0)), (1, .ref (am 0)), (2, .ref (ap 0)), (3, .ref (aw 0)), (4, .ref (an 0)), (5, .int (zi v15))]) hx hb dL_sorts_108 hl (by decide) rfl (fun ls hl => ?_)
      refine iv_iconst hx hb dL_sorts_110 ?_
      refine lv_istore (lv' := [(8, .int (zi 0)), (7, .int (zi v91)), (6, .int (zi u23)), (0, .ref (ag 0)), (1, .ref (am 0)), (2, .ref (ap 0)), (3, .ref (aw 0)), (4, .ref (an 0)), (5, .int (zi v15))]) hx hb dL_sorts_111 hl (by decide) rfl (fun ls hl => ?_)
      refine loop113 (fun v116 v117 v118 v119 s120 => some s120) N (fun v116 v117 v118 v119 s120 H locs ls h hP hD hS hl => ?_) v15 u23 v91 0 s92 _ _ _ h hP hD hS (lv_sub hl [3, 4, 5, 6, 7, 8, 2, 1, 0] rfl)
      cases h
      exact iv_vret hx hb hr hlocks hK hP hD hS dL_sorts_166
    refine iv_ilt (tgt := 107) hx hb g89 g90 dL_sorts_100 (by decide) (fun c121 => ?_) (fun c121 => ?_)
    · have h := it_t c121 h
      refine iv_iconst hx hb dL_sorts_107 ?_
      exact hj93 0 s85 _ _ _ h hP hD hS (lv_sub hl [0, 1, 2, 3, 4, 5, 6] rfl)
    · have h := it_f c121 h
      refine iv_iconst hx hb dL_sorts_103 ?_
      refine lv_goto (tgt := 108) hx hb dL_sorts_104 (by decide) ?_
      exact hj93 1 s85 _ _ _ h hP hD hS (lv_sub hl [0, 1, 2, 3, 4, 5, 6] rfl)
set_option maxHeartbeats 4000000 in
set_option maxRecDepth 100000 in
theorem k_L_next (l : Launch) (E : wE) (am ap an : Nat → Nat) (sz : Nat) (N : Nat) (x3 x4 : Int) (z : bLmpn) (u : Int) (hf : f_L_next N x3 x4 z = some u) : cI l yL_next wsL_next { frames := 0, cells := 0, slots := 0, locals := 0 } E sz [.ref (am 0), .ref (ap 0), .ref (an 0), .int (zi x3), .int (zi x4)] (wLmpn am ap an E z) (wLmpn am ap an E z) u := by
  refine met_go (cc := cL_next) (maxL := 9) (ret := (some .int)) (Q0 := mQi E (wLmpn am ap an E z) u) (by decide +kernel) rfl (Nat.le_of_ble_eq_true rfl) ?_
  intro A p e s m below meth c hx hb hr hml hts hown hlocks hP hK hD hA hS ls hl
  have hl : lv_has ls 9 [(0, .ref (am 0)), (1, .ref (ap 0)), (2, .ref (an 0)), (3, .int (zi x3)), (4, .int (zi x4))] := hl
  generalize hH : s.heap = H at hP
  have hS : va_S A s.heap H [] := by rw [← hH]; exact hS
  have hown : s.vm.findClass RL = some m.cls := hown
  have loop7 : ∀ (kt : Int → Int → Int → Int → Option Int) (n : Nat), (∀ (v1 : Int) (v2 : Int) (v3 : Int) (v4 : Int) (H : Heap) (locs : List Loc) (ls : Array Slot), kt v1 v2 v3 v4 = some u → va_P E.1 vwCl (wLmpn am ap an E z) H → va_D A (wLmpn am ap an E z) → va_S A s.heap H locs → lv_has ls 9 [(0, .ref (am 0)), (1, .ref (ap 0)), (2, .ref (an 0)), (3, .int (zi v1)), (4, .int (zi v2)), (5, .int (zi v3)), (6, .int (zi v4))] → W p l e ({ frames := 0, cells := 0, slots := 0, locals := 0 }) s m ([.ref (am 0), .ref (ap 0), .ref (an 0), .int (zi x3), .int (zi x4)] : List Value).toArray below meth c H locs 0 0 (MQ below (mQi E (wLmpn am ap an E z) u A) ([.ref (am 0), .ref (ap 0), .ref (an 0), .int (zi x3), .int (zi x4)] : List Value).toArray s 0 0 A) (F0 m 151 ls [])) → ∀ (v1 : Int) (v2 : Int) (v3 : Int) (v4 : Int) (H : Heap) (locs : List Loc) (ls : Array Slot), f_L_next_L7 N z kt n v1 v2 v3 v4 = some u → va_P E.1 vwCl (wLmpn am ap an E z) H → va_D A (wLmpn am ap an E z) → va_S A s.heap H locs → lv_has ls 9 [(0, .ref (am 0)), (1, .ref (ap 0)), (2, .ref (an 0)), (3, .int (zi v1)), (4, .int (zi v2)), (5, .int (zi v3)), (6, .int (zi v4))] → W p l e ({ frames := 0, cells := 0, slots := 0, locals := 0 }) s m ([.ref (am 0), .ref (ap 0), .ref (an 0), .int (zi x3), .int (zi x4)] : List Value).toArray below meth c H locs 0 0 (MQ below (mQi E (wLmpn am ap an E z) u A) ([.ref (am 0), .ref (ap 0), .ref (an 0), .int (zi x3), .int (zi x4)] : List Value).toArray s 0 0 A) (F0 m 7 ls []) := by
    intro kt n hk
    induction n with
    | zero =>
      intro v1 v2 v3 v4 H locs ls h
      exact absurd (show (none : Option Int) = some u from h) (by simp)
    | succ n ih =>
      intro v1 v2 v3 v4 H locs ls h hP hD hS hl
      rw [f_L_next_L7] at h
      refine lv_iload hx hb dL_next_7 (lv_at hl 6 rfl) ?_
      refine lv_aload_n hx hb dL_next_9 rfl (lv_at hl 2 rfl) ?_
      refine iv_bipush hx hb dL_next_10 (by decide +kernel) ?_
      refine iv_iald (f := z.2.2) (j := 13) hx hb hK.1 hP 2 0 rfl rfl (by decide) (by decide +kernel) rfl dL_next_12 ?_
      obtain ⟨g5, h⟩ := gd_t h
      obtain ⟨g6, h⟩ := gd_t h
      refine iv_ige (tgt := 151) hx hb g5 g6 dL_next_13 (by decide) (fun c7 => ?_) (fun c7 => ?_)
      · have h := it_t c7 h
        exact hk v1 v2 v3 v4 _ _ _ h hP hD hS (lv_sub hl [0, 1, 2, 3, 4, 5, 6] rfl)
      · have h := it_f c7 h
        refine lv_aload_n hx hb dL_next_16 rfl (lv_at hl 1 rfl) ?_
        refine iv_iconst hx hb dL_next_17 ?_
        refine lv_iload hx hb dL_next_18 (lv_at hl 6 rfl) ?_
        refine iv_imul hx hb dL_next_20 ?_
        obtain ⟨g8, h⟩ := gd_t h
        refine iv_iald (f := z.2.1) (j := (3 * v4).toNat) hx hb hK.1 hP 1 0 rfl rfl (by decide) g8 rfl dL_next_21 ?_
        refine iv_iconst hx hb dL_next_22 ?_
        obtain ⟨g9, h⟩ := gd_t h
        obtain ⟨j11, e12, h⟩ := jn1_t h
        have hj11 : ∀ (v10 : Int) (H : Heap) (locs : List Loc) (ls : Array Slot), j11 v10 = some u → va_P E.1 vwCl (wLmpn am ap an E z) H → va_D A (wLmpn am ap an E z) → va_S A s.heap H locs → lv_has ls 9 [(0, .ref (am 0)), (1, .ref (ap 0)), (2, .ref (an 0)), (3, .int (zi v1)), (4, .int (zi v2)), (5, .int (zi v3)), (6, .int (zi v4))] → W p l e ({ frames := 0, cells := 0, slots := 0, locals := 0 }) s m ([.ref (am 0), .ref (ap 0), .ref (an 0), .int (zi x3), .int (zi x4)] : List Value).toArray below meth c H locs 0 0 (MQ below (mQi E (wLmpn am ap an E z) u A) ([.ref (am 0), .ref (ap 0), .ref (an 0), .int (zi x3), .int (zi x4)] : List Value).toArray s 0 0 A) (F0 m 43 ls [.int (zi v10)]) := by
          intro v10 H locs ls h hP hD hS hl
          rw [e12] at h
          refine lv_istore (lv' := [(7, .int (zi v10)), (0, .ref (am 0)), (1, .ref (ap 0)), (2, .ref (an 0)), (3, .int (zi v1)), (4, .int (zi v2)), (5, .int (zi v3)), (6, .int (zi v4))]) hx hb dL_next_43 hl (by decide) rfl (fun ls hl => ?_)
          refine lv_iload hx hb dL_next_45 (lv_at hl 5 rfl) ?_
          obtain ⟨g13, h⟩ := gd_t h
          obtain ⟨j15, e16, h⟩ := jn1_t h
          have hj15 : ∀ (v14 : Int) (H : Heap) (locs : List Loc) (ls : Array Slot), j15 v14 = some u → va_P E.1 vwCl (wLmpn am ap an E z) H → va_D A (wLmpn am ap an E z) → va_S A s.heap H locs → lv_has ls 9 [(7, .int (zi v10)), (0, .ref (am 0)), (1, .ref (ap 0)), (2, .ref (an 0)), (3, .int (zi v1)), (4, .int (zi v2)), (5, .int (zi v3)), (6, .int (zi v4))] → W p l e ({ frames := 0, cells := 0, slots := 0, locals := 0 }) s m ([.ref (am 0), .ref (ap 0), .ref (an 0), .int (zi x3), .int (zi x4)] : List Value).toArray below meth c H locs 0 0 (MQ below (mQi E (wLmpn am ap an E z) u A) ([.ref (am 0), .ref (ap 0), .ref (an 0), .int (zi x3), .int (zi x4)] : List Value).toArray s 0 0 A) (F0 m 100 ls [.int (zi v14)]) := by
            intro v14 H locs ls h hP hD hS hl
            rw [e16] at h
            refine lv_istore (lv' := [(8, .int (zi v14)), (7, .int (zi v10)), (0, .ref (am 0)), (1, .ref (ap 0)), (2, .ref (an 0)), (3, .int (zi v1)), (4, .int (zi v2)), (5, .int (zi v3)), (6, .int (zi v4))]) hx hb dL_next_100 hl (by decide) rfl (fun ls hl => ?_)
            refine lv_iload hx hb dL_next_102 (lv_at hl 1 rfl) ?_
            obtain ⟨g17, h⟩ := gd_t h
            obtain ⟨j19, e20, h⟩ := jn1_t h
            have hj19 : ∀ (v18 : Int) (H : Heap) (locs : List Loc) (ls : Array Slot), j19 v18 = some u → va_P E.1 vwCl (wLmpn am ap an E z) H → va_D A (wLmpn am ap an E z) → va_S A s.heap H locs → lv_has ls 9 [(8, .int (zi v14)), (7, .int (zi v10)), (0, .ref (am 0)), (1, .ref (ap 0)), (2, .ref (an 0)), (3, .int (zi v1)), (4, .int (zi v2)), (5, .int (zi v3)), (6, .int (zi v4))] → W p l e ({ frames := 0, cells := 0, slots := 0, locals := 0 }) s m ([.ref (am 0), .ref (ap 0), .ref (an 0), .int (zi x3), .int (zi x4)] : List Value).toArray below meth c H locs 0 0 (MQ below (mQi E (wLmpn am ap an E z) u A) ([.ref (am 0), .ref (ap 0), .ref (an 0), .int (zi x3), .int (zi x4)] : List Value).toArray s 0 0 A) (F0 m 143 ls [.int (zi v18)]) := by
              intro v18 H locs ls h hP hD hS hl
              rw [e20] at h
              refine lv_istore (lv' := [(5, .int (zi v18)), (8, .int (zi v14)), (7, .int (zi v10)), (0, .ref (am 0)), (1, .ref (ap 0)), (2, .ref (an 0)), (3, .int (zi v1)), (4, .int (zi v2)), (6, .int (zi v4))]) hx hb dL_next_143 hl (by decide) rfl (fun ls hl => ?_)
              refine lv_iinc (v := zi (v4 + 1)) (lv' := [(6, .int (zi (v4 + 1))), (5, .int (zi v18)), (8, .int (zi v14)), (7, .int (zi v10)), (0, .ref (am 0)), (1, .ref (ap 0)), (2, .ref (an 0)), (3, .int (zi v1)), (4, .int (zi v2))]) hx hb dL_next_145 hl (k := 8) rfl (by rw [zi_add]; rfl) (by decide) rfl (fun ls hl => ?_)
              refine lv_goto (tgt := 7) hx hb dL_next_148 (by decide) ?_
              exact ih v1 v2 v18 (v4 + 1) _ _ _ h hP hD hS (lv_sub hl [4, 5, 6, 7, 8, 1, 0] rfl)
            refine iv_eq (tgt := 141) hx hb g17 dL_next_104 (by decide) (fun c21 => ?_) (fun c21 => ?_)
            · have h := it_t c21 h
              refine lv_iload hx hb dL_next_141 (lv_at hl 7 rfl) ?_
              exact hj19 v3 _ _ _ h hP hD hS (lv_sub hl [0, 1, 2, 3, 4, 5, 6, 7, 8] rfl)
            · have h := it_f c21 h
              refine lv_iload hx hb dL_next_107 (lv_at hl 0 rfl) ?_
              obtain ⟨g22, h⟩ := gd_t h
              refine iv_eq (tgt := 141) hx hb g22 dL_next_109 (by decide) (fun c23 => ?_) (fun c23 => ?_)
              · have h := it_t c23 h
                refine lv_iload hx hb dL_next_141 (lv_at hl 7 rfl) ?_
                exact hj19 v3 _ _ _ h hP hD hS (lv_sub hl [0, 1, 2, 3, 4, 5, 6, 7, 8] rfl)
              · have h := it_f c23 h
                refine lv_iload hx hb dL_next_112 (lv_at hl 7 rfl) ?_
                obtain ⟨g24, h⟩ := gd_t h
                refine iv_lt (tgt := 136) hx hb g24 dL_next_114 (by decide) (fun c25 => ?_) (fun c25 => ?_)
                · have h := it_t c25 h
                  refine lv_iload hx hb dL_next_136 (lv_at hl 8 rfl) ?_
                  refine lv_goto (tgt := 143) hx hb dL_next_138 (by decide) ?_
                  exact hj19 v4 _ _ _ h hP hD hS (lv_sub hl [0, 1, 2, 3, 4, 5, 6, 7, 8] rfl)
                · have h := it_f c25 h
                  refine lv_aload_n hx hb dL_next_117 rfl (lv_at hl 2 rfl) ?_
                  refine iv_iconst hx hb dL_next_118 ?_
                  refine lv_iload hx hb dL_next_119 (lv_at hl 8 rfl) ?_
                  refine iv_imul hx hb dL_next_121 ?_
                  refine iv_iconst hx hb dL_next_122 ?_
                  refine iv_iadd hx hb dL_next_123 ?_
                  obtain ⟨g26, h⟩ := gd_t h
                  refine iv_iald (f := z.1) (j := ((3 * v4) + 1).toNat) hx hb hK.1 hP 0 0 rfl rfl (by decide) g26 rfl dL_next_124 ?_
                  refine lv_aload_n hx hb dL_next_125 rfl (lv_at hl 2 rfl) ?_
                  refine iv_iconst hx hb dL_next_126 ?_
                  refine lv_iload hx hb dL_next_127 (lv_at hl 7 rfl) ?_
                  refine iv_imul hx hb dL_next_129 ?_
                  refine iv_iconst hx hb dL_next_130 ?_
                  refine iv_iadd hx hb dL_next_131 ?_
                  obtain ⟨g27, h⟩ := gd_t h
                  refine iv_iald (f := z.1) (j := ((3 * v3) + 1).toNat) hx hb hK.1 hP 0 0 rfl rfl (by decide) g27 rfl dL_next_132 ?_
                  obtain ⟨g28, h⟩ := gd_t h
                  obtain ⟨g29, h⟩ := gd_t h
                  refine iv_ige (tgt := 141) hx hb g28 g29 dL_next_133 (by decide) (fun c30 => ?_) (fun c30 => ?_)
                  · have h := it_t c30 h
                    refine lv_iload hx hb dL_next_141 (lv_at hl 7 rfl) ?_
                    exact hj19 v3 _ _ _ h hP hD hS (lv_sub hl [0, 1, 2, 3, 4, 5, 6, 7, 8] rfl)
                  · have h := it_f c30 h
                    refine lv_iload hx hb dL_next_136 (lv_at hl 8 rfl) ?_
                    refine lv_goto (tgt := 143) hx hb dL_next_138 (by decide) ?_
                    exact hj19 v4 _ _ _ h hP hD hS (lv_sub hl [0, 1, 2, 3, 4, 5, 6, 7, 8] rfl)
          refine iv_lt (tgt := 95) hx hb g13 dL_next_47 (by decide) (fun c31 => ?_) (fun c31 => ?_)
          · have h := it_t c31 h
            refine iv_iconst hx hb dL_next_95 ?_
            refine lv_goto (tgt := 100) hx hb dL_next_96 (by decide) ?_
            exact hj15 1 _ _ _ h hP hD hS (lv_sub hl [0, 1, 2, 3, 4, 5, 6, 7] rfl)
          · have h := it_f c31 h
            refine lv_aload_n hx hb dL_next_50 rfl (lv_at hl 1 rfl) ?_
            refine iv_iconst hx hb dL_next_51 ?_
            refine lv_iload hx hb dL_next_52 (lv_at hl 7 rfl) ?_
            refine iv_imul hx hb dL_next_54 ?_
            refine iv_iconst hx hb dL_next_55 ?_
            refine iv_iadd hx hb dL_next_56 ?_
            obtain ⟨g32, h⟩ := gd_t h
            refine iv_iald (f := z.1) (j := ((3 * v4) + 1).toNat) hx hb hK.1 hP 0 0 rfl rfl (by decide) g32 rfl dL_next_57 ?_
            refine lv_aload_n hx hb dL_next_58 rfl (lv_at hl 1 rfl) ?_
            refine iv_iconst hx hb dL_next_59 ?_
            refine lv_iload hx hb dL_next_60 (lv_at hl 5 rfl) ?_
            refine iv_imul hx hb dL_next_62 ?_
            refine iv_iconst hx hb dL_next_63 ?_
            refine iv_iadd hx hb dL_next_64 ?_
            obtain ⟨g33, h⟩ := gd_t h
            refine iv_iald (f := z.1) (j := ((3 * v2) + 1).toNat) hx hb hK.1 hP 0 0 rfl rfl (by decide) g33 rfl dL_next_65 ?_
            obtain ⟨g34, h⟩ := gd_t h
            obtain ⟨g35, h⟩ := gd_t h
            refine iv_igt (tgt := 95) hx hb g34 g35 dL_next_66 (by decide) (fun c36 => ?_) (fun c36 => ?_)
            · have h := it_t c36 h
              refine iv_iconst hx hb dL_next_95 ?_
              refine lv_goto (tgt := 100) hx hb dL_next_96 (by decide) ?_
              exact hj15 1 _ _ _ h hP hD hS (lv_sub hl [0, 1, 2, 3, 4, 5, 6, 7] rfl)
            · have h := it_f c36 h
              refine lv_aload_n hx hb dL_next_69 rfl (lv_at hl 1 rfl) ?_
              refine iv_iconst hx hb dL_next_70 ?_
              refine lv_iload hx hb dL_next_71 (lv_at hl 7 rfl) ?_
              refine iv_imul hx hb dL_next_73 ?_
              refine iv_iconst hx hb dL_next_74 ?_
              refine iv_iadd hx hb dL_next_75 ?_
              refine iv_iald (f := z.1) (j := ((3 * v4) + 1).toNat) hx hb hK.1 hP 0 0 rfl rfl (by decide) g32 rfl dL_next_76 ?_
              refine lv_aload_n hx hb dL_next_77 rfl (lv_at hl 1 rfl) ?_
              refine iv_iconst hx hb dL_next_78 ?_
              refine lv_iload hx hb dL_next_79 (lv_at hl 5 rfl) ?_
              refine iv_imul hx hb dL_next_81 ?_
              refine iv_iconst hx hb dL_next_82 ?_
              refine iv_iadd hx hb dL_next_83 ?_
              refine iv_iald (f := z.1) (j := ((3 * v2) + 1).toNat) hx hb hK.1 hP 0 0 rfl rfl (by decide) g33 rfl dL_next_84 ?_
              refine iv_ine (tgt := 99) hx hb g34 g35 dL_next_85 (by decide) (fun c37 => ?_) (fun c37 => ?_)
              · have h := it_f c37 h
                refine iv_iconst hx hb dL_next_99 ?_
                exact hj15 0 _ _ _ h hP hD hS (lv_sub hl [0, 1, 2, 3, 4, 5, 6, 7] rfl)
              · have h := it_t c37 h
                refine lv_iload hx hb dL_next_88 (lv_at hl 7 rfl) ?_
                refine lv_iload hx hb dL_next_90 (lv_at hl 5 rfl) ?_
                refine iv_ile (tgt := 99) hx hb g5 g13 dL_next_92 (by decide) (fun c38 => ?_) (fun c38 => ?_)
                · have h := it_t c38 h
                  refine iv_iconst hx hb dL_next_99 ?_
                  exact hj15 0 _ _ _ h hP hD hS (lv_sub hl [0, 1, 2, 3, 4, 5, 6, 7] rfl)
                · have h := it_f c38 h
                  refine iv_iconst hx hb dL_next_95 ?_
                  refine lv_goto (tgt := 100) hx hb dL_next_96 (by decide) ?_
                  exact hj15 1 _ _ _ h hP hD hS (lv_sub hl [0, 1, 2, 3, 4, 5, 6, 7] rfl)
        refine iv_ine (tgt := 42) hx hb g9 (by decide +kernel) dL_next_23 (by decide) (fun c39 => ?_) (fun c39 => ?_)
        · have h := it_f c39 h
          refine iv_iconst hx hb dL_next_42 ?_
          exact hj11 0 _ _ _ h hP hD hS (lv_sub hl [0, 1, 2, 3, 4, 5, 6] rfl)
        · have h := it_t c39 h
          refine lv_aload_n hx hb dL_next_26 rfl (lv_at hl 1 rfl) ?_
          refine iv_iconst hx hb dL_next_27 ?_
          refine lv_iload hx hb dL_next_28 (lv_at hl 6 rfl) ?_
          refine iv_imul hx hb dL_next_30 ?_
          refine iv_iconst hx hb dL_next_31 ?_
          refine iv_iadd hx hb dL_next_32 ?_
          obtain ⟨g40, h⟩ := gd_t h
          refine iv_iald (f := z.2.1) (j := ((3 * v4) + 1).toNat) hx hb hK.1 hP 1 0 rfl rfl (by decide) g40 rfl dL_next_33 ?_
          refine lv_iload_n hx hb dL_next_34 rfl (lv_at hl 3 rfl) ?_
          obtain ⟨g41, h⟩ := gd_t h
          obtain ⟨g42, h⟩ := gd_t h
          refine iv_ine (tgt := 42) hx hb g41 g42 dL_next_35 (by decide) (fun c43 => ?_) (fun c43 => ?_)
          · have h := it_f c43 h
            refine iv_iconst hx hb dL_next_42 ?_
            exact hj11 0 _ _ _ h hP hD hS (lv_sub hl [0, 1, 2, 3, 4, 5, 6] rfl)
          · have h := it_t c43 h
            refine iv_iconst hx hb dL_next_38 ?_
            refine lv_goto (tgt := 43) hx hb dL_next_39 (by decide) ?_
            exact hj11 1 _ _ _ h hP hD hS (lv_sub hl [0, 1, 2, 3, 4, 5, 6] rfl)
  have h := hf
  rw [f_L_next] at h
  refine iv_bipush hx hb dL_next_0 (by decide +kernel) ?_
  refine lv_istore (lv' := [(5, .int (zi (-5))), (0, .ref (am 0)), (1, .ref (ap 0)), (2, .ref (an 0)), (3, .int (zi x3)), (4, .int (zi x4))]) hx hb dL_next_2 hl (by decide) rfl (fun ls hl => ?_)
  refine iv_iconst hx hb dL_next_4 ?_
  refine lv_istore (lv' := [(6, .int (zi 0)), (5, .int (zi (-5))), (0, .ref (am 0)), (1, .ref (ap 0)), (2, .ref (an 0)), (3, .int (zi x3)), (4, .int (zi x4))]) hx hb dL_next_5 hl (by decide) rfl (fun ls hl => ?_)
  refine loop7 (fun v44 v45 v46 v47 => some v46) N (fun v44 v45 v46 v47 H locs ls h hP hD hS hl => ?_) x3 x4 (-5) 0 _ _ _ h hP hD hS (lv_sub hl [2, 3, 4, 5, 6, 1, 0] rfl)
  refine lv_iload hx hb dL_next_151 (lv_at hl 5 rfl) ?_
  cases h
  exact iv_iret hx hb hr hlocks hK hP hD hS dL_next_153
set_option maxHeartbeats 4000000 in
set_option maxRecDepth 100000 in
theorem k_L_differs (l : Launch) (E : wE) (am ap an : Nat → Nat) (sz : Nat) (N : Nat) (x3 x4 x5 : Int) (z : bLmpn) (u : Int) (hf : f_L_differs N x3 x4 x5 z = some u) : cI l yL_differs wsL_differs { frames := 1, cells := 0, slots := 0, locals := 28 } E sz [.ref (am 0), .ref (ap 0), .ref (an 0), .int (zi x3), .int (zi x4), .int (zi x5)] (wLmpn am ap an E z) (wLmpn am ap an E z) u := by
  refine met_go (cc := cL_differs) (maxL := 8) (ret := (some .int)) (Q0 := mQi E (wLmpn am ap an E z) u) (by decide +kernel) rfl (Nat.le_of_ble_eq_true rfl) ?_
  intro A p e s m below meth c hx hb hr hml hts hown hlocks hP hK hD hA hS ls hl
  have hl : lv_has ls 8 [(0, .ref (am 0)), (1, .ref (ap 0)), (2, .ref (an 0)), (3, .int (zi x3)), (4, .int (zi x4)), (5, .int (zi x5))] := hl
  generalize hH : s.heap = H at hP
  have hS : va_S A s.heap H [] := by rw [← hH]; exact hS
  have hown : s.vm.findClass RL = some m.cls := hown
  have loop7 : ∀ (kt : Int → Int → Int → Int → Int → Option Int) (n : Nat), (∀ (v1 : Int) (v2 : Int) (v3 : Int) (v4 : Int) (v5 : Int) (H : Heap) (locs : List Loc) (ls : Array Slot), kt v1 v2 v3 v4 v5 = some u → va_P E.1 vwCl (wLmpn am ap an E z) H → va_D A (wLmpn am ap an E z) → va_S A s.heap H locs → lv_has ls 8 [(0, .ref (am 0)), (1, .ref (ap 0)), (2, .ref (an 0)), (3, .int (zi v1)), (4, .int (zi v2)), (5, .int (zi v3)), (6, .int (zi v4)), (7, .int (zi v5))] → W p l e ({ frames := 1, cells := 0, slots := 0, locals := 28 }) s m ([.ref (am 0), .ref (ap 0), .ref (an 0), .int (zi x3), .int (zi x4), .int (zi x5)] : List Value).toArray below meth c H locs 0 0 (MQ below (mQi E (wLmpn am ap an E z) u A) ([.ref (am 0), .ref (ap 0), .ref (an 0), .int (zi x3), .int (zi x4), .int (zi x5)] : List Value).toArray s 0 0 A) (F0 m 36 ls [])) → ∀ (v1 : Int) (v2 : Int) (v3 : Int) (v4 : Int) (v5 : Int) (H : Heap) (locs : List Loc) (ls : Array Slot), f_L_differs_L7 N z kt n v1 v2 v3 v4 v5 = some u → va_P E.1 vwCl (wLmpn am ap an E z) H → va_D A (wLmpn am ap an E z) → va_S A s.heap H locs → lv_has ls 8 [(0, .ref (am 0)), (1, .ref (ap 0)), (2, .ref (an 0)), (3, .int (zi v1)), (4, .int (zi v2)), (5, .int (zi v3)), (6, .int (zi v4)), (7, .int (zi v5))] → W p l e ({ frames := 1, cells := 0, slots := 0, locals := 28 }) s m ([.ref (am 0), .ref (ap 0), .ref (an 0), .int (zi x3), .int (zi x4), .int (zi x5)] : List Value).toArray below meth c H locs 0 0 (MQ below (mQi E (wLmpn am ap an E z) u A) ([.ref (am 0), .ref (ap 0), .ref (an 0), .int (zi x3), .int (zi x4), .int (zi x5)] : List Value).toArray s 0 0 A) (F0 m 7 ls []) := by
    intro kt n hk
    induction n with
    | zero =>
      intro v1 v2 v3 v4 v5 H locs ls h
      exact absurd (show (none : Option Int) = some u from h) (by simp)
    | succ n ih =>
      intro v1 v2 v3 v4 v5 H locs ls h hP hD hS hl
      rw [f_L_differs_L7] at h
      refine lv_iload hx hb dL_differs_7 (lv_at hl 7 rfl) ?_
      refine lv_iload hx hb dL_differs_9 (lv_at hl 5 rfl) ?_
      obtain ⟨g6, h⟩ := gd_t h
      obtain ⟨g7, h⟩ := gd_t h
      refine iv_ige (tgt := 36) hx hb g6 g7 dL_differs_11 (by decide) (fun c8 => ?_) (fun c8 => ?_)
      · have h := it_t c8 h
        exact hk v1 v2 v3 v4 v5 _ _ _ h hP hD hS (lv_sub hl [0, 1, 2, 3, 4, 5, 6, 7] rfl)
      · have h := it_f c8 h
        refine lv_iload hx hb dL_differs_14 (lv_at hl 6 rfl) ?_
        obtain ⟨g9, h⟩ := gd_t h
        refine iv_lt (tgt := 36) hx hb g9 dL_differs_16 (by decide) (fun c10 => ?_) (fun c10 => ?_)
        · have h := it_t c10 h
          exact hk v1 v2 v3 v4 v5 _ _ _ h hP hD hS (lv_sub hl [0, 1, 2, 3, 4, 5, 6, 7] rfl)
        · have h := it_f c10 h
          refine lv_aload_n hx hb dL_differs_19 rfl (lv_at hl 0 rfl) ?_
          refine lv_aload_n hx hb dL_differs_20 rfl (lv_at hl 1 rfl) ?_
          refine lv_aload_n hx hb dL_differs_21 rfl (lv_at hl 2 rfl) ?_
          refine lv_iload_n hx hb dL_differs_22 rfl (lv_at hl 3 rfl) ?_
          refine lv_iload hx hb dL_differs_23 (lv_at hl 6 rfl) ?_
          obtain ⟨u11, q12, h⟩ := bd_t h
          refine iv_callWI (As := [.ref (am 0), .ref (ap 0), .ref (an 0), .int (zi v1), .int (zi v4)]) (rest := []) (ws1 := wLmpn am ap an E z) ⟨hx, hb, hml, hown, hts⟩ (k_L_next l E am ap an H.size N v1 v4 (z.1, z.2.1, z.2.2) u11 q12) (va_cwS 5 hts gL_differs_L_next rfl rfl rfl (by decide +kernel) ⟨Nat.le_of_ble_eq_true rfl, Nat.le_of_ble_eq_true rfl⟩) hK hP hD hS hA (pm_take (pm_take (pm_end))) (pm_take (pm_take (pm_end))) rfl hl.1 (Nat.le_of_ble_eq_true rfl) ⟨Nat.le_of_ble_eq_true rfl, Nat.le_of_ble_eq_true rfl⟩ dL_differs_25 (fun H locs hP hD hS => ?_)
          refine lv_istore (lv' := [(6, .int (zi u11)), (0, .ref (am 0)), (1, .ref (ap 0)), (2, .ref (an 0)), (3, .int (zi v1)), (4, .int (zi v2)), (5, .int (zi v3)), (7, .int (zi v5))]) hx hb dL_differs_28 hl (by decide) rfl (fun ls hl => ?_)
          refine lv_iinc (v := zi (v5 + 1)) (lv' := [(7, .int (zi (v5 + 1))), (6, .int (zi u11)), (0, .ref (am 0)), (1, .ref (ap 0)), (2, .ref (an 0)), (3, .int (zi v1)), (4, .int (zi v2)), (5, .int (zi v3))]) hx hb dL_differs_30 hl (k := 7) rfl (by rw [zi_add]; rfl) (by decide) rfl (fun ls hl => ?_)
          refine lv_goto (tgt := 7) hx hb dL_differs_33 (by decide) ?_
          exact ih v1 v2 v3 u11 (v5 + 1) _ _ _ h hP hD hS (lv_sub hl [2, 3, 4, 5, 6, 7, 1, 0] rfl)
  have h := hf
  rw [f_L_differs] at h
  refine lv_iload hx hb dL_differs_0 (lv_at hl 4 rfl) ?_
  refine lv_istore (lv' := [(6, .int (zi x4)), (0, .ref (am 0)), (1, .ref (ap 0)), (2, .ref (an 0)), (3, .int (zi x3)), (4, .int (zi x4)), (5, .int (zi x5))]) hx hb dL_differs_2 hl (by decide) rfl (fun ls hl => ?_)
  refine iv_iconst hx hb dL_differs_4 ?_
  refine lv_istore (lv' := [(7, .int (zi 1)), (6, .int (zi x4)), (0, .ref (am 0)), (1, .ref (ap 0)), (2, .ref (an 0)), (3, .int (zi x3)), (4, .int (zi x4)), (5, .int (zi x5))]) hx hb dL_differs_5 hl (by decide) rfl (fun ls hl => ?_)
  refine loop7 (fun v13 v14 v15 v16 v17 => gd (rg v14) <| jn1 (fun (v19 : Int) => some v19) fun j20 => if v14 < 0 then (j20 (-5)) else (gd (rg v16) <| if 0 ≤ v16 then (gd (inb ((3 * v16) + 1) 60) <| gd (inb ((3 * v14) + 1) 60) <| j20 ((z.1 (((3 * v16) + 1).toNat)) - (z.1 (((3 * v14) + 1).toNat)))) else (j20 (-5)))) N (fun v13 v14 v15 v16 v17 H locs ls h hP hD hS hl => ?_) x3 x4 x5 x4 1 _ _ _ h hP hD hS (lv_sub hl [2, 3, 4, 5, 6, 7, 1, 0] rfl)
  refine lv_iload hx hb dL_differs_36 (lv_at hl 4 rfl) ?_
  obtain ⟨g18, h⟩ := gd_t h
  obtain ⟨j20, e21, h⟩ := jn1_t h
  have hj20 : ∀ (v19 : Int) (H : Heap) (locs : List Loc) (ls : Array Slot), j20 v19 = some u → va_P E.1 vwCl (wLmpn am ap an E z) H → va_D A (wLmpn am ap an E z) → va_S A s.heap H locs → lv_has ls 8 [(0, .ref (am 0)), (1, .ref (ap 0)), (2, .ref (an 0)), (3, .int (zi v13)), (4, .int (zi v14)), (5, .int (zi v15)), (6, .int (zi v16)), (7, .int (zi v17))] → W p l e ({ frames := 1, cells := 0, slots := 0, locals := 28 }) s m ([.ref (am 0), .ref (ap 0), .ref (an 0), .int (zi x3), .int (zi x4), .int (zi x5)] : List Value).toArray below meth c H locs 0 0 (MQ below (mQi E (wLmpn am ap an E z) u A) ([.ref (am 0), .ref (ap 0), .ref (an 0), .int (zi x3), .int (zi x4), .int (zi x5)] : List Value).toArray s 0 0 A) (F0 m 68 ls [.int (zi v19)]) := by
    intro v19 H locs ls h hP hD hS hl
    rw [e21] at h
    cases h
    exact iv_iret hx hb hr hlocks hK hP hD hS dL_differs_68
  refine iv_lt (tgt := 46) hx hb g18 dL_differs_38 (by decide) (fun c22 => ?_) (fun c22 => ?_)
  · have h := it_t c22 h
    refine iv_bipush hx hb dL_differs_46 (by decide +kernel) ?_
    refine lv_goto (tgt := 68) hx hb dL_differs_48 (by decide) ?_
    exact hj20 (-5) _ _ _ h hP hD hS (lv_sub hl [0, 1, 2, 3, 4, 5, 6, 7] rfl)
  · have h := it_f c22 h
    refine lv_iload hx hb dL_differs_41 (lv_at hl 6 rfl) ?_
    obtain ⟨g23, h⟩ := gd_t h
    refine iv_ge (tgt := 51) hx hb g23 dL_differs_43 (by decide) (fun c24 => ?_) (fun c24 => ?_)
    · have h := it_t c24 h
      refine lv_aload_n hx hb dL_differs_51 rfl (lv_at hl 0 rfl) ?_
      refine iv_iconst hx hb dL_differs_52 ?_
      refine lv_iload hx hb dL_differs_53 (lv_at hl 6 rfl) ?_
      refine iv_imul hx hb dL_differs_55 ?_
      refine iv_iconst hx hb dL_differs_56 ?_
      refine iv_iadd hx hb dL_differs_57 ?_
      obtain ⟨g25, h⟩ := gd_t h
      refine iv_iald (f := z.1) (j := ((3 * v16) + 1).toNat) hx hb hK.1 hP 0 0 rfl rfl (by decide) g25 rfl dL_differs_58 ?_
      refine lv_aload_n hx hb dL_differs_59 rfl (lv_at hl 0 rfl) ?_
      refine iv_iconst hx hb dL_differs_60 ?_
      refine lv_iload hx hb dL_differs_61 (lv_at hl 4 rfl) ?_
      refine iv_imul hx hb dL_differs_63 ?_
      refine iv_iconst hx hb dL_differs_64 ?_
      refine iv_iadd hx hb dL_differs_65 ?_
      obtain ⟨g26, h⟩ := gd_t h
      refine iv_iald (f := z.1) (j := ((3 * v14) + 1).toNat) hx hb hK.1 hP 0 0 rfl rfl (by decide) g26 rfl dL_differs_66 ?_
      refine iv_isub hx hb dL_differs_67 ?_
      exact hj20 ((z.1 (((3 * v16) + 1).toNat)) - (z.1 (((3 * v14) + 1).toNat))) _ _ _ h hP hD hS (lv_sub hl [0, 1, 2, 3, 4, 5, 6, 7] rfl)
    · have h := it_f c24 h
      refine iv_bipush hx hb dL_differs_46 (by decide +kernel) ?_
      refine lv_goto (tgt := 68) hx hb dL_differs_48 (by decide) ?_
      exact hj20 (-5) _ _ _ h hP hD hS (lv_sub hl [0, 1, 2, 3, 4, 5, 6, 7] rfl)
set_option maxHeartbeats 4000000 in
set_option maxRecDepth 100000 in
theorem k_L_first (l : Launch) (E : wE) (am ap an : Nat → Nat) (sz : Nat) (N : Nat) (x3 x4 : Int) (z : bLmpn) (u : Int) (hf : f_L_first N x3 x4 z = some u) : cI l yL_first wsL_first { frames := 2, cells := 0, slots := 0, locals := 55 } E sz [.ref (am 0), .ref (ap 0), .ref (an 0), .int (zi x3), .int (zi x4)] (wLmpn am ap an E z) (wLmpn am ap an E z) u := by
  refine met_go (cc := cL_first) (maxL := 6) (ret := (some .int)) (Q0 := mQi E (wLmpn am ap an E z) u) (by decide +kernel) rfl (Nat.le_of_ble_eq_true rfl) ?_
  intro A p e s m below meth c hx hb hr hml hts hown hlocks hP hK hD hA hS ls hl
  have hl : lv_has ls 6 [(0, .ref (am 0)), (1, .ref (ap 0)), (2, .ref (an 0)), (3, .int (zi x3)), (4, .int (zi x4))] := hl
  generalize hH : s.heap = H at hP
  have hS : va_S A s.heap H [] := by rw [← hH]; exact hS
  have hown : s.vm.findClass RL = some m.cls := hown
  have loop11 : ∀ (kt : Int → Int → Int → Option Int) (n : Nat), (∀ (v3 : Int) (v4 : Int) (v5 : Int) (H : Heap) (locs : List Loc) (ls : Array Slot), kt v3 v4 v5 = some u → va_P E.1 vwCl (wLmpn am ap an E z) H → va_D A (wLmpn am ap an E z) → va_S A s.heap H locs → lv_has ls 6 [(0, .ref (am 0)), (1, .ref (ap 0)), (2, .ref (an 0)), (3, .int (zi v3)), (4, .int (zi v4)), (5, .int (zi v5))] → W p l e ({ frames := 2, cells := 0, slots := 0, locals := 55 }) s m ([.ref (am 0), .ref (ap 0), .ref (an 0), .int (zi x3), .int (zi x4)] : List Value).toArray below meth c H locs 0 0 (MQ below (mQi E (wLmpn am ap an E z) u A) ([.ref (am 0), .ref (ap 0), .ref (an 0), .int (zi x3), .int (zi x4)] : List Value).toArray s 0 0 A) (F0 m 62 ls [])) → ∀ (v3 : Int) (v4 : Int) (v5 : Int) (H : Heap) (locs : List Loc) (ls : Array Slot), f_L_first_L11 N z kt n v3 v4 v5 = some u → va_P E.1 vwCl (wLmpn am ap an E z) H → va_D A (wLmpn am ap an E z) → va_S A s.heap H locs → lv_has ls 6 [(0, .ref (am 0)), (1, .ref (ap 0)), (2, .ref (an 0)), (3, .int (zi v3)), (4, .int (zi v4)), (5, .int (zi v5))] → W p l e ({ frames := 2, cells := 0, slots := 0, locals := 55 }) s m ([.ref (am 0), .ref (ap 0), .ref (an 0), .int (zi x3), .int (zi x4)] : List Value).toArray below meth c H locs 0 0 (MQ below (mQi E (wLmpn am ap an E z) u A) ([.ref (am 0), .ref (ap 0), .ref (an 0), .int (zi x3), .int (zi x4)] : List Value).toArray s 0 0 A) (F0 m 11 ls []) := by
    intro kt n hk
    induction n with
    | zero =>
      intro v3 v4 v5 H locs ls h
      exact absurd (show (none : Option Int) = some u from h) (by simp)
    | succ n ih =>
      intro v3 v4 v5 H locs ls h hP hD hS hl
      rw [f_L_first_L11] at h
      refine lv_iload hx hb dL_first_11 (lv_at hl 5 rfl) ?_
      obtain ⟨g6, h⟩ := gd_t h
      refine iv_lt (tgt := 62) hx hb g6 dL_first_13 (by decide) (fun c7 => ?_) (fun c7 => ?_)
      · have h := it_t c7 h
        exact hk v3 v4 v5 _ _ _ h hP hD hS (lv_sub hl [0, 1, 2, 3, 4, 5] rfl)
      · have h := it_f c7 h
        refine lv_aload_n hx hb dL_first_16 rfl (lv_at hl 0 rfl) ?_
        refine lv_aload_n hx hb dL_first_17 rfl (lv_at hl 1 rfl) ?_
        refine lv_aload_n hx hb dL_first_18 rfl (lv_at hl 2 rfl) ?_
        refine lv_iload_n hx hb dL_first_19 rfl (lv_at hl 3 rfl) ?_
        refine lv_iload hx hb dL_first_20 (lv_at hl 5 rfl) ?_
        refine lv_iload hx hb dL_first_22 (lv_at hl 4 rfl) ?_
        obtain ⟨u8, q9, h⟩ := bd_t h
        refine iv_callWI (As := [.ref (am 0), .ref (ap 0), .ref (an 0), .int (zi v3), .int (zi v5), .int (zi v4)]) (rest := []) (ws1 := wLmpn am ap an E z) ⟨hx, hb, hml, hown, hts⟩ (k_L_differs l E am ap an H.size N v3 v5 v4 (z.1, z.2.1, z.2.2) u8 q9) (va_cwS 6 hts gL_first_L_differs rfl rfl rfl (by decide +kernel) ⟨Nat.le_of_ble_eq_true rfl, Nat.le_of_ble_eq_true rfl⟩) hK hP hD hS hA (pm_take (pm_take (pm_end))) (pm_take (pm_take (pm_end))) rfl hl.1 (Nat.le_of_ble_eq_true rfl) ⟨Nat.le_of_ble_eq_true rfl, Nat.le_of_ble_eq_true rfl⟩ dL_first_24 (fun H locs hP hD hS => ?_)
        obtain ⟨g10, h⟩ := gd_t h
        refine iv_lt (tgt := 48) hx hb g10 dL_first_27 (by decide) (fun c11 => ?_) (fun c11 => ?_)
        · have h := it_t c11 h
          refine lv_aload_n hx hb dL_first_48 rfl (lv_at hl 0 rfl) ?_
          refine lv_aload_n hx hb dL_first_49 rfl (lv_at hl 1 rfl) ?_
          refine lv_aload_n hx hb dL_first_50 rfl (lv_at hl 2 rfl) ?_
          refine lv_iload_n hx hb dL_first_51 rfl (lv_at hl 3 rfl) ?_
          refine lv_iload hx hb dL_first_52 (lv_at hl 5 rfl) ?_
          obtain ⟨u12, q13, h⟩ := bd_t h
          refine iv_callWI (As := [.ref (am 0), .ref (ap 0), .ref (an 0), .int (zi v3), .int (zi v5)]) (rest := []) (ws1 := wLmpn am ap an E z) ⟨hx, hb, hml, hown, hts⟩ (k_L_next l E am ap an H.size N v3 v5 (z.1, z.2.1, z.2.2) u12 q13) (va_cwS 5 hts gL_first_L_next rfl rfl rfl (by decide +kernel) ⟨Nat.le_of_ble_eq_true rfl, Nat.le_of_ble_eq_true rfl⟩) hK hP hD hS hA (pm_take (pm_take (pm_end))) (pm_take (pm_take (pm_end))) rfl hl.1 (Nat.le_of_ble_eq_true rfl) ⟨Nat.le_of_ble_eq_true rfl, Nat.le_of_ble_eq_true rfl⟩ dL_first_54 (fun H locs hP hD hS => ?_)
          refine lv_istore (lv' := [(5, .int (zi u12)), (0, .ref (am 0)), (1, .ref (ap 0)), (2, .ref (an 0)), (3, .int (zi v3)), (4, .int (zi v4))]) hx hb dL_first_57 hl (by decide) rfl (fun ls hl => ?_)
          refine lv_goto (tgt := 11) hx hb dL_first_59 (by decide) ?_
          exact ih v3 v4 u12 _ _ _ h hP hD hS (lv_sub hl [1, 2, 3, 4, 5, 0] rfl)
        · have h := it_f c11 h
          refine lv_aload_n hx hb dL_first_30 rfl (lv_at hl 0 rfl) ?_
          refine lv_aload_n hx hb dL_first_31 rfl (lv_at hl 1 rfl) ?_
          refine lv_aload_n hx hb dL_first_32 rfl (lv_at hl 2 rfl) ?_
          refine lv_iload_n hx hb dL_first_33 rfl (lv_at hl 3 rfl) ?_
          refine lv_iload hx hb dL_first_34 (lv_at hl 5 rfl) ?_
          refine lv_iload hx hb dL_first_36 (lv_at hl 4 rfl) ?_
          obtain ⟨u14, q15, h⟩ := bd_t h
          refine iv_callWI (As := [.ref (am 0), .ref (ap 0), .ref (an 0), .int (zi v3), .int (zi v5), .int (zi v4)]) (rest := []) (ws1 := wLmpn am ap an E z) ⟨hx, hb, hml, hown, hts⟩ (k_L_differs l E am ap an H.size N v3 v5 v4 (z.1, z.2.1, z.2.2) u14 q15) (va_cwS 6 hts gL_first_L_differs rfl rfl rfl (by decide +kernel) ⟨Nat.le_of_ble_eq_true rfl, Nat.le_of_ble_eq_true rfl⟩) hK hP hD hS hA (pm_take (pm_take (pm_end))) (pm_take (pm_take (pm_end))) rfl hl.1 (Nat.le_of_ble_eq_true rfl) ⟨Nat.le_of_ble_eq_true rfl, Nat.le_of_ble_eq_true rfl⟩ dL_first_38 (fun H locs hP hD hS => ?_)
          refine lv_aload_n hx hb dL_first_41 rfl (lv_at hl 2 rfl) ?_
          refine iv_bipush hx hb dL_first_42 (by decide +kernel) ?_
          refine iv_iald (f := z.2.2) (j := 7) hx hb hK.1 hP 2 0 rfl rfl (by decide) (by decide +kernel) rfl dL_first_44 ?_
          obtain ⟨g16, h⟩ := gd_t h
          obtain ⟨g17, h⟩ := gd_t h
          refine iv_ile (tgt := 62) hx hb g16 g17 dL_first_45 (by decide) (fun c18 => ?_) (fun c18 => ?_)
          · have h := it_t c18 h
            exact hk v3 v4 v5 _ _ _ h hP hD hS (lv_sub hl [0, 1, 2, 3, 4, 5] rfl)
          · have h := it_f c18 h
            refine lv_aload_n hx hb dL_first_48 rfl (lv_at hl 0 rfl) ?_
            refine lv_aload_n hx hb dL_first_49 rfl (lv_at hl 1 rfl) ?_
            refine lv_aload_n hx hb dL_first_50 rfl (lv_at hl 2 rfl) ?_
            refine lv_iload_n hx hb dL_first_51 rfl (lv_at hl 3 rfl) ?_
            refine lv_iload hx hb dL_first_52 (lv_at hl 5 rfl) ?_
            obtain ⟨u19, q20, h⟩ := bd_t h
            refine iv_callWI (As := [.ref (am 0), .ref (ap 0), .ref (an 0), .int (zi v3), .int (zi v5)]) (rest := []) (ws1 := wLmpn am ap an E z) ⟨hx, hb, hml, hown, hts⟩ (k_L_next l E am ap an H.size N v3 v5 (z.1, z.2.1, z.2.2) u19 q20) (va_cwS 5 hts gL_first_L_next rfl rfl rfl (by decide +kernel) ⟨Nat.le_of_ble_eq_true rfl, Nat.le_of_ble_eq_true rfl⟩) hK hP hD hS hA (pm_take (pm_take (pm_end))) (pm_take (pm_take (pm_end))) rfl hl.1 (Nat.le_of_ble_eq_true rfl) ⟨Nat.le_of_ble_eq_true rfl, Nat.le_of_ble_eq_true rfl⟩ dL_first_54 (fun H locs hP hD hS => ?_)
            refine lv_istore (lv' := [(5, .int (zi u19)), (0, .ref (am 0)), (1, .ref (ap 0)), (2, .ref (an 0)), (3, .int (zi v3)), (4, .int (zi v4))]) hx hb dL_first_57 hl (by decide) rfl (fun ls hl => ?_)
            refine lv_goto (tgt := 11) hx hb dL_first_59 (by decide) ?_
            exact ih v3 v4 u19 _ _ _ h hP hD hS (lv_sub hl [1, 2, 3, 4, 5, 0] rfl)
  have h := hf
  rw [f_L_first] at h
  refine lv_aload_n hx hb dL_first_0 rfl (lv_at hl 0 rfl) ?_
  refine lv_aload_n hx hb dL_first_1 rfl (lv_at hl 1 rfl) ?_
  refine lv_aload_n hx hb dL_first_2 rfl (lv_at hl 2 rfl) ?_
  refine lv_iload_n hx hb dL_first_3 rfl (lv_at hl 3 rfl) ?_
  refine iv_bipush hx hb dL_first_4 (by decide +kernel) ?_
  obtain ⟨u1, q2, h⟩ := bd_t h
  refine iv_callWI (As := [.ref (am 0), .ref (ap 0), .ref (an 0), .int (zi x3), .int (zi (-5))]) (rest := []) (ws1 := wLmpn am ap an E z) ⟨hx, hb, hml, hown, hts⟩ (k_L_next l E am ap an H.size N x3 (-5) (z.1, z.2.1, z.2.2) u1 q2) (va_cwS 5 hts gL_first_L_next rfl rfl rfl (by decide +kernel) ⟨Nat.le_of_ble_eq_true rfl, Nat.le_of_ble_eq_true rfl⟩) hK hP hD hS hA (pm_take (pm_take (pm_end))) (pm_take (pm_take (pm_end))) rfl hl.1 (Nat.le_of_ble_eq_true rfl) ⟨Nat.le_of_ble_eq_true rfl, Nat.le_of_ble_eq_true rfl⟩ dL_first_6 (fun H locs hP hD hS => ?_)
  refine lv_istore (lv' := [(5, .int (zi u1)), (0, .ref (am 0)), (1, .ref (ap 0)), (2, .ref (an 0)), (3, .int (zi x3)), (4, .int (zi x4))]) hx hb dL_first_9 hl (by decide) rfl (fun ls hl => ?_)
  refine loop11 (fun v21 v22 v23 => some v23) N (fun v21 v22 v23 H locs ls h hP hD hS hl => ?_) x3 x4 u1 _ _ _ h hP hD hS (lv_sub hl [1, 2, 3, 4, 5, 0] rfl)
  refine lv_iload hx hb dL_first_62 (lv_at hl 5 rfl) ?_
  cases h
  exact iv_iret hx hb hr hlocks hK hP hD hS dL_first_64
set_option maxHeartbeats 4000000 in
set_option maxRecDepth 100000 in
theorem k_L_sews (l : Launch) (E : wE) (am ap an : Nat → Nat) (sz : Nat) (N : Nat) (x3 x4 : Int) (z : bLmpn) (u : (Int × bLmpn)) (hf : f_L_sews N x3 x4 z = some u) : cI l yL_sews wsL_sews { frames := 3, cells := 0, slots := 0, locals := 80 } E sz [.ref (am 0), .ref (ap 0), .ref (an 0), .int (zi x3), .int (zi x4)] (wLmpn am ap an E z) (wLmpn am ap an E u.2) u.1 := by
  refine met_go (cc := cL_sews) (maxL := 9) (ret := (some .int)) (Q0 := mQi E (wLmpn am ap an E u.2) u.1) (by decide +kernel) rfl (Nat.le_of_ble_eq_true rfl) ?_
  intro A p e s m below meth c hx hb hr hml hts hown hlocks hP hK hD hA hS ls hl
  have hl : lv_has ls 9 [(0, .ref (am 0)), (1, .ref (ap 0)), (2, .ref (an 0)), (3, .int (zi x3)), (4, .int (zi x4))] := hl
  generalize hH : s.heap = H at hP
  have hS : va_S A s.heap H [] := by rw [← hH]; exact hS
  have hown : s.vm.findClass RL = some m.cls := hown
  have loop17 : ∀ (kt : Int → Int → Int → Int → Int → bLmpn → Option (Int × bLmpn)) (n : Nat), (∀ (v3 : Int) (v4 : Int) (v5 : Int) (v6 : Int) (v7 : Int) (s8 : bLmpn) (H : Heap) (locs : List Loc) (ls : Array Slot), kt v3 v4 v5 v6 v7 s8 = some u → va_P E.1 vwCl (wLmpn am ap an E s8) H → va_D A (wLmpn am ap an E s8) → va_S A s.heap H locs → lv_has ls 9 [(0, .ref (am 0)), (1, .ref (ap 0)), (2, .ref (an 0)), (3, .int (zi v3)), (4, .int (zi v4)), (5, .int (zi v5)), (6, .int (zi v6)), (7, .int (zi v7))] → W p l e ({ frames := 3, cells := 0, slots := 0, locals := 80 }) s m ([.ref (am 0), .ref (ap 0), .ref (an 0), .int (zi x3), .int (zi x4)] : List Value).toArray below meth c H locs 0 0 (MQ below (mQi E (wLmpn am ap an E u.2) u.1 A) ([.ref (am 0), .ref (ap 0), .ref (an 0), .int (zi x3), .int (zi x4)] : List Value).toArray s 0 0 A) (F0 m 95 ls [])) → ∀ (v3 : Int) (v4 : Int) (v5 : Int) (v6 : Int) (v7 : Int) (s8 : bLmpn) (H : Heap) (locs : List Loc) (ls : Array Slot), f_L_sews_L17 N kt n v3 v4 v5 v6 v7 s8 = some u → va_P E.1 vwCl (wLmpn am ap an E s8) H → va_D A (wLmpn am ap an E s8) → va_S A s.heap H locs → lv_has ls 9 [(0, .ref (am 0)), (1, .ref (ap 0)), (2, .ref (an 0)), (3, .int (zi v3)), (4, .int (zi v4)), (5, .int (zi v5)), (6, .int (zi v6)), (7, .int (zi v7))] → W p l e ({ frames := 3, cells := 0, slots := 0, locals := 80 }) s m ([.ref (am 0), .ref (ap 0), .ref (an 0), .int (zi x3), .int (zi x4)] : List Value).toArray below meth c H locs 0 0 (MQ below (mQi E (wLmpn am ap an E u.2) u.1 A) ([.ref (am 0), .ref (ap 0), .ref (an 0), .int (zi x3), .int (zi x4)] : List Value).toArray s 0 0 A) (F0 m 17 ls []) := by
    intro kt n hk
    induction n with
    | zero =>
      intro v3 v4 v5 v6 v7 s8 H locs ls h
      exact absurd (show (none : Option (Int × bLmpn)) = some u from h) (by simp)
    | succ n ih =>
      intro v3 v4 v5 v6 v7 s8 H locs ls h hP hD hS hl
      rw [f_L_sews_L17] at h
      refine lv_iload hx hb dL_sews_17 (lv_at hl 7 rfl) ?_
      refine lv_iload hx hb dL_sews_19 (lv_at hl 4 rfl) ?_
      obtain ⟨g9, h⟩ := gd_t h
      obtain ⟨g10, h⟩ := gd_t h
      refine iv_ige (tgt := 95) hx hb g9 g10 dL_sews_21 (by decide) (fun c11 => ?_) (fun c11 => ?_)
      · have h := it_t c11 h
        exact hk v3 v4 v5 v6 v7 s8 _ _ _ h hP hD hS (lv_sub hl [0, 1, 2, 3, 4, 5, 6, 7] rfl)
      · have h := it_f c11 h
        refine lv_aload_n hx hb dL_sews_24 rfl (lv_at hl 0 rfl) ?_
        refine lv_aload_n hx hb dL_sews_25 rfl (lv_at hl 1 rfl) ?_
        refine lv_aload_n hx hb dL_sews_26 rfl (lv_at hl 2 rfl) ?_
        refine lv_iload_n hx hb dL_sews_27 rfl (lv_at hl 3 rfl) ?_
        refine lv_iload hx hb dL_sews_28 (lv_at hl 5 rfl) ?_
        obtain ⟨u12, q13, h⟩ := bd_t h
        refine iv_callWI (As := [.ref (am 0), .ref (ap 0), .ref (an 0), .int (zi v3), .int (zi v5)]) (rest := []) (ws1 := wLmpn am ap an E s8) ⟨hx, hb, hml, hown, hts⟩ (k_L_next l E am ap an H.size N v3 v5 (s8.1, s8.2.1, s8.2.2) u12 q13) (va_cwS 5 hts gL_sews_L_next rfl rfl rfl (by decide +kernel) ⟨Nat.le_of_ble_eq_true rfl, Nat.le_of_ble_eq_true rfl⟩) hK hP hD hS hA (pm_take (pm_take (pm_end))) (pm_take (pm_take (pm_end))) rfl hl.1 (Nat.le_of_ble_eq_true rfl) ⟨Nat.le_of_ble_eq_true rfl, Nat.le_of_ble_eq_true rfl⟩ dL_sews_30 (fun H locs hP hD hS => ?_)
        refine lv_istore (lv' := [(8, .int (zi u12)), (0, .ref (am 0)), (1, .ref (ap 0)), (2, .ref (an 0)), (3, .int (zi v3)), (4, .int (zi v4)), (5, .int (zi v5)), (6, .int (zi v6)), (7, .int (zi v7))]) hx hb dL_sews_33 hl (by decide) rfl (fun ls hl => ?_)
        refine lv_iload hx hb dL_sews_35 (lv_at hl 7 rfl) ?_
        refine lv_aload_n hx hb dL_sews_37 rfl (lv_at hl 1 rfl) ?_
        refine iv_iconst hx hb dL_sews_38 ?_
        refine lv_iload hx hb dL_sews_39 (lv_at hl 6 rfl) ?_
        refine iv_imul hx hb dL_sews_41 ?_
        refine iv_iconst hx hb dL_sews_42 ?_
        refine iv_iadd hx hb dL_sews_43 ?_
        obtain ⟨g14, h⟩ := gd_t h
        refine iv_iald (f := s8.1) (j := ((3 * v5) + 1).toNat) hx hb hK.1 hP 0 0 rfl rfl (by decide) g14 rfl dL_sews_44 ?_
        refine lv_aload_n hx hb dL_sews_45 rfl (lv_at hl 1 rfl) ?_
        refine iv_iconst hx hb dL_sews_46 ?_
        refine lv_iload hx hb dL_sews_47 (lv_at hl 6 rfl) ?_
        refine iv_imul hx hb dL_sews_49 ?_
        obtain ⟨g15, h⟩ := gd_t h
        refine iv_iald (f := s8.1) (j := (3 * v5).toNat) hx hb hK.1 hP 0 0 rfl rfl (by decide) g15 rfl dL_sews_50 ?_
        refine iv_isub hx hb dL_sews_51 ?_
        refine iv_iadd hx hb dL_sews_52 ?_
        obtain ⟨v16, e17, h⟩ := nm_t h
        refine iv_nm e17 ?_
        refine lv_istore (lv' := [(6, .int (zi v16)), (8, .int (zi u12)), (0, .ref (am 0)), (1, .ref (ap 0)), (2, .ref (an 0)), (3, .int (zi v3)), (4, .int (zi v4)), (5, .int (zi v5)), (7, .int (zi v7))]) hx hb dL_sews_53 hl (by decide) rfl (fun ls hl => ?_)
        refine lv_aload_n hx hb dL_sews_55 rfl (lv_at hl 3 rfl) ?_
        refine iv_iconst hx hb dL_sews_56 ?_
        refine lv_iload hx hb dL_sews_57 (lv_at hl 7 rfl) ?_
        refine iv_imul hx hb dL_sews_59 ?_
        refine iv_bipush hx hb dL_sews_60 (by decide +kernel) ?_
        obtain ⟨s18, e19, h⟩ := nm_t h
        refine iv_iast (f := s8.2.1) (j := (3 * v5).toNat) (ws1 := wLmpn am ap an E s18) hx hb hK.1 hP hD hS 1 0 rfl rfl (by decide) g15 rfl (by rw [e19]; rfl) dL_sews_62 (fun H locs hP hD hS => ?_)
        refine lv_aload_n hx hb dL_sews_63 rfl (lv_at hl 3 rfl) ?_
        refine iv_iconst hx hb dL_sews_64 ?_
        refine lv_iload hx hb dL_sews_65 (lv_at hl 7 rfl) ?_
        refine iv_imul hx hb dL_sews_67 ?_
        refine iv_iconst hx hb dL_sews_68 ?_
        refine iv_iadd hx hb dL_sews_69 ?_
        refine iv_bipush hx hb dL_sews_70 (by decide +kernel) ?_
        obtain ⟨s20, e21, h⟩ := nm_t h
        refine iv_iast (f := s18.2.1) (j := ((3 * v5) + 1).toNat) (ws1 := wLmpn am ap an E s20) hx hb hK.1 hP hD hS 1 0 rfl rfl (by decide) g14 rfl (by rw [e21]; rfl) dL_sews_72 (fun H locs hP hD hS => ?_)
        refine lv_aload_n hx hb dL_sews_73 rfl (lv_at hl 3 rfl) ?_
        refine iv_iconst hx hb dL_sews_74 ?_
        refine lv_iload hx hb dL_sews_75 (lv_at hl 7 rfl) ?_
        refine iv_imul hx hb dL_sews_77 ?_
        refine iv_iconst hx hb dL_sews_78 ?_
        refine iv_iadd hx hb dL_sews_79 ?_
        refine lv_aload_n hx hb dL_sews_80 rfl (lv_at hl 4 rfl) ?_
        refine iv_bipush hx hb dL_sews_81 (by decide +kernel) ?_
        refine iv_iald (f := s20.2.2) (j := 8) hx hb hK.1 hP 2 0 rfl rfl (by decide) (by decide +kernel) rfl dL_sews_83 ?_
        obtain ⟨g22, h⟩ := gd_t h
        obtain ⟨s23, e24, h⟩ := nm_t h
        refine iv_iast (f := s20.2.1) (j := ((3 * v5) + 2).toNat) (ws1 := wLmpn am ap an E s23) hx hb hK.1 hP hD hS 1 0 rfl rfl (by decide) g22 rfl (by rw [e24]; rfl) dL_sews_84 (fun H locs hP hD hS => ?_)
        refine lv_iload hx hb dL_sews_85 (lv_at hl 1 rfl) ?_
        refine lv_istore (lv' := [(5, .int (zi u12)), (6, .int (zi v16)), (8, .int (zi u12)), (0, .ref (am 0)), (1, .ref (ap 0)), (2, .ref (an 0)), (3, .int (zi v3)), (4, .int (zi v4)), (7, .int (zi v7))]) hx hb dL_sews_87 hl (by decide) rfl (fun ls hl => ?_)
        refine lv_iinc (v := zi (v7 + 1)) (lv' := [(7, .int (zi (v7 + 1))), (5, .int (zi u12)), (6, .int (zi v16)), (8, .int (zi u12)), (0, .ref (am 0)), (1, .ref (ap 0)), (2, .ref (an 0)), (3, .int (zi v3)), (4, .int (zi v4))]) hx hb dL_sews_89 hl (k := 8) rfl (by rw [zi_add]; rfl) (by decide) rfl (fun ls hl => ?_)
        refine lv_goto (tgt := 17) hx hb dL_sews_92 (by decide) ?_
        exact ih v3 v4 u12 v16 (v7 + 1) s23 _ _ _ h hP hD hS (lv_sub hl [4, 5, 6, 7, 8, 1, 2, 0] rfl)
  have h := hf
  rw [f_L_sews] at h
  refine lv_aload_n hx hb dL_sews_0 rfl (lv_at hl 0 rfl) ?_
  refine lv_aload_n hx hb dL_sews_1 rfl (lv_at hl 1 rfl) ?_
  refine lv_aload_n hx hb dL_sews_2 rfl (lv_at hl 2 rfl) ?_
  refine lv_iload_n hx hb dL_sews_3 rfl (lv_at hl 3 rfl) ?_
  refine lv_iload hx hb dL_sews_4 (lv_at hl 4 rfl) ?_
  obtain ⟨u1, q2, h⟩ := bd_t h
  refine iv_callWI (As := [.ref (am 0), .ref (ap 0), .ref (an 0), .int (zi x3), .int (zi x4)]) (rest := []) (ws1 := wLmpn am ap an E z) ⟨hx, hb, hml, hown, hts⟩ (k_L_first l E am ap an H.size N x3 x4 (z.1, z.2.1, z.2.2) u1 q2) (va_cwS 5 hts gL_sews_L_first rfl rfl rfl (by decide +kernel) ⟨Nat.le_of_ble_eq_true rfl, Nat.le_of_ble_eq_true rfl⟩) hK hP hD hS hA (pm_take (pm_take (pm_end))) (pm_take (pm_take (pm_end))) rfl hl.1 (Nat.le_of_ble_eq_true rfl) ⟨Nat.le_of_ble_eq_true rfl, Nat.le_of_ble_eq_true rfl⟩ dL_sews_6 (fun H locs hP hD hS => ?_)
  refine lv_istore (lv' := [(5, .int (zi u1)), (0, .ref (am 0)), (1, .ref (ap 0)), (2, .ref (an 0)), (3, .int (zi x3)), (4, .int (zi x4))]) hx hb dL_sews_9 hl (by decide) rfl (fun ls hl => ?_)
  refine iv_iconst hx hb dL_sews_11 ?_
  refine lv_istore (lv' := [(6, .int (zi 0)), (5, .int (zi u1)), (0, .ref (am 0)), (1, .ref (ap 0)), (2, .ref (an 0)), (3, .int (zi x3)), (4, .int (zi x4))]) hx hb dL_sews_12 hl (by decide) rfl (fun ls hl => ?_)
  refine iv_iconst hx hb dL_sews_14 ?_
  refine lv_istore (lv' := [(7, .int (zi 0)), (6, .int (zi 0)), (5, .int (zi u1)), (0, .ref (am 0)), (1, .ref (ap 0)), (2, .ref (an 0)), (3, .int (zi x3)), (4, .int (zi x4))]) hx hb dL_sews_15 hl (by decide) rfl (fun ls hl => ?_)
  refine loop17 (fun v25 v26 v27 v28 v29 s30 => gd (rg v28) <| jn2 (fun (v32 : Int) (s33 : bLmpn) => nm (s33.1, s33.2.1, up s33.2.2 8 ((s33.2.2 8) + 1)) fun s36 => nm (s36.1, s36.2.1, up s36.2.2 9 ((s36.2.2 9) + v32)) fun s38 => some (v32, s38)) fun j34 => if v28 ≤ 0 then (j34 0 s30) else (j34 v28 s30)) N (fun v25 v26 v27 v28 v29 s30 H locs ls h hP hD hS hl => ?_) x3 x4 u1 0 0 z _ _ _ h hP hD hS (lv_sub hl [3, 4, 5, 6, 7, 2, 1, 0] rfl)
  refine lv_iload hx hb dL_sews_95 (lv_at hl 6 rfl) ?_
  obtain ⟨g31, h⟩ := gd_t h
  obtain ⟨j34, e35, h⟩ := jn2_t h
  have hj34 : ∀ (v32 : Int) (s33 : bLmpn) (H : Heap) (locs : List Loc) (ls : Array Slot), j34 v32 s33 = some u → va_P E.1 vwCl (wLmpn am ap an E s33) H → va_D A (wLmpn am ap an E s33) → va_S A s.heap H locs → lv_has ls 9 [(0, .ref (am 0)), (1, .ref (ap 0)), (2, .ref (an 0)), (3, .int (zi v25)), (4, .int (zi v26)), (5, .int (zi v27)), (6, .int (zi v28)), (7, .int (zi v29))] → W p l e ({ frames := 3, cells := 0, slots := 0, locals := 80 }) s m ([.ref (am 0), .ref (ap 0), .ref (an 0), .int (zi x3), .int (zi x4)] : List Value).toArray below meth c H locs 0 0 (MQ below (mQi E (wLmpn am ap an E u.2) u.1 A) ([.ref (am 0), .ref (ap 0), .ref (an 0), .int (zi x3), .int (zi x4)] : List Value).toArray s 0 0 A) (F0 m 106 ls [.int (zi v32)]) := by
    intro v32 s33 H locs ls h hP hD hS hl
    rw [e35] at h
    refine lv_istore (lv' := [(6, .int (zi v32)), (0, .ref (am 0)), (1, .ref (ap 0)), (2, .ref (an 0)), (3, .int (zi v25)), (4, .int (zi v26)), (5, .int (zi v27)), (7, .int (zi v29))]) hx hb dL_sews_106 hl (by decide) rfl (fun ls hl => ?_)
    refine lv_aload_n hx hb dL_sews_108 rfl (lv_at hl 3 rfl) ?_
    refine iv_bipush hx hb dL_sews_109 (by decide +kernel) ?_
    refine lv_dup2_11 hx hb dL_sews_111 rfl rfl ?_
    refine iv_iald (f := s33.2.2) (j := 8) hx hb hK.1 hP 2 0 rfl rfl (by decide) (by decide +kernel) rfl dL_sews_112 ?_
    refine iv_iconst hx hb dL_sews_113 ?_
    refine iv_iadd hx hb dL_sews_114 ?_
    obtain ⟨s36, e37, h⟩ := nm_t h
    refine iv_iast (f := s33.2.2) (j := 8) (ws1 := wLmpn am ap an E s36) hx hb hK.1 hP hD hS 2 0 rfl rfl (by decide) (by decide +kernel) rfl (by rw [e37]; rfl) dL_sews_115 (fun H locs hP hD hS => ?_)
    refine lv_aload_n hx hb dL_sews_116 rfl (lv_at hl 3 rfl) ?_
    refine iv_bipush hx hb dL_sews_117 (by decide +kernel) ?_
    refine lv_dup2_11 hx hb dL_sews_119 rfl rfl ?_
    refine iv_iald (f := s36.2.2) (j := 9) hx hb hK.1 hP 2 0 rfl rfl (by decide) (by decide +kernel) rfl dL_sews_120 ?_
    refine lv_iload hx hb dL_sews_121 (lv_at hl 0 rfl) ?_
    refine iv_iadd hx hb dL_sews_123 ?_
    obtain ⟨s38, e39, h⟩ := nm_t h
    refine iv_iast (f := s36.2.2) (j := 9) (ws1 := wLmpn am ap an E s38) hx hb hK.1 hP hD hS 2 0 rfl rfl (by decide) (by decide +kernel) rfl (by rw [e39]; rfl) dL_sews_124 (fun H locs hP hD hS => ?_)
    refine lv_iload hx hb dL_sews_125 (lv_at hl 0 rfl) ?_
    cases h
    exact iv_iret hx hb hr hlocks hK hP hD hS dL_sews_127
  refine iv_le (tgt := 105) hx hb g31 dL_sews_97 (by decide) (fun c40 => ?_) (fun c40 => ?_)
  · have h := it_t c40 h
    refine iv_iconst hx hb dL_sews_105 ?_
    exact hj34 0 s30 _ _ _ h hP hD hS (lv_sub hl [0, 1, 2, 3, 4, 5, 6, 7] rfl)
  · have h := it_f c40 h
    refine lv_iload hx hb dL_sews_100 (lv_at hl 6 rfl) ?_
    refine lv_goto (tgt := 106) hx hb dL_sews_102 (by decide) ?_
    exact hj34 v28 s30 _ _ _ h hP hD hS (lv_sub hl [0, 1, 2, 3, 4, 5, 6, 7] rfl)
set_option maxHeartbeats 4000000 in
set_option maxRecDepth 100000 in
theorem k_L_copy60 (l : Launch) (E : wE) (af ay : Nat → Nat) (sz : Nat) (N : Nat) (z : bLc60) (u : bLc60) (hf : f_L_copy60 N z = some u) : cV l yL_copy wsL_copy { frames := 0, cells := 0, slots := 0, locals := 0 } E sz [.ref (af 0), .ref (ay 0)] (wLc60 af ay E z) (wLc60 af ay E u) := by
  refine met_go (cc := cL_copy) (maxL := 3) (ret := none) (Q0 := mQv E (wLc60 af ay E u)) (by decide +kernel) rfl (Nat.le_of_ble_eq_true rfl) ?_
  intro A p e s m below meth c hx hb hr hml hts hown hlocks hP hK hD hA hS ls hl
  have hl : lv_has ls 3 [(0, .ref (af 0)), (1, .ref (ay 0))] := hl
  generalize hH : s.heap = H at hP
  have hS : va_S A s.heap H [] := by rw [← hH]; exact hS
  have hown : s.vm.findClass RL = some m.cls := hown
  have loop2 : ∀ (kt : Int → bLc60 → Option bLc60) (n : Nat), (∀ (v1 : Int) (s2 : bLc60) (H : Heap) (locs : List Loc) (ls : Array Slot), kt v1 s2 = some u → va_P E.1 vwCl (wLc60 af ay E s2) H → va_D A (wLc60 af ay E s2) → va_S A s.heap H locs → lv_has ls 3 [(0, .ref (af 0)), (1, .ref (ay 0)), (2, .int (zi v1))] → W p l e ({ frames := 0, cells := 0, slots := 0, locals := 0 }) s m ([.ref (af 0), .ref (ay 0)] : List Value).toArray below meth c H locs 0 0 (MQ below (mQv E (wLc60 af ay E u) A) ([.ref (af 0), .ref (ay 0)] : List Value).toArray s 0 0 A) (F0 m 20 ls [])) → ∀ (v1 : Int) (s2 : bLc60) (H : Heap) (locs : List Loc) (ls : Array Slot), f_L_copy60_L2 N kt n v1 s2 = some u → va_P E.1 vwCl (wLc60 af ay E s2) H → va_D A (wLc60 af ay E s2) → va_S A s.heap H locs → lv_has ls 3 [(0, .ref (af 0)), (1, .ref (ay 0)), (2, .int (zi v1))] → W p l e ({ frames := 0, cells := 0, slots := 0, locals := 0 }) s m ([.ref (af 0), .ref (ay 0)] : List Value).toArray below meth c H locs 0 0 (MQ below (mQv E (wLc60 af ay E u) A) ([.ref (af 0), .ref (ay 0)] : List Value).toArray s 0 0 A) (F0 m 2 ls []) := by
    intro kt n hk
    induction n with
    | zero =>
      intro v1 s2 H locs ls h
      exact absurd (show (none : Option bLc60) = some u from h) (by simp)
    | succ n ih =>
      intro v1 s2 H locs ls h hP hD hS hl
      rw [f_L_copy60_L2] at h
      refine lv_iload_n hx hb dL_copy_2 rfl (lv_at hl 2 rfl) ?_
      refine lv_aload_n hx hb dL_copy_3 rfl (lv_at hl 0 rfl) ?_
      refine va_alen (v := zi 60) hx hb hK.1 hP 0 0 rfl rfl (by show Int32.ofNat 60 = zi 60; decide +kernel) dL_copy_4 ?_
      obtain ⟨g3, h⟩ := gd_t h
      refine iv_ige (tgt := 20) hx hb g3 (by decide +kernel) dL_copy_5 (by decide) (fun c4 => ?_) (fun c4 => ?_)
      · have h := it_t c4 h
        exact hk v1 s2 _ _ _ h hP hD hS (lv_sub hl [0, 1, 2] rfl)
      · have h := it_f c4 h
        refine lv_aload_n hx hb dL_copy_8 rfl (lv_at hl 1 rfl) ?_
        refine lv_iload_n hx hb dL_copy_9 rfl (lv_at hl 2 rfl) ?_
        refine lv_aload_n hx hb dL_copy_10 rfl (lv_at hl 0 rfl) ?_
        refine lv_iload_n hx hb dL_copy_11 rfl (lv_at hl 2 rfl) ?_
        obtain ⟨g5, h⟩ := gd_t h
        refine iv_iald (f := s2.1) (j := v1.toNat) hx hb hK.1 hP 0 0 rfl rfl (by decide) g5 rfl dL_copy_12 ?_
        obtain ⟨s6, e7, h⟩ := nm_t h
        refine iv_iast (f := s2.2) (j := v1.toNat) (ws1 := wLc60 af ay E s6) hx hb hK.1 hP hD hS 1 0 rfl rfl (by decide) g5 rfl (by rw [e7]; rfl) dL_copy_13 (fun H locs hP hD hS => ?_)
        refine lv_iinc (v := zi (v1 + 1)) (lv' := [(2, .int (zi (v1 + 1))), (0, .ref (af 0)), (1, .ref (ay 0))]) hx hb dL_copy_14 hl (k := 2) rfl (by rw [zi_add]; rfl) (by decide) rfl (fun ls hl => ?_)
        refine lv_goto (tgt := 2) hx hb dL_copy_17 (by decide) ?_
        exact ih (v1 + 1) s6 _ _ _ h hP hD hS (lv_sub hl [1, 2, 0] rfl)
  have h := hf
  rw [f_L_copy60] at h
  refine iv_iconst hx hb dL_copy_0 ?_
  refine lv_istore_n (lv' := [(2, .int (zi 0)), (0, .ref (af 0)), (1, .ref (ay 0))]) hx hb dL_copy_1 rfl hl (by decide) rfl (fun ls hl => ?_)
  refine loop2 (fun v8 s9 => some s9) N (fun v8 s9 H locs ls h hP hD hS hl => ?_) 0 z _ _ _ h hP hD hS (lv_sub hl [1, 2, 0] rfl)
  cases h
  exact iv_vret hx hb hr hlocks hK hP hD hS dL_copy_20
set_option maxHeartbeats 4000000 in
set_option maxRecDepth 100000 in
theorem k_L_copy20 (l : Launch) (E : wE) (af ay : Nat → Nat) (sz : Nat) (N : Nat) (z : bLc20) (u : bLc20) (hf : f_L_copy20 N z = some u) : cV l yL_copy wsL_copy { frames := 0, cells := 0, slots := 0, locals := 0 } E sz [.ref (af 0), .ref (ay 0)] (wLc20 af ay E z) (wLc20 af ay E u) := by
  refine met_go (cc := cL_copy) (maxL := 3) (ret := none) (Q0 := mQv E (wLc20 af ay E u)) (by decide +kernel) rfl (Nat.le_of_ble_eq_true rfl) ?_
  intro A p e s m below meth c hx hb hr hml hts hown hlocks hP hK hD hA hS ls hl
  have hl : lv_has ls 3 [(0, .ref (af 0)), (1, .ref (ay 0))] := hl
  generalize hH : s.heap = H at hP
  have hS : va_S A s.heap H [] := by rw [← hH]; exact hS
  have hown : s.vm.findClass RL = some m.cls := hown
  have loop2 : ∀ (kt : Int → bLc20 → Option bLc20) (n : Nat), (∀ (v1 : Int) (s2 : bLc20) (H : Heap) (locs : List Loc) (ls : Array Slot), kt v1 s2 = some u → va_P E.1 vwCl (wLc20 af ay E s2) H → va_D A (wLc20 af ay E s2) → va_S A s.heap H locs → lv_has ls 3 [(0, .ref (af 0)), (1, .ref (ay 0)), (2, .int (zi v1))] → W p l e ({ frames := 0, cells := 0, slots := 0, locals := 0 }) s m ([.ref (af 0), .ref (ay 0)] : List Value).toArray below meth c H locs 0 0 (MQ below (mQv E (wLc20 af ay E u) A) ([.ref (af 0), .ref (ay 0)] : List Value).toArray s 0 0 A) (F0 m 20 ls [])) → ∀ (v1 : Int) (s2 : bLc20) (H : Heap) (locs : List Loc) (ls : Array Slot), f_L_copy20_L2 N kt n v1 s2 = some u → va_P E.1 vwCl (wLc20 af ay E s2) H → va_D A (wLc20 af ay E s2) → va_S A s.heap H locs → lv_has ls 3 [(0, .ref (af 0)), (1, .ref (ay 0)), (2, .int (zi v1))] → W p l e ({ frames := 0, cells := 0, slots := 0, locals := 0 }) s m ([.ref (af 0), .ref (ay 0)] : List Value).toArray below meth c H locs 0 0 (MQ below (mQv E (wLc20 af ay E u) A) ([.ref (af 0), .ref (ay 0)] : List Value).toArray s 0 0 A) (F0 m 2 ls []) := by
    intro kt n hk
    induction n with
    | zero =>
      intro v1 s2 H locs ls h
      exact absurd (show (none : Option bLc20) = some u from h) (by simp)
    | succ n ih =>
      intro v1 s2 H locs ls h hP hD hS hl
      rw [f_L_copy20_L2] at h
      refine lv_iload_n hx hb dL_copy_2 rfl (lv_at hl 2 rfl) ?_
      refine lv_aload_n hx hb dL_copy_3 rfl (lv_at hl 0 rfl) ?_
      refine va_alen (v := zi 20) hx hb hK.1 hP 0 0 rfl rfl (by show Int32.ofNat 20 = zi 20; decide +kernel) dL_copy_4 ?_
      obtain ⟨g3, h⟩ := gd_t h
      refine iv_ige (tgt := 20) hx hb g3 (by decide +kernel) dL_copy_5 (by decide) (fun c4 => ?_) (fun c4 => ?_)
      · have h := it_t c4 h
        exact hk v1 s2 _ _ _ h hP hD hS (lv_sub hl [0, 1, 2] rfl)
      · have h := it_f c4 h
        refine lv_aload_n hx hb dL_copy_8 rfl (lv_at hl 1 rfl) ?_
        refine lv_iload_n hx hb dL_copy_9 rfl (lv_at hl 2 rfl) ?_
        refine lv_aload_n hx hb dL_copy_10 rfl (lv_at hl 0 rfl) ?_
        refine lv_iload_n hx hb dL_copy_11 rfl (lv_at hl 2 rfl) ?_
        obtain ⟨g5, h⟩ := gd_t h
        refine iv_iald (f := s2.1) (j := v1.toNat) hx hb hK.1 hP 0 0 rfl rfl (by decide) g5 rfl dL_copy_12 ?_
        obtain ⟨s6, e7, h⟩ := nm_t h
        refine iv_iast (f := s2.2) (j := v1.toNat) (ws1 := wLc20 af ay E s6) hx hb hK.1 hP hD hS 1 0 rfl rfl (by decide) g5 rfl (by rw [e7]; rfl) dL_copy_13 (fun H locs hP hD hS => ?_)
        refine lv_iinc (v := zi (v1 + 1)) (lv' := [(2, .int (zi (v1 + 1))), (0, .ref (af 0)), (1, .ref (ay 0))]) hx hb dL_copy_14 hl (k := 2) rfl (by rw [zi_add]; rfl) (by decide) rfl (fun ls hl => ?_)
        refine lv_goto (tgt := 2) hx hb dL_copy_17 (by decide) ?_
        exact ih (v1 + 1) s6 _ _ _ h hP hD hS (lv_sub hl [1, 2, 0] rfl)
  have h := hf
  rw [f_L_copy20] at h
  refine iv_iconst hx hb dL_copy_0 ?_
  refine lv_istore_n (lv' := [(2, .int (zi 0)), (0, .ref (af 0)), (1, .ref (ay 0))]) hx hb dL_copy_1 rfl hl (by decide) rfl (fun ls hl => ?_)
  refine loop2 (fun v8 s9 => some s9) N (fun v8 s9 H locs ls h hP hD hS hl => ?_) 0 z _ _ _ h hP hD hS (lv_sub hl [1, 2, 0] rfl)
  cases h
  exact iv_vret hx hb hr hlocks hK hP hD hS dL_copy_20
set_option maxHeartbeats 4000000 in
set_option maxRecDepth 100000 in
theorem k_L_copy15 (l : Launch) (E : wE) (af ay : Nat → Nat) (sz : Nat) (N : Nat) (z : bLc15) (u : bLc15) (hf : f_L_copy15 N z = some u) : cV l yL_copy wsL_copy { frames := 0, cells := 0, slots := 0, locals := 0 } E sz [.ref (af 0), .ref (ay 0)] (wLc15 af ay E z) (wLc15 af ay E u) := by
  refine met_go (cc := cL_copy) (maxL := 3) (ret := none) (Q0 := mQv E (wLc15 af ay E u)) (by decide +kernel) rfl (Nat.le_of_ble_eq_true rfl) ?_
  intro A p e s m below meth c hx hb hr hml hts hown hlocks hP hK hD hA hS ls hl
  have hl : lv_has ls 3 [(0, .ref (af 0)), (1, .ref (ay 0))] := hl
  generalize hH : s.heap = H at hP
  have hS : va_S A s.heap H [] := by rw [← hH]; exact hS
  have hown : s.vm.findClass RL = some m.cls := hown
  have loop2 : ∀ (kt : Int → bLc15 → Option bLc15) (n : Nat), (∀ (v1 : Int) (s2 : bLc15) (H : Heap) (locs : List Loc) (ls : Array Slot), kt v1 s2 = some u → va_P E.1 vwCl (wLc15 af ay E s2) H → va_D A (wLc15 af ay E s2) → va_S A s.heap H locs → lv_has ls 3 [(0, .ref (af 0)), (1, .ref (ay 0)), (2, .int (zi v1))] → W p l e ({ frames := 0, cells := 0, slots := 0, locals := 0 }) s m ([.ref (af 0), .ref (ay 0)] : List Value).toArray below meth c H locs 0 0 (MQ below (mQv E (wLc15 af ay E u) A) ([.ref (af 0), .ref (ay 0)] : List Value).toArray s 0 0 A) (F0 m 20 ls [])) → ∀ (v1 : Int) (s2 : bLc15) (H : Heap) (locs : List Loc) (ls : Array Slot), f_L_copy15_L2 N kt n v1 s2 = some u → va_P E.1 vwCl (wLc15 af ay E s2) H → va_D A (wLc15 af ay E s2) → va_S A s.heap H locs → lv_has ls 3 [(0, .ref (af 0)), (1, .ref (ay 0)), (2, .int (zi v1))] → W p l e ({ frames := 0, cells := 0, slots := 0, locals := 0 }) s m ([.ref (af 0), .ref (ay 0)] : List Value).toArray below meth c H locs 0 0 (MQ below (mQv E (wLc15 af ay E u) A) ([.ref (af 0), .ref (ay 0)] : List Value).toArray s 0 0 A) (F0 m 2 ls []) := by
    intro kt n hk
    induction n with
    | zero =>
      intro v1 s2 H locs ls h
      exact absurd (show (none : Option bLc15) = some u from h) (by simp)
    | succ n ih =>
      intro v1 s2 H locs ls h hP hD hS hl
      rw [f_L_copy15_L2] at h
      refine lv_iload_n hx hb dL_copy_2 rfl (lv_at hl 2 rfl) ?_
      refine lv_aload_n hx hb dL_copy_3 rfl (lv_at hl 0 rfl) ?_
      refine va_alen (v := zi 15) hx hb hK.1 hP 0 0 rfl rfl (by show Int32.ofNat 15 = zi 15; decide +kernel) dL_copy_4 ?_
      obtain ⟨g3, h⟩ := gd_t h
      refine iv_ige (tgt := 20) hx hb g3 (by decide +kernel) dL_copy_5 (by decide) (fun c4 => ?_) (fun c4 => ?_)
      · have h := it_t c4 h
        exact hk v1 s2 _ _ _ h hP hD hS (lv_sub hl [0, 1, 2] rfl)
      · have h := it_f c4 h
        refine lv_aload_n hx hb dL_copy_8 rfl (lv_at hl 1 rfl) ?_
        refine lv_iload_n hx hb dL_copy_9 rfl (lv_at hl 2 rfl) ?_
        refine lv_aload_n hx hb dL_copy_10 rfl (lv_at hl 0 rfl) ?_
        refine lv_iload_n hx hb dL_copy_11 rfl (lv_at hl 2 rfl) ?_
        obtain ⟨g5, h⟩ := gd_t h
        refine iv_iald (f := s2.1) (j := v1.toNat) hx hb hK.1 hP 0 0 rfl rfl (by decide) g5 rfl dL_copy_12 ?_
        obtain ⟨s6, e7, h⟩ := nm_t h
        refine iv_iast (f := s2.2) (j := v1.toNat) (ws1 := wLc15 af ay E s6) hx hb hK.1 hP hD hS 1 0 rfl rfl (by decide) g5 rfl (by rw [e7]; rfl) dL_copy_13 (fun H locs hP hD hS => ?_)
        refine lv_iinc (v := zi (v1 + 1)) (lv' := [(2, .int (zi (v1 + 1))), (0, .ref (af 0)), (1, .ref (ay 0))]) hx hb dL_copy_14 hl (k := 2) rfl (by rw [zi_add]; rfl) (by decide) rfl (fun ls hl => ?_)
        refine lv_goto (tgt := 2) hx hb dL_copy_17 (by decide) ?_
        exact ih (v1 + 1) s6 _ _ _ h hP hD hS (lv_sub hl [1, 2, 0] rfl)
  have h := hf
  rw [f_L_copy15] at h
  refine iv_iconst hx hb dL_copy_0 ?_
  refine lv_istore_n (lv' := [(2, .int (zi 0)), (0, .ref (af 0)), (1, .ref (ay 0))]) hx hb dL_copy_1 rfl hl (by decide) rfl (fun ls hl => ?_)
  refine loop2 (fun v8 s9 => some s9) N (fun v8 s9 H locs ls h hP hD hS hl => ?_) 0 z _ _ _ h hP hD hS (lv_sub hl [1, 2, 0] rfl)
  cases h
  exact iv_vret hx hb hr hlocks hK hP hD hS dL_copy_20
set_option maxHeartbeats 4000000 in
set_option maxRecDepth 100000 in
theorem k_L_typesDigit (l : Launch) (E : wE) (a hs : Nat → Nat) (sz : Nat) (x1 x2 x3 : Int) (z : bX) (u : (Int × bX)) (hf : f_L_typesDigit x1 x2 x3 z = some u) : cI l yL_typesDigit wsL_typesDigit { frames := 2, cells := 0, slots := 0, locals := 42 } E sz [.ref (a 0), .int (zi x1), .int (zi x2), .int (zi x3)] (wX a hs E z) (wX a hs E u.2) u.1 := by
  refine met_go (cc := cL_typesDigit) (maxL := 5) (ret := (some .int)) (Q0 := mQi E (wX a hs E u.2) u.1) (by decide +kernel) rfl (Nat.le_of_ble_eq_true rfl) ?_
  intro A p e s m below meth c hx hb hr hml hts hown hlocks hP hK hD hA hS ls hl
  have hl : lv_has ls 5 [(0, .ref (a 0)), (1, .int (zi x1)), (2, .int (zi x2)), (3, .int (zi x3))] := hl
  generalize hH : s.heap = H at hP
  have hS : va_S A s.heap H [] := by rw [← hH]; exact hS
  have hown : s.vm.findClass RL = some m.cls := hown
  have h := hf
  rw [f_L_typesDigit] at h
  refine lv_iload_n hx hb dL_typesDigit_0 rfl (lv_at hl 2 rfl) ?_
  obtain ⟨g1, h⟩ := gd_t h
  obtain ⟨j4, e5, h⟩ := jn2_t h
  have hj4 : ∀ (v2 : Int) (s3 : bX) (H : Heap) (locs : List Loc) (ls : Array Slot), j4 v2 s3 = some u → va_P E.1 vwCl (wX a hs E s3) H → va_D A (wX a hs E s3) → va_S A s.heap H locs → lv_has ls 5 [(0, .ref (a 0)), (1, .int (zi x1)), (2, .int (zi x2)), (3, .int (zi x3))] → W p l e ({ frames := 2, cells := 0, slots := 0, locals := 42 }) s m ([.ref (a 0), .int (zi x1), .int (zi x2), .int (zi x3)] : List Value).toArray below meth c H locs 0 0 (MQ below (mQi E (wX a hs E u.2) u.1 A) ([.ref (a 0), .int (zi x1), .int (zi x2), .int (zi x3)] : List Value).toArray s 0 0 A) (F0 m 17 ls [.int (zi v2)]) := by
    intro v2 s3 H locs ls h hP hD hS hl
    rw [e5] at h
    refine lv_istore (lv' := [(4, .int (zi v2)), (0, .ref (a 0)), (1, .int (zi x1)), (2, .int (zi x2)), (3, .int (zi x3))]) hx hb dL_typesDigit_17 hl (by decide) rfl (fun ls hl => ?_)
    refine lv_iload_n hx hb dL_typesDigit_19 rfl (lv_at hl 3 rfl) ?_
    obtain ⟨j8, e9, h⟩ := jn2_t h
    have hj8 : ∀ (v6 : Int) (s7 : bX) (H : Heap) (locs : List Loc) (ls : Array Slot), j8 v6 s7 = some u → va_P E.1 vwCl (wX a hs E s7) H → va_D A (wX a hs E s7) → va_S A s.heap H locs → lv_has ls 5 [(4, .int (zi v2)), (0, .ref (a 0)), (1, .int (zi x1)), (2, .int (zi x2)), (3, .int (zi x3))] → W p l e ({ frames := 2, cells := 0, slots := 0, locals := 42 }) s m ([.ref (a 0), .int (zi x1), .int (zi x2), .int (zi x3)] : List Value).toArray below meth c H locs 0 0 (MQ below (mQi E (wX a hs E u.2) u.1 A) ([.ref (a 0), .int (zi x1), .int (zi x2), .int (zi x3)] : List Value).toArray s 0 0 A) (F0 m 41 ls [.int (zi v6)]) := by
      intro v6 s7 H locs ls h hP hD hS hl
      rw [e9] at h
      cases h
      exact iv_iret hx hb hr hlocks hK hP hD hS dL_typesDigit_41
    refine iv_gt (tgt := 27) hx hb g1 dL_typesDigit_20 (by decide) (fun c10 => ?_) (fun c10 => ?_)
    · have h := it_t c10 h
      refine lv_aload_n hx hb dL_typesDigit_27 rfl (lv_at hl 1 rfl) ?_
      refine iv_bipush hx hb dL_typesDigit_28 (by decide +kernel) ?_
      refine lv_iload_n hx hb dL_typesDigit_30 rfl (lv_at hl 3 rfl) ?_
      refine iv_iadd hx hb dL_typesDigit_31 ?_
      refine iv_i2c hx hb dL_typesDigit_32 ?_
      obtain ⟨u11, q12, h⟩ := bd_t h
      obtain ⟨s13, e14, h⟩ := nm_t h
      refine iv_callIp (As := [.int (zi (chI (48 + x2)))]) (rest := []) (ws1 := wX a hs E s13) ⟨hx, hb, hml, hown, hts⟩ (k_X7_type l E a hs H.size (chI (48 + x2)) s3 u11 q12) (cwV 1 hts gL_typesDigit_X7_type rfl rfl rfl (by decide +kernel) ⟨Nat.le_of_ble_eq_true rfl, Nat.le_of_ble_eq_true rfl⟩) hK hP hD hS hA 0 7 rfl rfl (pm_end) (by rw [e14]; exact pm_end) rfl hl.1 (Nat.le_of_ble_eq_true rfl) ⟨Nat.le_of_ble_eq_true rfl, Nat.le_of_ble_eq_true rfl⟩ dL_typesDigit_33 (fun H locs hP hD hS => ?_)
      refine lv_goto (tgt := 41) hx hb dL_typesDigit_36 (by decide) ?_
      exact hj8 u11.1 s13 _ _ _ h hP hD hS (lv_sub hl [0, 1, 2, 3, 4] rfl)
    · have h := it_f c10 h
      refine lv_iload_n hx hb dL_typesDigit_23 rfl (lv_at hl 4 rfl) ?_
      obtain ⟨g15, h⟩ := gd_t h
      refine iv_eq (tgt := 39) hx hb g15 dL_typesDigit_24 (by decide) (fun c16 => ?_) (fun c16 => ?_)
      · have h := it_t c16 h
        refine lv_iload hx hb dL_typesDigit_39 (lv_at hl 0 rfl) ?_
        exact hj8 v2 s3 _ _ _ h hP hD hS (lv_sub hl [0, 1, 2, 3, 4] rfl)
      · have h := it_f c16 h
        refine lv_aload_n hx hb dL_typesDigit_27 rfl (lv_at hl 1 rfl) ?_
        refine iv_bipush hx hb dL_typesDigit_28 (by decide +kernel) ?_
        refine lv_iload_n hx hb dL_typesDigit_30 rfl (lv_at hl 3 rfl) ?_
        refine iv_iadd hx hb dL_typesDigit_31 ?_
        refine iv_i2c hx hb dL_typesDigit_32 ?_
        obtain ⟨u17, q18, h⟩ := bd_t h
        obtain ⟨s19, e20, h⟩ := nm_t h
        refine iv_callIp (As := [.int (zi (chI (48 + x2)))]) (rest := []) (ws1 := wX a hs E s19) ⟨hx, hb, hml, hown, hts⟩ (k_X7_type l E a hs H.size (chI (48 + x2)) s3 u17 q18) (cwV 1 hts gL_typesDigit_X7_type rfl rfl rfl (by decide +kernel) ⟨Nat.le_of_ble_eq_true rfl, Nat.le_of_ble_eq_true rfl⟩) hK hP hD hS hA 0 7 rfl rfl (pm_end) (by rw [e20]; exact pm_end) rfl hl.1 (Nat.le_of_ble_eq_true rfl) ⟨Nat.le_of_ble_eq_true rfl, Nat.le_of_ble_eq_true rfl⟩ dL_typesDigit_33 (fun H locs hP hD hS => ?_)
        refine lv_goto (tgt := 41) hx hb dL_typesDigit_36 (by decide) ?_
        exact hj8 u17.1 s19 _ _ _ h hP hD hS (lv_sub hl [0, 1, 2, 3, 4] rfl)
  refine iv_gt (tgt := 8) hx hb g1 dL_typesDigit_1 (by decide) (fun c21 => ?_) (fun c21 => ?_)
  · have h := it_t c21 h
    refine lv_aload_n hx hb dL_typesDigit_8 rfl (lv_at hl 0 rfl) ?_
    refine lv_iload_n hx hb dL_typesDigit_9 rfl (lv_at hl 1 rfl) ?_
    obtain ⟨u22, q23, h⟩ := bd_t h
    obtain ⟨s24, e25, h⟩ := nm_t h
    refine iv_callIp (As := [.int (zi x1)]) (rest := []) (ws1 := wX a hs E s24) ⟨hx, hb, hml, hown, hts⟩ (k_X7_type l E a hs H.size x1 z u22 q23) (cwV 1 hts gL_typesDigit_X7_type rfl rfl rfl (by decide +kernel) ⟨Nat.le_of_ble_eq_true rfl, Nat.le_of_ble_eq_true rfl⟩) hK hP hD hS hA 0 7 rfl rfl (pm_end) (by rw [e25]; exact pm_end) rfl hl.1 (Nat.le_of_ble_eq_true rfl) ⟨Nat.le_of_ble_eq_true rfl, Nat.le_of_ble_eq_true rfl⟩ dL_typesDigit_10 (fun H locs hP hD hS => ?_)
    refine lv_goto (tgt := 17) hx hb dL_typesDigit_13 (by decide) ?_
    exact hj4 u22.1 s24 _ _ _ h hP hD hS (lv_sub hl [0, 1, 2, 3] rfl)
  · have h := it_f c21 h
    refine lv_iload_n hx hb dL_typesDigit_4 rfl (lv_at hl 3 rfl) ?_
    obtain ⟨g26, h⟩ := gd_t h
    refine iv_eq (tgt := 16) hx hb g26 dL_typesDigit_5 (by decide) (fun c27 => ?_) (fun c27 => ?_)
    · have h := it_t c27 h
      refine iv_iconst hx hb dL_typesDigit_16 ?_
      exact hj4 0 z _ _ _ h hP hD hS (lv_sub hl [0, 1, 2, 3] rfl)
    · have h := it_f c27 h
      refine lv_aload_n hx hb dL_typesDigit_8 rfl (lv_at hl 0 rfl) ?_
      refine lv_iload_n hx hb dL_typesDigit_9 rfl (lv_at hl 1 rfl) ?_
      obtain ⟨u28, q29, h⟩ := bd_t h
      obtain ⟨s30, e31, h⟩ := nm_t h
      refine iv_callIp (As := [.int (zi x1)]) (rest := []) (ws1 := wX a hs E s30) ⟨hx, hb, hml, hown, hts⟩ (k_X7_type l E a hs H.size x1 z u28 q29) (cwV 1 hts gL_typesDigit_X7_type rfl rfl rfl (by decide +kernel) ⟨Nat.le_of_ble_eq_true rfl, Nat.le_of_ble_eq_true rfl⟩) hK hP hD hS hA 0 7 rfl rfl (pm_end) (by rw [e31]; exact pm_end) rfl hl.1 (Nat.le_of_ble_eq_true rfl) ⟨Nat.le_of_ble_eq_true rfl, Nat.le_of_ble_eq_true rfl⟩ dL_typesDigit_10 (fun H locs hP hD hS => ?_)
      refine lv_goto (tgt := 17) hx hb dL_typesDigit_13 (by decide) ?_
      exact hj4 u28.1 s30 _ _ _ h hP hD hS (lv_sub hl [0, 1, 2, 3] rfl)
set_option maxHeartbeats 4000000 in
set_option maxRecDepth 100000 in
theorem k_L_isSpread (l : Launch) (E : wE) (a hs am ap an : Nat → Nat) (sz : Nat) (N : Nat) (x4 x5 : Int) (z : bLXmpn) (u : (Int × bLXmpn)) (hf : f_L_isSpread N x4 x5 z = some u) : cI l yL_isSpread wsL_isSpread { frames := 4, cells := 0, slots := 0, locals := 88 } E sz [.ref (a 0), .ref (am 0), .ref (ap 0), .ref (an 0), .int (zi x4), .int (zi x5)] (wLXmpn a hs am ap an E z) (wLXmpn a hs am ap an E u.2) u.1 := by
  refine met_go (cc := cL_isSpread) (maxL := 9) (ret := (some .boolean)) (Q0 := mQi E (wLXmpn a hs am ap an E u.2) u.1) (by decide +kernel) rfl (Nat.le_of_ble_eq_true rfl) ?_
  intro A p e s m below meth c hx hb hr hml hts hown hlocks hP hK hD hA hS ls hl
  have hl : lv_has ls 9 [(0, .ref (a 0)), (1, .ref (am 0)), (2, .ref (ap 0)), (3, .ref (an 0)), (4, .int (zi x4)), (5, .int (zi x5))] := hl
  generalize hH : s.heap = H at hP
  have hS : va_S A s.heap H [] := by rw [← hH]; exact hS
  have hown : s.vm.findClass RL = some m.cls := hown
  have loop16 : ∀ (kt : Int → Int → Int → Int → bLXmpn → Option (Int × bLXmpn)) (n : Nat), (∀ (v3 : Int) (v4 : Int) (v5 : Int) (v6 : Int) (s7 : bLXmpn) (H : Heap) (locs : List Loc) (ls : Array Slot), kt v3 v4 v5 v6 s7 = some u → va_P E.1 vwCl (wLXmpn a hs am ap an E s7) H → va_D A (wLXmpn a hs am ap an E s7) → va_S A s.heap H locs → lv_has ls 9 [(0, .ref (a 0)), (1, .ref (am 0)), (2, .ref (ap 0)), (3, .ref (an 0)), (4, .int (zi v3)), (5, .int (zi v4)), (6, .int (zi v5)), (7, .int (zi v6))] → W p l e ({ frames := 4, cells := 0, slots := 0, locals := 88 }) s m ([.ref (a 0), .ref (am 0), .ref (ap 0), .ref (an 0), .int (zi x4), .int (zi x5)] : List Value).toArray below meth c H locs 0 0 (MQ below (mQi E (wLXmpn a hs am ap an E u.2) u.1 A) ([.ref (a 0), .ref (am 0), .ref (ap 0), .ref (an 0), .int (zi x4), .int (zi x5)] : List Value).toArray s 0 0 A) (F0 m 76 ls [])) → ∀ (v3 : Int) (v4 : Int) (v5 : Int) (v6 : Int) (s7 : bLXmpn) (H : Heap) (locs : List Loc) (ls : Array Slot), f_L_isSpread_L16 N kt n v3 v4 v5 v6 s7 = some u → va_P E.1 vwCl (wLXmpn a hs am ap an E s7) H → va_D A (wLXmpn a hs am ap an E s7) → va_S A s.heap H locs → lv_has ls 9 [(0, .ref (a 0)), (1, .ref (am 0)), (2, .ref (ap 0)), (3, .ref (an 0)), (4, .int (zi v3)), (5, .int (zi v4)), (6, .int (zi v5)), (7, .int (zi v6))] → W p l e ({ frames := 4, cells := 0, slots := 0, locals := 88 }) s m ([.ref (a 0), .ref (am 0), .ref (ap 0), .ref (an 0), .int (zi x4), .int (zi x5)] : List Value).toArray below meth c H locs 0 0 (MQ below (mQi E (wLXmpn a hs am ap an E u.2) u.1 A) ([.ref (a 0), .ref (am 0), .ref (ap 0), .ref (an 0), .int (zi x4), .int (zi x5)] : List Value).toArray s 0 0 A) (F0 m 16 ls []) := by
    intro kt n hk
    induction n with
    | zero =>
      intro v3 v4 v5 v6 s7 H locs ls h
      exact absurd (show (none : Option (Int × bLXmpn)) = some u from h) (by simp)
    | succ n ih =>
      intro v3 v4 v5 v6 s7 H locs ls h hP hD hS hl
      rw [f_L_isSpread_L16] at h
      refine lv_iload hx hb dL_isSpread_16 (lv_at hl 7 rfl) ?_
      obtain ⟨g8, h⟩ := gd_t h
      refine iv_lt (tgt := 76) hx hb g8 dL_isSpread_18 (by decide) (fun c9 => ?_) (fun c9 => ?_)
      · have h := it_t c9 h
        exact hk v3 v4 v5 v6 s7 _ _ _ h hP hD hS (lv_sub hl [0, 1, 2, 3, 4, 5, 6, 7] rfl)
      · have h := it_f c9 h
        refine lv_aload_n hx hb dL_isSpread_21 rfl (lv_at hl 1 rfl) ?_
        refine lv_aload_n hx hb dL_isSpread_22 rfl (lv_at hl 2 rfl) ?_
        refine lv_aload_n hx hb dL_isSpread_23 rfl (lv_at hl 3 rfl) ?_
        refine lv_iload hx hb dL_isSpread_24 (lv_at hl 4 rfl) ?_
        refine lv_iload hx hb dL_isSpread_26 (lv_at hl 7 rfl) ?_
        refine lv_iload hx hb dL_isSpread_28 (lv_at hl 5 rfl) ?_
        obtain ⟨u10, q11, h⟩ := bd_t h
        refine iv_callWI (As := [.ref (am 0), .ref (ap 0), .ref (an 0), .int (zi v3), .int (zi v6), .int (zi v4)]) (rest := []) (ws1 := wLXmpn a hs am ap an E s7) ⟨hx, hb, hml, hown, hts⟩ (k_L_differs l E am ap an H.size N v3 v6 v4 (s7.2.1, s7.2.2.1, s7.2.2.2) u10 q11) (va_cwS 6 hts gL_isSpread_L_differs rfl rfl rfl (by decide +kernel) ⟨Nat.le_of_ble_eq_true rfl, Nat.le_of_ble_eq_true rfl⟩) hK hP hD hS hA (pm_skip (pm_take (pm_take (pm_end)))) (pm_skip (pm_take (pm_take (pm_end)))) rfl hl.1 (Nat.le_of_ble_eq_true rfl) ⟨Nat.le_of_ble_eq_true rfl, Nat.le_of_ble_eq_true rfl⟩ dL_isSpread_30 (fun H locs hP hD hS => ?_)
        refine lv_istore (lv' := [(8, .int (zi u10)), (0, .ref (a 0)), (1, .ref (am 0)), (2, .ref (ap 0)), (3, .ref (an 0)), (4, .int (zi v3)), (5, .int (zi v4)), (6, .int (zi v5)), (7, .int (zi v6))]) hx hb dL_isSpread_33 hl (by decide) rfl (fun ls hl => ?_)
        refine lv_iload hx hb dL_isSpread_35 (lv_at hl 0 rfl) ?_
        obtain ⟨g12, h⟩ := gd_t h
        obtain ⟨j15, e16, h⟩ := jn2_t h
        have hj15 : ∀ (v13 : Int) (s14 : bLXmpn) (H : Heap) (locs : List Loc) (ls : Array Slot), j15 v13 s14 = some u → va_P E.1 vwCl (wLXmpn a hs am ap an E s14) H → va_D A (wLXmpn a hs am ap an E s14) → va_S A s.heap H locs → lv_has ls 9 [(8, .int (zi u10)), (0, .ref (a 0)), (1, .ref (am 0)), (2, .ref (ap 0)), (3, .ref (an 0)), (4, .int (zi v3)), (5, .int (zi v4)), (6, .int (zi v5)), (7, .int (zi v6))] → W p l e ({ frames := 4, cells := 0, slots := 0, locals := 88 }) s m ([.ref (a 0), .ref (am 0), .ref (ap 0), .ref (an 0), .int (zi x4), .int (zi x5)] : List Value).toArray below meth c H locs 0 0 (MQ below (mQi E (wLXmpn a hs am ap an E u.2) u.1 A) ([.ref (a 0), .ref (am 0), .ref (ap 0), .ref (an 0), .int (zi x4), .int (zi x5)] : List Value).toArray s 0 0 A) (F0 m 59 ls [.int (zi v13)]) := by
          intro v13 s14 H locs ls h hP hD hS hl
          rw [e16] at h
          refine lv_istore (lv' := [(6, .int (zi v13)), (8, .int (zi u10)), (0, .ref (a 0)), (1, .ref (am 0)), (2, .ref (ap 0)), (3, .ref (an 0)), (4, .int (zi v3)), (5, .int (zi v4)), (7, .int (zi v6))]) hx hb dL_isSpread_59 hl (by decide) rfl (fun ls hl => ?_)
          refine lv_aload_n hx hb dL_isSpread_61 rfl (lv_at hl 3 rfl) ?_
          refine lv_aload_n hx hb dL_isSpread_62 rfl (lv_at hl 4 rfl) ?_
          refine lv_aload_n hx hb dL_isSpread_63 rfl (lv_at hl 5 rfl) ?_
          refine lv_iload hx hb dL_isSpread_64 (lv_at hl 6 rfl) ?_
          refine lv_iload hx hb dL_isSpread_66 (lv_at hl 8 rfl) ?_
          obtain ⟨u17, q18, h⟩ := bd_t h
          refine iv_callWI (As := [.ref (am 0), .ref (ap 0), .ref (an 0), .int (zi v3), .int (zi v6)]) (rest := []) (ws1 := wLXmpn a hs am ap an E s14) ⟨hx, hb, hml, hown, hts⟩ (k_L_next l E am ap an H.size N v3 v6 (s14.2.1, s14.2.2.1, s14.2.2.2) u17 q18) (va_cwS 5 hts gL_isSpread_L_next rfl rfl rfl (by decide +kernel) ⟨Nat.le_of_ble_eq_true rfl, Nat.le_of_ble_eq_true rfl⟩) hK hP hD hS hA (pm_skip (pm_take (pm_take (pm_end)))) (pm_skip (pm_take (pm_take (pm_end)))) rfl hl.1 (Nat.le_of_ble_eq_true rfl) ⟨Nat.le_of_ble_eq_true rfl, Nat.le_of_ble_eq_true rfl⟩ dL_isSpread_68 (fun H locs hP hD hS => ?_)
          refine lv_istore (lv' := [(7, .int (zi u17)), (6, .int (zi v13)), (8, .int (zi u10)), (0, .ref (a 0)), (1, .ref (am 0)), (2, .ref (ap 0)), (3, .ref (an 0)), (4, .int (zi v3)), (5, .int (zi v4))]) hx hb dL_isSpread_71 hl (by decide) rfl (fun ls hl => ?_)
          refine lv_goto (tgt := 16) hx hb dL_isSpread_73 (by decide) ?_
          exact ih v3 v4 v13 u17 s14 _ _ _ h hP hD hS (lv_sub hl [3, 4, 5, 6, 7, 8, 1, 0] rfl)
        refine iv_lt (tgt := 57) hx hb g12 dL_isSpread_37 (by decide) (fun c19 => ?_) (fun c19 => ?_)
        · have h := it_t c19 h
          refine lv_iload hx hb dL_isSpread_57 (lv_at hl 7 rfl) ?_
          exact hj15 v5 s7 _ _ _ h hP hD hS (lv_sub hl [0, 1, 2, 3, 4, 5, 6, 7, 8] rfl)
        · have h := it_f c19 h
          refine lv_iload hx hb dL_isSpread_40 (lv_at hl 7 rfl) ?_
          obtain ⟨g20, h⟩ := gd_t h
          refine iv_lt (tgt := 52) hx hb g20 dL_isSpread_42 (by decide) (fun c21 => ?_) (fun c21 => ?_)
          · have h := it_t c21 h
            refine lv_iload hx hb dL_isSpread_52 (lv_at hl 0 rfl) ?_
            refine lv_goto (tgt := 59) hx hb dL_isSpread_54 (by decide) ?_
            exact hj15 u10 s7 _ _ _ h hP hD hS (lv_sub hl [0, 1, 2, 3, 4, 5, 6, 7, 8] rfl)
          · have h := it_f c21 h
            refine lv_iload hx hb dL_isSpread_45 (lv_at hl 0 rfl) ?_
            refine lv_iload hx hb dL_isSpread_47 (lv_at hl 7 rfl) ?_
            refine iv_ige (tgt := 57) hx hb g12 g20 dL_isSpread_49 (by decide) (fun c22 => ?_) (fun c22 => ?_)
            · have h := it_t c22 h
              refine lv_iload hx hb dL_isSpread_57 (lv_at hl 7 rfl) ?_
              exact hj15 v5 s7 _ _ _ h hP hD hS (lv_sub hl [0, 1, 2, 3, 4, 5, 6, 7, 8] rfl)
            · have h := it_f c22 h
              refine lv_iload hx hb dL_isSpread_52 (lv_at hl 0 rfl) ?_
              refine lv_goto (tgt := 59) hx hb dL_isSpread_54 (by decide) ?_
              exact hj15 u10 s7 _ _ _ h hP hD hS (lv_sub hl [0, 1, 2, 3, 4, 5, 6, 7, 8] rfl)
  have h := hf
  rw [f_L_isSpread] at h
  refine iv_bipush hx hb dL_isSpread_0 (by decide +kernel) ?_
  refine lv_istore (lv' := [(6, .int (zi (-5))), (0, .ref (a 0)), (1, .ref (am 0)), (2, .ref (ap 0)), (3, .ref (an 0)), (4, .int (zi x4)), (5, .int (zi x5))]) hx hb dL_isSpread_2 hl (by decide) rfl (fun ls hl => ?_)
  refine lv_aload_n hx hb dL_isSpread_4 rfl (lv_at hl 2 rfl) ?_
  refine lv_aload_n hx hb dL_isSpread_5 rfl (lv_at hl 3 rfl) ?_
  refine lv_aload_n hx hb dL_isSpread_6 rfl (lv_at hl 4 rfl) ?_
  refine lv_iload hx hb dL_isSpread_7 (lv_at hl 5 rfl) ?_
  refine iv_bipush hx hb dL_isSpread_9 (by decide +kernel) ?_
  obtain ⟨u1, q2, h⟩ := bd_t h
  refine iv_callWI (As := [.ref (am 0), .ref (ap 0), .ref (an 0), .int (zi x4), .int (zi (-5))]) (rest := []) (ws1 := wLXmpn a hs am ap an E z) ⟨hx, hb, hml, hown, hts⟩ (k_L_next l E am ap an H.size N x4 (-5) (z.2.1, z.2.2.1, z.2.2.2) u1 q2) (va_cwS 5 hts gL_isSpread_L_next rfl rfl rfl (by decide +kernel) ⟨Nat.le_of_ble_eq_true rfl, Nat.le_of_ble_eq_true rfl⟩) hK hP hD hS hA (pm_skip (pm_take (pm_take (pm_end)))) (pm_skip (pm_take (pm_take (pm_end)))) rfl hl.1 (Nat.le_of_ble_eq_true rfl) ⟨Nat.le_of_ble_eq_true rfl, Nat.le_of_ble_eq_true rfl⟩ dL_isSpread_11 (fun H locs hP hD hS => ?_)
  refine lv_istore (lv' := [(7, .int (zi u1)), (6, .int (zi (-5))), (0, .ref (a 0)), (1, .ref (am 0)), (2, .ref (ap 0)), (3, .ref (an 0)), (4, .int (zi x4)), (5, .int (zi x5))]) hx hb dL_isSpread_14 hl (by decide) rfl (fun ls hl => ?_)
  refine loop16 (fun v23 v24 v25 v26 s27 => bd (f_L_in N v23 (s27.2.2.1, s27.2.2.2)) fun u28 => gd (rg u28) <| gd (rg v24) <| jn2 (fun (v32 : Int) (s33 : bLXmpn) => bd (f_X7_leastSpread N v23 v24 s33.1) fun u36 => nm (u36.2, s33.2) fun s38 => gd (rg u36.1) <| gd (rg v25) <| jn2 (fun (v42 : Int) (s43 : bLXmpn) => gd (inb v42 2) <| some (v42, s43)) fun j44 => if u36.1 = v25 then (bd (f_X7_reason N v23 v24 s38.1) fun u48 => nm (u48.2, s38.2) fun s50 => gd (rg u48.1) <| gd (rg v32) <| if u48.1 = v32 then (j44 1 s50) else (j44 0 s50)) else (j44 0 s38)) fun j34 => if v24 ≤ u28 then (gd (rg v25) <| gd (rg (s27.2.2.2 7)) <| if v25 ≤ (s27.2.2.2 7) then (j34 0 s27) else (j34 2 s27)) else (j34 1 s27)) N (fun v23 v24 v25 v26 s27 H locs ls h hP hD hS hl => ?_) x4 x5 (-5) u1 z _ _ _ h hP hD hS (lv_sub hl [2, 3, 4, 5, 6, 7, 1, 0] rfl)
  refine lv_aload_n hx hb dL_isSpread_76 rfl (lv_at hl 2 rfl) ?_
  refine lv_aload_n hx hb dL_isSpread_77 rfl (lv_at hl 3 rfl) ?_
  refine lv_iload hx hb dL_isSpread_78 (lv_at hl 4 rfl) ?_
  obtain ⟨u28, q29, h⟩ := bd_t h
  refine iv_callWI (As := [.ref (ap 0), .ref (an 0), .int (zi v23)]) (rest := []) (ws1 := wLXmpn a hs am ap an E s27) ⟨hx, hb, hml, hown, hts⟩ (k_L_in l E ap an H.size N v23 (s27.2.2.1, s27.2.2.2) u28 q29) (va_cwS 3 hts gL_isSpread_L_in rfl rfl rfl (by decide +kernel) ⟨Nat.le_of_ble_eq_true rfl, Nat.le_of_ble_eq_true rfl⟩) hK hP hD hS hA (pm_skip (pm_skip (pm_take (pm_end)))) (pm_skip (pm_skip (pm_take (pm_end)))) rfl hl.1 (Nat.le_of_ble_eq_true rfl) ⟨Nat.le_of_ble_eq_true rfl, Nat.le_of_ble_eq_true rfl⟩ dL_isSpread_80 (fun H locs hP hD hS => ?_)
  refine lv_iload hx hb dL_isSpread_83 (lv_at hl 5 rfl) ?_
  obtain ⟨g30, h⟩ := gd_t h
  obtain ⟨g31, h⟩ := gd_t h
  obtain ⟨j34, e35, h⟩ := jn2_t h
  have hj34 : ∀ (v32 : Int) (s33 : bLXmpn) (H : Heap) (locs : List Loc) (ls : Array Slot), j34 v32 s33 = some u → va_P E.1 vwCl (wLXmpn a hs am ap an E s33) H → va_D A (wLXmpn a hs am ap an E s33) → va_S A s.heap H locs → lv_has ls 9 [(0, .ref (a 0)), (1, .ref (am 0)), (2, .ref (ap 0)), (3, .ref (an 0)), (4, .int (zi v23)), (5, .int (zi v24)), (6, .int (zi v25)), (7, .int (zi v26))] → W p l e ({ frames := 4, cells := 0, slots := 0, locals := 88 }) s m ([.ref (a 0), .ref (am 0), .ref (ap 0), .ref (an 0), .int (zi x4), .int (zi x5)] : List Value).toArray below meth c H locs 0 0 (MQ below (mQi E (wLXmpn a hs am ap an E u.2) u.1 A) ([.ref (a 0), .ref (am 0), .ref (ap 0), .ref (an 0), .int (zi x4), .int (zi x5)] : List Value).toArray s 0 0 A) (F0 m 106 ls [.int (zi v32)]) := by
    intro v32 s33 H locs ls h hP hD hS hl
    rw [e35] at h
    refine lv_istore (lv' := [(7, .int (zi v32)), (0, .ref (a 0)), (1, .ref (am 0)), (2, .ref (ap 0)), (3, .ref (an 0)), (4, .int (zi v23)), (5, .int (zi v24)), (6, .int (zi v25))]) hx hb dL_isSpread_106 hl (by decide) rfl (fun ls hl => ?_)
    refine lv_aload_n hx hb dL_isSpread_108 rfl (lv_at hl 1 rfl) ?_
    refine lv_iload hx hb dL_isSpread_109 (lv_at hl 5 rfl) ?_
    refine lv_iload hx hb dL_isSpread_111 (lv_at hl 6 rfl) ?_
    obtain ⟨u36, q37, h⟩ := bd_t h
    obtain ⟨s38, e39, h⟩ := nm_t h
    refine iv_callIp (As := [.int (zi v23), .int (zi v24)]) (rest := []) (ws1 := wLXmpn a hs am ap an E s38) ⟨hx, hb, hml, hown, hts⟩ (k_X7_leastSpread l E a hs H.size N v23 v24 s33.1 u36 q37) (cwV 2 hts gL_isSpread_X7_leastSpread rfl rfl rfl (by decide +kernel) ⟨Nat.le_of_ble_eq_true rfl, Nat.le_of_ble_eq_true rfl⟩) hK hP hD hS hA 0 7 rfl rfl (pm_last) (by rw [e39]; exact pm_last) rfl hl.1 (Nat.le_of_ble_eq_true rfl) ⟨Nat.le_of_ble_eq_true rfl, Nat.le_of_ble_eq_true rfl⟩ dL_isSpread_113 (fun H locs hP hD hS => ?_)
    refine lv_iload hx hb dL_isSpread_116 (lv_at hl 7 rfl) ?_
    obtain ⟨g40, h⟩ := gd_t h
    obtain ⟨g41, h⟩ := gd_t h
    obtain ⟨j44, e45, h⟩ := jn2_t h
    have hj44 : ∀ (v42 : Int) (s43 : bLXmpn) (H : Heap) (locs : List Loc) (ls : Array Slot), j44 v42 s43 = some u → va_P E.1 vwCl (wLXmpn a hs am ap an E s43) H → va_D A (wLXmpn a hs am ap an E s43) → va_S A s.heap H locs → lv_has ls 9 [(7, .int (zi v32)), (0, .ref (a 0)), (1, .ref (am 0)), (2, .ref (ap 0)), (3, .ref (an 0)), (4, .int (zi v23)), (5, .int (zi v24)), (6, .int (zi v25))] → W p l e ({ frames := 4, cells := 0, slots := 0, locals := 88 }) s m ([.ref (a 0), .ref (am 0), .ref (ap 0), .ref (an 0), .int (zi x4), .int (zi x5)] : List Value).toArray below meth c H locs 0 0 (MQ below (mQi E (wLXmpn a hs am ap an E u.2) u.1 A) ([.ref (a 0), .ref (am 0), .ref (ap 0), .ref (an 0), .int (zi x4), .int (zi x5)] : List Value).toArray s 0 0 A) (F0 m 139 ls [.int (zi v42)]) := by
      intro v42 s43 H locs ls h hP hD hS hl
      rw [e45] at h
      obtain ⟨g46, h⟩ := gd_t h
      cases h
      exact iv_zret hx hb hr hlocks g46 hK hP hD hS dL_isSpread_139
    refine iv_ine (tgt := 138) hx hb g40 g41 dL_isSpread_118 (by decide) (fun c47 => ?_) (fun c47 => ?_)
    · have h := it_f c47 h
      refine iv_iconst hx hb dL_isSpread_138 ?_
      exact hj44 0 s38 _ _ _ h hP hD hS (lv_sub hl [0, 1, 2, 3, 4, 5, 6, 7] rfl)
    · have h := it_t c47 h
      refine lv_aload_n hx hb dL_isSpread_121 rfl (lv_at hl 1 rfl) ?_
      refine lv_iload hx hb dL_isSpread_122 (lv_at hl 5 rfl) ?_
      refine lv_iload hx hb dL_isSpread_124 (lv_at hl 6 rfl) ?_
      obtain ⟨u48, q49, h⟩ := bd_t h
      obtain ⟨s50, e51, h⟩ := nm_t h
      refine iv_callIp (As := [.int (zi v23), .int (zi v24)]) (rest := []) (ws1 := wLXmpn a hs am ap an E s50) ⟨hx, hb, hml, hown, hts⟩ (k_X7_reason l E a hs H.size N v23 v24 s38.1 u48 q49) (cwV 2 hts gL_isSpread_X7_reason rfl rfl rfl (by decide +kernel) ⟨Nat.le_of_ble_eq_true rfl, Nat.le_of_ble_eq_true rfl⟩) hK hP hD hS hA 0 7 rfl rfl (pm_last) (by rw [e51]; exact pm_last) rfl hl.1 (Nat.le_of_ble_eq_true rfl) ⟨Nat.le_of_ble_eq_true rfl, Nat.le_of_ble_eq_true rfl⟩ dL_isSpread_126 (fun H locs hP hD hS => ?_)
      refine lv_iload hx hb dL_isSpread_129 (lv_at hl 0 rfl) ?_
      obtain ⟨g52, h⟩ := gd_t h
      obtain ⟨g53, h⟩ := gd_t h
      refine iv_ine (tgt := 138) hx hb g52 g53 dL_isSpread_131 (by decide) (fun c54 => ?_) (fun c54 => ?_)
      · have h := it_f c54 h
        refine iv_iconst hx hb dL_isSpread_138 ?_
        exact hj44 0 s50 _ _ _ h hP hD hS (lv_sub hl [0, 1, 2, 3, 4, 5, 6, 7] rfl)
      · have h := it_t c54 h
        refine iv_iconst hx hb dL_isSpread_134 ?_
        refine lv_goto (tgt := 139) hx hb dL_isSpread_135 (by decide) ?_
        exact hj44 1 s50 _ _ _ h hP hD hS (lv_sub hl [0, 1, 2, 3, 4, 5, 6, 7] rfl)
  refine iv_ige (tgt := 92) hx hb g30 g31 dL_isSpread_85 (by decide) (fun c55 => ?_) (fun c55 => ?_)
  · have h := it_t c55 h
    refine lv_iload hx hb dL_isSpread_92 (lv_at hl 6 rfl) ?_
    refine lv_aload_n hx hb dL_isSpread_94 rfl (lv_at hl 3 rfl) ?_
    refine iv_bipush hx hb dL_isSpread_95 (by decide +kernel) ?_
    refine iv_iald (f := s27.2.2.2) (j := 7) hx hb hK.1 hP 128 0 rfl rfl (by decide) (by decide +kernel) rfl dL_isSpread_97 ?_
    obtain ⟨g56, h⟩ := gd_t h
    obtain ⟨g57, h⟩ := gd_t h
    refine iv_ile (tgt := 105) hx hb g56 g57 dL_isSpread_98 (by decide) (fun c58 => ?_) (fun c58 => ?_)
    · have h := it_t c58 h
      refine iv_iconst hx hb dL_isSpread_105 ?_
      exact hj34 0 s27 _ _ _ h hP hD hS (lv_sub hl [0, 1, 2, 3, 4, 5, 6, 7] rfl)
    · have h := it_f c58 h
      refine iv_iconst hx hb dL_isSpread_101 ?_
      refine lv_goto (tgt := 106) hx hb dL_isSpread_102 (by decide) ?_
      exact hj34 2 s27 _ _ _ h hP hD hS (lv_sub hl [0, 1, 2, 3, 4, 5, 6, 7] rfl)
  · have h := it_f c55 h
    refine iv_iconst hx hb dL_isSpread_88 ?_
    refine lv_goto (tgt := 106) hx hb dL_isSpread_89 (by decide) ?_
    exact hj34 1 s27 _ _ _ h hP hD hS (lv_sub hl [0, 1, 2, 3, 4, 5, 6, 7] rfl)
