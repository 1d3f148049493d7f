set_option maxHeartbeats 4000000 in
set_option maxRecDepth 100000 in
theorem k_L_sets (l : Launch) (E : wE) (a hs an : Nat → Nat) (sz : Nat) (x2 : Int) (z : bLXn) (u : (Int × bLXn)) (hf : f_L_sets x2 z = some u) : cIxs l yL_sets wsL_sets { frames := 5, cells := 0, slots := 0, locals := 112 } E sz [.ref (a 0), .ref (an 0), .int (zi x2)] (wLXn a hs an E z) (fun h1 => wLXn a h1 an E u.2) u.1 := by
  refine met_goS (cc := cL_sets) (maxL := 8) (ret := (some .boolean)) (Q0 := mQix E (fun h1 => wLXn a h1 an E u.2) u.1) (by decide +kernel) rfl (Nat.le_of_ble_eq_true rfl) ?_
  intro A p e s m below meth c hx hb hr hml hts hown hlocks hZ hP hK hD hA hS ls hl
  have hl : lv_has ls 8 [(0, .ref (a 0)), (1, .ref (an 0)), (2, .int (zi x2))] := hl
  generalize hH : s.heap = H at hP
  have hS : va_S A s.heap H [] := by rw [← hH]; exact hS
  have hown : s.vm.findClass RL = some m.cls := hown
  have h := hf
  rw [f_L_sets] at h
  refine lv_iload_n hx hb dL_sets_0 rfl (lv_at hl 2 rfl) ?_
  refine iv_bipush hx hb dL_sets_1 (by decide +kernel) ?_
  obtain ⟨u1, q2, h⟩ := bd_t h
  refine iv_callS (As := [.int (zi x2), .int (zi 8)]) (rest := []) ⟨hx, hb, hml, hown, hts⟩ (k_L_low l E H.size x2 8 u1 q2) (va_cwS 2 hts gL_sets_L_low rfl rfl rfl (by decide +kernel) ⟨Nat.le_of_ble_eq_true rfl, Nat.le_of_ble_eq_true rfl⟩) hK hP hS hA rfl hl.1 (Nat.le_of_ble_eq_true rfl) ⟨Nat.le_of_ble_eq_true rfl, Nat.le_of_ble_eq_true rfl⟩ dL_sets_3 (fun H locs hP hS => ?_)
  refine lv_istore_n (lv' := [(3, .int (zi u1)), (0, .ref (a 0)), (1, .ref (an 0)), (2, .int (zi x2))]) hx hb dL_sets_6 rfl hl (by decide) rfl (fun ls hl => ?_)
  refine lv_iload_n hx hb dL_sets_7 rfl (lv_at hl 3 rfl) ?_
  refine iv_iconst hx hb dL_sets_8 ?_
  refine iv_ishr hx hb dL_sets_9 ?_
  obtain ⟨v3, e4, h⟩ := nm_t h
  refine iv_nm e4 ?_
  refine lv_istore (lv' := [(4, .int (zi v3)), (3, .int (zi u1)), (0, .ref (a 0)), (1, .ref (an 0)), (2, .int (zi x2))]) hx hb dL_sets_10 hl (by decide) rfl (fun ls hl => ?_)
  refine lv_iload_n hx hb dL_sets_12 rfl (lv_at hl 1 rfl) ?_
  refine iv_iconst hx hb dL_sets_13 ?_
  obtain ⟨g5, h⟩ := gd_t h
  obtain ⟨j8, e9, h⟩ := jn2_t h
  have hj8 : ∀ (v6 : Int) (s7 : bLXn) (H : Heap) (locs : List Loc) (ls : Array Slot), j8 v6 s7 = some u → va_P E.1 vwCl (wLXn a hs an E s7) H → va_D A (wLXn a hs an E s7) → va_S A s.heap H locs → lv_has ls 8 [(4, .int (zi v3)), (3, .int (zi u1)), (0, .ref (a 0)), (1, .ref (an 0)), (2, .int (zi x2))] → W p l e ({ frames := 5, cells := 0, slots := 0, locals := 112 }) s m ([.ref (a 0), .ref (an 0), .int (zi x2)] : List Value).toArray below meth c H locs 0 0 (MQ below (mQix E (fun h1 => wLXn a h1 an E u.2) u.1 A) ([.ref (a 0), .ref (an 0), .int (zi x2)] : List Value).toArray s 0 0 A) (F0 m 106 ls [.int (zi v6)]) := by
    intro v6 s7 H locs ls h hP hD hS hl
    rw [e9] at h
    refine lv_istore (lv' := [(5, .int (zi v6)), (4, .int (zi v3)), (3, .int (zi u1)), (0, .ref (a 0)), (1, .ref (an 0)), (2, .int (zi x2))]) hx hb dL_sets_106 hl (by decide) rfl (fun ls hl => ?_)
    refine lv_iload_n hx hb dL_sets_108 rfl (lv_at hl 2 rfl) ?_
    obtain ⟨j12, e13, h⟩ := jn2_t h
    have hj12 : ∀ (v10 : Int) (s11 : bLXn) (H : Heap) (locs : List Loc) (ls : Array Slot), j12 v10 s11 = some u → va_P E.1 vwCl (wLXn a hs an E s11) H → va_D A (wLXn a hs an E s11) → va_S A s.heap H locs → lv_has ls 8 [(5, .int (zi v6)), (4, .int (zi v3)), (3, .int (zi u1)), (0, .ref (a 0)), (1, .ref (an 0)), (2, .int (zi x2))] → W p l e ({ frames := 5, cells := 0, slots := 0, locals := 112 }) s m ([.ref (a 0), .ref (an 0), .int (zi x2)] : List Value).toArray below meth c H locs 0 0 (MQ below (mQix E (fun h1 => wLXn a h1 an E u.2) u.1 A) ([.ref (a 0), .ref (an 0), .int (zi x2)] : List Value).toArray s 0 0 A) (F0 m 159 ls [.int (zi v10)]) := by
      intro v10 s11 H locs ls h hP hD hS hl
      rw [e13] at h
      refine lv_istore (lv' := [(6, .int (zi v10)), (5, .int (zi v6)), (4, .int (zi v3)), (3, .int (zi u1)), (0, .ref (a 0)), (1, .ref (an 0)), (2, .int (zi x2))]) hx hb dL_sets_159 hl (by decide) rfl (fun ls hl => ?_)
      refine lv_aload_n hx hb dL_sets_161 rfl (lv_at hl 5 rfl) ?_
      refine lv_iload_n hx hb dL_sets_162 rfl (lv_at hl 3 rfl) ?_
      obtain ⟨g14, h⟩ := gd_t h
      refine iv_iald (f := s11.2) (j := u1.toNat) hx hb hK.1 hP 126 0 rfl rfl (by decide) g14 rfl dL_sets_163 ?_
      obtain ⟨v15, e16, h⟩ := nm_t h
      refine iv_nm e16 ?_
      refine lv_istore (lv' := [(7, .int (zi v15)), (6, .int (zi v10)), (5, .int (zi v6)), (4, .int (zi v3)), (3, .int (zi u1)), (0, .ref (a 0)), (1, .ref (an 0)), (2, .int (zi x2))]) hx hb dL_sets_164 hl (by decide) rfl (fun ls hl => ?_)
      refine lv_aload_n hx hb dL_sets_166 rfl (lv_at hl 6 rfl) ?_
      refine lv_iload_n hx hb dL_sets_167 rfl (lv_at hl 4 rfl) ?_
      refine lv_iload hx hb dL_sets_168 (lv_at hl 1 rfl) ?_
      obtain ⟨g17, h⟩ := gd_t h
      obtain ⟨j20, e21, h⟩ := jn2_t h
      have hj20 : ∀ (v18 : Int) (s19 : bLXn) (H : Heap) (locs : List Loc) (ls : Array Slot), j20 v18 s19 = some u → va_P E.1 vwCl (wLXn a hs an E s19) H → va_D A (wLXn a hs an E s19) → va_S A s.heap H locs → lv_has ls 8 [(7, .int (zi v15)), (6, .int (zi v10)), (5, .int (zi v6)), (4, .int (zi v3)), (3, .int (zi u1)), (0, .ref (a 0)), (1, .ref (an 0)), (2, .int (zi x2))] → W p l e ({ frames := 5, cells := 0, slots := 0, locals := 112 }) s m ([.ref (a 0), .ref (an 0), .int (zi x2)] : List Value).toArray below meth c H locs 0 0 (MQ below (mQix E (fun h1 => wLXn a h1 an E u.2) u.1 A) ([.ref (a 0), .ref (an 0), .int (zi x2)] : List Value).toArray s 0 0 A) (F0 m 180 ls [.int (zi v18), .int (zi u1), .ref (an 0)]) := by
        intro v18 s19 H locs ls h hP hD hS hl
        rw [e21] at h
        obtain ⟨s22, e23, h⟩ := nm_t h
        refine iv_iast (f := s19.2) (j := u1.toNat) (ws1 := wLXn a hs an E s22) hx hb hK.1 hP hD hS 126 0 rfl rfl (by decide) g14 rfl (by rw [e23]; rfl) dL_sets_180 (fun H locs hP hD hS => ?_)
        refine lv_aload_n hx hb dL_sets_181 rfl (lv_at hl 5 rfl) ?_
        refine lv_iload_n hx hb dL_sets_182 rfl (lv_at hl 4 rfl) ?_
        refine lv_iload hx hb dL_sets_183 (lv_at hl 2 rfl) ?_
        obtain ⟨u24, q25, h⟩ := bd_t h
        obtain ⟨s26, e27, h⟩ := nm_t h
        refine iv_callIxsp (As := [.int (zi u1), .int (zi v6)]) (rest := []) (wx := fun h28 => wLXn a h28 an E s26) ⟨hx, hb, hml, hown, hts⟩ (k_X7_set l E a hs H.size u1 v6 s22.1 u24 q25) (cwV 2 hts gL_sets_X7_set rfl rfl rfl (by decide +kernel) ⟨Nat.le_of_ble_eq_true rfl, Nat.le_of_ble_eq_true rfl⟩) hZ hK hP hD hS hA 0 7 rfl rfl (pm_last) (fun h28 => by rw [e27]; exact pm_last) rfl hl.1 (Nat.le_of_ble_eq_true rfl) ⟨Nat.le_of_ble_eq_true rfl, Nat.le_of_ble_eq_true rfl⟩ dL_sets_185 (fun h28 H locs hP hD hS => ?_)
        refine lv_iload hx hb dL_sets_188 (lv_at hl 1 rfl) ?_
        obtain ⟨j31, e32, h⟩ := jn2_t h
        have hj31 : ∀ (v29 : Int) (s30 : bLXn) (H : Heap) (locs : List Loc) (ls : Array Slot), j31 v29 s30 = some u → va_P E.1 vwCl (wLXn a h28 an E s30) H → va_D A (wLXn a h28 an E s30) → va_S A s.heap H locs → lv_has ls 8 [(7, .int (zi v15)), (6, .int (zi v10)), (5, .int (zi v6)), (4, .int (zi v3)), (3, .int (zi u1)), (0, .ref (a 0)), (1, .ref (an 0)), (2, .int (zi x2))] → W p l e ({ frames := 5, cells := 0, slots := 0, locals := 112 }) s m ([.ref (a 0), .ref (an 0), .int (zi x2)] : List Value).toArray below meth c H locs 0 0 (MQ below (mQix E (fun h1 => wLXn a h1 an E u.2) u.1 A) ([.ref (a 0), .ref (an 0), .int (zi x2)] : List Value).toArray s 0 0 A) (F0 m 212 ls [.int (zi v29), .int (zi u24.1)]) := by
          intro v29 s30 H locs ls h hP hD hS hl
          rw [e32] at h
          obtain ⟨g33, h⟩ := gd_t h
          obtain ⟨g34, h⟩ := gd_t h
          obtain ⟨j37, e38, h⟩ := jn2_t h
          have hj37 : ∀ (v35 : Int) (s36 : bLXn) (H : Heap) (locs : List Loc) (ls : Array Slot), j37 v35 s36 = some u → va_P E.1 vwCl (wLXn a h28 an E s36) H → va_D A (wLXn a h28 an E s36) → va_S A s.heap H locs → lv_has ls 8 [(7, .int (zi v15)), (6, .int (zi v10)), (5, .int (zi v6)), (4, .int (zi v3)), (3, .int (zi u1)), (0, .ref (a 0)), (1, .ref (an 0)), (2, .int (zi x2))] → W p l e ({ frames := 5, cells := 0, slots := 0, locals := 112 }) s m ([.ref (a 0), .ref (an 0), .int (zi x2)] : List Value).toArray below meth c H locs 0 0 (MQ below (mQix E (fun h1 => wLXn a h1 an E u.2) u.1 A) ([.ref (a 0), .ref (an 0), .int (zi x2)] : List Value).toArray s 0 0 A) (F0 m 220 ls [.int (zi v35)]) := by
            intro v35 s36 H locs ls h hP hD hS hl
            rw [e38] at h
            obtain ⟨g39, h⟩ := gd_t h
            cases h
            exact iv_zretx h28 rfl hx hb hr hlocks g39 hK hP hD hS dL_sets_220
          refine iv_ine (tgt := 219) hx hb g33 g34 dL_sets_212 (by decide) (fun c40 => ?_) (fun c40 => ?_)
          · have h := it_f c40 h
            refine iv_iconst hx hb dL_sets_219 ?_
            exact hj37 0 s30 _ _ _ h hP hD hS (lv_sub hl [0, 1, 2, 3, 4, 5, 6, 7] rfl)
          · have h := it_t c40 h
            refine iv_iconst hx hb dL_sets_215 ?_
            refine lv_goto (tgt := 220) hx hb dL_sets_216 (by decide) ?_
            exact hj37 1 s30 _ _ _ h hP hD hS (lv_sub hl [0, 1, 2, 3, 4, 5, 6, 7] rfl)
        refine iv_eq (tgt := 198) hx hb g17 dL_sets_190 (by decide) (fun c41 => ?_) (fun c41 => ?_)
        · have h := it_t c41 h
          refine lv_iload hx hb dL_sets_198 (lv_at hl 0 rfl) ?_
          refine lv_iload hx hb dL_sets_200 (lv_at hl 2 rfl) ?_
          obtain ⟨g42, h⟩ := gd_t h
          obtain ⟨g43, h⟩ := gd_t h
          refine iv_ine (tgt := 210) hx hb g42 g43 dL_sets_202 (by decide) (fun c44 => ?_) (fun c44 => ?_)
          · have h := it_f c44 h
            refine lv_iload hx hb dL_sets_210 (lv_at hl 0 rfl) ?_
            exact hj31 v15 s26 _ _ _ h hP hD hS (lv_sub hl [0, 1, 2, 3, 4, 5, 6, 7] rfl)
          · have h := it_t c44 h
            refine iv_bipush hx hb dL_sets_205 (by decide +kernel) ?_
            refine lv_goto (tgt := 212) hx hb dL_sets_207 (by decide) ?_
            exact hj31 (-5) s26 _ _ _ h hP hD hS (lv_sub hl [0, 1, 2, 3, 4, 5, 6, 7] rfl)
        · have h := it_f c41 h
          refine iv_bipush hx hb dL_sets_193 (by decide +kernel) ?_
          refine lv_goto (tgt := 212) hx hb dL_sets_195 (by decide) ?_
          exact hj31 (-4) s26 _ _ _ h hP hD hS (lv_sub hl [0, 1, 2, 3, 4, 5, 6, 7] rfl)
      refine iv_eq (tgt := 178) hx hb g17 dL_sets_170 (by decide) (fun c45 => ?_) (fun c45 => ?_)
      · have h := it_t c45 h
        refine lv_iload hx hb dL_sets_178 (lv_at hl 2 rfl) ?_
        exact hj20 v6 s11 _ _ _ h hP hD hS (lv_sub hl [0, 1, 2, 3, 4, 5, 6, 7] rfl)
      · have h := it_f c45 h
        refine lv_iload hx hb dL_sets_173 (lv_at hl 0 rfl) ?_
        refine lv_goto (tgt := 180) hx hb dL_sets_175 (by decide) ?_
        exact hj20 v15 s11 _ _ _ h hP hD hS (lv_sub hl [0, 1, 2, 3, 4, 5, 6, 7] rfl)
    refine iv_ne (tgt := 120) hx hb g5 dL_sets_109 (by decide) (fun c46 => ?_) (fun c46 => ?_)
    · have h := it_f c46 h
      refine lv_iload_n hx hb dL_sets_120 rfl (lv_at hl 2 rfl) ?_
      refine iv_iconst hx hb dL_sets_121 ?_
      refine iv_ine (tgt := 141) hx hb g5 (by decide +kernel) dL_sets_122 (by decide) (fun c47 => ?_) (fun c47 => ?_)
      · have h := it_f c47 h
        refine lv_iload_n hx hb dL_sets_141 rfl (lv_at hl 2 rfl) ?_
        refine iv_iconst hx hb dL_sets_142 ?_
        refine iv_ine (tgt := 158) hx hb g5 (by decide +kernel) dL_sets_143 (by decide) (fun c48 => ?_) (fun c48 => ?_)
        · have h := it_f c48 h
          refine iv_iconst hx hb dL_sets_158 ?_
          exact hj12 0 s7 _ _ _ h hP hD hS (lv_sub hl [0, 1, 2, 3, 4, 5] rfl)
        · have h := it_t c48 h
          refine lv_iload hx hb dL_sets_146 (lv_at hl 0 rfl) ?_
          refine lv_aload_n hx hb dL_sets_148 rfl (lv_at hl 4 rfl) ?_
          refine iv_iconst hx hb dL_sets_149 ?_
          refine iv_iald (f := s7.2) (j := 1) hx hb hK.1 hP 126 0 rfl rfl (by decide) (by decide +kernel) rfl dL_sets_150 ?_
          obtain ⟨g49, h⟩ := gd_t h
          obtain ⟨g50, h⟩ := gd_t h
          refine iv_ige (tgt := 158) hx hb g49 g50 dL_sets_151 (by decide) (fun c51 => ?_) (fun c51 => ?_)
          · have h := it_t c51 h
            refine iv_iconst hx hb dL_sets_158 ?_
            exact hj12 0 s7 _ _ _ h hP hD hS (lv_sub hl [0, 1, 2, 3, 4, 5] rfl)
          · have h := it_f c51 h
            refine iv_iconst hx hb dL_sets_154 ?_
            refine lv_goto (tgt := 159) hx hb dL_sets_155 (by decide) ?_
            exact hj12 1 s7 _ _ _ h hP hD hS (lv_sub hl [0, 1, 2, 3, 4, 5] rfl)
      · have h := it_t c47 h
        refine lv_iload hx hb dL_sets_125 (lv_at hl 0 rfl) ?_
        refine lv_aload_n hx hb dL_sets_127 rfl (lv_at hl 4 rfl) ?_
        refine iv_iconst hx hb dL_sets_128 ?_
        refine iv_iald (f := s7.2) (j := 0) hx hb hK.1 hP 126 0 rfl rfl (by decide) (by decide +kernel) rfl dL_sets_129 ?_
        obtain ⟨g52, h⟩ := gd_t h
        obtain ⟨g53, h⟩ := gd_t h
        refine iv_ilt (tgt := 154) hx hb g52 g53 dL_sets_130 (by decide) (fun c54 => ?_) (fun c54 => ?_)
        · have h := it_t c54 h
          refine iv_iconst hx hb dL_sets_154 ?_
          refine lv_goto (tgt := 159) hx hb dL_sets_155 (by decide) ?_
          exact hj12 1 s7 _ _ _ h hP hD hS (lv_sub hl [0, 1, 2, 3, 4, 5] rfl)
        · have h := it_f c54 h
          refine lv_iload hx hb dL_sets_133 (lv_at hl 0 rfl) ?_
          refine lv_aload_n hx hb dL_sets_135 rfl (lv_at hl 4 rfl) ?_
          refine iv_iconst hx hb dL_sets_136 ?_
          refine iv_iald (f := s7.2) (j := 2) hx hb hK.1 hP 126 0 rfl rfl (by decide) (by decide +kernel) rfl dL_sets_137 ?_
          obtain ⟨g55, h⟩ := gd_t h
          refine iv_igt (tgt := 154) hx hb g52 g55 dL_sets_138 (by decide) (fun c56 => ?_) (fun c56 => ?_)
          · have h := it_t c56 h
            refine iv_iconst hx hb dL_sets_154 ?_
            refine lv_goto (tgt := 159) hx hb dL_sets_155 (by decide) ?_
            exact hj12 1 s7 _ _ _ h hP hD hS (lv_sub hl [0, 1, 2, 3, 4, 5] rfl)
          · have h := it_f c56 h
            refine lv_iload_n hx hb dL_sets_141 rfl (lv_at hl 2 rfl) ?_
            refine iv_iconst hx hb dL_sets_142 ?_
            refine iv_ine (tgt := 158) hx hb g5 (by decide +kernel) dL_sets_143 (by decide) (fun c57 => ?_) (fun c57 => ?_)
            · have h := it_f c57 h
              refine iv_iconst hx hb dL_sets_158 ?_
              exact hj12 0 s7 _ _ _ h hP hD hS (lv_sub hl [0, 1, 2, 3, 4, 5] rfl)
            · have h := it_t c57 h
              refine lv_iload hx hb dL_sets_146 (lv_at hl 0 rfl) ?_
              refine lv_aload_n hx hb dL_sets_148 rfl (lv_at hl 4 rfl) ?_
              refine iv_iconst hx hb dL_sets_149 ?_
              refine iv_iald (f := s7.2) (j := 1) hx hb hK.1 hP 126 0 rfl rfl (by decide) (by decide +kernel) rfl dL_sets_150 ?_
              obtain ⟨g58, h⟩ := gd_t h
              refine iv_ige (tgt := 158) hx hb g52 g58 dL_sets_151 (by decide) (fun c59 => ?_) (fun c59 => ?_)
              · have h := it_t c59 h
                refine iv_iconst hx hb dL_sets_158 ?_
                exact hj12 0 s7 _ _ _ h hP hD hS (lv_sub hl [0, 1, 2, 3, 4, 5] rfl)
              · have h := it_f c59 h
                refine iv_iconst hx hb dL_sets_154 ?_
                refine lv_goto (tgt := 159) hx hb dL_sets_155 (by decide) ?_
                exact hj12 1 s7 _ _ _ h hP hD hS (lv_sub hl [0, 1, 2, 3, 4, 5] rfl)
    · have h := it_t c46 h
      refine lv_iload hx hb dL_sets_112 (lv_at hl 0 rfl) ?_
      refine lv_aload_n hx hb dL_sets_114 rfl (lv_at hl 4 rfl) ?_
      refine iv_iconst hx hb dL_sets_115 ?_
      refine iv_iald (f := s7.2) (j := 1) hx hb hK.1 hP 126 0 rfl rfl (by decide) (by decide +kernel) rfl dL_sets_116 ?_
      obtain ⟨g60, h⟩ := gd_t h
      obtain ⟨g61, h⟩ := gd_t h
      refine iv_igt (tgt := 154) hx hb g60 g61 dL_sets_117 (by decide) (fun c62 => ?_) (fun c62 => ?_)
      · have h := it_t c62 h
        refine iv_iconst hx hb dL_sets_154 ?_
        refine lv_goto (tgt := 159) hx hb dL_sets_155 (by decide) ?_
        exact hj12 1 s7 _ _ _ h hP hD hS (lv_sub hl [0, 1, 2, 3, 4, 5] rfl)
      · have h := it_f c62 h
        refine lv_iload_n hx hb dL_sets_120 rfl (lv_at hl 2 rfl) ?_
        refine iv_iconst hx hb dL_sets_121 ?_
        refine iv_ine (tgt := 141) hx hb g5 (by decide +kernel) dL_sets_122 (by decide) (fun c63 => ?_) (fun c63 => ?_)
        · have h := it_f c63 h
          refine lv_iload_n hx hb dL_sets_141 rfl (lv_at hl 2 rfl) ?_
          refine iv_iconst hx hb dL_sets_142 ?_
          refine iv_ine (tgt := 158) hx hb g5 (by decide +kernel) dL_sets_143 (by decide) (fun c64 => ?_) (fun c64 => ?_)
          · have h := it_f c64 h
            refine iv_iconst hx hb dL_sets_158 ?_
            exact hj12 0 s7 _ _ _ h hP hD hS (lv_sub hl [0, 1, 2, 3, 4, 5] rfl)
          · have h := it_t c64 h
            refine lv_iload hx hb dL_sets_146 (lv_at hl 0 rfl) ?_
            refine lv_aload_n hx hb dL_sets_148 rfl (lv_at hl 4 rfl) ?_
            refine iv_iconst hx hb dL_sets_149 ?_
            refine iv_iald (f := s7.2) (j := 1) hx hb hK.1 hP 126 0 rfl rfl (by decide) (by decide +kernel) rfl dL_sets_150 ?_
            refine iv_ige (tgt := 158) hx hb g60 g61 dL_sets_151 (by decide) (fun c65 => ?_) (fun c65 => ?_)
            · have h := it_t c65 h
              refine iv_iconst hx hb dL_sets_158 ?_
              exact hj12 0 s7 _ _ _ h hP hD hS (lv_sub hl [0, 1, 2, 3, 4, 5] rfl)
            · have h := it_f c65 h
              refine iv_iconst hx hb dL_sets_154 ?_
              refine lv_goto (tgt := 159) hx hb dL_sets_155 (by decide) ?_
              exact hj12 1 s7 _ _ _ h hP hD hS (lv_sub hl [0, 1, 2, 3, 4, 5] rfl)
        · have h := it_t c63 h
          refine lv_iload hx hb dL_sets_125 (lv_at hl 0 rfl) ?_
          refine lv_aload_n hx hb dL_sets_127 rfl (lv_at hl 4 rfl) ?_
          refine iv_iconst hx hb dL_sets_128 ?_
          refine iv_iald (f := s7.2) (j := 0) hx hb hK.1 hP 126 0 rfl rfl (by decide) (by decide +kernel) rfl dL_sets_129 ?_
          obtain ⟨g66, h⟩ := gd_t h
          refine iv_ilt (tgt := 154) hx hb g60 g66 dL_sets_130 (by decide) (fun c67 => ?_) (fun c67 => ?_)
          · have h := it_t c67 h
            refine iv_iconst hx hb dL_sets_154 ?_
            refine lv_goto (tgt := 159) hx hb dL_sets_155 (by decide) ?_
            exact hj12 1 s7 _ _ _ h hP hD hS (lv_sub hl [0, 1, 2, 3, 4, 5] rfl)
          · have h := it_f c67 h
            refine lv_iload hx hb dL_sets_133 (lv_at hl 0 rfl) ?_
            refine lv_aload_n hx hb dL_sets_135 rfl (lv_at hl 4 rfl) ?_
            refine iv_iconst hx hb dL_sets_136 ?_
            refine iv_iald (f := s7.2) (j := 2) hx hb hK.1 hP 126 0 rfl rfl (by decide) (by decide +kernel) rfl dL_sets_137 ?_
            obtain ⟨g68, h⟩ := gd_t h
            refine iv_igt (tgt := 154) hx hb g60 g68 dL_sets_138 (by decide) (fun c69 => ?_) (fun c69 => ?_)
            · have h := it_t c69 h
              refine iv_iconst hx hb dL_sets_154 ?_
              refine lv_goto (tgt := 159) hx hb dL_sets_155 (by decide) ?_
              exact hj12 1 s7 _ _ _ h hP hD hS (lv_sub hl [0, 1, 2, 3, 4, 5] rfl)
            · have h := it_f c69 h
              refine lv_iload_n hx hb dL_sets_141 rfl (lv_at hl 2 rfl) ?_
              refine iv_iconst hx hb dL_sets_142 ?_
              refine iv_ine (tgt := 158) hx hb g5 (by decide +kernel) dL_sets_143 (by decide) (fun c70 => ?_) (fun c70 => ?_)
              · have h := it_f c70 h
                refine iv_iconst hx hb dL_sets_158 ?_
                exact hj12 0 s7 _ _ _ h hP hD hS (lv_sub hl [0, 1, 2, 3, 4, 5] rfl)
              · have h := it_t c70 h
                refine lv_iload hx hb dL_sets_146 (lv_at hl 0 rfl) ?_
                refine lv_aload_n hx hb dL_sets_148 rfl (lv_at hl 4 rfl) ?_
                refine iv_iconst hx hb dL_sets_149 ?_
                refine iv_iald (f := s7.2) (j := 1) hx hb hK.1 hP 126 0 rfl rfl (by decide) (by decide +kernel) rfl dL_sets_150 ?_
                refine iv_ige (tgt := 158) hx hb g60 g61 dL_sets_151 (by decide) (fun c71 => ?_) (fun c71 => ?_)
                · have h := it_t c71 h
                  refine iv_iconst hx hb dL_sets_158 ?_
                  exact hj12 0 s7 _ _ _ h hP hD hS (lv_sub hl [0, 1, 2, 3, 4, 5] rfl)
                · have h := it_f c71 h
                  refine iv_iconst hx hb dL_sets_154 ?_
                  refine lv_goto (tgt := 159) hx hb dL_sets_155 (by decide) ?_
                  exact hj12 1 s7 _ _ _ h hP hD hS (lv_sub hl [0, 1, 2, 3, 4, 5] rfl)
  refine iv_ige (tgt := 29) hx hb g5 (by decide +kernel) dL_sets_14 (by decide) (fun c72 => ?_) (fun c72 => ?_)
  · have h := it_t c72 h
    refine lv_iload_n hx hb dL_sets_29 rfl (lv_at hl 1 rfl) ?_
    refine iv_iconst hx hb dL_sets_30 ?_
    refine iv_ieq (tgt := 40) hx hb g5 (by decide +kernel) dL_sets_31 (by decide) (fun c73 => ?_) (fun c73 => ?_)
    · have h := it_t c73 h
      refine lv_iload hx hb dL_sets_40 (lv_at hl 0 rfl) ?_
      refine iv_bipush hx hb dL_sets_42 (by decide +kernel) ?_
      obtain ⟨u74, q75, h⟩ := bd_t h
      refine iv_callS (As := [.int (zi v3), .int (zi 10)]) (rest := []) ⟨hx, hb, hml, hown, hts⟩ (k_L_low l E H.size v3 10 u74 q75) (va_cwS 2 hts gL_sets_L_low rfl rfl rfl (by decide +kernel) ⟨Nat.le_of_ble_eq_true rfl, Nat.le_of_ble_eq_true rfl⟩) hK hP hS hA rfl hl.1 (Nat.le_of_ble_eq_true rfl) ⟨Nat.le_of_ble_eq_true rfl, Nat.le_of_ble_eq_true rfl⟩ dL_sets_44 (fun H locs hP hS => ?_)
      refine lv_goto (tgt := 106) hx hb dL_sets_47 (by decide) ?_
      exact hj8 u74 z _ _ _ h hP hD hS (lv_sub hl [0, 1, 2, 3, 4] rfl)
    · have h := it_f c73 h
      refine lv_iload_n hx hb dL_sets_34 rfl (lv_at hl 1 rfl) ?_
      refine iv_bipush hx hb dL_sets_35 (by decide +kernel) ?_
      refine iv_ine (tgt := 50) hx hb g5 (by decide +kernel) dL_sets_37 (by decide) (fun c76 => ?_) (fun c76 => ?_)
      · have h := it_f c76 h
        refine lv_iload_n hx hb dL_sets_50 rfl (lv_at hl 1 rfl) ?_
        refine iv_iconst hx hb dL_sets_51 ?_
        refine iv_ine (tgt := 67) hx hb g5 (by decide +kernel) dL_sets_52 (by decide) (fun c77 => ?_) (fun c77 => ?_)
        · have h := it_f c77 h
          refine lv_iload_n hx hb dL_sets_67 rfl (lv_at hl 1 rfl) ?_
          refine iv_iconst hx hb dL_sets_68 ?_
          refine iv_ine (tgt := 84) hx hb g5 (by decide +kernel) dL_sets_69 (by decide) (fun c78 => ?_) (fun c78 => ?_)
          · have h := it_f c78 h
            refine lv_iload hx hb dL_sets_84 (lv_at hl 0 rfl) ?_
            refine lv_iload hx hb dL_sets_86 (lv_at hl 0 rfl) ?_
            refine iv_iconst hx hb dL_sets_88 ?_
            refine iv_ishr hx hb dL_sets_89 ?_
            refine iv_iconst hx hb dL_sets_90 ?_
            obtain ⟨u79, q80, h⟩ := bd_t h
            refine iv_callS (As := [.int (zi (srI v3 5)), .int (zi 2)]) (rest := [.int (zi v3)]) ⟨hx, hb, hml, hown, hts⟩ (k_L_low l E H.size (srI v3 5) 2 u79 q80) (va_cwS 2 hts gL_sets_L_low rfl rfl rfl (by decide +kernel) ⟨Nat.le_of_ble_eq_true rfl, Nat.le_of_ble_eq_true rfl⟩) hK hP hS hA rfl hl.1 (Nat.le_of_ble_eq_true rfl) ⟨Nat.le_of_ble_eq_true rfl, Nat.le_of_ble_eq_true rfl⟩ dL_sets_91 (fun H locs hP hS => ?_)
            obtain ⟨g81, h⟩ := gd_t h
            obtain ⟨j84, e85, h⟩ := jn2_t h
            have hj84 : ∀ (v82 : Int) (s83 : bLXn) (H : Heap) (locs : List Loc) (ls : Array Slot), j84 v82 s83 = some u → va_P E.1 vwCl (wLXn a hs an E s83) H → va_D A (wLXn a hs an E s83) → va_S A s.heap H locs → lv_has ls 8 [(4, .int (zi v3)), (3, .int (zi u1)), (0, .ref (a 0)), (1, .ref (an 0)), (2, .int (zi x2))] → W p l e ({ frames := 5, cells := 0, slots := 0, locals := 112 }) s m ([.ref (a 0), .ref (an 0), .int (zi x2)] : List Value).toArray below meth c H locs 0 0 (MQ below (mQix E (fun h1 => wLXn a h1 an E u.2) u.1 A) ([.ref (a 0), .ref (an 0), .int (zi x2)] : List Value).toArray s 0 0 A) (F0 m 103 ls [.int (zi v82), .int (zi v3)]) := by
              intro v82 s83 H locs ls h hP hD hS hl
              rw [e85] at h
              obtain ⟨u86, q87, h⟩ := bd_t h
              refine iv_callS (As := [.int (zi v3), .int (zi v82)]) (rest := []) ⟨hx, hb, hml, hown, hts⟩ (k_L_low l E H.size v3 v82 u86 q87) (va_cwS 2 hts gL_sets_L_low rfl rfl rfl (by decide +kernel) ⟨Nat.le_of_ble_eq_true rfl, Nat.le_of_ble_eq_true rfl⟩) hK hP hS hA rfl hl.1 (Nat.le_of_ble_eq_true rfl) ⟨Nat.le_of_ble_eq_true rfl, Nat.le_of_ble_eq_true rfl⟩ dL_sets_103 (fun H locs hP hS => ?_)
              exact hj8 u86 s83 _ _ _ h hP hD hS (lv_sub hl [0, 1, 2, 3, 4] rfl)
            refine iv_ne (tgt := 102) hx hb g81 dL_sets_94 (by decide) (fun c88 => ?_) (fun c88 => ?_)
            · have h := it_f c88 h
              refine iv_iconst hx hb dL_sets_102 ?_
              exact hj84 4 z _ _ _ h hP hD hS (lv_sub hl [0, 1, 2, 3, 4] rfl)
            · have h := it_t c88 h
              refine iv_bipush hx hb dL_sets_97 (by decide +kernel) ?_
              refine lv_goto (tgt := 103) hx hb dL_sets_99 (by decide) ?_
              exact hj84 21 z _ _ _ h hP hD hS (lv_sub hl [0, 1, 2, 3, 4] rfl)
          · have h := it_t c78 h
            refine iv_iconst hx hb dL_sets_72 ?_
            refine lv_iload hx hb dL_sets_73 (lv_at hl 0 rfl) ?_
            refine iv_bipush hx hb dL_sets_75 (by decide +kernel) ?_
            obtain ⟨u89, q90, h⟩ := bd_t h
            refine iv_callS (As := [.int (zi v3), .int (zi 9)]) (rest := [.int (zi 1)]) ⟨hx, hb, hml, hown, hts⟩ (k_L_low l E H.size v3 9 u89 q90) (va_cwS 2 hts gL_sets_L_low rfl rfl rfl (by decide +kernel) ⟨Nat.le_of_ble_eq_true rfl, Nat.le_of_ble_eq_true rfl⟩) hK hP hS hA rfl hl.1 (Nat.le_of_ble_eq_true rfl) ⟨Nat.le_of_ble_eq_true rfl, Nat.le_of_ble_eq_true rfl⟩ dL_sets_77 (fun H locs hP hS => ?_)
            refine iv_iadd hx hb dL_sets_80 ?_
            refine lv_goto (tgt := 106) hx hb dL_sets_81 (by decide) ?_
            exact hj8 (1 + u89) z _ _ _ h hP hD hS (lv_sub hl [0, 1, 2, 3, 4] rfl)
        · have h := it_t c77 h
          refine iv_iconst hx hb dL_sets_55 ?_
          refine lv_iload hx hb dL_sets_56 (lv_at hl 0 rfl) ?_
          refine iv_bipush hx hb dL_sets_58 (by decide +kernel) ?_
          obtain ⟨u91, q92, h⟩ := bd_t h
          refine iv_callS (As := [.int (zi v3), .int (zi 10)]) (rest := [.int (zi 1)]) ⟨hx, hb, hml, hown, hts⟩ (k_L_low l E H.size v3 10 u91 q92) (va_cwS 2 hts gL_sets_L_low rfl rfl rfl (by decide +kernel) ⟨Nat.le_of_ble_eq_true rfl, Nat.le_of_ble_eq_true rfl⟩) hK hP hS hA rfl hl.1 (Nat.le_of_ble_eq_true rfl) ⟨Nat.le_of_ble_eq_true rfl, Nat.le_of_ble_eq_true rfl⟩ dL_sets_60 (fun H locs hP hS => ?_)
          refine iv_iadd hx hb dL_sets_63 ?_
          refine lv_goto (tgt := 106) hx hb dL_sets_64 (by decide) ?_
          exact hj8 (1 + u91) z _ _ _ h hP hD hS (lv_sub hl [0, 1, 2, 3, 4] rfl)
      · have h := it_t c76 h
        refine lv_iload hx hb dL_sets_40 (lv_at hl 0 rfl) ?_
        refine iv_bipush hx hb dL_sets_42 (by decide +kernel) ?_
        obtain ⟨u93, q94, h⟩ := bd_t h
        refine iv_callS (As := [.int (zi v3), .int (zi 10)]) (rest := []) ⟨hx, hb, hml, hown, hts⟩ (k_L_low l E H.size v3 10 u93 q94) (va_cwS 2 hts gL_sets_L_low rfl rfl rfl (by decide +kernel) ⟨Nat.le_of_ble_eq_true rfl, Nat.le_of_ble_eq_true rfl⟩) hK hP hS hA rfl hl.1 (Nat.le_of_ble_eq_true rfl) ⟨Nat.le_of_ble_eq_true rfl, Nat.le_of_ble_eq_true rfl⟩ dL_sets_44 (fun H locs hP hS => ?_)
        refine lv_goto (tgt := 106) hx hb dL_sets_47 (by decide) ?_
        exact hj8 u93 z _ _ _ h hP hD hS (lv_sub hl [0, 1, 2, 3, 4] rfl)
  · have h := it_f c72 h
    refine iv_iconst hx hb dL_sets_17 ?_
    refine lv_iload hx hb dL_sets_18 (lv_at hl 0 rfl) ?_
    refine iv_bipush hx hb dL_sets_20 (by decide +kernel) ?_
    obtain ⟨u95, q96, h⟩ := bd_t h
    refine iv_callS (As := [.int (zi v3), .int (zi 30)]) (rest := [.int (zi 1)]) ⟨hx, hb, hml, hown, hts⟩ (k_L_low l E H.size v3 30 u95 q96) (va_cwS 2 hts gL_sets_L_low rfl rfl rfl (by decide +kernel) ⟨Nat.le_of_ble_eq_true rfl, Nat.le_of_ble_eq_true rfl⟩) hK hP hS hA rfl hl.1 (Nat.le_of_ble_eq_true rfl) ⟨Nat.le_of_ble_eq_true rfl, Nat.le_of_ble_eq_true rfl⟩ dL_sets_22 (fun H locs hP hS => ?_)
    refine iv_iadd hx hb dL_sets_25 ?_
    refine lv_goto (tgt := 106) hx hb dL_sets_26 (by decide) ?_
    exact hj8 (1 + u95) z _ _ _ h hP hD hS (lv_sub hl [0, 1, 2, 3, 4] rfl)
set_option maxHeartbeats 4000000 in
set_option maxRecDepth 100000 in
theorem k_L_acts (l : Launch) (E : wE) (a hs ag am ap aw an : Nat → Nat) (sz : Nat) (N : Nat) (x6 x7 : Int) (z : bLXgmpwn) (u : (Int × bLXgmpwn)) (hf : f_L_acts N x6 x7 z = some u) : cIxs l yL_acts wsL_acts { frames := 7, cells := 0, slots := 0, locals := 164 } E sz [.ref (a 0), .ref (ag 0), .ref (am 0), .ref (ap 0), .ref (aw 0), .ref (an 0), .int (zi x6), .int (zi x7)] (wLXgmpwn a hs ag am ap aw an E z) (fun h1 => wLXgmpwn a h1 ag am ap aw an E u.2) u.1 := by
  refine met_goS (cc := cL_acts) (maxL := 16) (ret := (some .boolean)) (Q0 := mQix E (fun h1 => wLXgmpwn a h1 ag am ap aw an E u.2) u.1) (by decide +kernel) rfl (Nat.le_of_ble_eq_true rfl) ?_
  intro A p e s m below meth c hx hb hr hml hts hown hlocks hZ hP hK hD hA hS ls hl
  have hl : lv_has ls 16 [(0, .ref (a 0)), (1, .ref (ag 0)), (2, .ref (am 0)), (3, .ref (ap 0)), (4, .ref (aw 0)), (5, .ref (an 0)), (6, .int (zi x6)), (7, .int (zi x7))] := hl
  generalize hH : s.heap = H at hP
  have hS : va_S A s.heap H [] := by rw [← hH]; exact hS
  have hown : s.vm.findClass RL = some m.cls := hown
  have loop134 : ∀ (kt : Int → Int → Int → Int → Int → bLXgmpwn → Option (Int × bLXgmpwn)) (n : Nat), (∀ (v70 : Int) (v71 : Int) (v72 : Int) (v73 : Int) (v74 : Int) (s75 : bLXgmpwn) (H : Heap) (locs : List Loc) (ls : Array Slot), kt v70 v71 v72 v73 v74 s75 = some u → va_P E.1 vwCl (wLXgmpwn a hs ag am ap aw an E s75) H → va_D A (wLXgmpwn a hs ag am ap aw an E s75) → va_S A s.heap H locs → lv_has ls 16 [(0, .ref (a 0)), (1, .ref (ag 0)), (2, .ref (am 0)), (3, .ref (ap 0)), (4, .ref (aw 0)), (5, .ref (an 0)), (6, .int (zi v70)), (7, .int (zi v71)), (8, .int (zi v72)), (9, .int (zi v73)), (10, .int (zi v74))] → W p l e ({ frames := 7, cells := 0, slots := 0, locals := 164 }) s m ([.ref (a 0), .ref (ag 0), .ref (am 0), .ref (ap 0), .ref (aw 0), .ref (an 0), .int (zi x6), .int (zi x7)] : List Value).toArray below meth c H locs 0 0 (MQ below (mQix E (fun h1 => wLXgmpwn a h1 ag am ap aw an E u.2) u.1 A) ([.ref (a 0), .ref (ag 0), .ref (am 0), .ref (ap 0), .ref (aw 0), .ref (an 0), .int (zi x6), .int (zi x7)] : List Value).toArray s 0 0 A) (F0 m 176 ls [])) → ∀ (v70 : Int) (v71 : Int) (v72 : Int) (v73 : Int) (v74 : Int) (s75 : bLXgmpwn) (H : Heap) (locs : List Loc) (ls : Array Slot), f_L_acts_L134 N kt n v70 v71 v72 v73 v74 s75 = some u → va_P E.1 vwCl (wLXgmpwn a hs ag am ap aw an E s75) H → va_D A (wLXgmpwn a hs ag am ap aw an E s75) → va_S A s.heap H locs → lv_has ls 16 [(0, .ref (a 0)), (1, .ref (ag 0)), (2, .ref (am 0)), (3, .ref (ap 0)), (4, .ref (aw 0)), (5, .ref (an 0)), (6, .int (zi v70)), (7, .int (zi v71)), (8, .int (zi v72)), (9, .int (zi v73)), (10, .int (zi v74))] → W p l e ({ frames := 7, cells := 0, slots := 0, locals := 164 }) s m ([.ref (a 0), .ref (ag 0), .ref (am 0), .ref (ap 0), .ref (aw 0), .ref (an 0), .int (zi x6), .int (zi x7)] : List Value).toArray below meth c H locs 0 0 (MQ below (mQix E (fun h1 => wLXgmpwn a h1 ag am ap aw an E u.2) u.1 A) ([.ref (a 0), .ref (ag 0), .ref (am 0), .ref (ap 0), .ref (aw 0), .ref (an 0), .int (zi x6), .int (zi x7)] : List Value).toArray s 0 0 A) (F0 m 134 ls []) := by
    intro kt n hk
    induction n with
    | zero =>
      intro v70 v71 v72 v73 v74 s75 H locs ls h
      exact absurd (show (none : Option (Int × bLXgmpwn)) = some u from h) (by simp)
    | succ n ih =>
      intro v70 v71 v72 v73 v74 s75 H locs ls h hP hD hS hl
      rw [f_L_acts_L134] at h
      refine lv_iload hx hb dL_acts_134 (lv_at hl 10 rfl) ?_
      refine lv_aload hx hb dL_acts_136 (lv_at hl 5 rfl) ?_
      refine iv_bipush hx hb dL_acts_138 (by decide +kernel) ?_
      refine iv_iald (f := s75.2.2.2.2.2) (j := 13) hx hb hK.1 hP 130 0 rfl rfl (by decide) (by decide +kernel) rfl dL_acts_140 ?_
      obtain ⟨g76, h⟩ := gd_t h
      obtain ⟨g77, h⟩ := gd_t h
      refine iv_ige (tgt := 176) hx hb g76 g77 dL_acts_141 (by decide) (fun c78 => ?_) (fun c78 => ?_)
      · have h := it_t c78 h
        exact hk v70 v71 v72 v73 v74 s75 _ _ _ h hP hD hS (lv_sub hl [0, 1, 2, 3, 4, 5, 6, 7, 8, 9, 10] rfl)
      · have h := it_f c78 h
        refine lv_aload_n hx hb dL_acts_144 rfl (lv_at hl 3 rfl) ?_
        refine iv_iconst hx hb dL_acts_145 ?_
        refine lv_iload hx hb dL_acts_146 (lv_at hl 10 rfl) ?_
        refine iv_imul hx hb dL_acts_148 ?_
        refine lv_aload_n hx hb dL_acts_149 rfl (lv_at hl 3 rfl) ?_
        refine iv_iconst hx hb dL_acts_150 ?_
        refine lv_iload hx hb dL_acts_151 (lv_at hl 10 rfl) ?_
        refine iv_imul hx hb dL_acts_153 ?_
        obtain ⟨g79, h⟩ := gd_t h
        refine iv_iald (f := s75.2.2.2.1) (j := (3 * v74).toNat) hx hb hK.1 hP 128 0 rfl rfl (by decide) g79 rfl dL_acts_154 ?_
        refine iv_iconst hx hb dL_acts_155 ?_
        obtain ⟨g80, h⟩ := gd_t h
        obtain ⟨j83, e84, h⟩ := jn2_t h
        have hj83 : ∀ (v81 : Int) (s82 : bLXgmpwn) (H : Heap) (locs : List Loc) (ls : Array Slot), j83 v81 s82 = some u → va_P E.1 vwCl (wLXgmpwn a hs ag am ap aw an E s82) H → va_D A (wLXgmpwn a hs ag am ap aw an E s82) → va_S A s.heap H locs → lv_has ls 16 [(0, .ref (a 0)), (1, .ref (ag 0)), (2, .ref (am 0)), (3, .ref (ap 0)), (4, .ref (aw 0)), (5, .ref (an 0)), (6, .int (zi v70)), (7, .int (zi v71)), (8, .int (zi v72)), (9, .int (zi v73)), (10, .int (zi v74))] → W p l e ({ frames := 7, cells := 0, slots := 0, locals := 164 }) s m ([.ref (a 0), .ref (ag 0), .ref (am 0), .ref (ap 0), .ref (aw 0), .ref (an 0), .int (zi x6), .int (zi x7)] : List Value).toArray below meth c H locs 0 0 (MQ below (mQix E (fun h1 => wLXgmpwn a h1 ag am ap aw an E u.2) u.1 A) ([.ref (a 0), .ref (ag 0), .ref (am 0), .ref (ap 0), .ref (aw 0), .ref (an 0), .int (zi x6), .int (zi x7)] : List Value).toArray s 0 0 A) (F0 m 169 ls [.int (zi v81), .int (zi (3 * v74)), .ref (ap 0)]) := by
          intro v81 s82 H locs ls h hP hD hS hl
          rw [e84] at h
          obtain ⟨s85, e86, h⟩ := nm_t h
          refine iv_iast (f := s82.2.2.2.1) (j := (3 * v74).toNat) (ws1 := wLXgmpwn a hs ag am ap aw an E s85) hx hb hK.1 hP hD hS 128 0 rfl rfl (by decide) g79 rfl (by rw [e86]; rfl) dL_acts_169 (fun H locs hP hD hS => ?_)
          refine lv_iinc (v := zi (v74 + 1)) (lv' := [(10, .int (zi (v74 + 1))), (0, .ref (a 0)), (1, .ref (ag 0)), (2, .ref (am 0)), (3, .ref (ap 0)), (4, .ref (aw 0)), (5, .ref (an 0)), (6, .int (zi v70)), (7, .int (zi v71)), (8, .int (zi v72)), (9, .int (zi v73))]) hx hb dL_acts_170 hl (k := 10) rfl (by rw [zi_add]; rfl) (by decide) rfl (fun ls hl => ?_)
          refine lv_goto (tgt := 134) hx hb dL_acts_173 (by decide) ?_
          exact ih v70 v71 v72 v73 (v74 + 1) s85 _ _ _ h hP hD hS (lv_sub hl [1, 2, 3, 4, 5, 6, 7, 8, 9, 10, 0] rfl)
        refine iv_ine (tgt := 163) hx hb g80 (by decide +kernel) dL_acts_156 (by decide) (fun c87 => ?_) (fun c87 => ?_)
        · have h := it_f c87 h
          refine lv_aload_n hx hb dL_acts_163 rfl (lv_at hl 3 rfl) ?_
          refine iv_iconst hx hb dL_acts_164 ?_
          refine lv_iload hx hb dL_acts_165 (lv_at hl 10 rfl) ?_
          refine iv_imul hx hb dL_acts_167 ?_
          refine iv_iald (f := s75.2.2.2.1) (j := (3 * v74).toNat) hx hb hK.1 hP 128 0 rfl rfl (by decide) g79 rfl dL_acts_168 ?_
          exact hj83 (s75.2.2.2.1 ((3 * v74).toNat)) s75 _ _ _ h hP hD hS (lv_sub hl [0, 1, 2, 3, 4, 5, 6, 7, 8, 9, 10] rfl)
        · have h := it_t c87 h
          refine iv_iconst hx hb dL_acts_159 ?_
          refine lv_goto (tgt := 169) hx hb dL_acts_160 (by decide) ?_
          exact hj83 3 s75 _ _ _ h hP hD hS (lv_sub hl [0, 1, 2, 3, 4, 5, 6, 7, 8, 9, 10] rfl)
  have loop207 : ∀ (kt : Int → Int → Int → Int → Int → bLXgmpwn → Option (Int × bLXgmpwn)) (n : Nat), (∀ (v114 : Int) (v115 : Int) (v116 : Int) (v117 : Int) (v118 : Int) (s119 : bLXgmpwn) (H : Heap) (locs : List Loc) (ls : Array Slot), kt v114 v115 v116 v117 v118 s119 = some u → va_P E.1 vwCl (wLXgmpwn a hs ag am ap aw an E s119) H → va_D A (wLXgmpwn a hs ag am ap aw an E s119) → va_S A s.heap H locs → lv_has ls 16 [(0, .ref (a 0)), (1, .ref (ag 0)), (2, .ref (am 0)), (3, .ref (ap 0)), (4, .ref (aw 0)), (5, .ref (an 0)), (6, .int (zi v114)), (7, .int (zi v115)), (8, .int (zi v116)), (10, .int (zi v117)), (11, .int (zi v118))] → W p l e ({ frames := 7, cells := 0, slots := 0, locals := 164 }) s m ([.ref (a 0), .ref (ag 0), .ref (am 0), .ref (ap 0), .ref (aw 0), .ref (an 0), .int (zi x6), .int (zi x7)] : List Value).toArray below meth c H locs 0 0 (MQ below (mQix E (fun h1 => wLXgmpwn a h1 ag am ap aw an E u.2) u.1 A) ([.ref (a 0), .ref (ag 0), .ref (am 0), .ref (ap 0), .ref (aw 0), .ref (an 0), .int (zi x6), .int (zi x7)] : List Value).toArray s 0 0 A) (F0 m 285 ls [])) → ∀ (v114 : Int) (v115 : Int) (v116 : Int) (v117 : Int) (v118 : Int) (s119 : bLXgmpwn) (H : Heap) (locs : List Loc) (ls : Array Slot), f_L_acts_L207 N kt n v114 v115 v116 v117 v118 s119 = some u → va_P E.1 vwCl (wLXgmpwn a hs ag am ap aw an E s119) H → va_D A (wLXgmpwn a hs ag am ap aw an E s119) → va_S A s.heap H locs → lv_has ls 16 [(0, .ref (a 0)), (1, .ref (ag 0)), (2, .ref (am 0)), (3, .ref (ap 0)), (4, .ref (aw 0)), (5, .ref (an 0)), (6, .int (zi v114)), (7, .int (zi v115)), (8, .int (zi v116)), (10, .int (zi v117)), (11, .int (zi v118))] → W p l e ({ frames := 7, cells := 0, slots := 0, locals := 164 }) s m ([.ref (a 0), .ref (ag 0), .ref (am 0), .ref (ap 0), .ref (aw 0), .ref (an 0), .int (zi x6), .int (zi x7)] : List Value).toArray below meth c H locs 0 0 (MQ below (mQix E (fun h1 => wLXgmpwn a h1 ag am ap aw an E u.2) u.1 A) ([.ref (a 0), .ref (ag 0), .ref (am 0), .ref (ap 0), .ref (aw 0), .ref (an 0), .int (zi x6), .int (zi x7)] : List Value).toArray s 0 0 A) (F0 m 207 ls []) := by
    intro kt n hk
    induction n with
    | zero =>
      intro v114 v115 v116 v117 v118 s119 H locs ls h
      exact absurd (show (none : Option (Int × bLXgmpwn)) = some u from h) (by simp)
    | succ n ih =>
      intro v114 v115 v116 v117 v118 s119 H locs ls h hP hD hS hl
      rw [f_L_acts_L207] at h
      refine lv_iload hx hb dL_acts_207 (lv_at hl 10 rfl) ?_
      refine lv_aload hx hb dL_acts_209 (lv_at hl 5 rfl) ?_
      refine iv_bipush hx hb dL_acts_211 (by decide +kernel) ?_
      refine iv_iald (f := s119.2.2.2.2.2) (j := 13) hx hb hK.1 hP 130 0 rfl rfl (by decide) (by decide +kernel) rfl dL_acts_213 ?_
      obtain ⟨g120, h⟩ := gd_t h
      obtain ⟨g121, h⟩ := gd_t h
      refine iv_ige (tgt := 285) hx hb g120 g121 dL_acts_214 (by decide) (fun c122 => ?_) (fun c122 => ?_)
      · have h := it_t c122 h
        exact hk v114 v115 v116 v117 v118 s119 _ _ _ h hP hD hS (lv_sub hl [0, 1, 2, 3, 4, 5, 6, 7, 8, 9, 10] rfl)
      · have h := it_f c122 h
        refine lv_aload_n hx hb dL_acts_217 rfl (lv_at hl 3 rfl) ?_
        refine iv_iconst hx hb dL_acts_218 ?_
        refine lv_iload hx hb dL_acts_219 (lv_at hl 10 rfl) ?_
        refine iv_imul hx hb dL_acts_221 ?_
        obtain ⟨g123, h⟩ := gd_t h
        refine iv_iald (f := s119.2.2.2.1) (j := (3 * v118).toNat) hx hb hK.1 hP 128 0 rfl rfl (by decide) g123 rfl dL_acts_222 ?_
        refine iv_iconst hx hb dL_acts_223 ?_
        obtain ⟨g124, h⟩ := gd_t h
        obtain ⟨j127, e128, h⟩ := jn2_t h
        have hj127 : ∀ (v125 : Int) (s126 : bLXgmpwn) (H : Heap) (locs : List Loc) (ls : Array Slot), j127 v125 s126 = some u → va_P E.1 vwCl (wLXgmpwn a hs ag am ap aw an E s126) H → va_D A (wLXgmpwn a hs ag am ap aw an E s126) → va_S A s.heap H locs → lv_has ls 16 [(0, .ref (a 0)), (1, .ref (ag 0)), (2, .ref (am 0)), (3, .ref (ap 0)), (4, .ref (aw 0)), (5, .ref (an 0)), (6, .int (zi v114)), (7, .int (zi v115)), (8, .int (zi v116)), (10, .int (zi v125)), (11, .int (zi v118))] → W p l e ({ frames := 7, cells := 0, slots := 0, locals := 164 }) s m ([.ref (a 0), .ref (ag 0), .ref (am 0), .ref (ap 0), .ref (aw 0), .ref (an 0), .int (zi x6), .int (zi x7)] : List Value).toArray below meth c H locs 0 0 (MQ below (mQix E (fun h1 => wLXgmpwn a h1 ag am ap aw an E u.2) u.1 A) ([.ref (a 0), .ref (ag 0), .ref (am 0), .ref (ap 0), .ref (aw 0), .ref (an 0), .int (zi x6), .int (zi x7)] : List Value).toArray s 0 0 A) (F0 m 279 ls []) := by
          intro v125 s126 H locs ls h hP hD hS hl
          rw [e128] at h
          refine lv_iinc (v := zi (v118 + 1)) (lv' := [(11, .int (zi (v118 + 1))), (0, .ref (a 0)), (1, .ref (ag 0)), (2, .ref (am 0)), (3, .ref (ap 0)), (4, .ref (aw 0)), (5, .ref (an 0)), (6, .int (zi v114)), (7, .int (zi v115)), (8, .int (zi v116)), (10, .int (zi v125))]) hx hb dL_acts_279 hl (k := 10) rfl (by rw [zi_add]; rfl) (by decide) rfl (fun ls hl => ?_)
          refine lv_goto (tgt := 207) hx hb dL_acts_282 (by decide) ?_
          exact ih v114 v115 v116 v125 (v118 + 1) s126 _ _ _ h hP hD hS (lv_sub hl [1, 2, 3, 4, 5, 6, 7, 8, 9, 10, 0] rfl)
        refine iv_ine (tgt := 279) hx hb g124 (by decide +kernel) dL_acts_224 (by decide) (fun c129 => ?_) (fun c129 => ?_)
        · have h := it_f c129 h
          exact hj127 v117 s119 _ _ _ h hP hD hS (lv_sub hl [0, 1, 2, 3, 4, 5, 6, 7, 8, 9, 10] rfl)
        · have h := it_t c129 h
          refine lv_aload_n hx hb dL_acts_227 rfl (lv_at hl 3 rfl) ?_
          refine iv_iconst hx hb dL_acts_228 ?_
          refine lv_iload hx hb dL_acts_229 (lv_at hl 10 rfl) ?_
          refine iv_imul hx hb dL_acts_231 ?_
          refine iv_iconst hx hb dL_acts_232 ?_
          refine iv_iadd hx hb dL_acts_233 ?_
          obtain ⟨g130, h⟩ := gd_t h
          refine iv_iald (f := s119.2.2.2.1) (j := ((3 * v118) + 1).toNat) hx hb hK.1 hP 128 0 rfl rfl (by decide) g130 rfl dL_acts_234 ?_
          refine lv_iload hx hb dL_acts_235 (lv_at hl 8 rfl) ?_
          obtain ⟨g131, h⟩ := gd_t h
          obtain ⟨g132, h⟩ := gd_t h
          refine iv_ine (tgt := 279) hx hb g131 g132 dL_acts_237 (by decide) (fun c133 => ?_) (fun c133 => ?_)
          · have h := it_f c133 h
            exact hj127 v117 s119 _ _ _ h hP hD hS (lv_sub hl [0, 1, 2, 3, 4, 5, 6, 7, 8, 9, 10] rfl)
          · have h := it_t c133 h
            refine lv_aload_n hx hb dL_acts_240 rfl (lv_at hl 3 rfl) ?_
            refine iv_iconst hx hb dL_acts_241 ?_
            refine lv_iload hx hb dL_acts_242 (lv_at hl 10 rfl) ?_
            refine iv_imul hx hb dL_acts_244 ?_
            refine iv_iconst hx hb dL_acts_245 ?_
            obtain ⟨s134, e135, h⟩ := nm_t h
            refine iv_iast (f := s119.2.2.2.1) (j := (3 * v118).toNat) (ws1 := wLXgmpwn a hs ag am ap aw an E s134) hx hb hK.1 hP hD hS 128 0 rfl rfl (by decide) g123 rfl (by rw [e135]; rfl) dL_acts_246 (fun H locs hP hD hS => ?_)
            refine lv_aload_n hx hb dL_acts_247 rfl (lv_at hl 3 rfl) ?_
            refine iv_iconst hx hb dL_acts_248 ?_
            refine lv_iload hx hb dL_acts_249 (lv_at hl 10 rfl) ?_
            refine iv_imul hx hb dL_acts_251 ?_
            refine iv_iconst hx hb dL_acts_252 ?_
            refine iv_iadd hx hb dL_acts_253 ?_
            refine iv_bipush hx hb dL_acts_254 (by decide +kernel) ?_
            obtain ⟨s136, e137, h⟩ := nm_t h
            refine iv_iast (f := s134.2.2.2.1) (j := ((3 * v118) + 1).toNat) (ws1 := wLXgmpwn a hs ag am ap aw an E s136) hx hb hK.1 hP hD hS 128 0 rfl rfl (by decide) g130 rfl (by rw [e137]; rfl) dL_acts_256 (fun H locs hP hD hS => ?_)
            refine lv_aload hx hb dL_acts_257 (lv_at hl 4 rfl) ?_
            refine lv_aload hx hb dL_acts_259 (lv_at hl 5 rfl) ?_
            refine iv_bipush hx hb dL_acts_261 (by decide +kernel) ?_
            refine iv_iald (f := s136.2.2.2.2.2) (j := 14) hx hb hK.1 hP 130 0 rfl rfl (by decide) (by decide +kernel) rfl dL_acts_263 ?_
            refine lv_iload hx hb dL_acts_264 (lv_at hl 10 rfl) ?_
            obtain ⟨g138, h⟩ := gd_t h
            obtain ⟨s139, e140, h⟩ := nm_t h
            refine iv_iast (f := s136.2.2.2.2.1) (j := (s136.2.2.2.2.2 14).toNat) (ws1 := wLXgmpwn a hs ag am ap aw an E s139) hx hb hK.1 hP hD hS 129 0 rfl rfl (by decide) g138 rfl (by rw [e140]; rfl) dL_acts_266 (fun H locs hP hD hS => ?_)
            refine lv_aload hx hb dL_acts_267 (lv_at hl 5 rfl) ?_
            refine iv_bipush hx hb dL_acts_269 (by decide +kernel) ?_
            refine lv_dup2_11 hx hb dL_acts_271 rfl rfl ?_
            refine iv_iald (f := s139.2.2.2.2.2) (j := 14) hx hb hK.1 hP 130 0 rfl rfl (by decide) (by decide +kernel) rfl dL_acts_272 ?_
            refine iv_iconst hx hb dL_acts_273 ?_
            refine iv_iadd hx hb dL_acts_274 ?_
            obtain ⟨s141, e142, h⟩ := nm_t h
            refine iv_iast (f := s139.2.2.2.2.2) (j := 14) (ws1 := wLXgmpwn a hs ag am ap aw an E s141) hx hb hK.1 hP hD hS 130 0 rfl rfl (by decide) (by decide +kernel) rfl (by rw [e142]; rfl) dL_acts_275 (fun H locs hP hD hS => ?_)
            refine lv_iinc (v := zi (v117 + 1)) (lv' := [(10, .int (zi (v117 + 1))), (0, .ref (a 0)), (1, .ref (ag 0)), (2, .ref (am 0)), (3, .ref (ap 0)), (4, .ref (aw 0)), (5, .ref (an 0)), (6, .int (zi v114)), (7, .int (zi v115)), (8, .int (zi v116)), (11, .int (zi v118))]) hx hb dL_acts_276 hl (k := 9) rfl (by rw [zi_add]; rfl) (by decide) rfl (fun ls hl => ?_)
            exact hj127 (v117 + 1) s141 _ _ _ h hP hD hS (lv_sub hl [1, 2, 3, 4, 5, 6, 7, 8, 9, 0, 10] rfl)
  have loop577 : ∀ (kt : Int → Int → Int → Int → Int → bLXgmpwn → Option (Int × bLXgmpwn)) (n : Nat), (∀ (v457 : Int) (v458 : Int) (v459 : Int) (v460 : Int) (v461 : Int) (s462 : bLXgmpwn) (H : Heap) (locs : List Loc) (ls : Array Slot), kt v457 v458 v459 v460 v461 s462 = some u → va_P E.1 vwCl (wLXgmpwn a hs ag am ap aw an E s462) H → va_D A (wLXgmpwn a hs ag am ap aw an E s462) → va_S A s.heap H locs → lv_has ls 16 [(0, .ref (a 0)), (1, .ref (ag 0)), (2, .ref (am 0)), (3, .ref (ap 0)), (4, .ref (aw 0)), (5, .ref (an 0)), (6, .int (zi v457)), (7, .int (zi v458)), (8, .int (zi v459)), (14, .int (zi v460)), (15, .int (zi v461))] → W p l e ({ frames := 7, cells := 0, slots := 0, locals := 164 }) s m ([.ref (a 0), .ref (ag 0), .ref (am 0), .ref (ap 0), .ref (aw 0), .ref (an 0), .int (zi x6), .int (zi x7)] : List Value).toArray below meth c H locs 0 0 (MQ below (mQix E (fun h1 => wLXgmpwn a h1 ag am ap aw an E u.2) u.1 A) ([.ref (a 0), .ref (ag 0), .ref (am 0), .ref (ap 0), .ref (aw 0), .ref (an 0), .int (zi x6), .int (zi x7)] : List Value).toArray s 0 0 A) (F0 m 608 ls [])) → ∀ (v457 : Int) (v458 : Int) (v459 : Int) (v460 : Int) (v461 : Int) (s462 : bLXgmpwn) (H : Heap) (locs : List Loc) (ls : Array Slot), f_L_acts_L577 N kt n v457 v458 v459 v460 v461 s462 = some u → va_P E.1 vwCl (wLXgmpwn a hs ag am ap aw an E s462) H → va_D A (wLXgmpwn a hs ag am ap aw an E s462) → va_S A s.heap H locs → lv_has ls 16 [(0, .ref (a 0)), (1, .ref (ag 0)), (2, .ref (am 0)), (3, .ref (ap 0)), (4, .ref (aw 0)), (5, .ref (an 0)), (6, .int (zi v457)), (7, .int (zi v458)), (8, .int (zi v459)), (14, .int (zi v460)), (15, .int (zi v461))] → W p l e ({ frames := 7, cells := 0, slots := 0, locals := 164 }) s m ([.ref (a 0), .ref (ag 0), .ref (am 0), .ref (ap 0), .ref (aw 0), .ref (an 0), .int (zi x6), .int (zi x7)] : List Value).toArray below meth c H locs 0 0 (MQ below (mQix E (fun h1 => wLXgmpwn a h1 ag am ap aw an E u.2) u.1 A) ([.ref (a 0), .ref (ag 0), .ref (am 0), .ref (ap 0), .ref (aw 0), .ref (an 0), .int (zi x6), .int (zi x7)] : List Value).toArray s 0 0 A) (F0 m 577 ls []) := by
    intro kt n hk
    induction n with
    | zero =>
      intro v457 v458 v459 v460 v461 s462 H locs ls h
      exact absurd (show (none : Option (Int × bLXgmpwn)) = some u from h) (by simp)
    | succ n ih =>
      intro v457 v458 v459 v460 v461 s462 H locs ls h hP hD hS hl
      rw [f_L_acts_L577] at h
      refine lv_iload hx hb dL_acts_577 (lv_at hl 9 rfl) ?_
      refine lv_iload hx hb dL_acts_579 (lv_at hl 10 rfl) ?_
      obtain ⟨g463, h⟩ := gd_t h
      obtain ⟨g464, h⟩ := gd_t h
      refine iv_ige (tgt := 608) hx hb g463 g464 dL_acts_581 (by decide) (fun c465 => ?_) (fun c465 => ?_)
      · have h := it_t c465 h
        exact hk v457 v458 v459 v460 v461 s462 _ _ _ h hP hD hS (lv_sub hl [0, 1, 2, 3, 4, 5, 6, 7, 8, 9, 10] rfl)
      · have h := it_f c465 h
        refine lv_aload hx hb dL_acts_584 (lv_at hl 5 rfl) ?_
        refine iv_bipush hx hb dL_acts_586 (by decide +kernel) ?_
        refine iv_iald (f := s462.2.2.2.2.2) (j := 14) hx hb hK.1 hP 130 0 rfl rfl (by decide) (by decide +kernel) rfl dL_acts_588 ?_
        obtain ⟨g466, h⟩ := gd_t h
        refine iv_le (tgt := 608) hx hb g466 dL_acts_589 (by decide) (fun c467 => ?_) (fun c467 => ?_)
        · have h := it_t c467 h
          exact hk v457 v458 v459 v460 v461 s462 _ _ _ h hP hD hS (lv_sub hl [0, 1, 2, 3, 4, 5, 6, 7, 8, 9, 10] rfl)
        · have h := it_f c467 h
          refine lv_aload_n hx hb dL_acts_592 rfl (lv_at hl 1 rfl) ?_
          refine lv_aload_n hx hb dL_acts_593 rfl (lv_at hl 2 rfl) ?_
          refine lv_aload_n hx hb dL_acts_594 rfl (lv_at hl 3 rfl) ?_
          refine lv_aload hx hb dL_acts_595 (lv_at hl 4 rfl) ?_
          refine lv_aload hx hb dL_acts_597 (lv_at hl 5 rfl) ?_
          obtain ⟨u468, q469, h⟩ := bd_t h
          obtain ⟨s470, e471, h⟩ := nm_t h
          obtain ⟨s472, e473, h⟩ := nm_t h
          obtain ⟨s474, e475, h⟩ := nm_t h
          obtain ⟨s476, e477, h⟩ := nm_t h
          obtain ⟨s478, e479, h⟩ := nm_t h
          refine iv_callWV (As := [.ref (ag 0), .ref (am 0), .ref (ap 0), .ref (aw 0), .ref (an 0)]) (rest := []) (ws1 := wLXgmpwn a hs ag am ap aw an E s478) ⟨hx, hb, hml, hown, hts⟩ (k_L_sorts l E ag am ap aw an H.size N  (s462.2.1, s462.2.2.1, s462.2.2.2.1, s462.2.2.2.2.1, s462.2.2.2.2.2) u468 q469) (va_cwS 5 hts gL_acts_L_sorts rfl rfl rfl (by decide +kernel) ⟨Nat.le_of_ble_eq_true rfl, Nat.le_of_ble_eq_true rfl⟩) hK hP hD hS hA (pm_skip (pm_take (pm_take (pm_take (pm_take (pm_end)))))) (by rw [e479, e477, e475, e473, e471]; exact pm_skip (pm_take (pm_take (pm_take (pm_take (pm_end)))))) rfl hl.1 (Nat.le_of_ble_eq_true rfl) ⟨Nat.le_of_ble_eq_true rfl, Nat.le_of_ble_eq_true rfl⟩ dL_acts_599 (fun H locs hP hD hS => ?_)
          refine lv_iinc (v := zi (v460 + 1)) (lv' := [(14, .int (zi (v460 + 1))), (0, .ref (a 0)), (1, .ref (ag 0)), (2, .ref (am 0)), (3, .ref (ap 0)), (4, .ref (aw 0)), (5, .ref (an 0)), (6, .int (zi v457)), (7, .int (zi v458)), (8, .int (zi v459)), (15, .int (zi v461))]) hx hb dL_acts_602 hl (k := 9) rfl (by rw [zi_add]; rfl) (by decide) rfl (fun ls hl => ?_)
          refine lv_goto (tgt := 577) hx hb dL_acts_605 (by decide) ?_
          exact ih v457 v458 v459 (v460 + 1) v461 s478 _ _ _ h hP hD hS (lv_sub hl [1, 2, 3, 4, 5, 6, 7, 8, 9, 0, 10] rfl)
  have h := hf
  rw [f_L_acts] at h
  refine lv_iload hx hb dL_acts_0 (lv_at hl 7 rfl) ?_
  refine lv_iload hx hb dL_acts_2 (lv_at hl 7 rfl) ?_
  refine iv_bipush hx hb dL_acts_4 (by decide +kernel) ?_
  refine iv_ishr hx hb dL_acts_6 ?_
  refine iv_iconst hx hb dL_acts_7 ?_
  obtain ⟨u1, q2, h⟩ := bd_t h
  refine iv_callS (As := [.int (zi (srI x7 6)), .int (zi 2)]) (rest := [.int (zi x7)]) ⟨hx, hb, hml, hown, hts⟩ (k_L_low l E H.size (srI x7 6) 2 u1 q2) (va_cwS 2 hts gL_acts_L_low rfl rfl rfl (by decide +kernel) ⟨Nat.le_of_ble_eq_true rfl, Nat.le_of_ble_eq_true rfl⟩) hK hP hS hA rfl hl.1 (Nat.le_of_ble_eq_true rfl) ⟨Nat.le_of_ble_eq_true rfl, Nat.le_of_ble_eq_true rfl⟩ dL_acts_8 (fun H locs hP hS => ?_)
  obtain ⟨g3, h⟩ := gd_t h
  obtain ⟨j6, e7, h⟩ := jn2_t h
  have hj6 : ∀ (v4 : Int) (s5 : bLXgmpwn) (H : Heap) (locs : List Loc) (ls : Array Slot), j6 v4 s5 = some u → va_P E.1 vwCl (wLXgmpwn a hs ag am ap aw an E s5) H → va_D A (wLXgmpwn a hs ag am ap aw an E s5) → va_S A s.heap H locs → lv_has ls 16 [(0, .ref (a 0)), (1, .ref (ag 0)), (2, .ref (am 0)), (3, .ref (ap 0)), (4, .ref (aw 0)), (5, .ref (an 0)), (6, .int (zi x6)), (7, .int (zi x7))] → W p l e ({ frames := 7, cells := 0, slots := 0, locals := 164 }) s m ([.ref (a 0), .ref (ag 0), .ref (am 0), .ref (ap 0), .ref (aw 0), .ref (an 0), .int (zi x6), .int (zi x7)] : List Value).toArray below meth c H locs 0 0 (MQ below (mQix E (fun h1 => wLXgmpwn a h1 ag am ap aw an E u.2) u.1 A) ([.ref (a 0), .ref (ag 0), .ref (am 0), .ref (ap 0), .ref (aw 0), .ref (an 0), .int (zi x6), .int (zi x7)] : List Value).toArray s 0 0 A) (F0 m 21 ls [.int (zi v4), .int (zi x7)]) := by
    intro v4 s5 H locs ls h hP hD hS hl
    rw [e7] at h
    obtain ⟨u8, q9, h⟩ := bd_t h
    refine iv_callS (As := [.int (zi x7), .int (zi v4)]) (rest := []) ⟨hx, hb, hml, hown, hts⟩ (k_L_low l E H.size x7 v4 u8 q9) (va_cwS 2 hts gL_acts_L_low rfl rfl rfl (by decide +kernel) ⟨Nat.le_of_ble_eq_true rfl, Nat.le_of_ble_eq_true rfl⟩) hK hP hS hA rfl hl.1 (Nat.le_of_ble_eq_true rfl) ⟨Nat.le_of_ble_eq_true rfl, Nat.le_of_ble_eq_true rfl⟩ dL_acts_21 (fun H locs hP hS => ?_)
    refine lv_istore (lv' := [(8, .int (zi u8)), (0, .ref (a 0)), (1, .ref (ag 0)), (2, .ref (am 0)), (3, .ref (ap 0)), (4, .ref (aw 0)), (5, .ref (an 0)), (6, .int (zi x6)), (7, .int (zi x7))]) hx hb dL_acts_24 hl (by decide) rfl (fun ls hl => ?_)
    refine lv_iload hx hb dL_acts_26 (lv_at hl 7 rfl) ?_
    obtain ⟨g10, h⟩ := gd_t h
    by_cases c11 : x6 = 0
    · have h := it_t c11 h
      refine iv_tabIn (tgt := 88) (off := 60) hx hb dL_acts_28 g10 c11 (by decide) (by decide) rfl (by decide) ?_
      refine lv_aload_n hx hb dL_acts_88 rfl (lv_at hl 1 rfl) ?_
      refine lv_aload_n hx hb dL_acts_89 rfl (lv_at hl 2 rfl) ?_
      refine lv_aload_n hx hb dL_acts_90 rfl (lv_at hl 3 rfl) ?_
      refine lv_aload_n hx hb dL_acts_91 rfl (lv_at hl 4 rfl) ?_
      refine lv_aload hx hb dL_acts_92 (lv_at hl 5 rfl) ?_
      refine lv_aload hx hb dL_acts_94 (lv_at hl 6 rfl) ?_
      refine lv_iload hx hb dL_acts_96 (lv_at hl 8 rfl) ?_
      refine iv_iconst hx hb dL_acts_98 ?_
      refine lv_iload hx hb dL_acts_99 (lv_at hl 8 rfl) ?_
      refine iv_bipush hx hb dL_acts_101 (by decide +kernel) ?_
      refine iv_ishr hx hb dL_acts_103 ?_
      refine iv_iconst hx hb dL_acts_104 ?_
      obtain ⟨u12, q13, h⟩ := bd_t h
      refine iv_callS (As := [.int (zi (srI x7 14)), .int (zi 3)]) (rest := [.int (zi 1), .int (zi x7), .ref (an 0), .ref (aw 0), .ref (ap 0), .ref (am 0), .ref (ag 0), .ref (a 0)]) ⟨hx, hb, hml, hown, hts⟩ (k_L_low l E H.size (srI x7 14) 3 u12 q13) (va_cwS 2 hts gL_acts_L_low rfl rfl rfl (by decide +kernel) ⟨Nat.le_of_ble_eq_true rfl, Nat.le_of_ble_eq_true rfl⟩) hK hP hS hA rfl hl.1 (Nat.le_of_ble_eq_true rfl) ⟨Nat.le_of_ble_eq_true rfl, Nat.le_of_ble_eq_true rfl⟩ dL_acts_105 (fun H locs hP hS => ?_)
      refine iv_iadd hx hb dL_acts_108 ?_
      obtain ⟨u14, q15, h⟩ := bd_t h
      obtain ⟨s16, e17, h⟩ := nm_t h
      obtain ⟨s18, e19, h⟩ := nm_t h
      obtain ⟨s20, e21, h⟩ := nm_t h
      obtain ⟨s22, e23, h⟩ := nm_t h
      obtain ⟨s24, e25, h⟩ := nm_t h
      obtain ⟨s26, e27, h⟩ := nm_t h
      refine iv_callWIx (As := [.ref (a 0), .ref (ag 0), .ref (am 0), .ref (ap 0), .ref (aw 0), .ref (an 0), .int (zi x7), .int (zi (1 + u12))]) (rest := []) (wx := fun h28 => wLXgmpwn a h28 ag am ap aw an E s26) ⟨hx, hb, hml, hown, hts⟩ (k_L_comes l E a hs ag am ap aw an H.size N x7 (1 + u12) (s5.1, s5.2.1, s5.2.2.1, s5.2.2.2.1, s5.2.2.2.2.1, s5.2.2.2.2.2) u14 q15) (va_cwS 8 hts gL_acts_L_comes rfl rfl rfl (by decide +kernel) ⟨Nat.le_of_ble_eq_true rfl, Nat.le_of_ble_eq_true rfl⟩) hK hP hD hS hA (pm_take (pm_take (pm_take (pm_take (pm_take (pm_end)))))) (fun h28 => by rw [e27, e25, e23, e21, e19, e17]; exact pm_take (pm_take (pm_take (pm_take (pm_take (pm_end)))))) rfl hl.1 (Nat.le_of_ble_eq_true rfl) ⟨Nat.le_of_ble_eq_true rfl, Nat.le_of_ble_eq_true rfl⟩ dL_acts_109 (fun h28 H locs hP hD hS => ?_)
      obtain ⟨g29, h⟩ := gd_t h
      cases h
      exact iv_zretx h28 rfl hx hb hr hlocks g29 hK hP hD hS dL_acts_112
    have h := it_f c11 h
    by_cases c30 : x6 = 1
    · have h := it_t c30 h
      refine iv_tabIn (tgt := 88) (off := 60) hx hb dL_acts_28 g10 c30 (by decide) (by decide) rfl (by decide) ?_
      refine lv_aload_n hx hb dL_acts_88 rfl (lv_at hl 1 rfl) ?_
      refine lv_aload_n hx hb dL_acts_89 rfl (lv_at hl 2 rfl) ?_
      refine lv_aload_n hx hb dL_acts_90 rfl (lv_at hl 3 rfl) ?_
      refine lv_aload_n hx hb dL_acts_91 rfl (lv_at hl 4 rfl) ?_
      refine lv_aload hx hb dL_acts_92 (lv_at hl 5 rfl) ?_
      refine lv_aload hx hb dL_acts_94 (lv_at hl 6 rfl) ?_
      refine lv_iload hx hb dL_acts_96 (lv_at hl 8 rfl) ?_
      refine iv_iconst hx hb dL_acts_98 ?_
      refine lv_iload hx hb dL_acts_99 (lv_at hl 8 rfl) ?_
      refine iv_bipush hx hb dL_acts_101 (by decide +kernel) ?_
      refine iv_ishr hx hb dL_acts_103 ?_
      refine iv_iconst hx hb dL_acts_104 ?_
      obtain ⟨u31, q32, h⟩ := bd_t h
      refine iv_callS (As := [.int (zi (srI x7 14)), .int (zi 3)]) (rest := [.int (zi 1), .int (zi x7), .ref (an 0), .ref (aw 0), .ref (ap 0), .ref (am 0), .ref (ag 0), .ref (a 0)]) ⟨hx, hb, hml, hown, hts⟩ (k_L_low l E H.size (srI x7 14) 3 u31 q32) (va_cwS 2 hts gL_acts_L_low rfl rfl rfl (by decide +kernel) ⟨Nat.le_of_ble_eq_true rfl, Nat.le_of_ble_eq_true rfl⟩) hK hP hS hA rfl hl.1 (Nat.le_of_ble_eq_true rfl) ⟨Nat.le_of_ble_eq_true rfl, Nat.le_of_ble_eq_true rfl⟩ dL_acts_105 (fun H locs hP hS => ?_)
      refine iv_iadd hx hb dL_acts_108 ?_
      obtain ⟨u33, q34, h⟩ := bd_t h
      obtain ⟨s35, e36, h⟩ := nm_t h
      obtain ⟨s37, e38, h⟩ := nm_t h
      obtain ⟨s39, e40, h⟩ := nm_t h
      obtain ⟨s41, e42, h⟩ := nm_t h
      obtain ⟨s43, e44, h⟩ := nm_t h
      obtain ⟨s45, e46, h⟩ := nm_t h
      refine iv_callWIx (As := [.ref (a 0), .ref (ag 0), .ref (am 0), .ref (ap 0), .ref (aw 0), .ref (an 0), .int (zi x7), .int (zi (1 + u31))]) (rest := []) (wx := fun h47 => wLXgmpwn a h47 ag am ap aw an E s45) ⟨hx, hb, hml, hown, hts⟩ (k_L_comes l E a hs ag am ap aw an H.size N x7 (1 + u31) (s5.1, s5.2.1, s5.2.2.1, s5.2.2.2.1, s5.2.2.2.2.1, s5.2.2.2.2.2) u33 q34) (va_cwS 8 hts gL_acts_L_comes rfl rfl rfl (by decide +kernel) ⟨Nat.le_of_ble_eq_true rfl, Nat.le_of_ble_eq_true rfl⟩) hK hP hD hS hA (pm_take (pm_take (pm_take (pm_take (pm_take (pm_end)))))) (fun h47 => by rw [e46, e44, e42, e40, e38, e36]; exact pm_take (pm_take (pm_take (pm_take (pm_take (pm_end)))))) rfl hl.1 (Nat.le_of_ble_eq_true rfl) ⟨Nat.le_of_ble_eq_true rfl, Nat.le_of_ble_eq_true rfl⟩ dL_acts_109 (fun h47 H locs hP hD hS => ?_)
      obtain ⟨g48, h⟩ := gd_t h
      cases h
      exact iv_zretx h47 rfl hx hb hr hlocks g48 hK hP hD hS dL_acts_112
    have h := it_f c30 h
    by_cases c49 : x6 = 2
    · have h := it_t c49 h
      refine iv_tabIn (tgt := 113) (off := 85) hx hb dL_acts_28 g10 c49 (by decide) (by decide) rfl (by decide) ?_
      refine lv_aload_n hx hb dL_acts_113 rfl (lv_at hl 1 rfl) ?_
      refine lv_aload hx hb dL_acts_114 (lv_at hl 6 rfl) ?_
      refine lv_iload hx hb dL_acts_116 (lv_at hl 8 rfl) ?_
      obtain ⟨u50, q51, h⟩ := bd_t h
      obtain ⟨s52, e53, h⟩ := nm_t h
      obtain ⟨s54, e55, h⟩ := nm_t h
      refine iv_callWIxs (As := [.ref (a 0), .ref (an 0), .int (zi x7)]) (rest := []) (wx := fun h56 => wLXgmpwn a h56 ag am ap aw an E s54) ⟨hx, hb, hml, hown, hts⟩ (k_L_sets l E a hs an H.size x7 (s5.1, s5.2.2.2.2.2) u50 q51) (va_cwS 3 hts gL_acts_L_sets rfl rfl rfl (by decide +kernel) ⟨Nat.le_of_ble_eq_true rfl, Nat.le_of_ble_eq_true rfl⟩) hZ hK hP hD hS hA (pm_take (pm_skip (pm_skip (pm_skip (pm_skip (pm_end)))))) (fun h56 => by rw [e55, e53]; exact pm_take (pm_skip (pm_skip (pm_skip (pm_skip (pm_end)))))) rfl hl.1 (Nat.le_of_ble_eq_true rfl) ⟨Nat.le_of_ble_eq_true rfl, Nat.le_of_ble_eq_true rfl⟩ dL_acts_118 (fun h56 H locs hP hD hS => ?_)
      obtain ⟨g57, h⟩ := gd_t h
      cases h
      exact iv_zretx h56 rfl hx hb hr hlocks g57 hK hP hD hS dL_acts_121
    have h := it_f c49 h
    by_cases c58 : x6 = 3
    · have h := it_t c58 h
      refine iv_tabIn (tgt := 113) (off := 85) hx hb dL_acts_28 g10 c58 (by decide) (by decide) rfl (by decide) ?_
      refine lv_aload_n hx hb dL_acts_113 rfl (lv_at hl 1 rfl) ?_
      refine lv_aload hx hb dL_acts_114 (lv_at hl 6 rfl) ?_
      refine lv_iload hx hb dL_acts_116 (lv_at hl 8 rfl) ?_
      obtain ⟨u59, q60, h⟩ := bd_t h
      obtain ⟨s61, e62, h⟩ := nm_t h
      obtain ⟨s63, e64, h⟩ := nm_t h
      refine iv_callWIxs (As := [.ref (a 0), .ref (an 0), .int (zi x7)]) (rest := []) (wx := fun h65 => wLXgmpwn a h65 ag am ap aw an E s63) ⟨hx, hb, hml, hown, hts⟩ (k_L_sets l E a hs an H.size x7 (s5.1, s5.2.2.2.2.2) u59 q60) (va_cwS 3 hts gL_acts_L_sets rfl rfl rfl (by decide +kernel) ⟨Nat.le_of_ble_eq_true rfl, Nat.le_of_ble_eq_true rfl⟩) hZ hK hP hD hS hA (pm_take (pm_skip (pm_skip (pm_skip (pm_skip (pm_end)))))) (fun h65 => by rw [e64, e62]; exact pm_take (pm_skip (pm_skip (pm_skip (pm_skip (pm_end)))))) rfl hl.1 (Nat.le_of_ble_eq_true rfl) ⟨Nat.le_of_ble_eq_true rfl, Nat.le_of_ble_eq_true rfl⟩ dL_acts_118 (fun h65 H locs hP hD hS => ?_)
      obtain ⟨g66, h⟩ := gd_t h
      cases h
      exact iv_zretx h65 rfl hx hb hr hlocks g66 hK hP hD hS dL_acts_121
    have h := it_f c58 h
    by_cases c67 : x6 = 4
    · have h := it_t c67 h
      refine iv_tabIn (tgt := 122) (off := 94) hx hb dL_acts_28 g10 c67 (by decide) (by decide) rfl (by decide) ?_
      refine lv_aload_n hx hb dL_acts_122 rfl (lv_at hl 4 rfl) ?_
      refine lv_aload hx hb dL_acts_123 (lv_at hl 6 rfl) ?_
      refine iv_iconst hx hb dL_acts_125 ?_
      obtain ⟨u68, q69, h⟩ := bd_t h
      refine iv_callWI (As := [.ref (ap 0), .ref (an 0), .int (zi 2)]) (rest := []) (ws1 := wLXgmpwn a hs ag am ap aw an E s5) ⟨hx, hb, hml, hown, hts⟩ (k_L_at l E ap an H.size N 2 (s5.2.2.2.1, s5.2.2.2.2.2) u68 q69) (va_cwS 3 hts gL_acts_L_at rfl rfl rfl (by decide +kernel) ⟨Nat.le_of_ble_eq_true rfl, Nat.le_of_ble_eq_true rfl⟩) hK hP hD hS hA (pm_skip (pm_skip (pm_skip (pm_take (pm_skip (pm_end)))))) (pm_skip (pm_skip (pm_skip (pm_take (pm_skip (pm_end)))))) rfl hl.1 (Nat.le_of_ble_eq_true rfl) ⟨Nat.le_of_ble_eq_true rfl, Nat.le_of_ble_eq_true rfl⟩ dL_acts_126 (fun H locs hP hD hS => ?_)
      refine lv_istore (lv' := [(9, .int (zi u68)), (8, .int (zi u8)), (0, .ref (a 0)), (1, .ref (ag 0)), (2, .ref (am 0)), (3, .ref (ap 0)), (4, .ref (aw 0)), (5, .ref (an 0)), (6, .int (zi x6)), (7, .int (zi x7))]) hx hb dL_acts_129 hl (by decide) rfl (fun ls hl => ?_)
      refine iv_iconst hx hb dL_acts_131 ?_
      refine lv_istore (lv' := [(10, .int (zi 0)), (9, .int (zi u68)), (8, .int (zi u8)), (0, .ref (a 0)), (1, .ref (ag 0)), (2, .ref (am 0)), (3, .ref (ap 0)), (4, .ref (aw 0)), (5, .ref (an 0)), (6, .int (zi x6)), (7, .int (zi x7))]) hx hb dL_acts_132 hl (by decide) rfl (fun ls hl => ?_)
      refine loop134 (fun v88 v89 v90 v91 v92 s93 => bd (f_X7_letGo N  s93.1) fun u94 => nm (u94.2, s93.2) fun s96 => gd (rg v91) <| jn2 (fun (v100 : Int) (s101 : bLXgmpwn) => gd (rg u94.1) <| gd (rg v100) <| jn2 (fun (v106 : Int) (s107 : bLXgmpwn) => gd (inb v106 2) <| some (v106, s107)) fun j108 => if u94.1 = v100 then (j108 1 s101) else (j108 0 s101)) fun j102 => if v91 = 0 then (j102 (-5) s96) else (j102 v91 s96)) N (fun v88 v89 v90 v91 v92 s93 H locs ls h hP hD hS hl => ?_) x6 x7 u8 u68 0 s5 _ _ _ h hP hD hS (lv_sub hl [3, 4, 5, 6, 7, 8, 9, 10, 2, 1, 0] rfl)
      refine lv_aload_n hx hb dL_acts_176 rfl (lv_at hl 0 rfl) ?_
      obtain ⟨u94, q95, h⟩ := bd_t h
      obtain ⟨s96, e97, h⟩ := nm_t h
      refine iv_callIxp (As := []) (rest := []) (wx := fun h98 => wLXgmpwn a h98 ag am ap aw an E s96) ⟨hx, hb, hml, hown, hts⟩ (k_X7_letGo l E a hs H.size N  s93.1 u94 q95) (cwV 0 hts gL_acts_X7_letGo rfl rfl rfl (by decide +kernel) ⟨Nat.le_of_ble_eq_true rfl, Nat.le_of_ble_eq_true rfl⟩) hK hP hD hS hA 0 7 rfl rfl (pm_last) (fun h98 => by rw [e97]; exact pm_last) rfl hl.1 (Nat.le_of_ble_eq_true rfl) ⟨Nat.le_of_ble_eq_true rfl, Nat.le_of_ble_eq_true rfl⟩ dL_acts_177 (fun h98 H locs hP hD hS => ?_)
      refine lv_iload hx hb dL_acts_180 (lv_at hl 9 rfl) ?_
      obtain ⟨g99, h⟩ := gd_t h
      obtain ⟨j102, e103, h⟩ := jn2_t h
      have hj102 : ∀ (v100 : Int) (s101 : bLXgmpwn) (H : Heap) (locs : List Loc) (ls : Array Slot), j102 v100 s101 = some u → va_P E.1 vwCl (wLXgmpwn a h98 ag am ap aw an E s101) H → va_D A (wLXgmpwn a h98 ag am ap aw an E s101) → va_S A s.heap H locs → lv_has ls 16 [(0, .ref (a 0)), (1, .ref (ag 0)), (2, .ref (am 0)), (3, .ref (ap 0)), (4, .ref (aw 0)), (5, .ref (an 0)), (6, .int (zi v88)), (7, .int (zi v89)), (8, .int (zi v90)), (9, .int (zi v91)), (10, .int (zi v92))] → W p l e ({ frames := 7, cells := 0, slots := 0, locals := 164 }) s m ([.ref (a 0), .ref (ag 0), .ref (am 0), .ref (ap 0), .ref (aw 0), .ref (an 0), .int (zi x6), .int (zi x7)] : List Value).toArray below meth c H locs 0 0 (MQ below (mQix E (fun h1 => wLXgmpwn a h1 ag am ap aw an E u.2) u.1 A) ([.ref (a 0), .ref (ag 0), .ref (am 0), .ref (ap 0), .ref (aw 0), .ref (an 0), .int (zi x6), .int (zi x7)] : List Value).toArray s 0 0 A) (F0 m 192 ls [.int (zi v100), .int (zi u94.1)]) := by
        intro v100 s101 H locs ls h hP hD hS hl
        rw [e103] at h
        obtain ⟨g104, h⟩ := gd_t h
        obtain ⟨g105, h⟩ := gd_t h
        obtain ⟨j108, e109, h⟩ := jn2_t h
        have hj108 : ∀ (v106 : Int) (s107 : bLXgmpwn) (H : Heap) (locs : List Loc) (ls : Array Slot), j108 v106 s107 = some u → va_P E.1 vwCl (wLXgmpwn a h98 ag am ap aw an E s107) H → va_D A (wLXgmpwn a h98 ag am ap aw an E s107) → va_S A s.heap H locs → lv_has ls 16 [(0, .ref (a 0)), (1, .ref (ag 0)), (2, .ref (am 0)), (3, .ref (ap 0)), (4, .ref (aw 0)), (5, .ref (an 0)), (6, .int (zi v88)), (7, .int (zi v89)), (8, .int (zi v90)), (9, .int (zi v91)), (10, .int (zi v92))] → W p l e ({ frames := 7, cells := 0, slots := 0, locals := 164 }) s m ([.ref (a 0), .ref (ag 0), .ref (am 0), .ref (ap 0), .ref (aw 0), .ref (an 0), .int (zi x6), .int (zi x7)] : List Value).toArray below meth c H locs 0 0 (MQ below (mQix E (fun h1 => wLXgmpwn a h1 ag am ap aw an E u.2) u.1 A) ([.ref (a 0), .ref (ag 0), .ref (am 0), .ref (ap 0), .ref (aw 0), .ref (an 0), .int (zi x6), .int (zi x7)] : List Value).toArray s 0 0 A) (F0 m 200 ls [.int (zi v106)]) := by
          intro v106 s107 H locs ls h hP hD hS hl
          rw [e109] at h
          obtain ⟨g110, h⟩ := gd_t h
          cases h
          exact iv_zretx h98 rfl hx hb hr hlocks g110 hK hP hD hS dL_acts_200
        refine iv_ine (tgt := 199) hx hb g104 g105 dL_acts_192 (by decide) (fun c111 => ?_) (fun c111 => ?_)
        · have h := it_f c111 h
          refine iv_iconst hx hb dL_acts_199 ?_
          exact hj108 0 s101 _ _ _ h hP hD hS (lv_sub hl [0, 1, 2, 3, 4, 5, 6, 7, 8, 9, 10] rfl)
        · have h := it_t c111 h
          refine iv_iconst hx hb dL_acts_195 ?_
          refine lv_goto (tgt := 200) hx hb dL_acts_196 (by decide) ?_
          exact hj108 1 s101 _ _ _ h hP hD hS (lv_sub hl [0, 1, 2, 3, 4, 5, 6, 7, 8, 9, 10] rfl)
      refine iv_ne (tgt := 190) hx hb g99 dL_acts_182 (by decide) (fun c112 => ?_) (fun c112 => ?_)
      · have h := it_f c112 h
        refine lv_iload hx hb dL_acts_190 (lv_at hl 9 rfl) ?_
        exact hj102 v91 s96 _ _ _ h hP hD hS (lv_sub hl [0, 1, 2, 3, 4, 5, 6, 7, 8, 9, 10] rfl)
      · have h := it_t c112 h
        refine iv_bipush hx hb dL_acts_185 (by decide +kernel) ?_
        refine lv_goto (tgt := 192) hx hb dL_acts_187 (by decide) ?_
        exact hj102 (-5) s96 _ _ _ h hP hD hS (lv_sub hl [0, 1, 2, 3, 4, 5, 6, 7, 8, 9, 10] rfl)
    have h := it_f c67 h
    by_cases c113 : x6 = 5
    · have h := it_t c113 h
      refine iv_tabIn (tgt := 201) (off := 173) hx hb dL_acts_28 g10 c113 (by decide) (by decide) rfl (by decide) ?_
      refine iv_iconst hx hb dL_acts_201 ?_
      refine lv_istore (lv' := [(10, .int (zi 0)), (8, .int (zi u8)), (0, .ref (a 0)), (1, .ref (ag 0)), (2, .ref (am 0)), (3, .ref (ap 0)), (4, .ref (aw 0)), (5, .ref (an 0)), (6, .int (zi x6)), (7, .int (zi x7))]) hx hb dL_acts_202 hl (by decide) rfl (fun ls hl => ?_)
      refine iv_iconst hx hb dL_acts_204 ?_
      refine lv_istore (lv' := [(11, .int (zi 0)), (10, .int (zi 0)), (8, .int (zi u8)), (0, .ref (a 0)), (1, .ref (ag 0)), (2, .ref (am 0)), (3, .ref (ap 0)), (4, .ref (aw 0)), (5, .ref (an 0)), (6, .int (zi x6)), (7, .int (zi x7))]) hx hb dL_acts_205 hl (by decide) rfl (fun ls hl => ?_)
      refine loop207 (fun v143 v144 v145 v146 v147 s148 => bd (f_X7_pour N v145 s148.1) fun u149 => nm (u149.2, s148.2) fun s151 => gd (rg v146) <| jn2 (fun (v155 : Int) (s156 : bLXgmpwn) => gd (rg u149.1) <| gd (rg v155) <| jn2 (fun (v161 : Int) (s162 : bLXgmpwn) => gd (inb v161 2) <| some (v161, s162)) fun j163 => if u149.1 = v155 then (j163 1 s156) else (j163 0 s156)) fun j157 => if v146 = 0 then (j157 (-5) s151) else (j157 v146 s151)) N (fun v143 v144 v145 v146 v147 s148 H locs ls h hP hD hS hl => ?_) x6 x7 u8 0 0 s5 _ _ _ h hP hD hS (lv_sub hl [3, 4, 5, 6, 7, 8, 9, 10, 2, 1, 0] rfl)
      refine lv_aload_n hx hb dL_acts_285 rfl (lv_at hl 0 rfl) ?_
      refine lv_iload hx hb dL_acts_286 (lv_at hl 8 rfl) ?_
      obtain ⟨u149, q150, h⟩ := bd_t h
      obtain ⟨s151, e152, h⟩ := nm_t h
      refine iv_callIxp (As := [.int (zi v145)]) (rest := []) (wx := fun h153 => wLXgmpwn a h153 ag am ap aw an E s151) ⟨hx, hb, hml, hown, hts⟩ (k_X7_pour l E a hs H.size N v145 s148.1 u149 q150) (cwV 1 hts gL_acts_X7_pour rfl rfl rfl (by decide +kernel) ⟨Nat.le_of_ble_eq_true rfl, Nat.le_of_ble_eq_true rfl⟩) hK hP hD hS hA 0 7 rfl rfl (pm_last) (fun h153 => by rw [e152]; exact pm_last) rfl hl.1 (Nat.le_of_ble_eq_true rfl) ⟨Nat.le_of_ble_eq_true rfl, Nat.le_of_ble_eq_true rfl⟩ dL_acts_288 (fun h153 H locs hP hD hS => ?_)
      refine lv_iload hx hb dL_acts_291 (lv_at hl 9 rfl) ?_
      obtain ⟨g154, h⟩ := gd_t h
      obtain ⟨j157, e158, h⟩ := jn2_t h
      have hj157 : ∀ (v155 : Int) (s156 : bLXgmpwn) (H : Heap) (locs : List Loc) (ls : Array Slot), j157 v155 s156 = some u → va_P E.1 vwCl (wLXgmpwn a h153 ag am ap aw an E s156) H → va_D A (wLXgmpwn a h153 ag am ap aw an E s156) → va_S A s.heap H locs → lv_has ls 16 [(0, .ref (a 0)), (1, .ref (ag 0)), (2, .ref (am 0)), (3, .ref (ap 0)), (4, .ref (aw 0)), (5, .ref (an 0)), (6, .int (zi v143)), (7, .int (zi v144)), (8, .int (zi v145)), (10, .int (zi v146)), (11, .int (zi v147))] → W p l e ({ frames := 7, cells := 0, slots := 0, locals := 164 }) s m ([.ref (a 0), .ref (ag 0), .ref (am 0), .ref (ap 0), .ref (aw 0), .ref (an 0), .int (zi x6), .int (zi x7)] : List Value).toArray below meth c H locs 0 0 (MQ below (mQix E (fun h1 => wLXgmpwn a h1 ag am ap aw an E u.2) u.1 A) ([.ref (a 0), .ref (ag 0), .ref (am 0), .ref (ap 0), .ref (aw 0), .ref (an 0), .int (zi x6), .int (zi x7)] : List Value).toArray s 0 0 A) (F0 m 303 ls [.int (zi v155), .int (zi u149.1)]) := by
        intro v155 s156 H locs ls h hP hD hS hl
        rw [e158] at h
        obtain ⟨g159, h⟩ := gd_t h
        obtain ⟨g160, h⟩ := gd_t h
        obtain ⟨j163, e164, h⟩ := jn2_t h
        have hj163 : ∀ (v161 : Int) (s162 : bLXgmpwn) (H : Heap) (locs : List Loc) (ls : Array Slot), j163 v161 s162 = some u → va_P E.1 vwCl (wLXgmpwn a h153 ag am ap aw an E s162) H → va_D A (wLXgmpwn a h153 ag am ap aw an E s162) → va_S A s.heap H locs → lv_has ls 16 [(0, .ref (a 0)), (1, .ref (ag 0)), (2, .ref (am 0)), (3, .ref (ap 0)), (4, .ref (aw 0)), (5, .ref (an 0)), (6, .int (zi v143)), (7, .int (zi v144)), (8, .int (zi v145)), (10, .int (zi v146)), (11, .int (zi v147))] → W p l e ({ frames := 7, cells := 0, slots := 0, locals := 164 }) s m ([.ref (a 0), .ref (ag 0), .ref (am 0), .ref (ap 0), .ref (aw 0), .ref (an 0), .int (zi x6), .int (zi x7)] : List Value).toArray below meth c H locs 0 0 (MQ below (mQix E (fun h1 => wLXgmpwn a h1 ag am ap aw an E u.2) u.1 A) ([.ref (a 0), .ref (ag 0), .ref (am 0), .ref (ap 0), .ref (aw 0), .ref (an 0), .int (zi x6), .int (zi x7)] : List Value).toArray s 0 0 A) (F0 m 311 ls [.int (zi v161)]) := by
          intro v161 s162 H locs ls h hP hD hS hl
          rw [e164] at h
          obtain ⟨g165, h⟩ := gd_t h
          cases h
          exact iv_zretx h153 rfl hx hb hr hlocks g165 hK hP hD hS dL_acts_311
        refine iv_ine (tgt := 310) hx hb g159 g160 dL_acts_303 (by decide) (fun c166 => ?_) (fun c166 => ?_)
        · have h := it_f c166 h
          refine iv_iconst hx hb dL_acts_310 ?_
          exact hj163 0 s156 _ _ _ h hP hD hS (lv_sub hl [0, 1, 2, 3, 4, 5, 6, 7, 8, 9, 10] rfl)
        · have h := it_t c166 h
          refine iv_iconst hx hb dL_acts_306 ?_
          refine lv_goto (tgt := 311) hx hb dL_acts_307 (by decide) ?_
          exact hj163 1 s156 _ _ _ h hP hD hS (lv_sub hl [0, 1, 2, 3, 4, 5, 6, 7, 8, 9, 10] rfl)
      refine iv_ne (tgt := 301) hx hb g154 dL_acts_293 (by decide) (fun c167 => ?_) (fun c167 => ?_)
      · have h := it_f c167 h
        refine lv_iload hx hb dL_acts_301 (lv_at hl 9 rfl) ?_
        exact hj157 v146 s151 _ _ _ h hP hD hS (lv_sub hl [0, 1, 2, 3, 4, 5, 6, 7, 8, 9, 10] rfl)
      · have h := it_t c167 h
        refine iv_bipush hx hb dL_acts_296 (by decide +kernel) ?_
        refine lv_goto (tgt := 303) hx hb dL_acts_298 (by decide) ?_
        exact hj157 (-5) s151 _ _ _ h hP hD hS (lv_sub hl [0, 1, 2, 3, 4, 5, 6, 7, 8, 9, 10] rfl)
    have h := it_f c113 h
    by_cases c168 : x6 = 6
    · have h := it_t c168 h
      refine iv_tabIn (tgt := 312) (off := 284) hx hb dL_acts_28 g10 c168 (by decide) (by decide) rfl (by decide) ?_
      refine iv_iconst hx hb dL_acts_312 ?_
      refine lv_iload hx hb dL_acts_313 (lv_at hl 8 rfl) ?_
      refine iv_bipush hx hb dL_acts_315 (by decide +kernel) ?_
      refine iv_ishr hx hb dL_acts_317 ?_
      refine lv_iload hx hb dL_acts_318 (lv_at hl 8 rfl) ?_
      refine iv_bipush hx hb dL_acts_320 (by decide +kernel) ?_
      refine iv_ishr hx hb dL_acts_322 ?_
      refine iv_iconst hx hb dL_acts_323 ?_
      obtain ⟨u169, q170, h⟩ := bd_t h
      refine iv_callS (As := [.int (zi (srI x7 12)), .int (zi 4)]) (rest := [.int (zi (srI x7 7)), .int (zi 1)]) ⟨hx, hb, hml, hown, hts⟩ (k_L_low l E H.size (srI x7 12) 4 u169 q170) (va_cwS 2 hts gL_acts_L_low rfl rfl rfl (by decide +kernel) ⟨Nat.le_of_ble_eq_true rfl, Nat.le_of_ble_eq_true rfl⟩) hK hP hS hA rfl hl.1 (Nat.le_of_ble_eq_true rfl) ⟨Nat.le_of_ble_eq_true rfl, Nat.le_of_ble_eq_true rfl⟩ dL_acts_324 (fun H locs hP hS => ?_)
      obtain ⟨g171, h⟩ := gd_t h
      obtain ⟨j174, e175, h⟩ := jn2_t h
      have hj174 : ∀ (v172 : Int) (s173 : bLXgmpwn) (H : Heap) (locs : List Loc) (ls : Array Slot), j174 v172 s173 = some u → va_P E.1 vwCl (wLXgmpwn a hs ag am ap aw an E s173) H → va_D A (wLXgmpwn a hs ag am ap aw an E s173) → va_S A s.heap H locs → lv_has ls 16 [(8, .int (zi u8)), (0, .ref (a 0)), (1, .ref (ag 0)), (2, .ref (am 0)), (3, .ref (ap 0)), (4, .ref (aw 0)), (5, .ref (an 0)), (6, .int (zi x6)), (7, .int (zi x7))] → W p l e ({ frames := 7, cells := 0, slots := 0, locals := 164 }) s m ([.ref (a 0), .ref (ag 0), .ref (am 0), .ref (ap 0), .ref (aw 0), .ref (an 0), .int (zi x6), .int (zi x7)] : List Value).toArray below meth c H locs 0 0 (MQ below (mQix E (fun h1 => wLXgmpwn a h1 ag am ap aw an E u.2) u.1 A) ([.ref (a 0), .ref (ag 0), .ref (am 0), .ref (ap 0), .ref (aw 0), .ref (an 0), .int (zi x6), .int (zi x7)] : List Value).toArray s 0 0 A) (F0 m 336 ls [.int (zi v172), .int (zi (srI x7 7)), .int (zi 1)]) := by
        intro v172 s173 H locs ls h hP hD hS hl
        rw [e175] at h
        obtain ⟨u176, q177, h⟩ := bd_t h
        refine iv_callS (As := [.int (zi (srI x7 7)), .int (zi v172)]) (rest := [.int (zi 1)]) ⟨hx, hb, hml, hown, hts⟩ (k_L_low l E H.size (srI x7 7) v172 u176 q177) (va_cwS 2 hts gL_acts_L_low rfl rfl rfl (by decide +kernel) ⟨Nat.le_of_ble_eq_true rfl, Nat.le_of_ble_eq_true rfl⟩) hK hP hS hA rfl hl.1 (Nat.le_of_ble_eq_true rfl) ⟨Nat.le_of_ble_eq_true rfl, Nat.le_of_ble_eq_true rfl⟩ dL_acts_336 (fun H locs hP hS => ?_)
        refine iv_iadd hx hb dL_acts_339 ?_
        obtain ⟨v178, e179, h⟩ := nm_t h
        refine iv_nm e179 ?_
        refine lv_istore (lv' := [(11, .int (zi v178)), (8, .int (zi u8)), (0, .ref (a 0)), (1, .ref (ag 0)), (2, .ref (am 0)), (3, .ref (ap 0)), (4, .ref (aw 0)), (5, .ref (an 0)), (6, .int (zi x6)), (7, .int (zi x7))]) hx hb dL_acts_340 hl (by decide) rfl (fun ls hl => ?_)
        refine lv_aload_n hx hb dL_acts_342 rfl (lv_at hl 4 rfl) ?_
        refine lv_aload_n hx hb dL_acts_343 rfl (lv_at hl 5 rfl) ?_
        refine lv_aload hx hb dL_acts_344 (lv_at hl 7 rfl) ?_
        refine lv_iload hx hb dL_acts_346 (lv_at hl 1 rfl) ?_
        refine lv_iload hx hb dL_acts_348 (lv_at hl 0 rfl) ?_
        obtain ⟨u180, q181, h⟩ := bd_t h
        refine iv_callWI (As := [.ref (am 0), .ref (ap 0), .ref (an 0), .int (zi u8), .int (zi v178)]) (rest := []) (ws1 := wLXgmpwn a hs ag am ap aw an E s173) ⟨hx, hb, hml, hown, hts⟩ (k_L_first l E am ap an H.size N u8 v178 (s173.2.2.1, s173.2.2.2.1, s173.2.2.2.2.2) u180 q181) (va_cwS 5 hts gL_acts_L_first rfl rfl rfl (by decide +kernel) ⟨Nat.le_of_ble_eq_true rfl, Nat.le_of_ble_eq_true rfl⟩) hK hP hD hS hA (pm_skip (pm_skip (pm_take (pm_take (pm_skip (pm_end)))))) (pm_skip (pm_skip (pm_take (pm_take (pm_skip (pm_end)))))) rfl hl.1 (Nat.le_of_ble_eq_true rfl) ⟨Nat.le_of_ble_eq_true rfl, Nat.le_of_ble_eq_true rfl⟩ dL_acts_350 (fun H locs hP hD hS => ?_)
        obtain ⟨g182, h⟩ := gd_t h
        refine iv_ge (tgt := 394) hx hb g182 dL_acts_353 (by decide) (fun c183 => ?_) (fun c183 => ?_)
        · have h := it_t c183 h
          refine lv_aload_n hx hb dL_acts_394 rfl (lv_at hl 2 rfl) ?_
          refine lv_iload hx hb dL_acts_395 (lv_at hl 1 rfl) ?_
          refine lv_iload hx hb dL_acts_397 (lv_at hl 0 rfl) ?_
          obtain ⟨u184, q185, h⟩ := bd_t h
          obtain ⟨s186, e187, h⟩ := nm_t h
          refine iv_callIxp (As := [.int (zi u8), .int (zi v178)]) (rest := []) (wx := fun h188 => wLXgmpwn a h188 ag am ap aw an E s186) ⟨hx, hb, hml, hown, hts⟩ (k_X7_shirt l E a hs H.size N u8 v178 s173.1 u184 q185) (cwV 2 hts gL_acts_X7_shirt rfl rfl rfl (by decide +kernel) ⟨Nat.le_of_ble_eq_true rfl, Nat.le_of_ble_eq_true rfl⟩) hK hP hD hS hA 0 7 rfl rfl (pm_last) (fun h188 => by rw [e187]; exact pm_last) rfl hl.1 (Nat.le_of_ble_eq_true rfl) ⟨Nat.le_of_ble_eq_true rfl, Nat.le_of_ble_eq_true rfl⟩ dL_acts_399 (fun h188 H locs hP hD hS => ?_)
          refine lv_aload_n hx hb dL_acts_402 rfl (lv_at hl 4 rfl) ?_
          refine lv_aload_n hx hb dL_acts_403 rfl (lv_at hl 5 rfl) ?_
          refine lv_aload hx hb dL_acts_404 (lv_at hl 7 rfl) ?_
          refine lv_iload hx hb dL_acts_406 (lv_at hl 1 rfl) ?_
          refine lv_iload hx hb dL_acts_408 (lv_at hl 0 rfl) ?_
          obtain ⟨u189, q190, h⟩ := bd_t h
          obtain ⟨s191, e192, h⟩ := nm_t h
          obtain ⟨s193, e194, h⟩ := nm_t h
          obtain ⟨s195, e196, h⟩ := nm_t h
          refine iv_callWI (As := [.ref (am 0), .ref (ap 0), .ref (an 0), .int (zi u8), .int (zi v178)]) (rest := [.int (zi u184.1)]) (ws1 := wLXgmpwn a h188 ag am ap aw an E s195) ⟨hx, hb, hml, hown, hts⟩ (k_L_sews l E am ap an H.size N u8 v178 (s186.2.2.1, s186.2.2.2.1, s186.2.2.2.2.2) u189 q190) (va_cwS 5 hts gL_acts_L_sews rfl rfl rfl (by decide +kernel) ⟨Nat.le_of_ble_eq_true rfl, Nat.le_of_ble_eq_true rfl⟩) hK hP hD hS hA (pm_skip (pm_skip (pm_take (pm_take (pm_skip (pm_end)))))) (by rw [e196, e194, e192]; exact pm_skip (pm_skip (pm_take (pm_take (pm_skip (pm_end)))))) rfl hl.1 (Nat.le_of_ble_eq_true rfl) ⟨Nat.le_of_ble_eq_true rfl, Nat.le_of_ble_eq_true rfl⟩ dL_acts_410 (fun H locs hP hD hS => ?_)
          obtain ⟨g197, h⟩ := gd_t h
          obtain ⟨g198, h⟩ := gd_t h
          obtain ⟨j201, e202, h⟩ := jn2_t h
          have hj201 : ∀ (v199 : Int) (s200 : bLXgmpwn) (H : Heap) (locs : List Loc) (ls : Array Slot), j201 v199 s200 = some u → va_P E.1 vwCl (wLXgmpwn a h188 ag am ap aw an E s200) H → va_D A (wLXgmpwn a h188 ag am ap aw an E s200) → va_S A s.heap H locs → lv_has ls 16 [(11, .int (zi v178)), (8, .int (zi u8)), (0, .ref (a 0)), (1, .ref (ag 0)), (2, .ref (am 0)), (3, .ref (ap 0)), (4, .ref (aw 0)), (5, .ref (an 0)), (6, .int (zi x6)), (7, .int (zi x7))] → W p l e ({ frames := 7, cells := 0, slots := 0, locals := 164 }) s m ([.ref (a 0), .ref (ag 0), .ref (am 0), .ref (ap 0), .ref (aw 0), .ref (an 0), .int (zi x6), .int (zi x7)] : List Value).toArray below meth c H locs 0 0 (MQ below (mQix E (fun h1 => wLXgmpwn a h1 ag am ap aw an E u.2) u.1 A) ([.ref (a 0), .ref (ag 0), .ref (am 0), .ref (ap 0), .ref (aw 0), .ref (an 0), .int (zi x6), .int (zi x7)] : List Value).toArray s 0 0 A) (F0 m 421 ls [.int (zi v199)]) := by
            intro v199 s200 H locs ls h hP hD hS hl
            rw [e202] at h
            obtain ⟨g203, h⟩ := gd_t h
            cases h
            exact iv_zretx h188 rfl hx hb hr hlocks g203 hK hP hD hS dL_acts_421
          refine iv_ine (tgt := 420) hx hb g197 g198 dL_acts_413 (by decide) (fun c204 => ?_) (fun c204 => ?_)
          · have h := it_f c204 h
            refine iv_iconst hx hb dL_acts_420 ?_
            exact hj201 0 s195 _ _ _ h hP hD hS (lv_sub hl [0, 1, 2, 3, 4, 5, 6, 7, 8, 9] rfl)
          · have h := it_t c204 h
            refine iv_iconst hx hb dL_acts_416 ?_
            refine lv_goto (tgt := 421) hx hb dL_acts_417 (by decide) ?_
            exact hj201 1 s195 _ _ _ h hP hD hS (lv_sub hl [0, 1, 2, 3, 4, 5, 6, 7, 8, 9] rfl)
        · have h := it_f c183 h
          refine lv_aload_n hx hb dL_acts_356 rfl (lv_at hl 2 rfl) ?_
          refine lv_iload hx hb dL_acts_357 (lv_at hl 1 rfl) ?_
          refine lv_iload hx hb dL_acts_359 (lv_at hl 0 rfl) ?_
          obtain ⟨u205, q206, h⟩ := bd_t h
          obtain ⟨s207, e208, h⟩ := nm_t h
          refine iv_callIxp (As := [.int (zi u8), .int (zi v178)]) (rest := []) (wx := fun h209 => wLXgmpwn a h209 ag am ap aw an E s207) ⟨hx, hb, hml, hown, hts⟩ (k_X7_shirt l E a hs H.size N u8 v178 s173.1 u205 q206) (cwV 2 hts gL_acts_X7_shirt rfl rfl rfl (by decide +kernel) ⟨Nat.le_of_ble_eq_true rfl, Nat.le_of_ble_eq_true rfl⟩) hK hP hD hS hA 0 7 rfl rfl (pm_last) (fun h209 => by rw [e208]; exact pm_last) rfl hl.1 (Nat.le_of_ble_eq_true rfl) ⟨Nat.le_of_ble_eq_true rfl, Nat.le_of_ble_eq_true rfl⟩ dL_acts_361 (fun h209 H locs hP hD hS => ?_)
          refine iv_bipush hx hb dL_acts_364 (by decide +kernel) ?_
          refine lv_aload_n hx hb dL_acts_366 rfl (lv_at hl 5 rfl) ?_
          refine lv_aload hx hb dL_acts_367 (lv_at hl 7 rfl) ?_
          refine lv_iload hx hb dL_acts_369 (lv_at hl 1 rfl) ?_
          obtain ⟨u210, q211, h⟩ := bd_t h
          refine iv_callWI (As := [.ref (ap 0), .ref (an 0), .int (zi u8)]) (rest := [.int (zi (-10)), .int (zi u205.1)]) (ws1 := wLXgmpwn a h209 ag am ap aw an E s207) ⟨hx, hb, hml, hown, hts⟩ (k_L_in l E ap an H.size N u8 (s207.2.2.2.1, s207.2.2.2.2.2) u210 q211) (va_cwS 3 hts gL_acts_L_in rfl rfl rfl (by decide +kernel) ⟨Nat.le_of_ble_eq_true rfl, Nat.le_of_ble_eq_true rfl⟩) hK hP hD hS hA (pm_skip (pm_skip (pm_skip (pm_take (pm_skip (pm_end)))))) (pm_skip (pm_skip (pm_skip (pm_take (pm_skip (pm_end)))))) rfl hl.1 (Nat.le_of_ble_eq_true rfl) ⟨Nat.le_of_ble_eq_true rfl, Nat.le_of_ble_eq_true rfl⟩ dL_acts_371 (fun H locs hP hD hS => ?_)
          refine lv_iload hx hb dL_acts_374 (lv_at hl 0 rfl) ?_
          obtain ⟨g212, h⟩ := gd_t h
          obtain ⟨g213, h⟩ := gd_t h
          obtain ⟨j216, e217, h⟩ := jn2_t h
          have hj216 : ∀ (v214 : Int) (s215 : bLXgmpwn) (H : Heap) (locs : List Loc) (ls : Array Slot), j216 v214 s215 = some u → va_P E.1 vwCl (wLXgmpwn a h209 ag am ap aw an E s215) H → va_D A (wLXgmpwn a h209 ag am ap aw an E s215) → va_S A s.heap H locs → lv_has ls 16 [(11, .int (zi v178)), (8, .int (zi u8)), (0, .ref (a 0)), (1, .ref (ag 0)), (2, .ref (am 0)), (3, .ref (ap 0)), (4, .ref (aw 0)), (5, .ref (an 0)), (6, .int (zi x6)), (7, .int (zi x7))] → W p l e ({ frames := 7, cells := 0, slots := 0, locals := 164 }) s m ([.ref (a 0), .ref (ag 0), .ref (am 0), .ref (ap 0), .ref (aw 0), .ref (an 0), .int (zi x6), .int (zi x7)] : List Value).toArray below meth c H locs 0 0 (MQ below (mQix E (fun h1 => wLXgmpwn a h1 ag am ap aw an E u.2) u.1 A) ([.ref (a 0), .ref (ag 0), .ref (am 0), .ref (ap 0), .ref (aw 0), .ref (an 0), .int (zi x6), .int (zi x7)] : List Value).toArray s 0 0 A) (F0 m 384 ls [.int (zi v214), .int (zi (-10)), .int (zi u205.1)]) := by
            intro v214 s215 H locs ls h hP hD hS hl
            rw [e217] at h
            refine iv_isub hx hb dL_acts_384 ?_
            obtain ⟨g218, h⟩ := gd_t h
            obtain ⟨g219, h⟩ := gd_t h
            obtain ⟨j222, e223, h⟩ := jn2_t h
            have hj222 : ∀ (v220 : Int) (s221 : bLXgmpwn) (H : Heap) (locs : List Loc) (ls : Array Slot), j222 v220 s221 = some u → va_P E.1 vwCl (wLXgmpwn a h209 ag am ap aw an E s221) H → va_D A (wLXgmpwn a h209 ag am ap aw an E s221) → va_S A s.heap H locs → lv_has ls 16 [(11, .int (zi v178)), (8, .int (zi u8)), (0, .ref (a 0)), (1, .ref (ag 0)), (2, .ref (am 0)), (3, .ref (ap 0)), (4, .ref (aw 0)), (5, .ref (an 0)), (6, .int (zi x6)), (7, .int (zi x7))] → W p l e ({ frames := 7, cells := 0, slots := 0, locals := 164 }) s m ([.ref (a 0), .ref (ag 0), .ref (am 0), .ref (ap 0), .ref (aw 0), .ref (an 0), .int (zi x6), .int (zi x7)] : List Value).toArray below meth c H locs 0 0 (MQ below (mQix E (fun h1 => wLXgmpwn a h1 ag am ap aw an E u.2) u.1 A) ([.ref (a 0), .ref (ag 0), .ref (am 0), .ref (ap 0), .ref (aw 0), .ref (an 0), .int (zi x6), .int (zi x7)] : List Value).toArray s 0 0 A) (F0 m 393 ls [.int (zi v220)]) := by
              intro v220 s221 H locs ls h hP hD hS hl
              rw [e223] at h
              obtain ⟨g224, h⟩ := gd_t h
              cases h
              exact iv_zretx h209 rfl hx hb hr hlocks g224 hK hP hD hS dL_acts_393
            refine iv_ine (tgt := 392) hx hb g218 g219 dL_acts_385 (by decide) (fun c225 => ?_) (fun c225 => ?_)
            · have h := it_f c225 h
              refine iv_iconst hx hb dL_acts_392 ?_
              exact hj222 0 s215 _ _ _ h hP hD hS (lv_sub hl [0, 1, 2, 3, 4, 5, 6, 7, 8, 9] rfl)
            · have h := it_t c225 h
              refine iv_iconst hx hb dL_acts_388 ?_
              refine lv_goto (tgt := 393) hx hb dL_acts_389 (by decide) ?_
              exact hj222 1 s215 _ _ _ h hP hD hS (lv_sub hl [0, 1, 2, 3, 4, 5, 6, 7, 8, 9] rfl)
          refine iv_ige (tgt := 383) hx hb g212 g213 dL_acts_376 (by decide) (fun c226 => ?_) (fun c226 => ?_)
          · have h := it_t c226 h
            refine iv_iconst hx hb dL_acts_383 ?_
            exact hj216 2 s207 _ _ _ h hP hD hS (lv_sub hl [0, 1, 2, 3, 4, 5, 6, 7, 8, 9] rfl)
          · have h := it_f c226 h
            refine iv_iconst hx hb dL_acts_379 ?_
            refine lv_goto (tgt := 384) hx hb dL_acts_380 (by decide) ?_
            exact hj216 1 s207 _ _ _ h hP hD hS (lv_sub hl [0, 1, 2, 3, 4, 5, 6, 7, 8, 9] rfl)
      refine iv_ne (tgt := 335) hx hb g171 dL_acts_327 (by decide) (fun c227 => ?_) (fun c227 => ?_)
      · have h := it_f c227 h
        refine iv_iconst hx hb dL_acts_335 ?_
        exact hj174 3 s5 _ _ _ h hP hD hS (lv_sub hl [0, 1, 2, 3, 4, 5, 6, 7, 8] rfl)
      · have h := it_t c227 h
        refine iv_bipush hx hb dL_acts_330 (by decide +kernel) ?_
        refine lv_goto (tgt := 336) hx hb dL_acts_332 (by decide) ?_
        exact hj174 9 s5 _ _ _ h hP hD hS (lv_sub hl [0, 1, 2, 3, 4, 5, 6, 7, 8] rfl)
    have h := it_f c168 h
    by_cases c228 : x6 = 7
    · have h := it_t c228 h
      refine iv_tabIn (tgt := 312) (off := 284) hx hb dL_acts_28 g10 c228 (by decide) (by decide) rfl (by decide) ?_
      refine iv_iconst hx hb dL_acts_312 ?_
      refine lv_iload hx hb dL_acts_313 (lv_at hl 8 rfl) ?_
      refine iv_bipush hx hb dL_acts_315 (by decide +kernel) ?_
      refine iv_ishr hx hb dL_acts_317 ?_
      refine lv_iload hx hb dL_acts_318 (lv_at hl 8 rfl) ?_
      refine iv_bipush hx hb dL_acts_320 (by decide +kernel) ?_
      refine iv_ishr hx hb dL_acts_322 ?_
      refine iv_iconst hx hb dL_acts_323 ?_
      obtain ⟨u229, q230, h⟩ := bd_t h
      refine iv_callS (As := [.int (zi (srI x7 12)), .int (zi 4)]) (rest := [.int (zi (srI x7 7)), .int (zi 1)]) ⟨hx, hb, hml, hown, hts⟩ (k_L_low l E H.size (srI x7 12) 4 u229 q230) (va_cwS 2 hts gL_acts_L_low rfl rfl rfl (by decide +kernel) ⟨Nat.le_of_ble_eq_true rfl, Nat.le_of_ble_eq_true rfl⟩) hK hP hS hA rfl hl.1 (Nat.le_of_ble_eq_true rfl) ⟨Nat.le_of_ble_eq_true rfl, Nat.le_of_ble_eq_true rfl⟩ dL_acts_324 (fun H locs hP hS => ?_)
      obtain ⟨g231, h⟩ := gd_t h
      obtain ⟨j234, e235, h⟩ := jn2_t h
      have hj234 : ∀ (v232 : Int) (s233 : bLXgmpwn) (H : Heap) (locs : List Loc) (ls : Array Slot), j234 v232 s233 = some u → va_P E.1 vwCl (wLXgmpwn a hs ag am ap aw an E s233) H → va_D A (wLXgmpwn a hs ag am ap aw an E s233) → va_S A s.heap H locs → lv_has ls 16 [(8, .int (zi u8)), (0, .ref (a 0)), (1, .ref (ag 0)), (2, .ref (am 0)), (3, .ref (ap 0)), (4, .ref (aw 0)), (5, .ref (an 0)), (6, .int (zi x6)), (7, .int (zi x7))] → W p l e ({ frames := 7, cells := 0, slots := 0, locals := 164 }) s m ([.ref (a 0), .ref (ag 0), .ref (am 0), .ref (ap 0), .ref (aw 0), .ref (an 0), .int (zi x6), .int (zi x7)] : List Value).toArray below meth c H locs 0 0 (MQ below (mQix E (fun h1 => wLXgmpwn a h1 ag am ap aw an E u.2) u.1 A) ([.ref (a 0), .ref (ag 0), .ref (am 0), .ref (ap 0), .ref (aw 0), .ref (an 0), .int (zi x6), .int (zi x7)] : List Value).toArray s 0 0 A) (F0 m 336 ls [.int (zi v232), .int (zi (srI x7 7)), .int (zi 1)]) := by
        intro v232 s233 H locs ls h hP hD hS hl
        rw [e235] at h
        obtain ⟨u236, q237, h⟩ := bd_t h
        refine iv_callS (As := [.int (zi (srI x7 7)), .int (zi v232)]) (rest := [.int (zi 1)]) ⟨hx, hb, hml, hown, hts⟩ (k_L_low l E H.size (srI x7 7) v232 u236 q237) (va_cwS 2 hts gL_acts_L_low rfl rfl rfl (by decide +kernel) ⟨Nat.le_of_ble_eq_true rfl, Nat.le_of_ble_eq_true rfl⟩) hK hP hS hA rfl hl.1 (Nat.le_of_ble_eq_true rfl) ⟨Nat.le_of_ble_eq_true rfl, Nat.le_of_ble_eq_true rfl⟩ dL_acts_336 (fun H locs hP hS => ?_)
        refine iv_iadd hx hb dL_acts_339 ?_
        obtain ⟨v238, e239, h⟩ := nm_t h
        refine iv_nm e239 ?_
        refine lv_istore (lv' := [(11, .int (zi v238)), (8, .int (zi u8)), (0, .ref (a 0)), (1, .ref (ag 0)), (2, .ref (am 0)), (3, .ref (ap 0)), (4, .ref (aw 0)), (5, .ref (an 0)), (6, .int (zi x6)), (7, .int (zi x7))]) hx hb dL_acts_340 hl (by decide) rfl (fun ls hl => ?_)
        refine lv_aload_n hx hb dL_acts_342 rfl (lv_at hl 4 rfl) ?_
        refine lv_aload_n hx hb dL_acts_343 rfl (lv_at hl 5 rfl) ?_
        refine lv_aload hx hb dL_acts_344 (lv_at hl 7 rfl) ?_
        refine lv_iload hx hb dL_acts_346 (lv_at hl 1 rfl) ?_
        refine lv_iload hx hb dL_acts_348 (lv_at hl 0 rfl) ?_
        obtain ⟨u240, q241, h⟩ := bd_t h
        refine iv_callWI (As := [.ref (am 0), .ref (ap 0), .ref (an 0), .int (zi u8), .int (zi v238)]) (rest := []) (ws1 := wLXgmpwn a hs ag am ap aw an E s233) ⟨hx, hb, hml, hown, hts⟩ (k_L_first l E am ap an H.size N u8 v238 (s233.2.2.1, s233.2.2.2.1, s233.2.2.2.2.2) u240 q241) (va_cwS 5 hts gL_acts_L_first rfl rfl rfl (by decide +kernel) ⟨Nat.le_of_ble_eq_true rfl, Nat.le_of_ble_eq_true rfl⟩) hK hP hD hS hA (pm_skip (pm_skip (pm_take (pm_take (pm_skip (pm_end)))))) (pm_skip (pm_skip (pm_take (pm_take (pm_skip (pm_end)))))) rfl hl.1 (Nat.le_of_ble_eq_true rfl) ⟨Nat.le_of_ble_eq_true rfl, Nat.le_of_ble_eq_true rfl⟩ dL_acts_350 (fun H locs hP hD hS => ?_)
        obtain ⟨g242, h⟩ := gd_t h
        refine iv_ge (tgt := 394) hx hb g242 dL_acts_353 (by decide) (fun c243 => ?_) (fun c243 => ?_)
        · have h := it_t c243 h
          refine lv_aload_n hx hb dL_acts_394 rfl (lv_at hl 2 rfl) ?_
          refine lv_iload hx hb dL_acts_395 (lv_at hl 1 rfl) ?_
          refine lv_iload hx hb dL_acts_397 (lv_at hl 0 rfl) ?_
          obtain ⟨u244, q245, h⟩ := bd_t h
          obtain ⟨s246, e247, h⟩ := nm_t h
          refine iv_callIxp (As := [.int (zi u8), .int (zi v238)]) (rest := []) (wx := fun h248 => wLXgmpwn a h248 ag am ap aw an E s246) ⟨hx, hb, hml, hown, hts⟩ (k_X7_shirt l E a hs H.size N u8 v238 s233.1 u244 q245) (cwV 2 hts gL_acts_X7_shirt rfl rfl rfl (by decide +kernel) ⟨Nat.le_of_ble_eq_true rfl, Nat.le_of_ble_eq_true rfl⟩) hK hP hD hS hA 0 7 rfl rfl (pm_last) (fun h248 => by rw [e247]; exact pm_last) rfl hl.1 (Nat.le_of_ble_eq_true rfl) ⟨Nat.le_of_ble_eq_true rfl, Nat.le_of_ble_eq_true rfl⟩ dL_acts_399 (fun h248 H locs hP hD hS => ?_)
          refine lv_aload_n hx hb dL_acts_402 rfl (lv_at hl 4 rfl) ?_
          refine lv_aload_n hx hb dL_acts_403 rfl (lv_at hl 5 rfl) ?_
          refine lv_aload hx hb dL_acts_404 (lv_at hl 7 rfl) ?_
          refine lv_iload hx hb dL_acts_406 (lv_at hl 1 rfl) ?_
          refine lv_iload hx hb dL_acts_408 (lv_at hl 0 rfl) ?_
          obtain ⟨u249, q250, h⟩ := bd_t h
          obtain ⟨s251, e252, h⟩ := nm_t h
          obtain ⟨s253, e254, h⟩ := nm_t h
          obtain ⟨s255, e256, h⟩ := nm_t h
          refine iv_callWI (As := [.ref (am 0), .ref (ap 0), .ref (an 0), .int (zi u8), .int (zi v238)]) (rest := [.int (zi u244.1)]) (ws1 := wLXgmpwn a h248 ag am ap aw an E s255) ⟨hx, hb, hml, hown, hts⟩ (k_L_sews l E am ap an H.size N u8 v238 (s246.2.2.1, s246.2.2.2.1, s246.2.2.2.2.2) u249 q250) (va_cwS 5 hts gL_acts_L_sews rfl rfl rfl (by decide +kernel) ⟨Nat.le_of_ble_eq_true rfl, Nat.le_of_ble_eq_true rfl⟩) hK hP hD hS hA (pm_skip (pm_skip (pm_take (pm_take (pm_skip (pm_end)))))) (by rw [e256, e254, e252]; exact pm_skip (pm_skip (pm_take (pm_take (pm_skip (pm_end)))))) rfl hl.1 (Nat.le_of_ble_eq_true rfl) ⟨Nat.le_of_ble_eq_true rfl, Nat.le_of_ble_eq_true rfl⟩ dL_acts_410 (fun H locs hP hD hS => ?_)
          obtain ⟨g257, h⟩ := gd_t h
          obtain ⟨g258, h⟩ := gd_t h
          obtain ⟨j261, e262, h⟩ := jn2_t h
          have hj261 : ∀ (v259 : Int) (s260 : bLXgmpwn) (H : Heap) (locs : List Loc) (ls : Array Slot), j261 v259 s260 = some u → va_P E.1 vwCl (wLXgmpwn a h248 ag am ap aw an E s260) H → va_D A (wLXgmpwn a h248 ag am ap aw an E s260) → va_S A s.heap H locs → lv_has ls 16 [(11, .int (zi v238)), (8, .int (zi u8)), (0, .ref (a 0)), (1, .ref (ag 0)), (2, .ref (am 0)), (3, .ref (ap 0)), (4, .ref (aw 0)), (5, .ref (an 0)), (6, .int (zi x6)), (7, .int (zi x7))] → W p l e ({ frames := 7, cells := 0, slots := 0, locals := 164 }) s m ([.ref (a 0), .ref (ag 0), .ref (am 0), .ref (ap 0), .ref (aw 0), .ref (an 0), .int (zi x6), .int (zi x7)] : List Value).toArray below meth c H locs 0 0 (MQ below (mQix E (fun h1 => wLXgmpwn a h1 ag am ap aw an E u.2) u.1 A) ([.ref (a 0), .ref (ag 0), .ref (am 0), .ref (ap 0), .ref (aw 0), .ref (an 0), .int (zi x6), .int (zi x7)] : List Value).toArray s 0 0 A) (F0 m 421 ls [.int (zi v259)]) := by
            intro v259 s260 H locs ls h hP hD hS hl
            rw [e262] at h
            obtain ⟨g263, h⟩ := gd_t h
            cases h
            exact iv_zretx h248 rfl hx hb hr hlocks g263 hK hP hD hS dL_acts_421
          refine iv_ine (tgt := 420) hx hb g257 g258 dL_acts_413 (by decide) (fun c264 => ?_) (fun c264 => ?_)
          · have h := it_f c264 h
            refine iv_iconst hx hb dL_acts_420 ?_
            exact hj261 0 s255 _ _ _ h hP hD hS (lv_sub hl [0, 1, 2, 3, 4, 5, 6, 7, 8, 9] rfl)
          · have h := it_t c264 h
            refine iv_iconst hx hb dL_acts_416 ?_
            refine lv_goto (tgt := 421) hx hb dL_acts_417 (by decide) ?_
            exact hj261 1 s255 _ _ _ h hP hD hS (lv_sub hl [0, 1, 2, 3, 4, 5, 6, 7, 8, 9] rfl)
        · have h := it_f c243 h
          refine lv_aload_n hx hb dL_acts_356 rfl (lv_at hl 2 rfl) ?_
          refine lv_iload hx hb dL_acts_357 (lv_at hl 1 rfl) ?_
          refine lv_iload hx hb dL_acts_359 (lv_at hl 0 rfl) ?_
          obtain ⟨u265, q266, h⟩ := bd_t h
          obtain ⟨s267, e268, h⟩ := nm_t h
          refine iv_callIxp (As := [.int (zi u8), .int (zi v238)]) (rest := []) (wx := fun h269 => wLXgmpwn a h269 ag am ap aw an E s267) ⟨hx, hb, hml, hown, hts⟩ (k_X7_shirt l E a hs H.size N u8 v238 s233.1 u265 q266) (cwV 2 hts gL_acts_X7_shirt rfl rfl rfl (by decide +kernel) ⟨Nat.le_of_ble_eq_true rfl, Nat.le_of_ble_eq_true rfl⟩) hK hP hD hS hA 0 7 rfl rfl (pm_last) (fun h269 => by rw [e268]; exact pm_last) rfl hl.1 (Nat.le_of_ble_eq_true rfl) ⟨Nat.le_of_ble_eq_true rfl, Nat.le_of_ble_eq_true rfl⟩ dL_acts_361 (fun h269 H locs hP hD hS => ?_)
          refine iv_bipush hx hb dL_acts_364 (by decide +kernel) ?_
          refine lv_aload_n hx hb dL_acts_366 rfl (lv_at hl 5 rfl) ?_
          refine lv_aload hx hb dL_acts_367 (lv_at hl 7 rfl) ?_
          refine lv_iload hx hb dL_acts_369 (lv_at hl 1 rfl) ?_
          obtain ⟨u270, q271, h⟩ := bd_t h
          refine iv_callWI (As := [.ref (ap 0), .ref (an 0), .int (zi u8)]) (rest := [.int (zi (-10)), .int (zi u265.1)]) (ws1 := wLXgmpwn a h269 ag am ap aw an E s267) ⟨hx, hb, hml, hown, hts⟩ (k_L_in l E ap an H.size N u8 (s267.2.2.2.1, s267.2.2.2.2.2) u270 q271) (va_cwS 3 hts gL_acts_L_in rfl rfl rfl (by decide +kernel) ⟨Nat.le_of_ble_eq_true rfl, Nat.le_of_ble_eq_true rfl⟩) hK hP hD hS hA (pm_skip (pm_skip (pm_skip (pm_take (pm_skip (pm_end)))))) (pm_skip (pm_skip (pm_skip (pm_take (pm_skip (pm_end)))))) rfl hl.1 (Nat.le_of_ble_eq_true rfl) ⟨Nat.le_of_ble_eq_true rfl, Nat.le_of_ble_eq_true rfl⟩ dL_acts_371 (fun H locs hP hD hS => ?_)
          refine lv_iload hx hb dL_acts_374 (lv_at hl 0 rfl) ?_
          obtain ⟨g272, h⟩ := gd_t h
          obtain ⟨g273, h⟩ := gd_t h
          obtain ⟨j276, e277, h⟩ := jn2_t h
          have hj276 : ∀ (v274 : Int) (s275 : bLXgmpwn) (H : Heap) (locs : List Loc) (ls : Array Slot), j276 v274 s275 = some u → va_P E.1 vwCl (wLXgmpwn a h269 ag am ap aw an E s275) H → va_D A (wLXgmpwn a h269 ag am ap aw an E s275) → va_S A s.heap H locs → lv_has ls 16 [(11, .int (zi v238)), (8, .int (zi u8)), (0, .ref (a 0)), (1, .ref (ag 0)), (2, .ref (am 0)), (3, .ref (ap 0)), (4, .ref (aw 0)), (5, .ref (an 0)), (6, .int (zi x6)), (7, .int (zi x7))] → W p l e ({ frames := 7, cells := 0, slots := 0, locals := 164 }) s m ([.ref (a 0), .ref (ag 0), .ref (am 0), .ref (ap 0), .ref (aw 0), .ref (an 0), .int (zi x6), .int (zi x7)] : List Value).toArray below meth c H locs 0 0 (MQ below (mQix E (fun h1 => wLXgmpwn a h1 ag am ap aw an E u.2) u.1 A) ([.ref (a 0), .ref (ag 0), .ref (am 0), .ref (ap 0), .ref (aw 0), .ref (an 0), .int (zi x6), .int (zi x7)] : List Value).toArray s 0 0 A) (F0 m 384 ls [.int (zi v274), .int (zi (-10)), .int (zi u265.1)]) := by
            intro v274 s275 H locs ls h hP hD hS hl
            rw [e277] at h
            refine iv_isub hx hb dL_acts_384 ?_
            obtain ⟨g278, h⟩ := gd_t h
            obtain ⟨g279, h⟩ := gd_t h
            obtain ⟨j282, e283, h⟩ := jn2_t h
            have hj282 : ∀ (v280 : Int) (s281 : bLXgmpwn) (H : Heap) (locs : List Loc) (ls : Array Slot), j282 v280 s281 = some u → va_P E.1 vwCl (wLXgmpwn a h269 ag am ap aw an E s281) H → va_D A (wLXgmpwn a h269 ag am ap aw an E s281) → va_S A s.heap H locs → lv_has ls 16 [(11, .int (zi v238)), (8, .int (zi u8)), (0, .ref (a 0)), (1, .ref (ag 0)), (2, .ref (am 0)), (3, .ref (ap 0)), (4, .ref (aw 0)), (5, .ref (an 0)), (6, .int (zi x6)), (7, .int (zi x7))] → W p l e ({ frames := 7, cells := 0, slots := 0, locals := 164 }) s m ([.ref (a 0), .ref (ag 0), .ref (am 0), .ref (ap 0), .ref (aw 0), .ref (an 0), .int (zi x6), .int (zi x7)] : List Value).toArray below meth c H locs 0 0 (MQ below (mQix E (fun h1 => wLXgmpwn a h1 ag am ap aw an E u.2) u.1 A) ([.ref (a 0), .ref (ag 0), .ref (am 0), .ref (ap 0), .ref (aw 0), .ref (an 0), .int (zi x6), .int (zi x7)] : List Value).toArray s 0 0 A) (F0 m 393 ls [.int (zi v280)]) := by
              intro v280 s281 H locs ls h hP hD hS hl
              rw [e283] at h
              obtain ⟨g284, h⟩ := gd_t h
              cases h
              exact iv_zretx h269 rfl hx hb hr hlocks g284 hK hP hD hS dL_acts_393
            refine iv_ine (tgt := 392) hx hb g278 g279 dL_acts_385 (by decide) (fun c285 => ?_) (fun c285 => ?_)
            · have h := it_f c285 h
              refine iv_iconst hx hb dL_acts_392 ?_
              exact hj282 0 s275 _ _ _ h hP hD hS (lv_sub hl [0, 1, 2, 3, 4, 5, 6, 7, 8, 9] rfl)
            · have h := it_t c285 h
              refine iv_iconst hx hb dL_acts_388 ?_
              refine lv_goto (tgt := 393) hx hb dL_acts_389 (by decide) ?_
              exact hj282 1 s275 _ _ _ h hP hD hS (lv_sub hl [0, 1, 2, 3, 4, 5, 6, 7, 8, 9] rfl)
          refine iv_ige (tgt := 383) hx hb g272 g273 dL_acts_376 (by decide) (fun c286 => ?_) (fun c286 => ?_)
          · have h := it_t c286 h
            refine iv_iconst hx hb dL_acts_383 ?_
            exact hj276 2 s267 _ _ _ h hP hD hS (lv_sub hl [0, 1, 2, 3, 4, 5, 6, 7, 8, 9] rfl)
          · have h := it_f c286 h
            refine iv_iconst hx hb dL_acts_379 ?_
            refine lv_goto (tgt := 384) hx hb dL_acts_380 (by decide) ?_
            exact hj276 1 s267 _ _ _ h hP hD hS (lv_sub hl [0, 1, 2, 3, 4, 5, 6, 7, 8, 9] rfl)
      refine iv_ne (tgt := 335) hx hb g231 dL_acts_327 (by decide) (fun c287 => ?_) (fun c287 => ?_)
      · have h := it_f c287 h
        refine iv_iconst hx hb dL_acts_335 ?_
        exact hj234 3 s5 _ _ _ h hP hD hS (lv_sub hl [0, 1, 2, 3, 4, 5, 6, 7, 8] rfl)
      · have h := it_t c287 h
        refine iv_bipush hx hb dL_acts_330 (by decide +kernel) ?_
        refine lv_goto (tgt := 336) hx hb dL_acts_332 (by decide) ?_
        exact hj234 9 s5 _ _ _ h hP hD hS (lv_sub hl [0, 1, 2, 3, 4, 5, 6, 7, 8] rfl)
    have h := it_f c228 h
    by_cases c288 : x6 = 8
    · have h := it_t c288 h
      refine iv_tabIn (tgt := 312) (off := 284) hx hb dL_acts_28 g10 c288 (by decide) (by decide) rfl (by decide) ?_
      refine iv_iconst hx hb dL_acts_312 ?_
      refine lv_iload hx hb dL_acts_313 (lv_at hl 8 rfl) ?_
      refine iv_bipush hx hb dL_acts_315 (by decide +kernel) ?_
      refine iv_ishr hx hb dL_acts_317 ?_
      refine lv_iload hx hb dL_acts_318 (lv_at hl 8 rfl) ?_
      refine iv_bipush hx hb dL_acts_320 (by decide +kernel) ?_
      refine iv_ishr hx hb dL_acts_322 ?_
      refine iv_iconst hx hb dL_acts_323 ?_
      obtain ⟨u289, q290, h⟩ := bd_t h
      refine iv_callS (As := [.int (zi (srI x7 12)), .int (zi 4)]) (rest := [.int (zi (srI x7 7)), .int (zi 1)]) ⟨hx, hb, hml, hown, hts⟩ (k_L_low l E H.size (srI x7 12) 4 u289 q290) (va_cwS 2 hts gL_acts_L_low rfl rfl rfl (by decide +kernel) ⟨Nat.le_of_ble_eq_true rfl, Nat.le_of_ble_eq_true rfl⟩) hK hP hS hA rfl hl.1 (Nat.le_of_ble_eq_true rfl) ⟨Nat.le_of_ble_eq_true rfl, Nat.le_of_ble_eq_true rfl⟩ dL_acts_324 (fun H locs hP hS => ?_)
      obtain ⟨g291, h⟩ := gd_t h
      obtain ⟨j294, e295, h⟩ := jn2_t h
      have hj294 : ∀ (v292 : Int) (s293 : bLXgmpwn) (H : Heap) (locs : List Loc) (ls : Array Slot), j294 v292 s293 = some u → va_P E.1 vwCl (wLXgmpwn a hs ag am ap aw an E s293) H → va_D A (wLXgmpwn a hs ag am ap aw an E s293) → va_S A s.heap H locs → lv_has ls 16 [(8, .int (zi u8)), (0, .ref (a 0)), (1, .ref (ag 0)), (2, .ref (am 0)), (3, .ref (ap 0)), (4, .ref (aw 0)), (5, .ref (an 0)), (6, .int (zi x6)), (7, .int (zi x7))] → W p l e ({ frames := 7, cells := 0, slots := 0, locals := 164 }) s m ([.ref (a 0), .ref (ag 0), .ref (am 0), .ref (ap 0), .ref (aw 0), .ref (an 0), .int (zi x6), .int (zi x7)] : List Value).toArray below meth c H locs 0 0 (MQ below (mQix E (fun h1 => wLXgmpwn a h1 ag am ap aw an E u.2) u.1 A) ([.ref (a 0), .ref (ag 0), .ref (am 0), .ref (ap 0), .ref (aw 0), .ref (an 0), .int (zi x6), .int (zi x7)] : List Value).toArray s 0 0 A) (F0 m 336 ls [.int (zi v292), .int (zi (srI x7 7)), .int (zi 1)]) := by
        intro v292 s293 H locs ls h hP hD hS hl
        rw [e295] at h
        obtain ⟨u296, q297, h⟩ := bd_t h
        refine iv_callS (As := [.int (zi (srI x7 7)), .int (zi v292)]) (rest := [.int (zi 1)]) ⟨hx, hb, hml, hown, hts⟩ (k_L_low l E H.size (srI x7 7) v292 u296 q297) (va_cwS 2 hts gL_acts_L_low rfl rfl rfl (by decide +kernel) ⟨Nat.le_of_ble_eq_true rfl, Nat.le_of_ble_eq_true rfl⟩) hK hP hS hA rfl hl.1 (Nat.le_of_ble_eq_true rfl) ⟨Nat.le_of_ble_eq_true rfl, Nat.le_of_ble_eq_true rfl⟩ dL_acts_336 (fun H locs hP hS => ?_)
        refine iv_iadd hx hb dL_acts_339 ?_
        obtain ⟨v298, e299, h⟩ := nm_t h
        refine iv_nm e299 ?_
        refine lv_istore (lv' := [(11, .int (zi v298)), (8, .int (zi u8)), (0, .ref (a 0)), (1, .ref (ag 0)), (2, .ref (am 0)), (3, .ref (ap 0)), (4, .ref (aw 0)), (5, .ref (an 0)), (6, .int (zi x6)), (7, .int (zi x7))]) hx hb dL_acts_340 hl (by decide) rfl (fun ls hl => ?_)
        refine lv_aload_n hx hb dL_acts_342 rfl (lv_at hl 4 rfl) ?_
        refine lv_aload_n hx hb dL_acts_343 rfl (lv_at hl 5 rfl) ?_
        refine lv_aload hx hb dL_acts_344 (lv_at hl 7 rfl) ?_
        refine lv_iload hx hb dL_acts_346 (lv_at hl 1 rfl) ?_
        refine lv_iload hx hb dL_acts_348 (lv_at hl 0 rfl) ?_
        obtain ⟨u300, q301, h⟩ := bd_t h
        refine iv_callWI (As := [.ref (am 0), .ref (ap 0), .ref (an 0), .int (zi u8), .int (zi v298)]) (rest := []) (ws1 := wLXgmpwn a hs ag am ap aw an E s293) ⟨hx, hb, hml, hown, hts⟩ (k_L_first l E am ap an H.size N u8 v298 (s293.2.2.1, s293.2.2.2.1, s293.2.2.2.2.2) u300 q301) (va_cwS 5 hts gL_acts_L_first rfl rfl rfl (by decide +kernel) ⟨Nat.le_of_ble_eq_true rfl, Nat.le_of_ble_eq_true rfl⟩) hK hP hD hS hA (pm_skip (pm_skip (pm_take (pm_take (pm_skip (pm_end)))))) (pm_skip (pm_skip (pm_take (pm_take (pm_skip (pm_end)))))) rfl hl.1 (Nat.le_of_ble_eq_true rfl) ⟨Nat.le_of_ble_eq_true rfl, Nat.le_of_ble_eq_true rfl⟩ dL_acts_350 (fun H locs hP hD hS => ?_)
        obtain ⟨g302, h⟩ := gd_t h
        refine iv_ge (tgt := 394) hx hb g302 dL_acts_353 (by decide) (fun c303 => ?_) (fun c303 => ?_)
        · have h := it_t c303 h
          refine lv_aload_n hx hb dL_acts_394 rfl (lv_at hl 2 rfl) ?_
          refine lv_iload hx hb dL_acts_395 (lv_at hl 1 rfl) ?_
          refine lv_iload hx hb dL_acts_397 (lv_at hl 0 rfl) ?_
          obtain ⟨u304, q305, h⟩ := bd_t h
          obtain ⟨s306, e307, h⟩ := nm_t h
          refine iv_callIxp (As := [.int (zi u8), .int (zi v298)]) (rest := []) (wx := fun h308 => wLXgmpwn a h308 ag am ap aw an E s306) ⟨hx, hb, hml, hown, hts⟩ (k_X7_shirt l E a hs H.size N u8 v298 s293.1 u304 q305) (cwV 2 hts gL_acts_X7_shirt rfl rfl rfl (by decide +kernel) ⟨Nat.le_of_ble_eq_true rfl, Nat.le_of_ble_eq_true rfl⟩) hK hP hD hS hA 0 7 rfl rfl (pm_last) (fun h308 => by rw [e307]; exact pm_last) rfl hl.1 (Nat.le_of_ble_eq_true rfl) ⟨Nat.le_of_ble_eq_true rfl, Nat.le_of_ble_eq_true rfl⟩ dL_acts_399 (fun h308 H locs hP hD hS => ?_)
          refine lv_aload_n hx hb dL_acts_402 rfl (lv_at hl 4 rfl) ?_
          refine lv_aload_n hx hb dL_acts_403 rfl (lv_at hl 5 rfl) ?_
          refine lv_aload hx hb dL_acts_404 (lv_at hl 7 rfl) ?_
          refine lv_iload hx hb dL_acts_406 (lv_at hl 1 rfl) ?_
          refine lv_iload hx hb dL_acts_408 (lv_at hl 0 rfl) ?_
          obtain ⟨u309, q310, h⟩ := bd_t h
          obtain ⟨s311, e312, h⟩ := nm_t h
          obtain ⟨s313, e314, h⟩ := nm_t h
          obtain ⟨s315, e316, h⟩ := nm_t h
          refine iv_callWI (As := [.ref (am 0), .ref (ap 0), .ref (an 0), .int (zi u8), .int (zi v298)]) (rest := [.int (zi u304.1)]) (ws1 := wLXgmpwn a h308 ag am ap aw an E s315) ⟨hx, hb, hml, hown, hts⟩ (k_L_sews l E am ap an H.size N u8 v298 (s306.2.2.1, s306.2.2.2.1, s306.2.2.2.2.2) u309 q310) (va_cwS 5 hts gL_acts_L_sews rfl rfl rfl (by decide +kernel) ⟨Nat.le_of_ble_eq_true rfl, Nat.le_of_ble_eq_true rfl⟩) hK hP hD hS hA (pm_skip (pm_skip (pm_take (pm_take (pm_skip (pm_end)))))) (by rw [e316, e314, e312]; exact pm_skip (pm_skip (pm_take (pm_take (pm_skip (pm_end)))))) rfl hl.1 (Nat.le_of_ble_eq_true rfl) ⟨Nat.le_of_ble_eq_true rfl, Nat.le_of_ble_eq_true rfl⟩ dL_acts_410 (fun H locs hP hD hS => ?_)
          obtain ⟨g317, h⟩ := gd_t h
          obtain ⟨g318, h⟩ := gd_t h
          obtain ⟨j321, e322, h⟩ := jn2_t h
          have hj321 : ∀ (v319 : Int) (s320 : bLXgmpwn) (H : Heap) (locs : List Loc) (ls : Array Slot), j321 v319 s320 = some u → va_P E.1 vwCl (wLXgmpwn a h308 ag am ap aw an E s320) H → va_D A (wLXgmpwn a h308 ag am ap aw an E s320) → va_S A s.heap H locs → lv_has ls 16 [(11, .int (zi v298)), (8, .int (zi u8)), (0, .ref (a 0)), (1, .ref (ag 0)), (2, .ref (am 0)), (3, .ref (ap 0)), (4, .ref (aw 0)), (5, .ref (an 0)), (6, .int (zi x6)), (7, .int (zi x7))] → W p l e ({ frames := 7, cells := 0, slots := 0, locals := 164 }) s m ([.ref (a 0), .ref (ag 0), .ref (am 0), .ref (ap 0), .ref (aw 0), .ref (an 0), .int (zi x6), .int (zi x7)] : List Value).toArray below meth c H locs 0 0 (MQ below (mQix E (fun h1 => wLXgmpwn a h1 ag am ap aw an E u.2) u.1 A) ([.ref (a 0), .ref (ag 0), .ref (am 0), .ref (ap 0), .ref (aw 0), .ref (an 0), .int (zi x6), .int (zi x7)] : List Value).toArray s 0 0 A) (F0 m 421 ls [.int (zi v319)]) := by
            intro v319 s320 H locs ls h hP hD hS hl
            rw [e322] at h
            obtain ⟨g323, h⟩ := gd_t h
            cases h
            exact iv_zretx h308 rfl hx hb hr hlocks g323 hK hP hD hS dL_acts_421
          refine iv_ine (tgt := 420) hx hb g317 g318 dL_acts_413 (by decide) (fun c324 => ?_) (fun c324 => ?_)
          · have h := it_f c324 h
            refine iv_iconst hx hb dL_acts_420 ?_
            exact hj321 0 s315 _ _ _ h hP hD hS (lv_sub hl [0, 1, 2, 3, 4, 5, 6, 7, 8, 9] rfl)
          · have h := it_t c324 h
            refine iv_iconst hx hb dL_acts_416 ?_
            refine lv_goto (tgt := 421) hx hb dL_acts_417 (by decide) ?_
            exact hj321 1 s315 _ _ _ h hP hD hS (lv_sub hl [0, 1, 2, 3, 4, 5, 6, 7, 8, 9] rfl)
        · have h := it_f c303 h
          refine lv_aload_n hx hb dL_acts_356 rfl (lv_at hl 2 rfl) ?_
          refine lv_iload hx hb dL_acts_357 (lv_at hl 1 rfl) ?_
          refine lv_iload hx hb dL_acts_359 (lv_at hl 0 rfl) ?_
          obtain ⟨u325, q326, h⟩ := bd_t h
          obtain ⟨s327, e328, h⟩ := nm_t h
          refine iv_callIxp (As := [.int (zi u8), .int (zi v298)]) (rest := []) (wx := fun h329 => wLXgmpwn a h329 ag am ap aw an E s327) ⟨hx, hb, hml, hown, hts⟩ (k_X7_shirt l E a hs H.size N u8 v298 s293.1 u325 q326) (cwV 2 hts gL_acts_X7_shirt rfl rfl rfl (by decide +kernel) ⟨Nat.le_of_ble_eq_true rfl, Nat.le_of_ble_eq_true rfl⟩) hK hP hD hS hA 0 7 rfl rfl (pm_last) (fun h329 => by rw [e328]; exact pm_last) rfl hl.1 (Nat.le_of_ble_eq_true rfl) ⟨Nat.le_of_ble_eq_true rfl, Nat.le_of_ble_eq_true rfl⟩ dL_acts_361 (fun h329 H locs hP hD hS => ?_)
          refine iv_bipush hx hb dL_acts_364 (by decide +kernel) ?_
          refine lv_aload_n hx hb dL_acts_366 rfl (lv_at hl 5 rfl) ?_
          refine lv_aload hx hb dL_acts_367 (lv_at hl 7 rfl) ?_
          refine lv_iload hx hb dL_acts_369 (lv_at hl 1 rfl) ?_
          obtain ⟨u330, q331, h⟩ := bd_t h
          refine iv_callWI (As := [.ref (ap 0), .ref (an 0), .int (zi u8)]) (rest := [.int (zi (-10)), .int (zi u325.1)]) (ws1 := wLXgmpwn a h329 ag am ap aw an E s327) ⟨hx, hb, hml, hown, hts⟩ (k_L_in l E ap an H.size N u8 (s327.2.2.2.1, s327.2.2.2.2.2) u330 q331) (va_cwS 3 hts gL_acts_L_in rfl rfl rfl (by decide +kernel) ⟨Nat.le_of_ble_eq_true rfl, Nat.le_of_ble_eq_true rfl⟩) hK hP hD hS hA (pm_skip (pm_skip (pm_skip (pm_take (pm_skip (pm_end)))))) (pm_skip (pm_skip (pm_skip (pm_take (pm_skip (pm_end)))))) rfl hl.1 (Nat.le_of_ble_eq_true rfl) ⟨Nat.le_of_ble_eq_true rfl, Nat.le_of_ble_eq_true rfl⟩ dL_acts_371 (fun H locs hP hD hS => ?_)
          refine lv_iload hx hb dL_acts_374 (lv_at hl 0 rfl) ?_
          obtain ⟨g332, h⟩ := gd_t h
          obtain ⟨g333, h⟩ := gd_t h
          obtain ⟨j336, e337, h⟩ := jn2_t h
          have hj336 : ∀ (v334 : Int) (s335 : bLXgmpwn) (H : Heap) (locs : List Loc) (ls : Array Slot), j336 v334 s335 = some u → va_P E.1 vwCl (wLXgmpwn a h329 ag am ap aw an E s335) H → va_D A (wLXgmpwn a h329 ag am ap aw an E s335) → va_S A s.heap H locs → lv_has ls 16 [(11, .int (zi v298)), (8, .int (zi u8)), (0, .ref (a 0)), (1, .ref (ag 0)), (2, .ref (am 0)), (3, .ref (ap 0)), (4, .ref (aw 0)), (5, .ref (an 0)), (6, .int (zi x6)), (7, .int (zi x7))] → W p l e ({ frames := 7, cells := 0, slots := 0, locals := 164 }) s m ([.ref (a 0), .ref (ag 0), .ref (am 0), .ref (ap 0), .ref (aw 0), .ref (an 0), .int (zi x6), .int (zi x7)] : List Value).toArray below meth c H locs 0 0 (MQ below (mQix E (fun h1 => wLXgmpwn a h1 ag am ap aw an E u.2) u.1 A) ([.ref (a 0), .ref (ag 0), .ref (am 0), .ref (ap 0), .ref (aw 0), .ref (an 0), .int (zi x6), .int (zi x7)] : List Value).toArray s 0 0 A) (F0 m 384 ls [.int (zi v334), .int (zi (-10)), .int (zi u325.1)]) := by
            intro v334 s335 H locs ls h hP hD hS hl
            rw [e337] at h
            refine iv_isub hx hb dL_acts_384 ?_
            obtain ⟨g338, h⟩ := gd_t h
            obtain ⟨g339, h⟩ := gd_t h
            obtain ⟨j342, e343, h⟩ := jn2_t h
            have hj342 : ∀ (v340 : Int) (s341 : bLXgmpwn) (H : Heap) (locs : List Loc) (ls : Array Slot), j342 v340 s341 = some u → va_P E.1 vwCl (wLXgmpwn a h329 ag am ap aw an E s341) H → va_D A (wLXgmpwn a h329 ag am ap aw an E s341) → va_S A s.heap H locs → lv_has ls 16 [(11, .int (zi v298)), (8, .int (zi u8)), (0, .ref (a 0)), (1, .ref (ag 0)), (2, .ref (am 0)), (3, .ref (ap 0)), (4, .ref (aw 0)), (5, .ref (an 0)), (6, .int (zi x6)), (7, .int (zi x7))] → W p l e ({ frames := 7, cells := 0, slots := 0, locals := 164 }) s m ([.ref (a 0), .ref (ag 0), .ref (am 0), .ref (ap 0), .ref (aw 0), .ref (an 0), .int (zi x6), .int (zi x7)] : List Value).toArray below meth c H locs 0 0 (MQ below (mQix E (fun h1 => wLXgmpwn a h1 ag am ap aw an E u.2) u.1 A) ([.ref (a 0), .ref (ag 0), .ref (am 0), .ref (ap 0), .ref (aw 0), .ref (an 0), .int (zi x6), .int (zi x7)] : List Value).toArray s 0 0 A) (F0 m 393 ls [.int (zi v340)]) := by
              intro v340 s341 H locs ls h hP hD hS hl
              rw [e343] at h
              obtain ⟨g344, h⟩ := gd_t h
              cases h
              exact iv_zretx h329 rfl hx hb hr hlocks g344 hK hP hD hS dL_acts_393
            refine iv_ine (tgt := 392) hx hb g338 g339 dL_acts_385 (by decide) (fun c345 => ?_) (fun c345 => ?_)
            · have h := it_f c345 h
              refine iv_iconst hx hb dL_acts_392 ?_
              exact hj342 0 s335 _ _ _ h hP hD hS (lv_sub hl [0, 1, 2, 3, 4, 5, 6, 7, 8, 9] rfl)
            · have h := it_t c345 h
              refine iv_iconst hx hb dL_acts_388 ?_
              refine lv_goto (tgt := 393) hx hb dL_acts_389 (by decide) ?_
              exact hj342 1 s335 _ _ _ h hP hD hS (lv_sub hl [0, 1, 2, 3, 4, 5, 6, 7, 8, 9] rfl)
          refine iv_ige (tgt := 383) hx hb g332 g333 dL_acts_376 (by decide) (fun c346 => ?_) (fun c346 => ?_)
          · have h := it_t c346 h
            refine iv_iconst hx hb dL_acts_383 ?_
            exact hj336 2 s327 _ _ _ h hP hD hS (lv_sub hl [0, 1, 2, 3, 4, 5, 6, 7, 8, 9] rfl)
          · have h := it_f c346 h
            refine iv_iconst hx hb dL_acts_379 ?_
            refine lv_goto (tgt := 384) hx hb dL_acts_380 (by decide) ?_
            exact hj336 1 s327 _ _ _ h hP hD hS (lv_sub hl [0, 1, 2, 3, 4, 5, 6, 7, 8, 9] rfl)
      refine iv_ne (tgt := 335) hx hb g291 dL_acts_327 (by decide) (fun c347 => ?_) (fun c347 => ?_)
      · have h := it_f c347 h
        refine iv_iconst hx hb dL_acts_335 ?_
        exact hj294 3 s5 _ _ _ h hP hD hS (lv_sub hl [0, 1, 2, 3, 4, 5, 6, 7, 8] rfl)
      · have h := it_t c347 h
        refine iv_bipush hx hb dL_acts_330 (by decide +kernel) ?_
        refine lv_goto (tgt := 336) hx hb dL_acts_332 (by decide) ?_
        exact hj294 9 s5 _ _ _ h hP hD hS (lv_sub hl [0, 1, 2, 3, 4, 5, 6, 7, 8] rfl)
    have h := it_f c288 h
    by_cases c348 : x6 = 9
    · have h := it_t c348 h
      refine iv_tabIn (tgt := 422) (off := 394) hx hb dL_acts_28 g10 c348 (by decide) (by decide) rfl (by decide) ?_
      refine lv_iload hx hb dL_acts_422 (lv_at hl 8 rfl) ?_
      refine lv_aload hx hb dL_acts_424 (lv_at hl 6 rfl) ?_
      refine iv_bipush hx hb dL_acts_426 (by decide +kernel) ?_
      refine iv_iald (f := s5.2.2.2.2.2) (j := 13) hx hb hK.1 hP 130 0 rfl rfl (by decide) (by decide +kernel) rfl dL_acts_428 ?_
      obtain ⟨u349, q350, h⟩ := bd_t h
      refine iv_callS (As := [.int (zi x7), .int (zi (s5.2.2.2.2.2 13))]) (rest := []) ⟨hx, hb, hml, hown, hts⟩ (k_L_low l E H.size x7 (s5.2.2.2.2.2 13) u349 q350) (va_cwS 2 hts gL_acts_L_low rfl rfl rfl (by decide +kernel) ⟨Nat.le_of_ble_eq_true rfl, Nat.le_of_ble_eq_true rfl⟩) hK hP hS hA rfl hl.1 (Nat.le_of_ble_eq_true rfl) ⟨Nat.le_of_ble_eq_true rfl, Nat.le_of_ble_eq_true rfl⟩ dL_acts_429 (fun H locs hP hS => ?_)
      refine lv_istore (lv' := [(12, .int (zi u349)), (8, .int (zi u8)), (0, .ref (a 0)), (1, .ref (ag 0)), (2, .ref (am 0)), (3, .ref (ap 0)), (4, .ref (aw 0)), (5, .ref (an 0)), (6, .int (zi x6)), (7, .int (zi x7))]) hx hb dL_acts_432 hl (by decide) rfl (fun ls hl => ?_)
      refine lv_aload_n hx hb dL_acts_434 rfl (lv_at hl 5 rfl) ?_
      refine iv_iconst hx hb dL_acts_435 ?_
      refine lv_iload hx hb dL_acts_436 (lv_at hl 0 rfl) ?_
      refine iv_imul hx hb dL_acts_438 ?_
      obtain ⟨g351, h⟩ := gd_t h
      refine iv_iald (f := s5.2.2.2.1) (j := (3 * u349).toNat) hx hb hK.1 hP 128 0 rfl rfl (by decide) g351 rfl dL_acts_439 ?_
      refine iv_bipush hx hb dL_acts_440 (by decide +kernel) ?_
      obtain ⟨g352, h⟩ := gd_t h
      obtain ⟨j355, e356, h⟩ := jn2_t h
      have hj355 : ∀ (v353 : Int) (s354 : bLXgmpwn) (H : Heap) (locs : List Loc) (ls : Array Slot), j355 v353 s354 = some u → va_P E.1 vwCl (wLXgmpwn a hs ag am ap aw an E s354) H → va_D A (wLXgmpwn a hs ag am ap aw an E s354) → va_S A s.heap H locs → lv_has ls 16 [(12, .int (zi u349)), (8, .int (zi u8)), (0, .ref (a 0)), (1, .ref (ag 0)), (2, .ref (am 0)), (3, .ref (ap 0)), (4, .ref (aw 0)), (5, .ref (an 0)), (6, .int (zi x6)), (7, .int (zi x7))] → W p l e ({ frames := 7, cells := 0, slots := 0, locals := 164 }) s m ([.ref (a 0), .ref (ag 0), .ref (am 0), .ref (ap 0), .ref (aw 0), .ref (an 0), .int (zi x6), .int (zi x7)] : List Value).toArray below meth c H locs 0 0 (MQ below (mQix E (fun h1 => wLXgmpwn a h1 ag am ap aw an E u.2) u.1 A) ([.ref (a 0), .ref (ag 0), .ref (am 0), .ref (ap 0), .ref (aw 0), .ref (an 0), .int (zi x6), .int (zi x7)] : List Value).toArray s 0 0 A) (F0 m 463 ls [.int (zi v353)]) := by
        intro v353 s354 H locs ls h hP hD hS hl
        rw [e356] at h
        refine lv_istore (lv' := [(13, .int (zi v353)), (12, .int (zi u349)), (8, .int (zi u8)), (0, .ref (a 0)), (1, .ref (ag 0)), (2, .ref (am 0)), (3, .ref (ap 0)), (4, .ref (aw 0)), (5, .ref (an 0)), (6, .int (zi x6)), (7, .int (zi x7))]) hx hb dL_acts_463 hl (by decide) rfl (fun ls hl => ?_)
        refine lv_aload_n hx hb dL_acts_465 rfl (lv_at hl 5 rfl) ?_
        refine iv_iconst hx hb dL_acts_466 ?_
        refine lv_iload hx hb dL_acts_467 (lv_at hl 1 rfl) ?_
        refine iv_imul hx hb dL_acts_469 ?_
        refine lv_dup2_11 hx hb dL_acts_470 rfl rfl ?_
        refine iv_iald (f := s354.2.2.1) (j := (3 * u349).toNat) hx hb hK.1 hP 127 0 rfl rfl (by decide) g351 rfl dL_acts_471 ?_
        refine lv_iload hx hb dL_acts_472 (lv_at hl 0 rfl) ?_
        obtain ⟨g357, h⟩ := gd_t h
        obtain ⟨j360, e361, h⟩ := jn2_t h
        have hj360 : ∀ (v358 : Int) (s359 : bLXgmpwn) (H : Heap) (locs : List Loc) (ls : Array Slot), j360 v358 s359 = some u → va_P E.1 vwCl (wLXgmpwn a hs ag am ap aw an E s359) H → va_D A (wLXgmpwn a hs ag am ap aw an E s359) → va_S A s.heap H locs → lv_has ls 16 [(13, .int (zi v353)), (12, .int (zi u349)), (8, .int (zi u8)), (0, .ref (a 0)), (1, .ref (ag 0)), (2, .ref (am 0)), (3, .ref (ap 0)), (4, .ref (aw 0)), (5, .ref (an 0)), (6, .int (zi x6)), (7, .int (zi x7))] → W p l e ({ frames := 7, cells := 0, slots := 0, locals := 164 }) s m ([.ref (a 0), .ref (ag 0), .ref (am 0), .ref (ap 0), .ref (aw 0), .ref (an 0), .int (zi x6), .int (zi x7)] : List Value).toArray below meth c H locs 0 0 (MQ below (mQix E (fun h1 => wLXgmpwn a h1 ag am ap aw an E u.2) u.1 A) ([.ref (a 0), .ref (ag 0), .ref (am 0), .ref (ap 0), .ref (aw 0), .ref (an 0), .int (zi x6), .int (zi x7)] : List Value).toArray s 0 0 A) (F0 m 491 ls [.int (zi v358), .int (zi (s354.2.2.1 ((3 * u349).toNat))), .int (zi (3 * u349)), .ref (am 0)]) := by
          intro v358 s359 H locs ls h hP hD hS hl
          rw [e361] at h
          refine iv_isub hx hb dL_acts_491 ?_
          obtain ⟨s362, e363, h⟩ := nm_t h
          refine iv_iast (f := s359.2.2.1) (j := (3 * u349).toNat) (ws1 := wLXgmpwn a hs ag am ap aw an E s362) hx hb hK.1 hP hD hS 127 0 rfl rfl (by decide) g351 rfl (by rw [e363]; rfl) dL_acts_492 (fun H locs hP hD hS => ?_)
          refine lv_aload_n hx hb dL_acts_493 rfl (lv_at hl 5 rfl) ?_
          refine iv_iconst hx hb dL_acts_494 ?_
          refine lv_iload hx hb dL_acts_495 (lv_at hl 1 rfl) ?_
          refine iv_imul hx hb dL_acts_497 ?_
          refine iv_iconst hx hb dL_acts_498 ?_
          refine iv_iadd hx hb dL_acts_499 ?_
          refine lv_dup2_11 hx hb dL_acts_500 rfl rfl ?_
          obtain ⟨g364, h⟩ := gd_t h
          refine iv_iald (f := s362.2.2.1) (j := ((3 * u349) + 1).toNat) hx hb hK.1 hP 127 0 rfl rfl (by decide) g364 rfl dL_acts_501 ?_
          refine lv_iload hx hb dL_acts_502 (lv_at hl 0 rfl) ?_
          obtain ⟨j367, e368, h⟩ := jn2_t h
          have hj367 : ∀ (v365 : Int) (s366 : bLXgmpwn) (H : Heap) (locs : List Loc) (ls : Array Slot), j367 v365 s366 = some u → va_P E.1 vwCl (wLXgmpwn a hs ag am ap aw an E s366) H → va_D A (wLXgmpwn a hs ag am ap aw an E s366) → va_S A s.heap H locs → lv_has ls 16 [(13, .int (zi v353)), (12, .int (zi u349)), (8, .int (zi u8)), (0, .ref (a 0)), (1, .ref (ag 0)), (2, .ref (am 0)), (3, .ref (ap 0)), (4, .ref (aw 0)), (5, .ref (an 0)), (6, .int (zi x6)), (7, .int (zi x7))] → W p l e ({ frames := 7, cells := 0, slots := 0, locals := 164 }) s m ([.ref (a 0), .ref (ag 0), .ref (am 0), .ref (ap 0), .ref (aw 0), .ref (an 0), .int (zi x6), .int (zi x7)] : List Value).toArray below meth c H locs 0 0 (MQ below (mQix E (fun h1 => wLXgmpwn a h1 ag am ap aw an E u.2) u.1 A) ([.ref (a 0), .ref (ag 0), .ref (am 0), .ref (ap 0), .ref (aw 0), .ref (an 0), .int (zi x6), .int (zi x7)] : List Value).toArray s 0 0 A) (F0 m 512 ls [.int (zi v365), .int (zi (s362.2.2.1 (((3 * u349) + 1).toNat))), .int (zi ((3 * u349) + 1)), .ref (am 0)]) := by
            intro v365 s366 H locs ls h hP hD hS hl
            rw [e368] at h
            refine iv_iadd hx hb dL_acts_512 ?_
            obtain ⟨s369, e370, h⟩ := nm_t h
            refine iv_iast (f := s366.2.2.1) (j := ((3 * u349) + 1).toNat) (ws1 := wLXgmpwn a hs ag am ap aw an E s369) hx hb hK.1 hP hD hS 127 0 rfl rfl (by decide) g364 rfl (by rw [e370]; rfl) dL_acts_513 (fun H locs hP hD hS => ?_)
            refine lv_aload_n hx hb dL_acts_514 rfl (lv_at hl 3 rfl) ?_
            refine lv_iload hx hb dL_acts_515 (lv_at hl 1 rfl) ?_
            obtain ⟨u371, q372, h⟩ := bd_t h
            obtain ⟨s373, e374, h⟩ := nm_t h
            refine iv_callIxp (As := [.int (zi u349)]) (rest := []) (wx := fun h375 => wLXgmpwn a h375 ag am ap aw an E s373) ⟨hx, hb, hml, hown, hts⟩ (k_X7_polish l E a hs H.size u349 s369.1 u371 q372) (cwV 1 hts gL_acts_X7_polish rfl rfl rfl (by decide +kernel) ⟨Nat.le_of_ble_eq_true rfl, Nat.le_of_ble_eq_true rfl⟩) hK hP hD hS hA 0 7 rfl rfl (pm_last) (fun h375 => by rw [e374]; exact pm_last) rfl hl.1 (Nat.le_of_ble_eq_true rfl) ⟨Nat.le_of_ble_eq_true rfl, Nat.le_of_ble_eq_true rfl⟩ dL_acts_517 (fun h375 H locs hP hD hS => ?_)
            refine lv_iload hx hb dL_acts_520 (lv_at hl 0 rfl) ?_
            obtain ⟨j378, e379, h⟩ := jn2_t h
            have hj378 : ∀ (v376 : Int) (s377 : bLXgmpwn) (H : Heap) (locs : List Loc) (ls : Array Slot), j378 v376 s377 = some u → va_P E.1 vwCl (wLXgmpwn a h375 ag am ap aw an E s377) H → va_D A (wLXgmpwn a h375 ag am ap aw an E s377) → va_S A s.heap H locs → lv_has ls 16 [(13, .int (zi v353)), (12, .int (zi u349)), (8, .int (zi u8)), (0, .ref (a 0)), (1, .ref (ag 0)), (2, .ref (am 0)), (3, .ref (ap 0)), (4, .ref (aw 0)), (5, .ref (an 0)), (6, .int (zi x6)), (7, .int (zi x7))] → W p l e ({ frames := 7, cells := 0, slots := 0, locals := 164 }) s m ([.ref (a 0), .ref (ag 0), .ref (am 0), .ref (ap 0), .ref (aw 0), .ref (an 0), .int (zi x6), .int (zi x7)] : List Value).toArray below meth c H locs 0 0 (MQ below (mQix E (fun h1 => wLXgmpwn a h1 ag am ap aw an E u.2) u.1 A) ([.ref (a 0), .ref (ag 0), .ref (am 0), .ref (ap 0), .ref (aw 0), .ref (an 0), .int (zi x6), .int (zi x7)] : List Value).toArray s 0 0 A) (F0 m 538 ls [.int (zi v376), .int (zi u371.1)]) := by
              intro v376 s377 H locs ls h hP hD hS hl
              rw [e379] at h
              obtain ⟨g380, h⟩ := gd_t h
              obtain ⟨g381, h⟩ := gd_t h
              obtain ⟨j384, e385, h⟩ := jn2_t h
              have hj384 : ∀ (v382 : Int) (s383 : bLXgmpwn) (H : Heap) (locs : List Loc) (ls : Array Slot), j384 v382 s383 = some u → va_P E.1 vwCl (wLXgmpwn a h375 ag am ap aw an E s383) H → va_D A (wLXgmpwn a h375 ag am ap aw an E s383) → va_S A s.heap H locs → lv_has ls 16 [(13, .int (zi v353)), (12, .int (zi u349)), (8, .int (zi u8)), (0, .ref (a 0)), (1, .ref (ag 0)), (2, .ref (am 0)), (3, .ref (ap 0)), (4, .ref (aw 0)), (5, .ref (an 0)), (6, .int (zi x6)), (7, .int (zi x7))] → W p l e ({ frames := 7, cells := 0, slots := 0, locals := 164 }) s m ([.ref (a 0), .ref (ag 0), .ref (am 0), .ref (ap 0), .ref (aw 0), .ref (an 0), .int (zi x6), .int (zi x7)] : List Value).toArray below meth c H locs 0 0 (MQ below (mQix E (fun h1 => wLXgmpwn a h1 ag am ap aw an E u.2) u.1 A) ([.ref (a 0), .ref (ag 0), .ref (am 0), .ref (ap 0), .ref (aw 0), .ref (an 0), .int (zi x6), .int (zi x7)] : List Value).toArray s 0 0 A) (F0 m 546 ls [.int (zi v382)]) := by
                intro v382 s383 H locs ls h hP hD hS hl
                rw [e385] at h
                obtain ⟨g386, h⟩ := gd_t h
                cases h
                exact iv_zretx h375 rfl hx hb hr hlocks g386 hK hP hD hS dL_acts_546
              refine iv_ine (tgt := 545) hx hb g380 g381 dL_acts_538 (by decide) (fun c387 => ?_) (fun c387 => ?_)
              · have h := it_f c387 h
                refine iv_iconst hx hb dL_acts_545 ?_
                exact hj384 0 s377 _ _ _ h hP hD hS (lv_sub hl [0, 1, 2, 3, 4, 5, 6, 7, 8, 9, 10] rfl)
              · have h := it_t c387 h
                refine iv_iconst hx hb dL_acts_541 ?_
                refine lv_goto (tgt := 546) hx hb dL_acts_542 (by decide) ?_
                exact hj384 1 s377 _ _ _ h hP hD hS (lv_sub hl [0, 1, 2, 3, 4, 5, 6, 7, 8, 9, 10] rfl)
            refine iv_eq (tgt := 536) hx hb g357 dL_acts_522 (by decide) (fun c388 => ?_) (fun c388 => ?_)
            · have h := it_t c388 h
              refine iv_bipush hx hb dL_acts_536 (by decide +kernel) ?_
              exact hj378 (-4) s373 _ _ _ h hP hD hS (lv_sub hl [0, 1, 2, 3, 4, 5, 6, 7, 8, 9, 10] rfl)
            · have h := it_f c388 h
              refine lv_aload_n hx hb dL_acts_525 rfl (lv_at hl 5 rfl) ?_
              refine iv_iconst hx hb dL_acts_526 ?_
              refine lv_iload hx hb dL_acts_527 (lv_at hl 1 rfl) ?_
              refine iv_imul hx hb dL_acts_529 ?_
              refine iv_iconst hx hb dL_acts_530 ?_
              refine iv_iadd hx hb dL_acts_531 ?_
              refine iv_iald (f := s373.2.2.1) (j := ((3 * u349) + 1).toNat) hx hb hK.1 hP 127 0 rfl rfl (by decide) g364 rfl dL_acts_532 ?_
              refine lv_goto (tgt := 538) hx hb dL_acts_533 (by decide) ?_
              exact hj378 (s373.2.2.1 (((3 * u349) + 1).toNat)) s373 _ _ _ h hP hD hS (lv_sub hl [0, 1, 2, 3, 4, 5, 6, 7, 8, 9, 10] rfl)
          refine iv_eq (tgt := 511) hx hb g357 dL_acts_504 (by decide) (fun c389 => ?_) (fun c389 => ?_)
          · have h := it_t c389 h
            refine iv_iconst hx hb dL_acts_511 ?_
            exact hj367 0 s362 _ _ _ h hP hD hS (lv_sub hl [0, 1, 2, 3, 4, 5, 6, 7, 8, 9, 10] rfl)
          · have h := it_f c389 h
            refine iv_iconst hx hb dL_acts_507 ?_
            refine lv_goto (tgt := 512) hx hb dL_acts_508 (by decide) ?_
            exact hj367 1 s362 _ _ _ h hP hD hS (lv_sub hl [0, 1, 2, 3, 4, 5, 6, 7, 8, 9, 10] rfl)
        refine iv_eq (tgt := 490) hx hb g357 dL_acts_474 (by decide) (fun c390 => ?_) (fun c390 => ?_)
        · have h := it_t c390 h
          refine iv_iconst hx hb dL_acts_490 ?_
          exact hj360 0 s354 _ _ _ h hP hD hS (lv_sub hl [0, 1, 2, 3, 4, 5, 6, 7, 8, 9, 10] rfl)
        · have h := it_f c390 h
          refine lv_aload_n hx hb dL_acts_477 rfl (lv_at hl 5 rfl) ?_
          refine iv_iconst hx hb dL_acts_478 ?_
          refine lv_iload hx hb dL_acts_479 (lv_at hl 1 rfl) ?_
          refine iv_imul hx hb dL_acts_481 ?_
          refine iv_iald (f := s354.2.2.1) (j := (3 * u349).toNat) hx hb hK.1 hP 127 0 rfl rfl (by decide) g351 rfl dL_acts_482 ?_
          obtain ⟨g391, h⟩ := gd_t h
          refine iv_le (tgt := 490) hx hb g391 dL_acts_483 (by decide) (fun c392 => ?_) (fun c392 => ?_)
          · have h := it_t c392 h
            refine iv_iconst hx hb dL_acts_490 ?_
            exact hj360 0 s354 _ _ _ h hP hD hS (lv_sub hl [0, 1, 2, 3, 4, 5, 6, 7, 8, 9, 10] rfl)
          · have h := it_f c392 h
            refine iv_iconst hx hb dL_acts_486 ?_
            refine lv_goto (tgt := 491) hx hb dL_acts_487 (by decide) ?_
            exact hj360 1 s354 _ _ _ h hP hD hS (lv_sub hl [0, 1, 2, 3, 4, 5, 6, 7, 8, 9, 10] rfl)
      refine iv_ieq (tgt := 462) hx hb g352 (by decide +kernel) dL_acts_442 (by decide) (fun c393 => ?_) (fun c393 => ?_)
      · have h := it_t c393 h
        refine iv_iconst hx hb dL_acts_462 ?_
        exact hj355 0 s5 _ _ _ h hP hD hS (lv_sub hl [0, 1, 2, 3, 4, 5, 6, 7, 8, 9] rfl)
      · have h := it_f c393 h
        refine lv_aload_n hx hb dL_acts_445 rfl (lv_at hl 4 rfl) ?_
        refine iv_iconst hx hb dL_acts_446 ?_
        refine lv_iload hx hb dL_acts_447 (lv_at hl 0 rfl) ?_
        refine iv_imul hx hb dL_acts_449 ?_
        refine iv_iconst hx hb dL_acts_450 ?_
        refine iv_iadd hx hb dL_acts_451 ?_
        obtain ⟨g394, h⟩ := gd_t h
        refine iv_iald (f := s5.2.2.1) (j := ((3 * u349) + 1).toNat) hx hb hK.1 hP 127 0 rfl rfl (by decide) g394 rfl dL_acts_452 ?_
        refine iv_bipush hx hb dL_acts_453 (by decide +kernel) ?_
        obtain ⟨g395, h⟩ := gd_t h
        refine iv_ige (tgt := 462) hx hb g395 (by decide +kernel) dL_acts_455 (by decide) (fun c396 => ?_) (fun c396 => ?_)
        · have h := it_t c396 h
          refine iv_iconst hx hb dL_acts_462 ?_
          exact hj355 0 s5 _ _ _ h hP hD hS (lv_sub hl [0, 1, 2, 3, 4, 5, 6, 7, 8, 9] rfl)
        · have h := it_f c396 h
          refine iv_iconst hx hb dL_acts_458 ?_
          refine lv_goto (tgt := 463) hx hb dL_acts_459 (by decide) ?_
          exact hj355 1 s5 _ _ _ h hP hD hS (lv_sub hl [0, 1, 2, 3, 4, 5, 6, 7, 8, 9] rfl)
    have h := it_f c348 h
    by_cases c397 : x6 = 10
    · have h := it_t c397 h
      refine iv_tabIn (tgt := 422) (off := 394) hx hb dL_acts_28 g10 c397 (by decide) (by decide) rfl (by decide) ?_
      refine lv_iload hx hb dL_acts_422 (lv_at hl 8 rfl) ?_
      refine lv_aload hx hb dL_acts_424 (lv_at hl 6 rfl) ?_
      refine iv_bipush hx hb dL_acts_426 (by decide +kernel) ?_
      refine iv_iald (f := s5.2.2.2.2.2) (j := 13) hx hb hK.1 hP 130 0 rfl rfl (by decide) (by decide +kernel) rfl dL_acts_428 ?_
      obtain ⟨u398, q399, h⟩ := bd_t h
      refine iv_callS (As := [.int (zi x7), .int (zi (s5.2.2.2.2.2 13))]) (rest := []) ⟨hx, hb, hml, hown, hts⟩ (k_L_low l E H.size x7 (s5.2.2.2.2.2 13) u398 q399) (va_cwS 2 hts gL_acts_L_low rfl rfl rfl (by decide +kernel) ⟨Nat.le_of_ble_eq_true rfl, Nat.le_of_ble_eq_true rfl⟩) hK hP hS hA rfl hl.1 (Nat.le_of_ble_eq_true rfl) ⟨Nat.le_of_ble_eq_true rfl, Nat.le_of_ble_eq_true rfl⟩ dL_acts_429 (fun H locs hP hS => ?_)
      refine lv_istore (lv' := [(12, .int (zi u398)), (8, .int (zi u8)), (0, .ref (a 0)), (1, .ref (ag 0)), (2, .ref (am 0)), (3, .ref (ap 0)), (4, .ref (aw 0)), (5, .ref (an 0)), (6, .int (zi x6)), (7, .int (zi x7))]) hx hb dL_acts_432 hl (by decide) rfl (fun ls hl => ?_)
      refine lv_aload_n hx hb dL_acts_434 rfl (lv_at hl 5 rfl) ?_
      refine iv_iconst hx hb dL_acts_435 ?_
      refine lv_iload hx hb dL_acts_436 (lv_at hl 0 rfl) ?_
      refine iv_imul hx hb dL_acts_438 ?_
      obtain ⟨g400, h⟩ := gd_t h
      refine iv_iald (f := s5.2.2.2.1) (j := (3 * u398).toNat) hx hb hK.1 hP 128 0 rfl rfl (by decide) g400 rfl dL_acts_439 ?_
      refine iv_bipush hx hb dL_acts_440 (by decide +kernel) ?_
      obtain ⟨g401, h⟩ := gd_t h
      obtain ⟨j404, e405, h⟩ := jn2_t h
      have hj404 : ∀ (v402 : Int) (s403 : bLXgmpwn) (H : Heap) (locs : List Loc) (ls : Array Slot), j404 v402 s403 = some u → va_P E.1 vwCl (wLXgmpwn a hs ag am ap aw an E s403) H → va_D A (wLXgmpwn a hs ag am ap aw an E s403) → va_S A s.heap H locs → lv_has ls 16 [(12, .int (zi u398)), (8, .int (zi u8)), (0, .ref (a 0)), (1, .ref (ag 0)), (2, .ref (am 0)), (3, .ref (ap 0)), (4, .ref (aw 0)), (5, .ref (an 0)), (6, .int (zi x6)), (7, .int (zi x7))] → W p l e ({ frames := 7, cells := 0, slots := 0, locals := 164 }) s m ([.ref (a 0), .ref (ag 0), .ref (am 0), .ref (ap 0), .ref (aw 0), .ref (an 0), .int (zi x6), .int (zi x7)] : List Value).toArray below meth c H locs 0 0 (MQ below (mQix E (fun h1 => wLXgmpwn a h1 ag am ap aw an E u.2) u.1 A) ([.ref (a 0), .ref (ag 0), .ref (am 0), .ref (ap 0), .ref (aw 0), .ref (an 0), .int (zi x6), .int (zi x7)] : List Value).toArray s 0 0 A) (F0 m 463 ls [.int (zi v402)]) := by
        intro v402 s403 H locs ls h hP hD hS hl
        rw [e405] at h
        refine lv_istore (lv' := [(13, .int (zi v402)), (12, .int (zi u398)), (8, .int (zi u8)), (0, .ref (a 0)), (1, .ref (ag 0)), (2, .ref (am 0)), (3, .ref (ap 0)), (4, .ref (aw 0)), (5, .ref (an 0)), (6, .int (zi x6)), (7, .int (zi x7))]) hx hb dL_acts_463 hl (by decide) rfl (fun ls hl => ?_)
        refine lv_aload_n hx hb dL_acts_465 rfl (lv_at hl 5 rfl) ?_
        refine iv_iconst hx hb dL_acts_466 ?_
        refine lv_iload hx hb dL_acts_467 (lv_at hl 1 rfl) ?_
        refine iv_imul hx hb dL_acts_469 ?_
        refine lv_dup2_11 hx hb dL_acts_470 rfl rfl ?_
        refine iv_iald (f := s403.2.2.1) (j := (3 * u398).toNat) hx hb hK.1 hP 127 0 rfl rfl (by decide) g400 rfl dL_acts_471 ?_
        refine lv_iload hx hb dL_acts_472 (lv_at hl 0 rfl) ?_
        obtain ⟨g406, h⟩ := gd_t h
        obtain ⟨j409, e410, h⟩ := jn2_t h
        have hj409 : ∀ (v407 : Int) (s408 : bLXgmpwn) (H : Heap) (locs : List Loc) (ls : Array Slot), j409 v407 s408 = some u → va_P E.1 vwCl (wLXgmpwn a hs ag am ap aw an E s408) H → va_D A (wLXgmpwn a hs ag am ap aw an E s408) → va_S A s.heap H locs → lv_has ls 16 [(13, .int (zi v402)), (12, .int (zi u398)), (8, .int (zi u8)), (0, .ref (a 0)), (1, .ref (ag 0)), (2, .ref (am 0)), (3, .ref (ap 0)), (4, .ref (aw 0)), (5, .ref (an 0)), (6, .int (zi x6)), (7, .int (zi x7))] → W p l e ({ frames := 7, cells := 0, slots := 0, locals := 164 }) s m ([.ref (a 0), .ref (ag 0), .ref (am 0), .ref (ap 0), .ref (aw 0), .ref (an 0), .int (zi x6), .int (zi x7)] : List Value).toArray below meth c H locs 0 0 (MQ below (mQix E (fun h1 => wLXgmpwn a h1 ag am ap aw an E u.2) u.1 A) ([.ref (a 0), .ref (ag 0), .ref (am 0), .ref (ap 0), .ref (aw 0), .ref (an 0), .int (zi x6), .int (zi x7)] : List Value).toArray s 0 0 A) (F0 m 491 ls [.int (zi v407), .int (zi (s403.2.2.1 ((3 * u398).toNat))), .int (zi (3 * u398)), .ref (am 0)]) := by
          intro v407 s408 H locs ls h hP hD hS hl
          rw [e410] at h
          refine iv_isub hx hb dL_acts_491 ?_
          obtain ⟨s411, e412, h⟩ := nm_t h
          refine iv_iast (f := s408.2.2.1) (j := (3 * u398).toNat) (ws1 := wLXgmpwn a hs ag am ap aw an E s411) hx hb hK.1 hP hD hS 127 0 rfl rfl (by decide) g400 rfl (by rw [e412]; rfl) dL_acts_492 (fun H locs hP hD hS => ?_)
          refine lv_aload_n hx hb dL_acts_493 rfl (lv_at hl 5 rfl) ?_
          refine iv_iconst hx hb dL_acts_494 ?_
          refine lv_iload hx hb dL_acts_495 (lv_at hl 1 rfl) ?_
          refine iv_imul hx hb dL_acts_497 ?_
          refine iv_iconst hx hb dL_acts_498 ?_
          refine iv_iadd hx hb dL_acts_499 ?_
          refine lv_dup2_11 hx hb dL_acts_500 rfl rfl ?_
          obtain ⟨g413, h⟩ := gd_t h
          refine iv_iald (f := s411.2.2.1) (j := ((3 * u398) + 1).toNat) hx hb hK.1 hP 127 0 rfl rfl (by decide) g413 rfl dL_acts_501 ?_
          refine lv_iload hx hb dL_acts_502 (lv_at hl 0 rfl) ?_
          obtain ⟨j416, e417, h⟩ := jn2_t h
          have hj416 : ∀ (v414 : Int) (s415 : bLXgmpwn) (H : Heap) (locs : List Loc) (ls : Array Slot), j416 v414 s415 = some u → va_P E.1 vwCl (wLXgmpwn a hs ag am ap aw an E s415) H → va_D A (wLXgmpwn a hs ag am ap aw an E s415) → va_S A s.heap H locs → lv_has ls 16 [(13, .int (zi v402)), (12, .int (zi u398)), (8, .int (zi u8)), (0, .ref (a 0)), (1, .ref (ag 0)), (2, .ref (am 0)), (3, .ref (ap 0)), (4, .ref (aw 0)), (5, .ref (an 0)), (6, .int (zi x6)), (7, .int (zi x7))] → W p l e ({ frames := 7, cells := 0, slots := 0, locals := 164 }) s m ([.ref (a 0), .ref (ag 0), .ref (am 0), .ref (ap 0), .ref (aw 0), .ref (an 0), .int (zi x6), .int (zi x7)] : List Value).toArray below meth c H locs 0 0 (MQ below (mQix E (fun h1 => wLXgmpwn a h1 ag am ap aw an E u.2) u.1 A) ([.ref (a 0), .ref (ag 0), .ref (am 0), .ref (ap 0), .ref (aw 0), .ref (an 0), .int (zi x6), .int (zi x7)] : List Value).toArray s 0 0 A) (F0 m 512 ls [.int (zi v414), .int (zi (s411.2.2.1 (((3 * u398) + 1).toNat))), .int (zi ((3 * u398) + 1)), .ref (am 0)]) := by
            intro v414 s415 H locs ls h hP hD hS hl
            rw [e417] at h
            refine iv_iadd hx hb dL_acts_512 ?_
            obtain ⟨s418, e419, h⟩ := nm_t h
            refine iv_iast (f := s415.2.2.1) (j := ((3 * u398) + 1).toNat) (ws1 := wLXgmpwn a hs ag am ap aw an E s418) hx hb hK.1 hP hD hS 127 0 rfl rfl (by decide) g413 rfl (by rw [e419]; rfl) dL_acts_513 (fun H locs hP hD hS => ?_)
            refine lv_aload_n hx hb dL_acts_514 rfl (lv_at hl 3 rfl) ?_
            refine lv_iload hx hb dL_acts_515 (lv_at hl 1 rfl) ?_
            obtain ⟨u420, q421, h⟩ := bd_t h
            obtain ⟨s422, e423, h⟩ := nm_t h
            refine iv_callIxp (As := [.int (zi u398)]) (rest := []) (wx := fun h424 => wLXgmpwn a h424 ag am ap aw an E s422) ⟨hx, hb, hml, hown, hts⟩ (k_X7_polish l E a hs H.size u398 s418.1 u420 q421) (cwV 1 hts gL_acts_X7_polish rfl rfl rfl (by decide +kernel) ⟨Nat.le_of_ble_eq_true rfl, Nat.le_of_ble_eq_true rfl⟩) hK hP hD hS hA 0 7 rfl rfl (pm_last) (fun h424 => by rw [e423]; exact pm_last) rfl hl.1 (Nat.le_of_ble_eq_true rfl) ⟨Nat.le_of_ble_eq_true rfl, Nat.le_of_ble_eq_true rfl⟩ dL_acts_517 (fun h424 H locs hP hD hS => ?_)
            refine lv_iload hx hb dL_acts_520 (lv_at hl 0 rfl) ?_
            obtain ⟨j427, e428, h⟩ := jn2_t h
            have hj427 : ∀ (v425 : Int) (s426 : bLXgmpwn) (H : Heap) (locs : List Loc) (ls : Array Slot), j427 v425 s426 = some u → va_P E.1 vwCl (wLXgmpwn a h424 ag am ap aw an E s426) H → va_D A (wLXgmpwn a h424 ag am ap aw an E s426) → va_S A s.heap H locs → lv_has ls 16 [(13, .int (zi v402)), (12, .int (zi u398)), (8, .int (zi u8)), (0, .ref (a 0)), (1, .ref (ag 0)), (2, .ref (am 0)), (3, .ref (ap 0)), (4, .ref (aw 0)), (5, .ref (an 0)), (6, .int (zi x6)), (7, .int (zi x7))] → W p l e ({ frames := 7, cells := 0, slots := 0, locals := 164 }) s m ([.ref (a 0), .ref (ag 0), .ref (am 0), .ref (ap 0), .ref (aw 0), .ref (an 0), .int (zi x6), .int (zi x7)] : List Value).toArray below meth c H locs 0 0 (MQ below (mQix E (fun h1 => wLXgmpwn a h1 ag am ap aw an E u.2) u.1 A) ([.ref (a 0), .ref (ag 0), .ref (am 0), .ref (ap 0), .ref (aw 0), .ref (an 0), .int (zi x6), .int (zi x7)] : List Value).toArray s 0 0 A) (F0 m 538 ls [.int (zi v425), .int (zi u420.1)]) := by
              intro v425 s426 H locs ls h hP hD hS hl
              rw [e428] at h
              obtain ⟨g429, h⟩ := gd_t h
              obtain ⟨g430, h⟩ := gd_t h
              obtain ⟨j433, e434, h⟩ := jn2_t h
              have hj433 : ∀ (v431 : Int) (s432 : bLXgmpwn) (H : Heap) (locs : List Loc) (ls : Array Slot), j433 v431 s432 = some u → va_P E.1 vwCl (wLXgmpwn a h424 ag am ap aw an E s432) H → va_D A (wLXgmpwn a h424 ag am ap aw an E s432) → va_S A s.heap H locs → lv_has ls 16 [(13, .int (zi v402)), (12, .int (zi u398)), (8, .int (zi u8)), (0, .ref (a 0)), (1, .ref (ag 0)), (2, .ref (am 0)), (3, .ref (ap 0)), (4, .ref (aw 0)), (5, .ref (an 0)), (6, .int (zi x6)), (7, .int (zi x7))] → W p l e ({ frames := 7, cells := 0, slots := 0, locals := 164 }) s m ([.ref (a 0), .ref (ag 0), .ref (am 0), .ref (ap 0), .ref (aw 0), .ref (an 0), .int (zi x6), .int (zi x7)] : List Value).toArray below meth c H locs 0 0 (MQ below (mQix E (fun h1 => wLXgmpwn a h1 ag am ap aw an E u.2) u.1 A) ([.ref (a 0), .ref (ag 0), .ref (am 0), .ref (ap 0), .ref (aw 0), .ref (an 0), .int (zi x6), .int (zi x7)] : List Value).toArray s 0 0 A) (F0 m 546 ls [.int (zi v431)]) := by
                intro v431 s432 H locs ls h hP hD hS hl
                rw [e434] at h
                obtain ⟨g435, h⟩ := gd_t h
                cases h
                exact iv_zretx h424 rfl hx hb hr hlocks g435 hK hP hD hS dL_acts_546
              refine iv_ine (tgt := 545) hx hb g429 g430 dL_acts_538 (by decide) (fun c436 => ?_) (fun c436 => ?_)
              · have h := it_f c436 h
                refine iv_iconst hx hb dL_acts_545 ?_
                exact hj433 0 s426 _ _ _ h hP hD hS (lv_sub hl [0, 1, 2, 3, 4, 5, 6, 7, 8, 9, 10] rfl)
              · have h := it_t c436 h
                refine iv_iconst hx hb dL_acts_541 ?_
                refine lv_goto (tgt := 546) hx hb dL_acts_542 (by decide) ?_
                exact hj433 1 s426 _ _ _ h hP hD hS (lv_sub hl [0, 1, 2, 3, 4, 5, 6, 7, 8, 9, 10] rfl)
            refine iv_eq (tgt := 536) hx hb g406 dL_acts_522 (by decide) (fun c437 => ?_) (fun c437 => ?_)
            · have h := it_t c437 h
              refine iv_bipush hx hb dL_acts_536 (by decide +kernel) ?_
              exact hj427 (-4) s422 _ _ _ h hP hD hS (lv_sub hl [0, 1, 2, 3, 4, 5, 6, 7, 8, 9, 10] rfl)
            · have h := it_f c437 h
              refine lv_aload_n hx hb dL_acts_525 rfl (lv_at hl 5 rfl) ?_
              refine iv_iconst hx hb dL_acts_526 ?_
              refine lv_iload hx hb dL_acts_527 (lv_at hl 1 rfl) ?_
              refine iv_imul hx hb dL_acts_529 ?_
              refine iv_iconst hx hb dL_acts_530 ?_
              refine iv_iadd hx hb dL_acts_531 ?_
              refine iv_iald (f := s422.2.2.1) (j := ((3 * u398) + 1).toNat) hx hb hK.1 hP 127 0 rfl rfl (by decide) g413 rfl dL_acts_532 ?_
              refine lv_goto (tgt := 538) hx hb dL_acts_533 (by decide) ?_
              exact hj427 (s422.2.2.1 (((3 * u398) + 1).toNat)) s422 _ _ _ h hP hD hS (lv_sub hl [0, 1, 2, 3, 4, 5, 6, 7, 8, 9, 10] rfl)
          refine iv_eq (tgt := 511) hx hb g406 dL_acts_504 (by decide) (fun c438 => ?_) (fun c438 => ?_)
          · have h := it_t c438 h
            refine iv_iconst hx hb dL_acts_511 ?_
            exact hj416 0 s411 _ _ _ h hP hD hS (lv_sub hl [0, 1, 2, 3, 4, 5, 6, 7, 8, 9, 10] rfl)
          · have h := it_f c438 h
            refine iv_iconst hx hb dL_acts_507 ?_
            refine lv_goto (tgt := 512) hx hb dL_acts_508 (by decide) ?_
            exact hj416 1 s411 _ _ _ h hP hD hS (lv_sub hl [0, 1, 2, 3, 4, 5, 6, 7, 8, 9, 10] rfl)
        refine iv_eq (tgt := 490) hx hb g406 dL_acts_474 (by decide) (fun c439 => ?_) (fun c439 => ?_)
        · have h := it_t c439 h
          refine iv_iconst hx hb dL_acts_490 ?_
          exact hj409 0 s403 _ _ _ h hP hD hS (lv_sub hl [0, 1, 2, 3, 4, 5, 6, 7, 8, 9, 10] rfl)
        · have h := it_f c439 h
          refine lv_aload_n hx hb dL_acts_477 rfl (lv_at hl 5 rfl) ?_
          refine iv_iconst hx hb dL_acts_478 ?_
          refine lv_iload hx hb dL_acts_479 (lv_at hl 1 rfl) ?_
          refine iv_imul hx hb dL_acts_481 ?_
          refine iv_iald (f := s403.2.2.1) (j := (3 * u398).toNat) hx hb hK.1 hP 127 0 rfl rfl (by decide) g400 rfl dL_acts_482 ?_
          obtain ⟨g440, h⟩ := gd_t h
          refine iv_le (tgt := 490) hx hb g440 dL_acts_483 (by decide) (fun c441 => ?_) (fun c441 => ?_)
          · have h := it_t c441 h
            refine iv_iconst hx hb dL_acts_490 ?_
            exact hj409 0 s403 _ _ _ h hP hD hS (lv_sub hl [0, 1, 2, 3, 4, 5, 6, 7, 8, 9, 10] rfl)
          · have h := it_f c441 h
            refine iv_iconst hx hb dL_acts_486 ?_
            refine lv_goto (tgt := 491) hx hb dL_acts_487 (by decide) ?_
            exact hj409 1 s403 _ _ _ h hP hD hS (lv_sub hl [0, 1, 2, 3, 4, 5, 6, 7, 8, 9, 10] rfl)
      refine iv_ieq (tgt := 462) hx hb g401 (by decide +kernel) dL_acts_442 (by decide) (fun c442 => ?_) (fun c442 => ?_)
      · have h := it_t c442 h
        refine iv_iconst hx hb dL_acts_462 ?_
        exact hj404 0 s5 _ _ _ h hP hD hS (lv_sub hl [0, 1, 2, 3, 4, 5, 6, 7, 8, 9] rfl)
      · have h := it_f c442 h
        refine lv_aload_n hx hb dL_acts_445 rfl (lv_at hl 4 rfl) ?_
        refine iv_iconst hx hb dL_acts_446 ?_
        refine lv_iload hx hb dL_acts_447 (lv_at hl 0 rfl) ?_
        refine iv_imul hx hb dL_acts_449 ?_
        refine iv_iconst hx hb dL_acts_450 ?_
        refine iv_iadd hx hb dL_acts_451 ?_
        obtain ⟨g443, h⟩ := gd_t h
        refine iv_iald (f := s5.2.2.1) (j := ((3 * u398) + 1).toNat) hx hb hK.1 hP 127 0 rfl rfl (by decide) g443 rfl dL_acts_452 ?_
        refine iv_bipush hx hb dL_acts_453 (by decide +kernel) ?_
        obtain ⟨g444, h⟩ := gd_t h
        refine iv_ige (tgt := 462) hx hb g444 (by decide +kernel) dL_acts_455 (by decide) (fun c445 => ?_) (fun c445 => ?_)
        · have h := it_t c445 h
          refine iv_iconst hx hb dL_acts_462 ?_
          exact hj404 0 s5 _ _ _ h hP hD hS (lv_sub hl [0, 1, 2, 3, 4, 5, 6, 7, 8, 9] rfl)
        · have h := it_f c445 h
          refine iv_iconst hx hb dL_acts_458 ?_
          refine lv_goto (tgt := 463) hx hb dL_acts_459 (by decide) ?_
          exact hj404 1 s5 _ _ _ h hP hD hS (lv_sub hl [0, 1, 2, 3, 4, 5, 6, 7, 8, 9] rfl)
    have h := it_f c397 h
    refine iv_tabOut (tgt := 547) hx hb dL_acts_28 g10 (by omega) (by decide) ?_
    refine iv_iconst hx hb dL_acts_547 ?_
    refine lv_istore (lv' := [(14, .int (zi 0)), (8, .int (zi u8)), (0, .ref (a 0)), (1, .ref (ag 0)), (2, .ref (am 0)), (3, .ref (ap 0)), (4, .ref (aw 0)), (5, .ref (an 0)), (6, .int (zi x6)), (7, .int (zi x7))]) hx hb dL_acts_548 hl (by decide) rfl (fun ls hl => ?_)
    refine iv_iconst hx hb dL_acts_550 ?_
    refine lv_iload hx hb dL_acts_551 (lv_at hl 9 rfl) ?_
    refine lv_iload hx hb dL_acts_553 (lv_at hl 9 rfl) ?_
    refine iv_bipush hx hb dL_acts_555 (by decide +kernel) ?_
    refine iv_ishr hx hb dL_acts_557 ?_
    refine iv_iconst hx hb dL_acts_558 ?_
    obtain ⟨u446, q447, h⟩ := bd_t h
    refine iv_callS (As := [.int (zi (srI x7 8)), .int (zi 4)]) (rest := [.int (zi x7), .int (zi 1)]) ⟨hx, hb, hml, hown, hts⟩ (k_L_low l E H.size (srI x7 8) 4 u446 q447) (va_cwS 2 hts gL_acts_L_low rfl rfl rfl (by decide +kernel) ⟨Nat.le_of_ble_eq_true rfl, Nat.le_of_ble_eq_true rfl⟩) hK hP hS hA rfl hl.1 (Nat.le_of_ble_eq_true rfl) ⟨Nat.le_of_ble_eq_true rfl, Nat.le_of_ble_eq_true rfl⟩ dL_acts_559 (fun H locs hP hS => ?_)
    obtain ⟨g448, h⟩ := gd_t h
    obtain ⟨j451, e452, h⟩ := jn2_t h
    have hj451 : ∀ (v449 : Int) (s450 : bLXgmpwn) (H : Heap) (locs : List Loc) (ls : Array Slot), j451 v449 s450 = some u → va_P E.1 vwCl (wLXgmpwn a hs ag am ap aw an E s450) H → va_D A (wLXgmpwn a hs ag am ap aw an E s450) → va_S A s.heap H locs → lv_has ls 16 [(14, .int (zi 0)), (8, .int (zi u8)), (0, .ref (a 0)), (1, .ref (ag 0)), (2, .ref (am 0)), (3, .ref (ap 0)), (4, .ref (aw 0)), (5, .ref (an 0)), (6, .int (zi x6)), (7, .int (zi x7))] → W p l e ({ frames := 7, cells := 0, slots := 0, locals := 164 }) s m ([.ref (a 0), .ref (ag 0), .ref (am 0), .ref (ap 0), .ref (aw 0), .ref (an 0), .int (zi x6), .int (zi x7)] : List Value).toArray below meth c H locs 0 0 (MQ below (mQix E (fun h1 => wLXgmpwn a h1 ag am ap aw an E u.2) u.1 A) ([.ref (a 0), .ref (ag 0), .ref (am 0), .ref (ap 0), .ref (aw 0), .ref (an 0), .int (zi x6), .int (zi x7)] : List Value).toArray s 0 0 A) (F0 m 571 ls [.int (zi v449), .int (zi x7), .int (zi 1)]) := by
      intro v449 s450 H locs ls h hP hD hS hl
      rw [e452] at h
      obtain ⟨u453, q454, h⟩ := bd_t h
      refine iv_callS (As := [.int (zi x7), .int (zi v449)]) (rest := [.int (zi 1)]) ⟨hx, hb, hml, hown, hts⟩ (k_L_low l E H.size x7 v449 u453 q454) (va_cwS 2 hts gL_acts_L_low rfl rfl rfl (by decide +kernel) ⟨Nat.le_of_ble_eq_true rfl, Nat.le_of_ble_eq_true rfl⟩) hK hP hS hA rfl hl.1 (Nat.le_of_ble_eq_true rfl) ⟨Nat.le_of_ble_eq_true rfl, Nat.le_of_ble_eq_true rfl⟩ dL_acts_571 (fun H locs hP hS => ?_)
      refine iv_iadd hx hb dL_acts_574 ?_
      obtain ⟨v455, e456, h⟩ := nm_t h
      refine iv_nm e456 ?_
      refine lv_istore (lv' := [(15, .int (zi v455)), (14, .int (zi 0)), (8, .int (zi u8)), (0, .ref (a 0)), (1, .ref (ag 0)), (2, .ref (am 0)), (3, .ref (ap 0)), (4, .ref (aw 0)), (5, .ref (an 0)), (6, .int (zi x6)), (7, .int (zi x7))]) hx hb dL_acts_575 hl (by decide) rfl (fun ls hl => ?_)
      refine loop577 (fun v480 v481 v482 v483 v484 s485 => bd (f_X7_sort N v484 s485.1) fun u486 => nm (u486.2, s485.2) fun s488 => gd (rg v483) <| jn2 (fun (v492 : Int) (s493 : bLXgmpwn) => gd (rg u486.1) <| gd (rg v492) <| jn2 (fun (v498 : Int) (s499 : bLXgmpwn) => gd (inb v498 2) <| some (v498, s499)) fun j500 => if u486.1 = v492 then (j500 1 s493) else (j500 0 s493)) fun j494 => if v483 = 0 then (j494 (-5) s488) else (j494 v483 s488)) N (fun v480 v481 v482 v483 v484 s485 H locs ls h hP hD hS hl => ?_) x6 x7 u8 0 v455 s450 _ _ _ h hP hD hS (lv_sub hl [3, 4, 5, 6, 7, 8, 9, 10, 2, 1, 0] rfl)
      refine lv_aload_n hx hb dL_acts_608 rfl (lv_at hl 0 rfl) ?_
      refine lv_iload hx hb dL_acts_609 (lv_at hl 10 rfl) ?_
      obtain ⟨u486, q487, h⟩ := bd_t h
      obtain ⟨s488, e489, h⟩ := nm_t h
      refine iv_callIxp (As := [.int (zi v484)]) (rest := []) (wx := fun h490 => wLXgmpwn a h490 ag am ap aw an E s488) ⟨hx, hb, hml, hown, hts⟩ (k_X7_sort l E a hs H.size N v484 s485.1 u486 q487) (cwV 1 hts gL_acts_X7_sort rfl rfl rfl (by decide +kernel) ⟨Nat.le_of_ble_eq_true rfl, Nat.le_of_ble_eq_true rfl⟩) hK hP hD hS hA 0 7 rfl rfl (pm_last) (fun h490 => by rw [e489]; exact pm_last) rfl hl.1 (Nat.le_of_ble_eq_true rfl) ⟨Nat.le_of_ble_eq_true rfl, Nat.le_of_ble_eq_true rfl⟩ dL_acts_611 (fun h490 H locs hP hD hS => ?_)
      refine lv_iload hx hb dL_acts_614 (lv_at hl 9 rfl) ?_
      obtain ⟨g491, h⟩ := gd_t h
      obtain ⟨j494, e495, h⟩ := jn2_t h
      have hj494 : ∀ (v492 : Int) (s493 : bLXgmpwn) (H : Heap) (locs : List Loc) (ls : Array Slot), j494 v492 s493 = some u → va_P E.1 vwCl (wLXgmpwn a h490 ag am ap aw an E s493) H → va_D A (wLXgmpwn a h490 ag am ap aw an E s493) → va_S A s.heap H locs → lv_has ls 16 [(0, .ref (a 0)), (1, .ref (ag 0)), (2, .ref (am 0)), (3, .ref (ap 0)), (4, .ref (aw 0)), (5, .ref (an 0)), (6, .int (zi v480)), (7, .int (zi v481)), (8, .int (zi v482)), (14, .int (zi v483)), (15, .int (zi v484))] → W p l e ({ frames := 7, cells := 0, slots := 0, locals := 164 }) s m ([.ref (a 0), .ref (ag 0), .ref (am 0), .ref (ap 0), .ref (aw 0), .ref (an 0), .int (zi x6), .int (zi x7)] : List Value).toArray below meth c H locs 0 0 (MQ below (mQix E (fun h1 => wLXgmpwn a h1 ag am ap aw an E u.2) u.1 A) ([.ref (a 0), .ref (ag 0), .ref (am 0), .ref (ap 0), .ref (aw 0), .ref (an 0), .int (zi x6), .int (zi x7)] : List Value).toArray s 0 0 A) (F0 m 626 ls [.int (zi v492), .int (zi u486.1)]) := by
        intro v492 s493 H locs ls h hP hD hS hl
        rw [e495] at h
        obtain ⟨g496, h⟩ := gd_t h
        obtain ⟨g497, h⟩ := gd_t h
        obtain ⟨j500, e501, h⟩ := jn2_t h
        have hj500 : ∀ (v498 : Int) (s499 : bLXgmpwn) (H : Heap) (locs : List Loc) (ls : Array Slot), j500 v498 s499 = some u → va_P E.1 vwCl (wLXgmpwn a h490 ag am ap aw an E s499) H → va_D A (wLXgmpwn a h490 ag am ap aw an E s499) → va_S A s.heap H locs → lv_has ls 16 [(0, .ref (a 0)), (1, .ref (ag 0)), (2, .ref (am 0)), (3, .ref (ap 0)), (4, .ref (aw 0)), (5, .ref (an 0)), (6, .int (zi v480)), (7, .int (zi v481)), (8, .int (zi v482)), (14, .int (zi v483)), (15, .int (zi v484))] → W p l e ({ frames := 7, cells := 0, slots := 0, locals := 164 }) s m ([.ref (a 0), .ref (ag 0), .ref (am 0), .ref (ap 0), .ref (aw 0), .ref (an 0), .int (zi x6), .int (zi x7)] : List Value).toArray below meth c H locs 0 0 (MQ below (mQix E (fun h1 => wLXgmpwn a h1 ag am ap aw an E u.2) u.1 A) ([.ref (a 0), .ref (ag 0), .ref (am 0), .ref (ap 0), .ref (aw 0), .ref (an 0), .int (zi x6), .int (zi x7)] : List Value).toArray s 0 0 A) (F0 m 634 ls [.int (zi v498)]) := by
          intro v498 s499 H locs ls h hP hD hS hl
          rw [e501] at h
          obtain ⟨g502, h⟩ := gd_t h
          cases h
          exact iv_zretx h490 rfl hx hb hr hlocks g502 hK hP hD hS dL_acts_634
        refine iv_ine (tgt := 633) hx hb g496 g497 dL_acts_626 (by decide) (fun c503 => ?_) (fun c503 => ?_)
        · have h := it_f c503 h
          refine iv_iconst hx hb dL_acts_633 ?_
          exact hj500 0 s493 _ _ _ h hP hD hS (lv_sub hl [0, 1, 2, 3, 4, 5, 6, 7, 8, 9, 10] rfl)
        · have h := it_t c503 h
          refine iv_iconst hx hb dL_acts_629 ?_
          refine lv_goto (tgt := 634) hx hb dL_acts_630 (by decide) ?_
          exact hj500 1 s493 _ _ _ h hP hD hS (lv_sub hl [0, 1, 2, 3, 4, 5, 6, 7, 8, 9, 10] rfl)
      refine iv_ne (tgt := 624) hx hb g491 dL_acts_616 (by decide) (fun c504 => ?_) (fun c504 => ?_)
      · have h := it_f c504 h
        refine lv_iload hx hb dL_acts_624 (lv_at hl 9 rfl) ?_
        exact hj494 v483 s488 _ _ _ h hP hD hS (lv_sub hl [0, 1, 2, 3, 4, 5, 6, 7, 8, 9, 10] rfl)
      · have h := it_t c504 h
        refine iv_bipush hx hb dL_acts_619 (by decide +kernel) ?_
        refine lv_goto (tgt := 626) hx hb dL_acts_621 (by decide) ?_
        exact hj494 (-5) s488 _ _ _ h hP hD hS (lv_sub hl [0, 1, 2, 3, 4, 5, 6, 7, 8, 9, 10] rfl)
    refine iv_ne (tgt := 570) hx hb g448 dL_acts_562 (by decide) (fun c505 => ?_) (fun c505 => ?_)
    · have h := it_f c505 h
      refine iv_iconst hx hb dL_acts_570 ?_
      exact hj451 5 s5 _ _ _ h hP hD hS (lv_sub hl [0, 1, 2, 3, 4, 5, 6, 7, 8, 9] rfl)
    · have h := it_t c505 h
      refine iv_bipush hx hb dL_acts_565 (by decide +kernel) ?_
      refine lv_goto (tgt := 571) hx hb dL_acts_567 (by decide) ?_
      exact hj451 40 s5 _ _ _ h hP hD hS (lv_sub hl [0, 1, 2, 3, 4, 5, 6, 7, 8, 9] rfl)
  refine iv_ne (tgt := 19) hx hb g3 dL_acts_11 (by decide) (fun c506 => ?_) (fun c506 => ?_)
  · have h := it_f c506 h
    refine iv_bipush hx hb dL_acts_19 (by decide +kernel) ?_
    exact hj6 6 z _ _ _ h hP hD hS (lv_sub hl [0, 1, 2, 3, 4, 5, 6, 7] rfl)
  · have h := it_t c506 h
    refine iv_bipush hx hb dL_acts_14 (by decide +kernel) ?_
    refine lv_goto (tgt := 21) hx hb dL_acts_16 (by decide) ?_
    exact hj6 12 z _ _ _ h hP hD hS (lv_sub hl [0, 1, 2, 3, 4, 5, 6, 7] rfl)
