set_option maxRecDepth 20000 in
theorem wd_L_would_ac : Cond.arrayClass .int ∈ wsL_would := by decide +kernel
set_option maxHeartbeats 4000000 in
set_option maxRecDepth 100000 in
theorem k_L_would (l : Launch) (E : wE) (a hs ag am ap aw an : Nat → Nat) (sz : Nat) (N : Nat) (x6 x7 x8 : Int) (z : bLXgmpwn) (u : (Int × bLXbig)) (hf : f_L_would N x6 x7 x8 (z.1, z.2.1, z.2.2.1, z.2.2.2.1, z.2.2.2.2.1, z.2.2.2.2.2, (fun _ => 0), (fun _ => 0), (fun _ => 0), fun _ => 0) = some u) : cIsc l yL_would wsL_would { frames := 6, cells := 4, slots := 155, locals := 135 } E sz [.ref (a 0), .ref (ag 0), .ref (am 0), .ref (ap 0), .ref (aw 0), .ref (an 0), .int (zi x6), .int (zi x7), .int (zi x8)] (wLXgmpwn a hs ag am ap aw an E z) (wLXgmpwn a hs ag am ap aw an E (u.2.1, u.2.2.1, u.2.2.2.1, u.2.2.2.2.1, u.2.2.2.2.2.1, u.2.2.2.2.2.2.1)) u.1 4 155 := by
  refine met_goSc (cc := cL_would) (maxL := 16) (ret := (some .boolean)) (Q0 := mQi E (wLXgmpwn a hs ag am ap aw an E (u.2.1, u.2.2.1, u.2.2.2.1, u.2.2.2.2.1, u.2.2.2.2.2.1, u.2.2.2.2.2.2.1)) u.1) (by decide +kernel) rfl (Nat.le_of_ble_eq_true rfl) ?_
  intro A p e s m below meth c hx hb hr hml hts hown hlocks hZ hP hK hD hA hS ls hl
  have hl : lv_has ls 16 [(0, .ref (a 0)), (1, .ref (ag 0)), (2, .ref (am 0)), (3, .ref (ap 0)), (4, .ref (aw 0)), (5, .ref (an 0)), (6, .int (zi x6)), (7, .int (zi x7)), (8, .int (zi x8))] := hl
  generalize hH : s.heap = H at hP
  have hS : va_S A s.heap H [] := by rw [← hH]; exact hS
  have hown : s.vm.findClass RL = some m.cls := hown
  have body : ∀ (bm bp bw bn : Nat → Nat) (z : bLXbig) (H : Heap) (locs : List Loc) (ls : Array Slot), f_L_would N x6 x7 x8 z = some u → va_P E.1 vwCl (wLXbig a hs ag am ap aw an bm bp bw bn E z) H → va_D A (wLXbig a hs ag am ap aw an bm bp bw bn E z) → va_S A s.heap H locs → lv_has ls 16 [(0, .ref (a 0)), (1, .ref (ag 0)), (2, .ref (am 0)), (3, .ref (ap 0)), (4, .ref (aw 0)), (5, .ref (an 0)), (6, .int (zi x6)), (7, .int (zi x7)), (8, .int (zi x8)), (9, .ref (bm 0)), (10, .ref (bp 0)), (11, .ref (bw 0)), (12, .ref (bn 0))] → W p l e ({ frames := 6, cells := 4, slots := 155, locals := 135 }) s m ([.ref (a 0), .ref (ag 0), .ref (am 0), .ref (ap 0), .ref (aw 0), .ref (an 0), .int (zi x6), .int (zi x7), .int (zi x8)] : List Value).toArray below meth c H locs 4 155 (MQ below (mQi E (wLXgmpwn a hs ag am ap aw an E (u.2.1, u.2.2.1, u.2.2.2.1, u.2.2.2.2.1, u.2.2.2.2.2.1, u.2.2.2.2.2.2.1)) u.1 A) ([.ref (a 0), .ref (ag 0), .ref (am 0), .ref (ap 0), .ref (aw 0), .ref (an 0), .int (zi x6), .int (zi x7), .int (zi x8)] : List Value).toArray s 4 155 A) (F0 m 24 ls []) := by
    intro bm bp bw bn z H locs ls hf hP hD hS hl
    have loop56 : ∀ (kt : Int → Int → Int → Int → Int → bLXbig → Option (Int × bLXbig)) (n : Nat), (∀ (v27 : Int) (v28 : Int) (v29 : Int) (v30 : Int) (v31 : Int) (s32 : bLXbig) (H : Heap) (locs : List Loc) (ls : Array Slot), kt v27 v28 v29 v30 v31 s32 = some u → va_P E.1 vwCl (wLXbig a hs ag am ap aw an bm bp bw bn E s32) H → va_D A (wLXbig a hs ag am ap aw an bm bp bw bn E s32) → va_S A s.heap H locs → lv_has ls 16 [(0, .ref (a 0)), (1, .ref (ag 0)), (2, .ref (am 0)), (3, .ref (ap 0)), (4, .ref (aw 0)), (5, .ref (an 0)), (6, .int (zi v27)), (7, .int (zi v28)), (8, .int (zi v29)), (9, .ref (bm 0)), (10, .ref (bp 0)), (11, .ref (bw 0)), (12, .ref (bn 0)), (13, .int (zi v30)), (14, .int (zi v31))] → W p l e ({ frames := 6, cells := 4, slots := 155, locals := 135 }) s m ([.ref (a 0), .ref (ag 0), .ref (am 0), .ref (ap 0), .ref (aw 0), .ref (an 0), .int (zi x6), .int (zi x7), .int (zi x8)] : List Value).toArray below meth c H locs 4 155 (MQ below (mQi E (wLXgmpwn a hs ag am ap aw an E (u.2.1, u.2.2.1, u.2.2.2.1, u.2.2.2.2.1, u.2.2.2.2.2.1, u.2.2.2.2.2.2.1)) u.1 A) ([.ref (a 0), .ref (ag 0), .ref (am 0), .ref (ap 0), .ref (aw 0), .ref (an 0), .int (zi x6), .int (zi x7), .int (zi x8)] : List Value).toArray s 4 155 A) (F0 m 93 ls [])) → ∀ (v27 : Int) (v28 : Int) (v29 : Int) (v30 : Int) (v31 : Int) (s32 : bLXbig) (H : Heap) (locs : List Loc) (ls : Array Slot), f_L_would_L56 N kt n v27 v28 v29 v30 v31 s32 = some u → va_P E.1 vwCl (wLXbig a hs ag am ap aw an bm bp bw bn E s32) H → va_D A (wLXbig a hs ag am ap aw an bm bp bw bn E s32) → va_S A s.heap H locs → lv_has ls 16 [(0, .ref (a 0)), (1, .ref (ag 0)), (2, .ref (am 0)), (3, .ref (ap 0)), (4, .ref (aw 0)), (5, .ref (an 0)), (6, .int (zi v27)), (7, .int (zi v28)), (8, .int (zi v29)), (9, .ref (bm 0)), (10, .ref (bp 0)), (11, .ref (bw 0)), (12, .ref (bn 0)), (13, .int (zi v30)), (14, .int (zi v31))] → W p l e ({ frames := 6, cells := 4, slots := 155, locals := 135 }) s m ([.ref (a 0), .ref (ag 0), .ref (am 0), .ref (ap 0), .ref (aw 0), .ref (an 0), .int (zi x6), .int (zi x7), .int (zi x8)] : List Value).toArray below meth c H locs 4 155 (MQ below (mQi E (wLXgmpwn a hs ag am ap aw an E (u.2.1, u.2.2.1, u.2.2.2.1, u.2.2.2.2.1, u.2.2.2.2.2.1, u.2.2.2.2.2.2.1)) u.1 A) ([.ref (a 0), .ref (ag 0), .ref (am 0), .ref (ap 0), .ref (aw 0), .ref (an 0), .int (zi x6), .int (zi x7), .int (zi x8)] : List Value).toArray s 4 155 A) (F0 m 56 ls []) := by
      intro kt n hk
      induction n with
      | zero =>
        intro v27 v28 v29 v30 v31 s32 H locs ls h
        exact absurd (show (none : Option (Int × bLXbig)) = some u from h) (by simp)
      | succ n ih =>
        intro v27 v28 v29 v30 v31 s32 H locs ls h hP hD hS hl
        rw [f_L_would_L56] at h
        refine lv_aload hx hb dL_would_56 (lv_at hl 9 rfl) ?_
        refine lv_aload hx hb dL_would_58 (lv_at hl 10 rfl) ?_
        refine lv_aload hx hb dL_would_60 (lv_at hl 12 rfl) ?_
        refine lv_iload hx hb dL_would_62 (lv_at hl 14 rfl) ?_
        refine lv_iload hx hb dL_would_64 (lv_at hl 8 rfl) ?_
        obtain ⟨u33, q34, h⟩ := bd_t h
        refine iv_callWI (As := [.ref (bm 0), .ref (bp 0), .ref (bn 0), .int (zi v31), .int (zi v29)]) (rest := []) (ws1 := wLXbig a hs ag am ap aw an bm bp bw bn E s32) ⟨hx, hb, hml, hown, hts⟩ (k_L_first l E bm bp bn H.size N v31 v29 (s32.2.2.2.2.2.2.1, s32.2.2.2.2.2.2.2.1, s32.2.2.2.2.2.2.2.2.2) u33 q34) (va_cwS 5 hts gL_would_L_first rfl rfl rfl (by decide +kernel) ⟨Nat.le_of_ble_eq_true rfl, Nat.le_of_ble_eq_true rfl⟩) hK hP hD hS hA (pm_skip (pm_skip (pm_skip (pm_skip (pm_skip (pm_skip (pm_take (pm_take (pm_skip (pm_end)))))))))) (pm_skip (pm_skip (pm_skip (pm_skip (pm_skip (pm_skip (pm_take (pm_take (pm_skip (pm_end)))))))))) rfl hl.1 (Nat.le_of_ble_eq_true rfl) ⟨Nat.le_of_ble_eq_true rfl, Nat.le_of_ble_eq_true rfl⟩ dL_would_66 (fun H locs hP hD hS => ?_)
        obtain ⟨g35, h⟩ := gd_t h
        refine iv_lt (tgt := 93) hx hb g35 dL_would_69 (by decide) (fun c36 => ?_) (fun c36 => ?_)
        · have h := it_t c36 h
          exact hk v27 v28 v29 v30 v31 s32 _ _ _ h hP hD hS (lv_sub hl [0, 1, 2, 3, 4, 5, 6, 7, 8, 9, 10, 11, 12, 13, 14] rfl)
        · have h := it_f c36 h
          refine lv_aload hx hb dL_would_72 (lv_at hl 9 rfl) ?_
          refine lv_aload hx hb dL_would_74 (lv_at hl 10 rfl) ?_
          refine lv_aload hx hb dL_would_76 (lv_at hl 12 rfl) ?_
          refine lv_iload hx hb dL_would_78 (lv_at hl 14 rfl) ?_
          refine lv_iload hx hb dL_would_80 (lv_at hl 8 rfl) ?_
          obtain ⟨u37, q38, h⟩ := bd_t h
          obtain ⟨s39, e40, h⟩ := nm_t h
          obtain ⟨s41, e42, h⟩ := nm_t h
          obtain ⟨s43, e44, h⟩ := nm_t h
          refine iv_callWI (As := [.ref (bm 0), .ref (bp 0), .ref (bn 0), .int (zi v31), .int (zi v29)]) (rest := []) (ws1 := wLXbig a hs ag am ap aw an bm bp bw bn E s43) ⟨hx, hb, hml, hown, hts⟩ (k_L_sews l E bm bp bn H.size N v31 v29 (s32.2.2.2.2.2.2.1, s32.2.2.2.2.2.2.2.1, s32.2.2.2.2.2.2.2.2.2) u37 q38) (va_cwS 5 hts gL_would_L_sews rfl rfl rfl (by decide +kernel) ⟨Nat.le_of_ble_eq_true rfl, Nat.le_of_ble_eq_true rfl⟩) hK hP hD hS hA (pm_skip (pm_skip (pm_skip (pm_skip (pm_skip (pm_skip (pm_take (pm_take (pm_skip (pm_end)))))))))) (by rw [e44, e42, e40]; exact pm_skip (pm_skip (pm_skip (pm_skip (pm_skip (pm_skip (pm_take (pm_take (pm_skip (pm_end)))))))))) rfl hl.1 (Nat.le_of_ble_eq_true rfl) ⟨Nat.le_of_ble_eq_true rfl, Nat.le_of_ble_eq_true rfl⟩ dL_would_82 (fun H locs hP hD hS => ?_)
          refine lv_istore (lv' := [(15, .int (zi u37.1)), (0, .ref (a 0)), (1, .ref (ag 0)), (2, .ref (am 0)), (3, .ref (ap 0)), (4, .ref (aw 0)), (5, .ref (an 0)), (6, .int (zi v27)), (7, .int (zi v28)), (8, .int (zi v29)), (9, .ref (bm 0)), (10, .ref (bp 0)), (11, .ref (bw 0)), (12, .ref (bn 0)), (13, .int (zi v30)), (14, .int (zi v31))]) hx hb dL_would_85 hl (by decide) rfl (fun ls hl => ?_)
          refine lv_iinc (v := zi (v30 + 1)) (lv' := [(13, .int (zi (v30 + 1))), (15, .int (zi u37.1)), (0, .ref (a 0)), (1, .ref (ag 0)), (2, .ref (am 0)), (3, .ref (ap 0)), (4, .ref (aw 0)), (5, .ref (an 0)), (6, .int (zi v27)), (7, .int (zi v28)), (8, .int (zi v29)), (9, .ref (bm 0)), (10, .ref (bp 0)), (11, .ref (bw 0)), (12, .ref (bn 0)), (14, .int (zi v31))]) hx hb dL_would_87 hl (k := 14) rfl (by rw [zi_add]; rfl) (by decide) rfl (fun ls hl => ?_)
          refine lv_goto (tgt := 56) hx hb dL_would_90 (by decide) ?_
          exact ih v27 v28 v29 (v30 + 1) v31 s43 _ _ _ h hP hD hS (lv_sub hl [2, 3, 4, 5, 6, 7, 8, 9, 10, 11, 12, 13, 14, 0, 15] rfl)
    have loop49 : ∀ (kt : Int → Int → Int → Int → Int → bLXbig → Option (Int × bLXbig)) (n : Nat), (∀ (v19 : Int) (v20 : Int) (v21 : Int) (v22 : Int) (v23 : Int) (s24 : bLXbig) (H : Heap) (locs : List Loc) (ls : Array Slot), kt v19 v20 v21 v22 v23 s24 = some u → va_P E.1 vwCl (wLXbig a hs ag am ap aw an bm bp bw bn E s24) H → va_D A (wLXbig a hs ag am ap aw an bm bp bw bn E s24) → va_S A s.heap H locs → lv_has ls 16 [(0, .ref (a 0)), (1, .ref (ag 0)), (2, .ref (am 0)), (3, .ref (ap 0)), (4, .ref (aw 0)), (5, .ref (an 0)), (6, .int (zi v19)), (7, .int (zi v20)), (8, .int (zi v21)), (9, .ref (bm 0)), (10, .ref (bp 0)), (11, .ref (bw 0)), (12, .ref (bn 0)), (13, .int (zi v22)), (14, .int (zi v23))] → W p l e ({ frames := 6, cells := 4, slots := 155, locals := 135 }) s m ([.ref (a 0), .ref (ag 0), .ref (am 0), .ref (ap 0), .ref (aw 0), .ref (an 0), .int (zi x6), .int (zi x7), .int (zi x8)] : List Value).toArray below meth c H locs 4 155 (MQ below (mQi E (wLXgmpwn a hs ag am ap aw an E (u.2.1, u.2.2.1, u.2.2.2.1, u.2.2.2.2.1, u.2.2.2.2.2.1, u.2.2.2.2.2.2.1)) u.1 A) ([.ref (a 0), .ref (ag 0), .ref (am 0), .ref (ap 0), .ref (aw 0), .ref (an 0), .int (zi x6), .int (zi x7), .int (zi x8)] : List Value).toArray s 4 155 A) (F0 m 99 ls [])) → ∀ (v19 : Int) (v20 : Int) (v21 : Int) (v22 : Int) (v23 : Int) (s24 : bLXbig) (H : Heap) (locs : List Loc) (ls : Array Slot), f_L_would_L49 N kt n v19 v20 v21 v22 v23 s24 = some u → va_P E.1 vwCl (wLXbig a hs ag am ap aw an bm bp bw bn E s24) H → va_D A (wLXbig a hs ag am ap aw an bm bp bw bn E s24) → va_S A s.heap H locs → lv_has ls 16 [(0, .ref (a 0)), (1, .ref (ag 0)), (2, .ref (am 0)), (3, .ref (ap 0)), (4, .ref (aw 0)), (5, .ref (an 0)), (6, .int (zi v19)), (7, .int (zi v20)), (8, .int (zi v21)), (9, .ref (bm 0)), (10, .ref (bp 0)), (11, .ref (bw 0)), (12, .ref (bn 0)), (13, .int (zi v22)), (14, .int (zi v23))] → W p l e ({ frames := 6, cells := 4, slots := 155, locals := 135 }) s m ([.ref (a 0), .ref (ag 0), .ref (am 0), .ref (ap 0), .ref (aw 0), .ref (an 0), .int (zi x6), .int (zi x7), .int (zi x8)] : List Value).toArray below meth c H locs 4 155 (MQ below (mQi E (wLXgmpwn a hs ag am ap aw an E (u.2.1, u.2.2.1, u.2.2.2.1, u.2.2.2.2.1, u.2.2.2.2.2.1, u.2.2.2.2.2.2.1)) u.1 A) ([.ref (a 0), .ref (ag 0), .ref (am 0), .ref (ap 0), .ref (aw 0), .ref (an 0), .int (zi x6), .int (zi x7), .int (zi x8)] : List Value).toArray s 4 155 A) (F0 m 49 ls []) := by
      intro kt n hk
      induction n with
      | zero =>
        intro v19 v20 v21 v22 v23 s24 H locs ls h
        exact absurd (show (none : Option (Int × bLXbig)) = some u from h) (by simp)
      | succ n ih =>
        intro v19 v20 v21 v22 v23 s24 H locs ls h hP hD hS hl
        rw [f_L_would_L49] at h
        refine lv_iload hx hb dL_would_49 (lv_at hl 14 rfl) ?_
        refine iv_bipush hx hb dL_would_51 (by decide +kernel) ?_
        obtain ⟨g25, h⟩ := gd_t h
        refine iv_ige (tgt := 99) hx hb g25 (by decide +kernel) dL_would_53 (by decide) (fun c26 => ?_) (fun c26 => ?_)
        · have h := it_t c26 h
          exact hk v19 v20 v21 v22 v23 s24 _ _ _ h hP hD hS (lv_sub hl [0, 1, 2, 3, 4, 5, 6, 7, 8, 9, 10, 11, 12, 13, 14] rfl)
        · have h := it_f c26 h
          refine loop56 (fun v45 v46 v47 v48 v49 s50 => f_L_would_L49 N kt n v45 v46 v47 v48 (v49 + 1) s50) N (fun v45 v46 v47 v48 v49 s50 H locs ls h hP hD hS hl => ?_) v19 v20 v21 v22 v23 s24 _ _ _ h hP hD hS (lv_sub hl [0, 1, 2, 3, 4, 5, 6, 7, 8, 9, 10, 11, 12, 13, 14] rfl)
          refine lv_iinc (v := zi (v49 + 1)) (lv' := [(14, .int (zi (v49 + 1))), (0, .ref (a 0)), (1, .ref (ag 0)), (2, .ref (am 0)), (3, .ref (ap 0)), (4, .ref (aw 0)), (5, .ref (an 0)), (6, .int (zi v45)), (7, .int (zi v46)), (8, .int (zi v47)), (9, .ref (bm 0)), (10, .ref (bp 0)), (11, .ref (bw 0)), (12, .ref (bn 0)), (13, .int (zi v48))]) hx hb dL_would_93 hl (k := 14) rfl (by rw [zi_add]; rfl) (by decide) rfl (fun ls hl => ?_)
          refine lv_goto (tgt := 49) hx hb dL_would_96 (by decide) ?_
          exact ih v45 v46 v47 v48 (v49 + 1) s50 _ _ _ h hP hD hS (lv_sub hl [1, 2, 3, 4, 5, 6, 7, 8, 9, 10, 11, 12, 13, 14, 0] rfl)
    have loop200 : ∀ (kt : Int → Int → Int → Int → Int → Int → bLXbig → Option (Int × bLXbig)) (n : Nat), (∀ (v112 : Int) (v113 : Int) (v114 : Int) (v115 : Int) (v116 : Int) (v117 : Int) (s118 : bLXbig) (H : Heap) (locs : List Loc) (ls : Array Slot), kt v112 v113 v114 v115 v116 v117 s118 = some u → va_P E.1 vwCl (wLXbig a hs ag am ap aw an bm bp bw bn E s118) H → va_D A (wLXbig a hs ag am ap aw an bm bp bw bn E s118) → va_S A s.heap H locs → lv_has ls 16 [(0, .ref (a 0)), (1, .ref (ag 0)), (2, .ref (am 0)), (3, .ref (ap 0)), (4, .ref (aw 0)), (5, .ref (an 0)), (6, .int (zi v112)), (7, .int (zi v113)), (8, .int (zi v114)), (9, .ref (bm 0)), (10, .ref (bp 0)), (11, .ref (bw 0)), (12, .ref (bn 0)), (13, .int (zi v115)), (14, .int (zi v116)), (15, .int (zi v117))] → W p l e ({ frames := 6, cells := 4, slots := 155, locals := 135 }) s m ([.ref (a 0), .ref (ag 0), .ref (am 0), .ref (ap 0), .ref (aw 0), .ref (an 0), .int (zi x6), .int (zi x7), .int (zi x8)] : List Value).toArray below meth c H locs 4 155 (MQ below (mQi E (wLXgmpwn a hs ag am ap aw an E (u.2.1, u.2.2.1, u.2.2.2.1, u.2.2.2.2.1, u.2.2.2.2.2.1, u.2.2.2.2.2.2.1)) u.1 A) ([.ref (a 0), .ref (ag 0), .ref (am 0), .ref (ap 0), .ref (aw 0), .ref (an 0), .int (zi x6), .int (zi x7), .int (zi x8)] : List Value).toArray s 4 155 A) (F0 m 228 ls [])) → ∀ (v112 : Int) (v113 : Int) (v114 : Int) (v115 : Int) (v116 : Int) (v117 : Int) (s118 : bLXbig) (H : Heap) (locs : List Loc) (ls : Array Slot), f_L_would_L200 N kt n v112 v113 v114 v115 v116 v117 s118 = some u → va_P E.1 vwCl (wLXbig a hs ag am ap aw an bm bp bw bn E s118) H → va_D A (wLXbig a hs ag am ap aw an bm bp bw bn E s118) → va_S A s.heap H locs → lv_has ls 16 [(0, .ref (a 0)), (1, .ref (ag 0)), (2, .ref (am 0)), (3, .ref (ap 0)), (4, .ref (aw 0)), (5, .ref (an 0)), (6, .int (zi v112)), (7, .int (zi v113)), (8, .int (zi v114)), (9, .ref (bm 0)), (10, .ref (bp 0)), (11, .ref (bw 0)), (12, .ref (bn 0)), (13, .int (zi v115)), (14, .int (zi v116)), (15, .int (zi v117))] → W p l e ({ frames := 6, cells := 4, slots := 155, locals := 135 }) s m ([.ref (a 0), .ref (ag 0), .ref (am 0), .ref (ap 0), .ref (aw 0), .ref (an 0), .int (zi x6), .int (zi x7), .int (zi x8)] : List Value).toArray below meth c H locs 4 155 (MQ below (mQi E (wLXgmpwn a hs ag am ap aw an E (u.2.1, u.2.2.1, u.2.2.2.1, u.2.2.2.2.1, u.2.2.2.2.2.1, u.2.2.2.2.2.2.1)) u.1 A) ([.ref (a 0), .ref (ag 0), .ref (am 0), .ref (ap 0), .ref (aw 0), .ref (an 0), .int (zi x6), .int (zi x7), .int (zi x8)] : List Value).toArray s 4 155 A) (F0 m 200 ls []) := by
      intro kt n hk
      induction n with
      | zero =>
        intro v112 v113 v114 v115 v116 v117 s118 H locs ls h
        exact absurd (show (none : Option (Int × bLXbig)) = some u from h) (by simp)
      | succ n ih =>
        intro v112 v113 v114 v115 v116 v117 s118 H locs ls h hP hD hS hl
        rw [f_L_would_L200] at h
        refine lv_iload hx hb dL_would_200 (lv_at hl 15 rfl) ?_
        refine lv_aload hx hb dL_would_202 (lv_at hl 5 rfl) ?_
        refine iv_bipush hx hb dL_would_204 (by decide +kernel) ?_
        refine iv_iald (f := s118.2.2.2.2.2.1) (j := 14) hx hb hK.1 hP 130 0 rfl rfl (by decide) (by decide +kernel) rfl dL_would_206 ?_
        obtain ⟨g119, h⟩ := gd_t h
        obtain ⟨g120, h⟩ := gd_t h
        refine iv_ige (tgt := 228) hx hb g119 g120 dL_would_207 (by decide) (fun c121 => ?_) (fun c121 => ?_)
        · have h := it_t c121 h
          exact hk v112 v113 v114 v115 v116 v117 s118 _ _ _ h hP hD hS (lv_sub hl [0, 1, 2, 3, 4, 5, 6, 7, 8, 9, 10, 11, 12, 13, 14, 15] rfl)
        · have h := it_f c121 h
          refine lv_aload_n hx hb dL_would_210 rfl (lv_at hl 1 rfl) ?_
          refine lv_aload hx hb dL_would_211 (lv_at hl 9 rfl) ?_
          refine lv_aload hx hb dL_would_213 (lv_at hl 10 rfl) ?_
          refine lv_aload hx hb dL_would_215 (lv_at hl 11 rfl) ?_
          refine lv_aload hx hb dL_would_217 (lv_at hl 12 rfl) ?_
          obtain ⟨u122, q123, h⟩ := bd_t h
          obtain ⟨s124, e125, h⟩ := nm_t h
          obtain ⟨s126, e127, h⟩ := nm_t h
          obtain ⟨s128, e129, h⟩ := nm_t h
          obtain ⟨s130, e131, h⟩ := nm_t h
          obtain ⟨s132, e133, h⟩ := nm_t h
          refine iv_callWV (As := [.ref (ag 0), .ref (bm 0), .ref (bp 0), .ref (bw 0), .ref (bn 0)]) (rest := []) (ws1 := wLXbig a hs ag am ap aw an bm bp bw bn E s132) ⟨hx, hb, hml, hown, hts⟩ (k_L_sorts l E ag bm bp bw bn H.size N  (s118.2.1, s118.2.2.2.2.2.2.1, s118.2.2.2.2.2.2.2.1, s118.2.2.2.2.2.2.2.2.1, s118.2.2.2.2.2.2.2.2.2) u122 q123) (va_cwS 5 hts gL_would_L_sorts rfl rfl rfl (by decide +kernel) ⟨Nat.le_of_ble_eq_true rfl, Nat.le_of_ble_eq_true rfl⟩) hK hP hD hS hA (pm_skip (pm_take (pm_skip (pm_skip (pm_skip (pm_skip (pm_take (pm_take (pm_take (pm_end)))))))))) (by rw [e133, e131, e129, e127, e125]; exact pm_skip (pm_take (pm_skip (pm_skip (pm_skip (pm_skip (pm_take (pm_take (pm_take (pm_end)))))))))) rfl hl.1 (Nat.le_of_ble_eq_true rfl) ⟨Nat.le_of_ble_eq_true rfl, Nat.le_of_ble_eq_true rfl⟩ dL_would_219 (fun H locs hP hD hS => ?_)
          refine lv_iinc (v := zi (v117 + 1)) (lv' := [(15, .int (zi (v117 + 1))), (0, .ref (a 0)), (1, .ref (ag 0)), (2, .ref (am 0)), (3, .ref (ap 0)), (4, .ref (aw 0)), (5, .ref (an 0)), (6, .int (zi v112)), (7, .int (zi v113)), (8, .int (zi v114)), (9, .ref (bm 0)), (10, .ref (bp 0)), (11, .ref (bw 0)), (12, .ref (bn 0)), (13, .int (zi v115)), (14, .int (zi v116))]) hx hb dL_would_222 hl (k := 15) rfl (by rw [zi_add]; rfl) (by decide) rfl (fun ls hl => ?_)
          refine lv_goto (tgt := 200) hx hb dL_would_225 (by decide) ?_
          exact ih v112 v113 v114 v115 v116 (v117 + 1) s132 _ _ _ h hP hD hS (lv_sub hl [1, 2, 3, 4, 5, 6, 7, 8, 9, 10, 11, 12, 13, 14, 15, 0] rfl)
    have loop231 : ∀ (kt : Int → Int → Int → Int → Int → Int → bLXbig → Option (Int × bLXbig)) (n : Nat), (∀ (v141 : Int) (v142 : Int) (v143 : Int) (v144 : Int) (v145 : Int) (v146 : Int) (s147 : bLXbig) (H : Heap) (locs : List Loc) (ls : Array Slot), kt v141 v142 v143 v144 v145 v146 s147 = some u → va_P E.1 vwCl (wLXbig a hs ag am ap aw an bm bp bw bn E s147) H → va_D A (wLXbig a hs ag am ap aw an bm bp bw bn E s147) → va_S A s.heap H locs → lv_has ls 16 [(0, .ref (a 0)), (1, .ref (ag 0)), (2, .ref (am 0)), (3, .ref (ap 0)), (4, .ref (aw 0)), (5, .ref (an 0)), (6, .int (zi v141)), (7, .int (zi v142)), (8, .int (zi v143)), (9, .ref (bm 0)), (10, .ref (bp 0)), (11, .ref (bw 0)), (12, .ref (bn 0)), (13, .int (zi v144)), (14, .int (zi v145)), (15, .int (zi v146))] → W p l e ({ frames := 6, cells := 4, slots := 155, locals := 135 }) s m ([.ref (a 0), .ref (ag 0), .ref (am 0), .ref (ap 0), .ref (aw 0), .ref (an 0), .int (zi x6), .int (zi x7), .int (zi x8)] : List Value).toArray below meth c H locs 4 155 (MQ below (mQi E (wLXgmpwn a hs ag am ap aw an E (u.2.1, u.2.2.1, u.2.2.2.1, u.2.2.2.2.1, u.2.2.2.2.2.1, u.2.2.2.2.2.2.1)) u.1 A) ([.ref (a 0), .ref (ag 0), .ref (am 0), .ref (ap 0), .ref (aw 0), .ref (an 0), .int (zi x6), .int (zi x7), .int (zi x8)] : List Value).toArray s 4 155 A) (F0 m 278 ls [])) → ∀ (v141 : Int) (v142 : Int) (v143 : Int) (v144 : Int) (v145 : Int) (v146 : Int) (s147 : bLXbig) (H : Heap) (locs : List Loc) (ls : Array Slot), f_L_would_L231 N kt n v141 v142 v143 v144 v145 v146 s147 = some u → va_P E.1 vwCl (wLXbig a hs ag am ap aw an bm bp bw bn E s147) H → va_D A (wLXbig a hs ag am ap aw an bm bp bw bn E s147) → va_S A s.heap H locs → lv_has ls 16 [(0, .ref (a 0)), (1, .ref (ag 0)), (2, .ref (am 0)), (3, .ref (ap 0)), (4, .ref (aw 0)), (5, .ref (an 0)), (6, .int (zi v141)), (7, .int (zi v142)), (8, .int (zi v143)), (9, .ref (bm 0)), (10, .ref (bp 0)), (11, .ref (bw 0)), (12, .ref (bn 0)), (13, .int (zi v144)), (14, .int (zi v145)), (15, .int (zi v146))] → W p l e ({ frames := 6, cells := 4, slots := 155, locals := 135 }) s m ([.ref (a 0), .ref (ag 0), .ref (am 0), .ref (ap 0), .ref (aw 0), .ref (an 0), .int (zi x6), .int (zi x7), .int (zi x8)] : List Value).toArray below meth c H locs 4 155 (MQ below (mQi E (wLXgmpwn a hs ag am ap aw an E (u.2.1, u.2.2.1, u.2.2.2.1, u.2.2.2.2.1, u.2.2.2.2.2.1, u.2.2.2.2.2.2.1)) u.1 A) ([.ref (a 0), .ref (ag 0), .ref (am 0), .ref (ap 0), .ref (aw 0), .ref (an 0), .int (zi x6), .int (zi x7), .int (zi x8)] : List Value).toArray s 4 155 A) (F0 m 231 ls []) := by
      intro kt n hk
      induction n with
      | zero =>
        intro v141 v142 v143 v144 v145 v146 s147 H locs ls h
        exact absurd (show (none : Option (Int × bLXbig)) = some u from h) (by simp)
      | succ n ih =>
        intro v141 v142 v143 v144 v145 v146 s147 H locs ls h hP hD hS hl
        rw [f_L_would_L231] at h
        refine lv_iload hx hb dL_would_231 (lv_at hl 15 rfl) ?_
        refine iv_bipush hx hb dL_would_233 (by decide +kernel) ?_
        obtain ⟨g148, h⟩ := gd_t h
        refine iv_ige (tgt := 278) hx hb g148 (by decide +kernel) dL_would_235 (by decide) (fun c149 => ?_) (fun c149 => ?_)
        · have h := it_t c149 h
          exact hk v141 v142 v143 v144 v145 v146 s147 _ _ _ h hP hD hS (lv_sub hl [0, 1, 2, 3, 4, 5, 6, 7, 8, 9, 10, 11, 12, 13, 14, 15] rfl)
        · have h := it_f c149 h
          refine lv_iload hx hb dL_would_238 (lv_at hl 14 rfl) ?_
          obtain ⟨g150, h⟩ := gd_t h
          obtain ⟨j153, e154, h⟩ := jn2_t h
          have hj153 : ∀ (v151 : Int) (s152 : bLXbig) (H : Heap) (locs : List Loc) (ls : Array Slot), j153 v151 s152 = some u → va_P E.1 vwCl (wLXbig a hs ag am ap aw an bm bp bw bn E s152) H → va_D A (wLXbig a hs ag am ap aw an bm bp bw bn E s152) → va_S A s.heap H locs → lv_has ls 16 [(0, .ref (a 0)), (1, .ref (ag 0)), (2, .ref (am 0)), (3, .ref (ap 0)), (4, .ref (aw 0)), (5, .ref (an 0)), (6, .int (zi v141)), (7, .int (zi v142)), (8, .int (zi v143)), (9, .ref (bm 0)), (10, .ref (bp 0)), (11, .ref (bw 0)), (12, .ref (bn 0)), (13, .int (zi v144)), (14, .int (zi v145)), (15, .int (zi v146))] → W p l e ({ frames := 6, cells := 4, slots := 155, locals := 135 }) s m ([.ref (a 0), .ref (ag 0), .ref (am 0), .ref (ap 0), .ref (aw 0), .ref (an 0), .int (zi x6), .int (zi x7), .int (zi x8)] : List Value).toArray below meth c H locs 4 155 (MQ below (mQi E (wLXgmpwn a hs ag am ap aw an E (u.2.1, u.2.2.1, u.2.2.2.1, u.2.2.2.2.1, u.2.2.2.2.2.1, u.2.2.2.2.2.2.1)) u.1 A) ([.ref (a 0), .ref (ag 0), .ref (am 0), .ref (ap 0), .ref (aw 0), .ref (an 0), .int (zi x6), .int (zi x7), .int (zi x8)] : List Value).toArray s 4 155 A) (F0 m 270 ls [.int (zi v151)]) := by
            intro v151 s152 H locs ls h hP hD hS hl
            rw [e154] at h
            refine lv_istore (lv' := [(14, .int (zi v151)), (0, .ref (a 0)), (1, .ref (ag 0)), (2, .ref (am 0)), (3, .ref (ap 0)), (4, .ref (aw 0)), (5, .ref (an 0)), (6, .int (zi v141)), (7, .int (zi v142)), (8, .int (zi v143)), (9, .ref (bm 0)), (10, .ref (bp 0)), (11, .ref (bw 0)), (12, .ref (bn 0)), (13, .int (zi v144)), (15, .int (zi v146))]) hx hb dL_would_270 hl (by decide) rfl (fun ls hl => ?_)
            refine lv_iinc (v := zi (v146 + 1)) (lv' := [(15, .int (zi (v146 + 1))), (14, .int (zi v151)), (0, .ref (a 0)), (1, .ref (ag 0)), (2, .ref (am 0)), (3, .ref (ap 0)), (4, .ref (aw 0)), (5, .ref (an 0)), (6, .int (zi v141)), (7, .int (zi v142)), (8, .int (zi v143)), (9, .ref (bm 0)), (10, .ref (bp 0)), (11, .ref (bw 0)), (12, .ref (bn 0)), (13, .int (zi v144))]) hx hb dL_would_272 hl (k := 15) rfl (by rw [zi_add]; rfl) (by decide) rfl (fun ls hl => ?_)
            refine lv_goto (tgt := 231) hx hb dL_would_275 (by decide) ?_
            exact ih v141 v142 v143 v144 v151 (v146 + 1) s152 _ _ _ h hP hD hS (lv_sub hl [2, 3, 4, 5, 6, 7, 8, 9, 10, 11, 12, 13, 14, 15, 1, 0] rfl)
          refine iv_eq (tgt := 269) hx hb g150 dL_would_240 (by decide) (fun c155 => ?_) (fun c155 => ?_)
          · have h := it_t c155 h
            refine iv_iconst hx hb dL_would_269 ?_
            exact hj153 0 s147 _ _ _ h hP hD hS (lv_sub hl [0, 1, 2, 3, 4, 5, 6, 7, 8, 9, 10, 11, 12, 13, 14, 15] rfl)
          · have h := it_f c155 h
            refine lv_aload_n hx hb dL_would_243 rfl (lv_at hl 0 rfl) ?_
            refine lv_iload hx hb dL_would_244 (lv_at hl 6 rfl) ?_
            refine lv_iload hx hb dL_would_246 (lv_at hl 7 rfl) ?_
            refine lv_iload hx hb dL_would_248 (lv_at hl 15 rfl) ?_
            obtain ⟨u156, q157, h⟩ := bd_t h
            obtain ⟨s158, e159, h⟩ := nm_t h
            refine iv_callIsp (As := [.int (zi v141), .int (zi v142), .int (zi v146)]) (rest := []) (ws1 := wLXbig a hs ag am ap aw an bm bp bw bn E s158) ⟨hx, hb, hml, hown, hts⟩ (k_X7_ifMesh l E a hs H.size N v141 v142 v146 s147.1 u156 q157) (cwV 3 hts gL_would_X7_ifMesh rfl rfl rfl (by decide +kernel) ⟨Nat.le_of_ble_eq_true rfl, Nat.le_of_ble_eq_true rfl⟩) hZ hK hP hD hS hA 0 7 rfl rfl (pm_last) (by rw [e159]; exact pm_last) rfl hl.1 (Nat.le_of_ble_eq_true rfl) ⟨Nat.le_of_ble_eq_true rfl, Nat.le_of_ble_eq_true rfl⟩ dL_would_250 (fun H locs hP hD hS => ?_)
            refine lv_aload hx hb dL_would_253 (lv_at hl 10 rfl) ?_
            refine lv_aload hx hb dL_would_255 (lv_at hl 12 rfl) ?_
            refine lv_iload hx hb dL_would_257 (lv_at hl 15 rfl) ?_
            obtain ⟨u160, q161, h⟩ := bd_t h
            refine iv_callWI (As := [.ref (bp 0), .ref (bn 0), .int (zi v146)]) (rest := [.int (zi u156.1)]) (ws1 := wLXbig a hs ag am ap aw an bm bp bw bn E s158) ⟨hx, hb, hml, hown, hts⟩ (k_L_at l E bp bn H.size N v146 (s158.2.2.2.2.2.2.2.1, s158.2.2.2.2.2.2.2.2.2) u160 q161) (va_cwS 3 hts gL_would_L_at rfl rfl rfl (by decide +kernel) ⟨Nat.le_of_ble_eq_true rfl, Nat.le_of_ble_eq_true rfl⟩) hK hP hD hS hA (pm_skip (pm_skip (pm_skip (pm_skip (pm_skip (pm_skip (pm_skip (pm_take (pm_skip (pm_end)))))))))) (pm_skip (pm_skip (pm_skip (pm_skip (pm_skip (pm_skip (pm_skip (pm_take (pm_skip (pm_end)))))))))) rfl hl.1 (Nat.le_of_ble_eq_true rfl) ⟨Nat.le_of_ble_eq_true rfl, Nat.le_of_ble_eq_true rfl⟩ dL_would_259 (fun H locs hP hD hS => ?_)
            obtain ⟨g162, h⟩ := gd_t h
            obtain ⟨g163, h⟩ := gd_t h
            refine iv_ine (tgt := 269) hx hb g162 g163 dL_would_262 (by decide) (fun c164 => ?_) (fun c164 => ?_)
            · have h := it_f c164 h
              refine iv_iconst hx hb dL_would_269 ?_
              exact hj153 0 s158 _ _ _ h hP hD hS (lv_sub hl [0, 1, 2, 3, 4, 5, 6, 7, 8, 9, 10, 11, 12, 13, 14, 15] rfl)
            · have h := it_t c164 h
              refine iv_iconst hx hb dL_would_265 ?_
              refine lv_goto (tgt := 270) hx hb dL_would_266 (by decide) ?_
              exact hj153 1 s158 _ _ _ h hP hD hS (lv_sub hl [0, 1, 2, 3, 4, 5, 6, 7, 8, 9, 10, 11, 12, 13, 14, 15] rfl)
    have h := hf
    rw [f_L_would] at h
    refine lv_aload_n hx hb dL_would_24 rfl (lv_at hl 2 rfl) ?_
    refine lv_aload hx hb dL_would_25 (lv_at hl 9 rfl) ?_
    obtain ⟨u1, q2, h⟩ := bd_t h
    obtain ⟨s3, e4, h⟩ := nm_t h
    obtain ⟨s5, e6, h⟩ := nm_t h
    refine iv_callWV (As := [.ref (am 0), .ref (bm 0)]) (rest := []) (ws1 := wLXbig a hs ag am ap aw an bm bp bw bn E s5) ⟨hx, hb, hml, hown, hts⟩ (k_L_copy60 l E am bm H.size N  (z.2.2.1, z.2.2.2.2.2.2.1) u1 q2) (va_cwS 2 hts gL_would_L_copy rfl rfl rfl (by decide +kernel) ⟨Nat.le_of_ble_eq_true rfl, Nat.le_of_ble_eq_true rfl⟩) hK hP hD hS hA (pm_skip (pm_skip (pm_take (pm_skip (pm_skip (pm_skip (pm_last))))))) (by rw [e6, e4]; exact pm_skip (pm_skip (pm_take (pm_skip (pm_skip (pm_skip (pm_last))))))) rfl hl.1 (Nat.le_of_ble_eq_true rfl) ⟨Nat.le_of_ble_eq_true rfl, Nat.le_of_ble_eq_true rfl⟩ dL_would_27 (fun H locs hP hD hS => ?_)
    refine lv_aload_n hx hb dL_would_30 rfl (lv_at hl 3 rfl) ?_
    refine lv_aload hx hb dL_would_31 (lv_at hl 10 rfl) ?_
    obtain ⟨u7, q8, h⟩ := bd_t h
    obtain ⟨s9, e10, h⟩ := nm_t h
    obtain ⟨s11, e12, h⟩ := nm_t h
    refine iv_callWV (As := [.ref (ap 0), .ref (bp 0)]) (rest := []) (ws1 := wLXbig a hs ag am ap aw an bm bp bw bn E s11) ⟨hx, hb, hml, hown, hts⟩ (k_L_copy60 l E ap bp H.size N  (s5.2.2.2.1, s5.2.2.2.2.2.2.2.1) u7 q8) (va_cwS 2 hts gL_would_L_copy rfl rfl rfl (by decide +kernel) ⟨Nat.le_of_ble_eq_true rfl, Nat.le_of_ble_eq_true rfl⟩) hK hP hD hS hA (pm_skip (pm_skip (pm_skip (pm_take (pm_skip (pm_skip (pm_skip (pm_last)))))))) (by rw [e12, e10]; exact pm_skip (pm_skip (pm_skip (pm_take (pm_skip (pm_skip (pm_skip (pm_last)))))))) rfl hl.1 (Nat.le_of_ble_eq_true rfl) ⟨Nat.le_of_ble_eq_true rfl, Nat.le_of_ble_eq_true rfl⟩ dL_would_33 (fun H locs hP hD hS => ?_)
    refine lv_aload hx hb dL_would_36 (lv_at hl 5 rfl) ?_
    refine lv_aload hx hb dL_would_38 (lv_at hl 12 rfl) ?_
    obtain ⟨u13, q14, h⟩ := bd_t h
    obtain ⟨s15, e16, h⟩ := nm_t h
    obtain ⟨s17, e18, h⟩ := nm_t h
    refine iv_callWV (As := [.ref (an 0), .ref (bn 0)]) (rest := []) (ws1 := wLXbig a hs ag am ap aw an bm bp bw bn E s17) ⟨hx, hb, hml, hown, hts⟩ (k_L_copy15 l E an bn H.size N  (s11.2.2.2.2.2.1, s11.2.2.2.2.2.2.2.2.2) u13 q14) (va_cwS 2 hts gL_would_L_copy rfl rfl rfl (by decide +kernel) ⟨Nat.le_of_ble_eq_true rfl, Nat.le_of_ble_eq_true rfl⟩) hK hP hD hS hA (pm_skip (pm_skip (pm_skip (pm_skip (pm_skip (pm_take (pm_skip (pm_skip (pm_skip (pm_end)))))))))) (by rw [e18, e16]; exact pm_skip (pm_skip (pm_skip (pm_skip (pm_skip (pm_take (pm_skip (pm_skip (pm_skip (pm_end)))))))))) rfl hl.1 (Nat.le_of_ble_eq_true rfl) ⟨Nat.le_of_ble_eq_true rfl, Nat.le_of_ble_eq_true rfl⟩ dL_would_40 (fun H locs hP hD hS => ?_)
    refine iv_iconst hx hb dL_would_43 ?_
    refine lv_istore (lv' := [(13, .int (zi 0)), (0, .ref (a 0)), (1, .ref (ag 0)), (2, .ref (am 0)), (3, .ref (ap 0)), (4, .ref (aw 0)), (5, .ref (an 0)), (6, .int (zi x6)), (7, .int (zi x7)), (8, .int (zi x8)), (9, .ref (bm 0)), (10, .ref (bp 0)), (11, .ref (bw 0)), (12, .ref (bn 0))]) hx hb dL_would_44 hl (by decide) rfl (fun ls hl => ?_)
    refine iv_iconst hx hb dL_would_46 ?_
    refine lv_istore (lv' := [(14, .int (zi 0)), (13, .int (zi 0)), (0, .ref (a 0)), (1, .ref (ag 0)), (2, .ref (am 0)), (3, .ref (ap 0)), (4, .ref (aw 0)), (5, .ref (an 0)), (6, .int (zi x6)), (7, .int (zi x7)), (8, .int (zi x8)), (9, .ref (bm 0)), (10, .ref (bp 0)), (11, .ref (bw 0)), (12, .ref (bn 0))]) hx hb dL_would_47 hl (by decide) rfl (fun ls hl => ?_)
    refine loop49 (fun v51 v52 v53 v54 v55 s56 => bd (f_X7_shirts N v53 s56.1) fun u57 => nm (u57.2, s56.2) fun s59 => gd (rg u57.1) <| gd (rg v54) <| jn2 (fun (v63 : Int) (s64 : bLXbig) => bd (f_L_copy60 N  (s64.2.2.1, s64.2.2.2.2.2.2.1)) fun u67 => nm (s64.1, s64.2.1, u67.1, s64.2.2.2) fun s69 => nm (s69.1, s69.2.1, s69.2.2.1, s69.2.2.2.1, s69.2.2.2.2.1, s69.2.2.2.2.2.1, u67.2, s69.2.2.2.2.2.2.2) fun s71 => bd (f_L_copy60 N  (s71.2.2.2.1, s71.2.2.2.2.2.2.2.1)) fun u73 => nm (s71.1, s71.2.1, s71.2.2.1, u73.1, s71.2.2.2.2) fun s75 => nm (s75.1, s75.2.1, s75.2.2.1, s75.2.2.2.1, s75.2.2.2.2.1, s75.2.2.2.2.2.1, s75.2.2.2.2.2.2.1, u73.2, s75.2.2.2.2.2.2.2.2) fun s77 => bd (f_L_copy20 N  (s77.2.2.2.2.1, s77.2.2.2.2.2.2.2.2.1)) fun u79 => nm (s77.1, s77.2.1, s77.2.2.1, s77.2.2.2.1, u79.1, s77.2.2.2.2.2) fun s81 => nm (s81.1, s81.2.1, s81.2.2.1, s81.2.2.2.1, s81.2.2.2.2.1, s81.2.2.2.2.2.1, s81.2.2.2.2.2.2.1, s81.2.2.2.2.2.2.2.1, u79.2, s81.2.2.2.2.2.2.2.2.2) fun s83 => bd (f_L_copy15 N  (s83.2.2.2.2.2.1, s83.2.2.2.2.2.2.2.2.2)) fun u85 => nm (s83.1, s83.2.1, s83.2.2.1, s83.2.2.2.1, s83.2.2.2.2.1, u85.1, s83.2.2.2.2.2.2) fun s87 => nm (s87.1, s87.2.1, s87.2.2.1, s87.2.2.2.1, s87.2.2.2.2.1, s87.2.2.2.2.2.1, s87.2.2.2.2.2.2.1, s87.2.2.2.2.2.2.2.1, s87.2.2.2.2.2.2.2.2.1, u85.2) fun s89 => gd (inb v51 15) <| nm (s89.1, s89.2.1, s89.2.2.1, s89.2.2.2.1, s89.2.2.2.2.1, s89.2.2.2.2.2.1, s89.2.2.2.2.2.2.1, s89.2.2.2.2.2.2.2.1, s89.2.2.2.2.2.2.2.2.1, up s89.2.2.2.2.2.2.2.2.2 v51.toNat v52) fun s92 => gd (rg (s92.2.2.2.2.2.2.2.2.2 0)) <| gd (rg (s92.2.2.2.2.2.2.2.2.2 1)) <| if (s92.2.2.2.2.2.2.2.2.2 1) < (s92.2.2.2.2.2.2.2.2.2 0) then (gd (rg v63) <| jn2 (fun (v98 : Int) (s99 : bLXbig) => gd (inb v98 2) <| some (v98, s99)) fun j100 => if v63 = 0 then (j100 0 s92) else (bd (f_X7_ifMesh N v51 v52 0 s92.1) fun u104 => nm (u104.2, s92.2) fun s106 => gd (rg u104.1) <| if u104.1 = (-4) then (j100 1 s106) else (j100 0 s106))) else (gd (rg (s92.2.2.2.2.2.2.2.2.2 2)) <| if (s92.2.2.2.2.2.2.2.2.2 1) ≤ (s92.2.2.2.2.2.2.2.2.2 2) then (f_L_would_L200 N (fun v134 v135 v136 v137 v138 v139 s140 => f_L_would_L231 N (fun v165 v166 v167 v168 v169 v170 s171 => gd (inb v169 2) <| some (v169, s171)) N v134 v135 v136 v137 v138 0 s140) N v51 v52 v53 v54 v63 0 s92) else (gd (rg v63) <| jn2 (fun (v174 : Int) (s175 : bLXbig) => gd (inb v174 2) <| some (v174, s175)) fun j176 => if v63 = 0 then (j176 0 s92) else (bd (f_X7_ifMesh N v51 v52 0 s92.1) fun u180 => nm (u180.2, s92.2) fun s182 => gd (rg u180.1) <| if u180.1 = (-4) then (j176 1 s182) else (j176 0 s182))))) fun j65 => if u57.1 = v54 then (j65 1 s59) else (j65 0 s59)) N (fun v51 v52 v53 v54 v55 s56 H locs ls h hP hD hS hl => ?_) x6 x7 x8 0 0 s17 _ _ _ h hP hD hS (lv_sub hl [2, 3, 4, 5, 6, 7, 8, 9, 10, 11, 12, 13, 14, 1, 0] rfl)
    refine lv_aload_n hx hb dL_would_99 rfl (lv_at hl 0 rfl) ?_
    refine lv_iload hx hb dL_would_100 (lv_at hl 8 rfl) ?_
    obtain ⟨u57, q58, h⟩ := bd_t h
    obtain ⟨s59, e60, h⟩ := nm_t h
    refine iv_callIp (As := [.int (zi v53)]) (rest := []) (ws1 := wLXbig a hs ag am ap aw an bm bp bw bn E s59) ⟨hx, hb, hml, hown, hts⟩ (k_X7_shirts l E a hs H.size N v53 s56.1 u57 q58) (cwV 1 hts gL_would_X7_shirts rfl rfl rfl (by decide +kernel) ⟨Nat.le_of_ble_eq_true rfl, Nat.le_of_ble_eq_true rfl⟩) hK hP hD hS hA 0 7 rfl rfl (pm_last) (by rw [e60]; exact pm_last) rfl hl.1 (Nat.le_of_ble_eq_true rfl) ⟨Nat.le_of_ble_eq_true rfl, Nat.le_of_ble_eq_true rfl⟩ dL_would_102 (fun H locs hP hD hS => ?_)
    refine lv_iload hx hb dL_would_105 (lv_at hl 13 rfl) ?_
    obtain ⟨g61, h⟩ := gd_t h
    obtain ⟨g62, h⟩ := gd_t h
    obtain ⟨j65, e66, h⟩ := jn2_t h
    have hj65 : ∀ (v63 : Int) (s64 : bLXbig) (H : Heap) (locs : List Loc) (ls : Array Slot), j65 v63 s64 = some u → va_P E.1 vwCl (wLXbig a hs ag am ap aw an bm bp bw bn E s64) H → va_D A (wLXbig a hs ag am ap aw an bm bp bw bn E s64) → va_S A s.heap H locs → lv_has ls 16 [(0, .ref (a 0)), (1, .ref (ag 0)), (2, .ref (am 0)), (3, .ref (ap 0)), (4, .ref (aw 0)), (5, .ref (an 0)), (6, .int (zi v51)), (7, .int (zi v52)), (8, .int (zi v53)), (9, .ref (bm 0)), (10, .ref (bp 0)), (11, .ref (bw 0)), (12, .ref (bn 0)), (13, .int (zi v54)), (14, .int (zi v55))] → W p l e ({ frames := 6, cells := 4, slots := 155, locals := 135 }) s m ([.ref (a 0), .ref (ag 0), .ref (am 0), .ref (ap 0), .ref (aw 0), .ref (an 0), .int (zi x6), .int (zi x7), .int (zi x8)] : List Value).toArray below meth c H locs 4 155 (MQ below (mQi E (wLXgmpwn a hs ag am ap aw an E (u.2.1, u.2.2.1, u.2.2.2.1, u.2.2.2.2.1, u.2.2.2.2.2.1, u.2.2.2.2.2.2.1)) u.1 A) ([.ref (a 0), .ref (ag 0), .ref (am 0), .ref (ap 0), .ref (aw 0), .ref (an 0), .int (zi x6), .int (zi x7), .int (zi x8)] : List Value).toArray s 4 155 A) (F0 m 115 ls [.int (zi v63)]) := by
      intro v63 s64 H locs ls h hP hD hS hl
      rw [e66] at h
      refine lv_istore (lv' := [(14, .int (zi v63)), (0, .ref (a 0)), (1, .ref (ag 0)), (2, .ref (am 0)), (3, .ref (ap 0)), (4, .ref (aw 0)), (5, .ref (an 0)), (6, .int (zi v51)), (7, .int (zi v52)), (8, .int (zi v53)), (9, .ref (bm 0)), (10, .ref (bp 0)), (11, .ref (bw 0)), (12, .ref (bn 0)), (13, .int (zi v54))]) hx hb dL_would_115 hl (by decide) rfl (fun ls hl => ?_)
      refine lv_aload_n hx hb dL_would_117 rfl (lv_at hl 3 rfl) ?_
      refine lv_aload hx hb dL_would_118 (lv_at hl 10 rfl) ?_
      obtain ⟨u67, q68, h⟩ := bd_t h
      obtain ⟨s69, e70, h⟩ := nm_t h
      obtain ⟨s71, e72, h⟩ := nm_t h
      refine iv_callWV (As := [.ref (am 0), .ref (bm 0)]) (rest := []) (ws1 := wLXbig a hs ag am ap aw an bm bp bw bn E s71) ⟨hx, hb, hml, hown, hts⟩ (k_L_copy60 l E am bm H.size N  (s64.2.2.1, s64.2.2.2.2.2.2.1) u67 q68) (va_cwS 2 hts gL_would_L_copy rfl rfl rfl (by decide +kernel) ⟨Nat.le_of_ble_eq_true rfl, Nat.le_of_ble_eq_true rfl⟩) hK hP hD hS hA (pm_skip (pm_skip (pm_take (pm_skip (pm_skip (pm_skip (pm_last))))))) (by rw [e72, e70]; exact pm_skip (pm_skip (pm_take (pm_skip (pm_skip (pm_skip (pm_last))))))) rfl hl.1 (Nat.le_of_ble_eq_true rfl) ⟨Nat.le_of_ble_eq_true rfl, Nat.le_of_ble_eq_true rfl⟩ dL_would_120 (fun H locs hP hD hS => ?_)
      refine lv_aload_n hx hb dL_would_123 rfl (lv_at hl 4 rfl) ?_
      refine lv_aload hx hb dL_would_124 (lv_at hl 11 rfl) ?_
      obtain ⟨u73, q74, h⟩ := bd_t h
      obtain ⟨s75, e76, h⟩ := nm_t h
      obtain ⟨s77, e78, h⟩ := nm_t h
      refine iv_callWV (As := [.ref (ap 0), .ref (bp 0)]) (rest := []) (ws1 := wLXbig a hs ag am ap aw an bm bp bw bn E s77) ⟨hx, hb, hml, hown, hts⟩ (k_L_copy60 l E ap bp H.size N  (s71.2.2.2.1, s71.2.2.2.2.2.2.2.1) u73 q74) (va_cwS 2 hts gL_would_L_copy rfl rfl rfl (by decide +kernel) ⟨Nat.le_of_ble_eq_true rfl, Nat.le_of_ble_eq_true rfl⟩) hK hP hD hS hA (pm_skip (pm_skip (pm_skip (pm_take (pm_skip (pm_skip (pm_skip (pm_last)))))))) (by rw [e78, e76]; exact pm_skip (pm_skip (pm_skip (pm_take (pm_skip (pm_skip (pm_skip (pm_last)))))))) rfl hl.1 (Nat.le_of_ble_eq_true rfl) ⟨Nat.le_of_ble_eq_true rfl, Nat.le_of_ble_eq_true rfl⟩ dL_would_126 (fun H locs hP hD hS => ?_)
      refine lv_aload hx hb dL_would_129 (lv_at hl 5 rfl) ?_
      refine lv_aload hx hb dL_would_131 (lv_at hl 12 rfl) ?_
      obtain ⟨u79, q80, h⟩ := bd_t h
      obtain ⟨s81, e82, h⟩ := nm_t h
      obtain ⟨s83, e84, h⟩ := nm_t h
      refine iv_callWV (As := [.ref (aw 0), .ref (bw 0)]) (rest := []) (ws1 := wLXbig a hs ag am ap aw an bm bp bw bn E s83) ⟨hx, hb, hml, hown, hts⟩ (k_L_copy20 l E aw bw H.size N  (s77.2.2.2.2.1, s77.2.2.2.2.2.2.2.2.1) u79 q80) (va_cwS 2 hts gL_would_L_copy rfl rfl rfl (by decide +kernel) ⟨Nat.le_of_ble_eq_true rfl, Nat.le_of_ble_eq_true rfl⟩) hK hP hD hS hA (pm_skip (pm_skip (pm_skip (pm_skip (pm_take (pm_skip (pm_skip (pm_skip (pm_last))))))))) (by rw [e84, e82]; exact pm_skip (pm_skip (pm_skip (pm_skip (pm_take (pm_skip (pm_skip (pm_skip (pm_last))))))))) rfl hl.1 (Nat.le_of_ble_eq_true rfl) ⟨Nat.le_of_ble_eq_true rfl, Nat.le_of_ble_eq_true rfl⟩ dL_would_133 (fun H locs hP hD hS => ?_)
      refine lv_aload hx hb dL_would_136 (lv_at hl 6 rfl) ?_
      refine lv_aload hx hb dL_would_138 (lv_at hl 13 rfl) ?_
      obtain ⟨u85, q86, h⟩ := bd_t h
      obtain ⟨s87, e88, h⟩ := nm_t h
      obtain ⟨s89, e90, h⟩ := nm_t h
      refine iv_callWV (As := [.ref (an 0), .ref (bn 0)]) (rest := []) (ws1 := wLXbig a hs ag am ap aw an bm bp bw bn E s89) ⟨hx, hb, hml, hown, hts⟩ (k_L_copy15 l E an bn H.size N  (s83.2.2.2.2.2.1, s83.2.2.2.2.2.2.2.2.2) u85 q86) (va_cwS 2 hts gL_would_L_copy rfl rfl rfl (by decide +kernel) ⟨Nat.le_of_ble_eq_true rfl, Nat.le_of_ble_eq_true rfl⟩) hK hP hD hS hA (pm_skip (pm_skip (pm_skip (pm_skip (pm_skip (pm_take (pm_skip (pm_skip (pm_skip (pm_end)))))))))) (by rw [e90, e88]; exact pm_skip (pm_skip (pm_skip (pm_skip (pm_skip (pm_take (pm_skip (pm_skip (pm_skip (pm_end)))))))))) rfl hl.1 (Nat.le_of_ble_eq_true rfl) ⟨Nat.le_of_ble_eq_true rfl, Nat.le_of_ble_eq_true rfl⟩ dL_would_140 (fun H locs hP hD hS => ?_)
      refine lv_aload hx hb dL_would_143 (lv_at hl 13 rfl) ?_
      refine lv_iload hx hb dL_would_145 (lv_at hl 7 rfl) ?_
      refine lv_iload hx hb dL_would_147 (lv_at hl 8 rfl) ?_
      obtain ⟨g91, h⟩ := gd_t h
      obtain ⟨s92, e93, h⟩ := nm_t h
      refine iv_iast (f := s89.2.2.2.2.2.2.2.2.2) (j := v51.toNat) (ws1 := wLXbig a hs ag am ap aw an bm bp bw bn E s92) hx hb hK.1 hP hD hS 134 0 rfl rfl (by decide) g91 rfl (by rw [e93]; rfl) dL_would_149 (fun H locs hP hD hS => ?_)
      refine lv_aload hx hb dL_would_150 (lv_at hl 13 rfl) ?_
      refine iv_iconst hx hb dL_would_152 ?_
      refine iv_iald (f := s92.2.2.2.2.2.2.2.2.2) (j := 0) hx hb hK.1 hP 134 0 rfl rfl (by decide) (by decide +kernel) rfl dL_would_153 ?_
      refine lv_aload hx hb dL_would_154 (lv_at hl 13 rfl) ?_
      refine iv_iconst hx hb dL_would_156 ?_
      refine iv_iald (f := s92.2.2.2.2.2.2.2.2.2) (j := 1) hx hb hK.1 hP 134 0 rfl rfl (by decide) (by decide +kernel) rfl dL_would_157 ?_
      obtain ⟨g94, h⟩ := gd_t h
      obtain ⟨g95, h⟩ := gd_t h
      refine iv_igt (tgt := 172) hx hb g94 g95 dL_would_158 (by decide) (fun c96 => ?_) (fun c96 => ?_)
      · have h := it_t c96 h
        refine lv_iload hx hb dL_would_172 (lv_at hl 0 rfl) ?_
        obtain ⟨g97, h⟩ := gd_t h
        obtain ⟨j100, e101, h⟩ := jn2_t h
        have hj100 : ∀ (v98 : Int) (s99 : bLXbig) (H : Heap) (locs : List Loc) (ls : Array Slot), j100 v98 s99 = some u → va_P E.1 vwCl (wLXbig a hs ag am ap aw an bm bp bw bn E s99) H → va_D A (wLXbig a hs ag am ap aw an bm bp bw bn E s99) → va_S A s.heap H locs → lv_has ls 16 [(14, .int (zi v63)), (0, .ref (a 0)), (1, .ref (ag 0)), (2, .ref (am 0)), (3, .ref (ap 0)), (4, .ref (aw 0)), (5, .ref (an 0)), (6, .int (zi v51)), (7, .int (zi v52)), (8, .int (zi v53)), (9, .ref (bm 0)), (10, .ref (bp 0)), (11, .ref (bw 0)), (12, .ref (bn 0)), (13, .int (zi v54))] → W p l e ({ frames := 6, cells := 4, slots := 155, locals := 135 }) s m ([.ref (a 0), .ref (ag 0), .ref (am 0), .ref (ap 0), .ref (aw 0), .ref (an 0), .int (zi x6), .int (zi x7), .int (zi x8)] : List Value).toArray below meth c H locs 4 155 (MQ below (mQi E (wLXgmpwn a hs ag am ap aw an E (u.2.1, u.2.2.1, u.2.2.2.1, u.2.2.2.2.1, u.2.2.2.2.2.1, u.2.2.2.2.2.2.1)) u.1 A) ([.ref (a 0), .ref (ag 0), .ref (am 0), .ref (ap 0), .ref (aw 0), .ref (an 0), .int (zi x6), .int (zi x7), .int (zi x8)] : List Value).toArray s 4 155 A) (F0 m 196 ls [.int (zi v98)]) := by
          intro v98 s99 H locs ls h hP hD hS hl
          rw [e101] at h
          obtain ⟨g102, h⟩ := gd_t h
          cases h
          have hP : va_P E.1 vwCl (wLXgmpwn a hs ag am ap aw an E (s99.1, s99.2.1, s99.2.2.1, s99.2.2.2.1, s99.2.2.2.2.1, s99.2.2.2.2.2.1)) H := va_wc (pm_P (pm_take (pm_take (pm_take (pm_take (pm_take pm_last))))) hP)
          have hD : va_D A (wLXgmpwn a hs ag am ap aw an E (s99.1, s99.2.1, s99.2.2.1, s99.2.2.2.1, s99.2.2.2.2.1, s99.2.2.2.2.2.1)) := va_wcD (pm_D (pm_take (pm_take (pm_take (pm_take (pm_take pm_last))))) hD)
          exact iv_zret hx hb hr hlocks g102 hK hP hD hS dL_would_196
        refine iv_eq (tgt := 195) hx hb g97 dL_would_174 (by decide) (fun c103 => ?_) (fun c103 => ?_)
        · have h := it_t c103 h
          refine iv_iconst hx hb dL_would_195 ?_
          exact hj100 0 s92 _ _ _ h hP hD hS (lv_sub hl [0, 1, 2, 3, 4, 5, 6, 7, 8, 9, 10, 11, 12, 13, 14] rfl)
        · have h := it_f c103 h
          refine lv_aload_n hx hb dL_would_177 rfl (lv_at hl 1 rfl) ?_
          refine lv_iload hx hb dL_would_178 (lv_at hl 7 rfl) ?_
          refine lv_iload hx hb dL_would_180 (lv_at hl 8 rfl) ?_
          refine iv_iconst hx hb dL_would_182 ?_
          obtain ⟨u104, q105, h⟩ := bd_t h
          obtain ⟨s106, e107, h⟩ := nm_t h
          refine iv_callIsp (As := [.int (zi v51), .int (zi v52), .int (zi 0)]) (rest := []) (ws1 := wLXbig a hs ag am ap aw an bm bp bw bn E s106) ⟨hx, hb, hml, hown, hts⟩ (k_X7_ifMesh l E a hs H.size N v51 v52 0 s92.1 u104 q105) (cwV 3 hts gL_would_X7_ifMesh rfl rfl rfl (by decide +kernel) ⟨Nat.le_of_ble_eq_true rfl, Nat.le_of_ble_eq_true rfl⟩) hZ hK hP hD hS hA 0 7 rfl rfl (pm_last) (by rw [e107]; exact pm_last) rfl hl.1 (Nat.le_of_ble_eq_true rfl) ⟨Nat.le_of_ble_eq_true rfl, Nat.le_of_ble_eq_true rfl⟩ dL_would_183 (fun H locs hP hD hS => ?_)
          refine iv_bipush hx hb dL_would_186 (by decide +kernel) ?_
          obtain ⟨g108, h⟩ := gd_t h
          refine iv_ine (tgt := 195) hx hb g108 (by decide +kernel) dL_would_188 (by decide) (fun c109 => ?_) (fun c109 => ?_)
          · have h := it_f c109 h
            refine iv_iconst hx hb dL_would_195 ?_
            exact hj100 0 s106 _ _ _ h hP hD hS (lv_sub hl [0, 1, 2, 3, 4, 5, 6, 7, 8, 9, 10, 11, 12, 13, 14] rfl)
          · have h := it_t c109 h
            refine iv_iconst hx hb dL_would_191 ?_
            refine lv_goto (tgt := 196) hx hb dL_would_192 (by decide) ?_
            exact hj100 1 s106 _ _ _ h hP hD hS (lv_sub hl [0, 1, 2, 3, 4, 5, 6, 7, 8, 9, 10, 11, 12, 13, 14] rfl)
      · have h := it_f c96 h
        refine lv_aload hx hb dL_would_161 (lv_at hl 13 rfl) ?_
        refine iv_iconst hx hb dL_would_163 ?_
        refine iv_iald (f := s92.2.2.2.2.2.2.2.2.2) (j := 1) hx hb hK.1 hP 134 0 rfl rfl (by decide) (by decide +kernel) rfl dL_would_164 ?_
        refine lv_aload hx hb dL_would_165 (lv_at hl 13 rfl) ?_
        refine iv_iconst hx hb dL_would_167 ?_
        refine iv_iald (f := s92.2.2.2.2.2.2.2.2.2) (j := 2) hx hb hK.1 hP 134 0 rfl rfl (by decide) (by decide +kernel) rfl dL_would_168 ?_
        obtain ⟨g110, h⟩ := gd_t h
        refine iv_ile (tgt := 197) hx hb g95 g110 dL_would_169 (by decide) (fun c111 => ?_) (fun c111 => ?_)
        · have h := it_t c111 h
          refine iv_iconst hx hb dL_would_197 ?_
          refine lv_istore (lv' := [(15, .int (zi 0)), (14, .int (zi v63)), (0, .ref (a 0)), (1, .ref (ag 0)), (2, .ref (am 0)), (3, .ref (ap 0)), (4, .ref (aw 0)), (5, .ref (an 0)), (6, .int (zi v51)), (7, .int (zi v52)), (8, .int (zi v53)), (9, .ref (bm 0)), (10, .ref (bp 0)), (11, .ref (bw 0)), (12, .ref (bn 0)), (13, .int (zi v54))]) hx hb dL_would_198 hl (by decide) rfl (fun ls hl => ?_)
          refine loop200 (fun v134 v135 v136 v137 v138 v139 s140 => f_L_would_L231 N (fun v165 v166 v167 v168 v169 v170 s171 => gd (inb v169 2) <| some (v169, s171)) N v134 v135 v136 v137 v138 0 s140) N (fun v134 v135 v136 v137 v138 v139 s140 H locs ls h hP hD hS hl => ?_) v51 v52 v53 v54 v63 0 s92 _ _ _ h hP hD hS (lv_sub hl [2, 3, 4, 5, 6, 7, 8, 9, 10, 11, 12, 13, 14, 15, 1, 0] rfl)
          refine iv_iconst hx hb dL_would_228 ?_
          refine lv_istore (lv' := [(15, .int (zi 0)), (0, .ref (a 0)), (1, .ref (ag 0)), (2, .ref (am 0)), (3, .ref (ap 0)), (4, .ref (aw 0)), (5, .ref (an 0)), (6, .int (zi v134)), (7, .int (zi v135)), (8, .int (zi v136)), (9, .ref (bm 0)), (10, .ref (bp 0)), (11, .ref (bw 0)), (12, .ref (bn 0)), (13, .int (zi v137)), (14, .int (zi v138))]) hx hb dL_would_229 hl (by decide) rfl (fun ls hl => ?_)
          refine loop231 (fun v165 v166 v167 v168 v169 v170 s171 => gd (inb v169 2) <| some (v169, s171)) N (fun v165 v166 v167 v168 v169 v170 s171 H locs ls h hP hD hS hl => ?_) v134 v135 v136 v137 v138 0 s140 _ _ _ h hP hD hS (lv_sub hl [1, 2, 3, 4, 5, 6, 7, 8, 9, 10, 11, 12, 13, 14, 15, 0] rfl)
          refine lv_iload hx hb dL_would_278 (lv_at hl 14 rfl) ?_
          obtain ⟨g172, h⟩ := gd_t h
          cases h
          have hP : va_P E.1 vwCl (wLXgmpwn a hs ag am ap aw an E (s171.1, s171.2.1, s171.2.2.1, s171.2.2.2.1, s171.2.2.2.2.1, s171.2.2.2.2.2.1)) H := va_wc (pm_P (pm_take (pm_take (pm_take (pm_take (pm_take pm_last))))) hP)
          have hD : va_D A (wLXgmpwn a hs ag am ap aw an E (s171.1, s171.2.1, s171.2.2.1, s171.2.2.2.1, s171.2.2.2.2.1, s171.2.2.2.2.2.1)) := va_wcD (pm_D (pm_take (pm_take (pm_take (pm_take (pm_take pm_last))))) hD)
          exact iv_zret hx hb hr hlocks g172 hK hP hD hS dL_would_280
        · have h := it_f c111 h
          refine lv_iload hx hb dL_would_172 (lv_at hl 0 rfl) ?_
          obtain ⟨g173, h⟩ := gd_t h
          obtain ⟨j176, e177, h⟩ := jn2_t h
          have hj176 : ∀ (v174 : Int) (s175 : bLXbig) (H : Heap) (locs : List Loc) (ls : Array Slot), j176 v174 s175 = some u → va_P E.1 vwCl (wLXbig a hs ag am ap aw an bm bp bw bn E s175) H → va_D A (wLXbig a hs ag am ap aw an bm bp bw bn E s175) → va_S A s.heap H locs → lv_has ls 16 [(14, .int (zi v63)), (0, .ref (a 0)), (1, .ref (ag 0)), (2, .ref (am 0)), (3, .ref (ap 0)), (4, .ref (aw 0)), (5, .ref (an 0)), (6, .int (zi v51)), (7, .int (zi v52)), (8, .int (zi v53)), (9, .ref (bm 0)), (10, .ref (bp 0)), (11, .ref (bw 0)), (12, .ref (bn 0)), (13, .int (zi v54))] → W p l e ({ frames := 6, cells := 4, slots := 155, locals := 135 }) s m ([.ref (a 0), .ref (ag 0), .ref (am 0), .ref (ap 0), .ref (aw 0), .ref (an 0), .int (zi x6), .int (zi x7), .int (zi x8)] : List Value).toArray below meth c H locs 4 155 (MQ below (mQi E (wLXgmpwn a hs ag am ap aw an E (u.2.1, u.2.2.1, u.2.2.2.1, u.2.2.2.2.1, u.2.2.2.2.2.1, u.2.2.2.2.2.2.1)) u.1 A) ([.ref (a 0), .ref (ag 0), .ref (am 0), .ref (ap 0), .ref (aw 0), .ref (an 0), .int (zi x6), .int (zi x7), .int (zi x8)] : List Value).toArray s 4 155 A) (F0 m 196 ls [.int (zi v174)]) := by
            intro v174 s175 H locs ls h hP hD hS hl
            rw [e177] at h
            obtain ⟨g178, h⟩ := gd_t h
            cases h
            have hP : va_P E.1 vwCl (wLXgmpwn a hs ag am ap aw an E (s175.1, s175.2.1, s175.2.2.1, s175.2.2.2.1, s175.2.2.2.2.1, s175.2.2.2.2.2.1)) H := va_wc (pm_P (pm_take (pm_take (pm_take (pm_take (pm_take pm_last))))) hP)
            have hD : va_D A (wLXgmpwn a hs ag am ap aw an E (s175.1, s175.2.1, s175.2.2.1, s175.2.2.2.1, s175.2.2.2.2.1, s175.2.2.2.2.2.1)) := va_wcD (pm_D (pm_take (pm_take (pm_take (pm_take (pm_take pm_last))))) hD)
            exact iv_zret hx hb hr hlocks g178 hK hP hD hS dL_would_196
          refine iv_eq (tgt := 195) hx hb g173 dL_would_174 (by decide) (fun c179 => ?_) (fun c179 => ?_)
          · have h := it_t c179 h
            refine iv_iconst hx hb dL_would_195 ?_
            exact hj176 0 s92 _ _ _ h hP hD hS (lv_sub hl [0, 1, 2, 3, 4, 5, 6, 7, 8, 9, 10, 11, 12, 13, 14] rfl)
          · have h := it_f c179 h
            refine lv_aload_n hx hb dL_would_177 rfl (lv_at hl 1 rfl) ?_
            refine lv_iload hx hb dL_would_178 (lv_at hl 7 rfl) ?_
            refine lv_iload hx hb dL_would_180 (lv_at hl 8 rfl) ?_
            refine iv_iconst hx hb dL_would_182 ?_
            obtain ⟨u180, q181, h⟩ := bd_t h
            obtain ⟨s182, e183, h⟩ := nm_t h
            refine iv_callIsp (As := [.int (zi v51), .int (zi v52), .int (zi 0)]) (rest := []) (ws1 := wLXbig a hs ag am ap aw an bm bp bw bn E s182) ⟨hx, hb, hml, hown, hts⟩ (k_X7_ifMesh l E a hs H.size N v51 v52 0 s92.1 u180 q181) (cwV 3 hts gL_would_X7_ifMesh rfl rfl rfl (by decide +kernel) ⟨Nat.le_of_ble_eq_true rfl, Nat.le_of_ble_eq_true rfl⟩) hZ hK hP hD hS hA 0 7 rfl rfl (pm_last) (by rw [e183]; exact pm_last) rfl hl.1 (Nat.le_of_ble_eq_true rfl) ⟨Nat.le_of_ble_eq_true rfl, Nat.le_of_ble_eq_true rfl⟩ dL_would_183 (fun H locs hP hD hS => ?_)
            refine iv_bipush hx hb dL_would_186 (by decide +kernel) ?_
            obtain ⟨g184, h⟩ := gd_t h
            refine iv_ine (tgt := 195) hx hb g184 (by decide +kernel) dL_would_188 (by decide) (fun c185 => ?_) (fun c185 => ?_)
            · have h := it_f c185 h
              refine iv_iconst hx hb dL_would_195 ?_
              exact hj176 0 s182 _ _ _ h hP hD hS (lv_sub hl [0, 1, 2, 3, 4, 5, 6, 7, 8, 9, 10, 11, 12, 13, 14] rfl)
            · have h := it_t c185 h
              refine iv_iconst hx hb dL_would_191 ?_
              refine lv_goto (tgt := 196) hx hb dL_would_192 (by decide) ?_
              exact hj176 1 s182 _ _ _ h hP hD hS (lv_sub hl [0, 1, 2, 3, 4, 5, 6, 7, 8, 9, 10, 11, 12, 13, 14] rfl)
    refine iv_ine (tgt := 114) hx hb g61 g62 dL_would_107 (by decide) (fun c186 => ?_) (fun c186 => ?_)
    · have h := it_f c186 h
      refine iv_iconst hx hb dL_would_114 ?_
      exact hj65 0 s59 _ _ _ h hP hD hS (lv_sub hl [0, 1, 2, 3, 4, 5, 6, 7, 8, 9, 10, 11, 12, 13, 14] rfl)
    · have h := it_t c186 h
      refine iv_iconst hx hb dL_would_110 ?_
      refine lv_goto (tgt := 115) hx hb dL_would_111 (by decide) ?_
      exact hj65 1 s59 _ _ _ h hP hD hS (lv_sub hl [0, 1, 2, 3, 4, 5, 6, 7, 8, 9, 10, 11, 12, 13, 14] rfl)
  refine iv_bipush hx hb dL_would_0 (by decide +kernel) ?_
  refine iv_newI hx hb (hts _ wd_L_would_ac) hK hP hD hS hA 60 rfl (by decide) (Nat.le_of_ble_eq_true rfl) (Nat.le_of_ble_eq_true rfl) dL_would_2 (fun q1 H hP hD hS => ?_)
  refine lv_astore (lv' := [(9, .ref q1), (0, .ref (a 0)), (1, .ref (ag 0)), (2, .ref (am 0)), (3, .ref (ap 0)), (4, .ref (aw 0)), (5, .ref (an 0)), (6, .int (zi x6)), (7, .int (zi x7)), (8, .int (zi x8))]) hx hb dL_would_4 hl (by decide) rfl (fun ls hl => ?_)
  refine iv_bipush hx hb dL_would_6 (by decide +kernel) ?_
  refine iv_newI hx hb (hts _ wd_L_would_ac) hK hP hD hS hA 60 rfl (by decide) (Nat.le_of_ble_eq_true rfl) (Nat.le_of_ble_eq_true rfl) dL_would_8 (fun q2 H hP hD hS => ?_)
  refine lv_astore (lv' := [(10, .ref q2), (9, .ref q1), (0, .ref (a 0)), (1, .ref (ag 0)), (2, .ref (am 0)), (3, .ref (ap 0)), (4, .ref (aw 0)), (5, .ref (an 0)), (6, .int (zi x6)), (7, .int (zi x7)), (8, .int (zi x8))]) hx hb dL_would_10 hl (by decide) rfl (fun ls hl => ?_)
  refine iv_bipush hx hb dL_would_12 (by decide +kernel) ?_
  refine iv_newI hx hb (hts _ wd_L_would_ac) hK hP hD hS hA 20 rfl (by decide) (Nat.le_of_ble_eq_true rfl) (Nat.le_of_ble_eq_true rfl) dL_would_14 (fun q3 H hP hD hS => ?_)
  refine lv_astore (lv' := [(11, .ref q3), (10, .ref q2), (9, .ref q1), (0, .ref (a 0)), (1, .ref (ag 0)), (2, .ref (am 0)), (3, .ref (ap 0)), (4, .ref (aw 0)), (5, .ref (an 0)), (6, .int (zi x6)), (7, .int (zi x7)), (8, .int (zi x8))]) hx hb dL_would_16 hl (by decide) rfl (fun ls hl => ?_)
  refine iv_bipush hx hb dL_would_18 (by decide +kernel) ?_
  refine iv_newI hx hb (hts _ wd_L_would_ac) hK hP hD hS hA 15 rfl (by decide) (Nat.le_of_ble_eq_true rfl) (Nat.le_of_ble_eq_true rfl) dL_would_20 (fun q4 H hP hD hS => ?_)
  refine lv_astore (lv' := [(12, .ref q4), (11, .ref q3), (10, .ref q2), (9, .ref q1), (0, .ref (a 0)), (1, .ref (ag 0)), (2, .ref (am 0)), (3, .ref (ap 0)), (4, .ref (aw 0)), (5, .ref (an 0)), (6, .int (zi x6)), (7, .int (zi x7)), (8, .int (zi x8))]) hx hb dL_would_22 hl (by decide) rfl (fun ls hl => ?_)
  have ew : wLXbig a hs ag am ap aw an (fun _ => q1) (fun _ => q2) (fun _ => q3) (fun _ => q4) E (z.1, z.2.1, z.2.2.1, z.2.2.2.1, z.2.2.2.2.1, z.2.2.2.2.2, (fun _ => 0), (fun _ => 0), (fun _ => 0), fun _ => 0) = (((wLXgmpwn a hs ag am ap aw an E z ++ [(q1, .inl (E.2.1, 60, .inl (fun _ => zi 0)))]) ++ [(q2, .inl (E.2.1, 60, .inl (fun _ => zi 0)))]) ++ [(q3, .inl (E.2.1, 20, .inl (fun _ => zi 0)))]) ++ [(q4, .inl (E.2.1, 15, .inl (fun _ => zi 0)))] := by
    unfold wLXbig wLXgmpwn
    simp only [List.append_assoc]
    rfl
  exact body (fun _ => q1) (fun _ => q2) (fun _ => q3) (fun _ => q4) _ _ _ _ hf (by rw [ew]; exact hP) (by rw [ew]; exact hD) hS (lv_sub hl [4, 5, 6, 7, 8, 9, 10, 11, 12, 3, 2, 1, 0] rfl)
set_option maxHeartbeats 4000000 in
set_option maxRecDepth 100000 in
theorem k_L_comes (l : Launch) (E : wE) (a hs ag am ap aw an : Nat → Nat) (sz : Nat) (N : Nat) (x6 x7 : Int) (z : bLXgmpwn) (u : (Int × bLXgmpwn)) (hf : f_L_comes N x6 x7 z = some u) : cIx l yL_comes wsL_comes { frames := 6, cells := 0, slots := 0, locals := 133 } E sz [.ref (a 0), .ref (ag 0), .ref (am 0), .ref (ap 0), .ref (aw 0), .ref (an 0), .int (zi x6), .int (zi x7)] (wLXgmpwn a hs ag am ap aw an E z) (fun h1 => wLXgmpwn a h1 ag am ap aw an E u.2) u.1 := by
  refine met_go (cc := cL_comes) (maxL := 12) (ret := (some .boolean)) (Q0 := mQix E (fun h1 => wLXgmpwn a h1 ag am ap aw an E u.2) u.1) (by decide +kernel) rfl (Nat.le_of_ble_eq_true rfl) ?_
  intro A p e s m below meth c hx hb hr hml hts hown hlocks hP hK hD hA hS ls hl
  have hl : lv_has ls 12 [(0, .ref (a 0)), (1, .ref (ag 0)), (2, .ref (am 0)), (3, .ref (ap 0)), (4, .ref (aw 0)), (5, .ref (an 0)), (6, .int (zi x6)), (7, .int (zi x7))] := hl
  generalize hH : s.heap = H at hP
  have hS : va_S A s.heap H [] := by rw [← hH]; exact hS
  have hown : s.vm.findClass RL = some m.cls := hown
  have loop37 : ∀ (kt : Int → Int → Int → Int → bLXgmpwn → Option (Int × bLXgmpwn)) (n : Nat), (∀ (v7 : Int) (v8 : Int) (v9 : Int) (v10 : Int) (s11 : bLXgmpwn) (H : Heap) (locs : List Loc) (ls : Array Slot), kt v7 v8 v9 v10 s11 = some u → va_P E.1 vwCl (wLXgmpwn a hs ag am ap aw an E s11) H → va_D A (wLXgmpwn a hs ag am ap aw an E s11) → va_S A s.heap H locs → lv_has ls 12 [(0, .ref (a 0)), (1, .ref (ag 0)), (2, .ref (am 0)), (3, .ref (ap 0)), (4, .ref (aw 0)), (5, .ref (an 0)), (6, .int (zi v7)), (7, .int (zi v8)), (8, .int (zi v9)), (9, .int (zi v10))] → W p l e ({ frames := 6, cells := 0, slots := 0, locals := 133 }) s m ([.ref (a 0), .ref (ag 0), .ref (am 0), .ref (ap 0), .ref (aw 0), .ref (an 0), .int (zi x6), .int (zi x7)] : List Value).toArray below meth c H locs 0 0 (MQ below (mQix E (fun h1 => wLXgmpwn a h1 ag am ap aw an E u.2) u.1 A) ([.ref (a 0), .ref (ag 0), .ref (am 0), .ref (ap 0), .ref (aw 0), .ref (an 0), .int (zi x6), .int (zi x7)] : List Value).toArray s 0 0 A) (F0 m 462 ls [])) → ∀ (v7 : Int) (v8 : Int) (v9 : Int) (v10 : Int) (s11 : bLXgmpwn) (H : Heap) (locs : List Loc) (ls : Array Slot), f_L_comes_L37 N kt n v7 v8 v9 v10 s11 = some u → va_P E.1 vwCl (wLXgmpwn a hs ag am ap aw an E s11) H → va_D A (wLXgmpwn a hs ag am ap aw an E s11) → va_S A s.heap H locs → lv_has ls 12 [(0, .ref (a 0)), (1, .ref (ag 0)), (2, .ref (am 0)), (3, .ref (ap 0)), (4, .ref (aw 0)), (5, .ref (an 0)), (6, .int (zi v7)), (7, .int (zi v8)), (8, .int (zi v9)), (9, .int (zi v10))] → W p l e ({ frames := 6, cells := 0, slots := 0, locals := 133 }) s m ([.ref (a 0), .ref (ag 0), .ref (am 0), .ref (ap 0), .ref (aw 0), .ref (an 0), .int (zi x6), .int (zi x7)] : List Value).toArray below meth c H locs 0 0 (MQ below (mQix E (fun h1 => wLXgmpwn a h1 ag am ap aw an E u.2) u.1 A) ([.ref (a 0), .ref (ag 0), .ref (am 0), .ref (ap 0), .ref (aw 0), .ref (an 0), .int (zi x6), .int (zi x7)] : List Value).toArray s 0 0 A) (F0 m 37 ls []) := by
    intro kt n hk
    induction n with
    | zero =>
      intro v7 v8 v9 v10 s11 H locs ls h
      exact absurd (show (none : Option (Int × bLXgmpwn)) = some u from h) (by simp)
    | succ n ih =>
      intro v7 v8 v9 v10 s11 H locs ls h hP hD hS hl
      rw [f_L_comes_L37] at h
      refine lv_iload hx hb dL_comes_37 (lv_at hl 9 rfl) ?_
      refine lv_iload hx hb dL_comes_39 (lv_at hl 7 rfl) ?_
      obtain ⟨g12, h⟩ := gd_t h
      obtain ⟨g13, h⟩ := gd_t h
      refine iv_ige (tgt := 462) hx hb g12 g13 dL_comes_41 (by decide) (fun c14 => ?_) (fun c14 => ?_)
      · have h := it_t c14 h
        exact hk v7 v8 v9 v10 s11 _ _ _ h hP hD hS (lv_sub hl [0, 1, 2, 3, 4, 5, 6, 7, 8, 9] rfl)
      · have h := it_f c14 h
        refine lv_aload hx hb dL_comes_44 (lv_at hl 5 rfl) ?_
        refine iv_bipush hx hb dL_comes_46 (by decide +kernel) ?_
        refine iv_iald (f := s11.2.2.2.2.2) (j := 13) hx hb hK.1 hP 130 0 rfl rfl (by decide) (by decide +kernel) rfl dL_comes_48 ?_
        obtain ⟨v15, e16, h⟩ := nm_t h
        refine iv_nm e16 ?_
        refine lv_istore (lv' := [(10, .int (zi v15)), (0, .ref (a 0)), (1, .ref (ag 0)), (2, .ref (am 0)), (3, .ref (ap 0)), (4, .ref (aw 0)), (5, .ref (an 0)), (6, .int (zi v7)), (7, .int (zi v8)), (8, .int (zi v9)), (9, .int (zi v10))]) hx hb dL_comes_49 hl (by decide) rfl (fun ls hl => ?_)
        refine lv_iload hx hb dL_comes_51 (lv_at hl 7 rfl) ?_
        refine iv_iconst hx hb dL_comes_53 ?_
        refine lv_iload hx hb dL_comes_54 (lv_at hl 10 rfl) ?_
        refine iv_imul hx hb dL_comes_56 ?_
        refine iv_ishr hx hb dL_comes_57 ?_
        obtain ⟨v17, e18, h⟩ := nm_t h
        refine iv_nm e18 ?_
        refine lv_istore (lv' := [(11, .int (zi v17)), (10, .int (zi v15)), (0, .ref (a 0)), (1, .ref (ag 0)), (2, .ref (am 0)), (3, .ref (ap 0)), (4, .ref (aw 0)), (5, .ref (an 0)), (6, .int (zi v7)), (7, .int (zi v8)), (8, .int (zi v9)), (9, .int (zi v10))]) hx hb dL_comes_58 hl (by decide) rfl (fun ls hl => ?_)
        refine lv_aload_n hx hb dL_comes_60 rfl (lv_at hl 3 rfl) ?_
        refine iv_iconst hx hb dL_comes_61 ?_
        refine lv_iload hx hb dL_comes_62 (lv_at hl 1 rfl) ?_
        refine iv_imul hx hb dL_comes_64 ?_
        refine iv_iconst hx hb dL_comes_65 ?_
        refine lv_iload hx hb dL_comes_66 (lv_at hl 0 rfl) ?_
        refine iv_iconst hx hb dL_comes_68 ?_
        obtain ⟨u19, q20, h⟩ := bd_t h
        refine iv_callS (As := [.int (zi v17), .int (zi 4)]) (rest := [.int (zi 1), .int (zi (3 * v15)), .ref (ag 0)]) ⟨hx, hb, hml, hown, hts⟩ (k_L_low l E H.size v17 4 u19 q20) (va_cwS 2 hts gL_comes_L_low rfl rfl rfl (by decide +kernel) ⟨Nat.le_of_ble_eq_true rfl, Nat.le_of_ble_eq_true rfl⟩) hK hP hS hA rfl hl.1 (Nat.le_of_ble_eq_true rfl) ⟨Nat.le_of_ble_eq_true rfl, Nat.le_of_ble_eq_true rfl⟩ dL_comes_69 (fun H locs hP hS => ?_)
        refine iv_iconst hx hb dL_comes_72 ?_
        refine iv_idiv hx hb (by decide +kernel) dL_comes_73 ?_
        refine iv_iadd hx hb dL_comes_74 ?_
        obtain ⟨g21, h⟩ := gd_t h
        obtain ⟨s22, e23, h⟩ := nm_t h
        refine iv_iast (f := s11.2.1) (j := (3 * v15).toNat) (ws1 := wLXgmpwn a hs ag am ap aw an E s22) hx hb hK.1 hP hD hS 126 0 rfl rfl (by decide) g21 rfl (by rw [e23]; rfl) dL_comes_75 (fun H locs hP hD hS => ?_)
        refine lv_aload_n hx hb dL_comes_76 rfl (lv_at hl 3 rfl) ?_
        refine iv_iconst hx hb dL_comes_77 ?_
        refine lv_iload hx hb dL_comes_78 (lv_at hl 1 rfl) ?_
        refine iv_imul hx hb dL_comes_80 ?_
        refine iv_iconst hx hb dL_comes_81 ?_
        refine iv_iadd hx hb dL_comes_82 ?_
        refine iv_iconst hx hb dL_comes_83 ?_
        refine lv_iload hx hb dL_comes_84 (lv_at hl 0 rfl) ?_
        refine iv_iconst hx hb dL_comes_86 ?_
        refine iv_ishr hx hb dL_comes_87 ?_
        refine lv_iload hx hb dL_comes_88 (lv_at hl 0 rfl) ?_
        refine iv_bipush hx hb dL_comes_90 (by decide +kernel) ?_
        refine iv_ishr hx hb dL_comes_92 ?_
        refine iv_iconst hx hb dL_comes_93 ?_
        obtain ⟨u24, q25, h⟩ := bd_t h
        refine iv_callS (As := [.int (zi (srI v17 9)), .int (zi 2)]) (rest := [.int (zi (srI v17 2)), .int (zi 1), .int (zi ((3 * v15) + 1)), .ref (ag 0)]) ⟨hx, hb, hml, hown, hts⟩ (k_L_low l E H.size (srI v17 9) 2 u24 q25) (va_cwS 2 hts gL_comes_L_low rfl rfl rfl (by decide +kernel) ⟨Nat.le_of_ble_eq_true rfl, Nat.le_of_ble_eq_true rfl⟩) hK hP hS hA rfl hl.1 (Nat.le_of_ble_eq_true rfl) ⟨Nat.le_of_ble_eq_true rfl, Nat.le_of_ble_eq_true rfl⟩ dL_comes_94 (fun H locs hP hS => ?_)
        obtain ⟨g26, h⟩ := gd_t h
        obtain ⟨j29, e30, h⟩ := jn2_t h
        have hj29 : ∀ (v27 : Int) (s28 : bLXgmpwn) (H : Heap) (locs : List Loc) (ls : Array Slot), j29 v27 s28 = some u → va_P E.1 vwCl (wLXgmpwn a hs ag am ap aw an E s28) H → va_D A (wLXgmpwn a hs ag am ap aw an E s28) → va_S A s.heap H locs → lv_has ls 12 [(11, .int (zi v17)), (10, .int (zi v15)), (0, .ref (a 0)), (1, .ref (ag 0)), (2, .ref (am 0)), (3, .ref (ap 0)), (4, .ref (aw 0)), (5, .ref (an 0)), (6, .int (zi v7)), (7, .int (zi v8)), (8, .int (zi v9)), (9, .int (zi v10))] → W p l e ({ frames := 6, cells := 0, slots := 0, locals := 133 }) s m ([.ref (a 0), .ref (ag 0), .ref (am 0), .ref (ap 0), .ref (aw 0), .ref (an 0), .int (zi x6), .int (zi x7)] : List Value).toArray below meth c H locs 0 0 (MQ below (mQix E (fun h1 => wLXgmpwn a h1 ag am ap aw an E u.2) u.1 A) ([.ref (a 0), .ref (ag 0), .ref (am 0), .ref (ap 0), .ref (aw 0), .ref (an 0), .int (zi x6), .int (zi x7)] : List Value).toArray s 0 0 A) (F0 m 107 ls [.int (zi v27), .int (zi (srI v17 2)), .int (zi 1), .int (zi ((3 * v15) + 1)), .ref (ag 0)]) := by
          intro v27 s28 H locs ls h hP hD hS hl
          rw [e30] at h
          obtain ⟨u31, q32, h⟩ := bd_t h
          refine iv_callS (As := [.int (zi (srI v17 2)), .int (zi v27)]) (rest := [.int (zi 1), .int (zi ((3 * v15) + 1)), .ref (ag 0)]) ⟨hx, hb, hml, hown, hts⟩ (k_L_low l E H.size (srI v17 2) v27 u31 q32) (va_cwS 2 hts gL_comes_L_low rfl rfl rfl (by decide +kernel) ⟨Nat.le_of_ble_eq_true rfl, Nat.le_of_ble_eq_true rfl⟩) hK hP hS hA rfl hl.1 (Nat.le_of_ble_eq_true rfl) ⟨Nat.le_of_ble_eq_true rfl, Nat.le_of_ble_eq_true rfl⟩ dL_comes_107 (fun H locs hP hS => ?_)
          refine iv_iadd hx hb dL_comes_110 ?_
          obtain ⟨g33, h⟩ := gd_t h
          obtain ⟨s34, e35, h⟩ := nm_t h
          refine iv_iast (f := s28.2.1) (j := ((3 * v15) + 1).toNat) (ws1 := wLXgmpwn a hs ag am ap aw an E s34) hx hb hK.1 hP hD hS 126 0 rfl rfl (by decide) g33 rfl (by rw [e35]; rfl) dL_comes_111 (fun H locs hP hD hS => ?_)
          refine lv_aload_n hx hb dL_comes_112 rfl (lv_at hl 3 rfl) ?_
          refine iv_iconst hx hb dL_comes_113 ?_
          refine lv_iload hx hb dL_comes_114 (lv_at hl 1 rfl) ?_
          refine iv_imul hx hb dL_comes_116 ?_
          refine iv_iconst hx hb dL_comes_117 ?_
          refine iv_iadd hx hb dL_comes_118 ?_
          refine lv_iload hx hb dL_comes_119 (lv_at hl 0 rfl) ?_
          refine iv_iconst hx hb dL_comes_121 ?_
          refine iv_ishr hx hb dL_comes_122 ?_
          refine iv_iconst hx hb dL_comes_123 ?_
          obtain ⟨u36, q37, h⟩ := bd_t h
          refine iv_callS (As := [.int (zi (srI v17 4)), .int (zi 3)]) (rest := [.int (zi ((3 * v15) + 2)), .ref (ag 0)]) ⟨hx, hb, hml, hown, hts⟩ (k_L_low l E H.size (srI v17 4) 3 u36 q37) (va_cwS 2 hts gL_comes_L_low rfl rfl rfl (by decide +kernel) ⟨Nat.le_of_ble_eq_true rfl, Nat.le_of_ble_eq_true rfl⟩) hK hP hS hA rfl hl.1 (Nat.le_of_ble_eq_true rfl) ⟨Nat.le_of_ble_eq_true rfl, Nat.le_of_ble_eq_true rfl⟩ dL_comes_124 (fun H locs hP hS => ?_)
          obtain ⟨g38, h⟩ := gd_t h
          obtain ⟨j41, e42, h⟩ := jn2_t h
          have hj41 : ∀ (v39 : Int) (s40 : bLXgmpwn) (H : Heap) (locs : List Loc) (ls : Array Slot), j41 v39 s40 = some u → va_P E.1 vwCl (wLXgmpwn a hs ag am ap aw an E s40) H → va_D A (wLXgmpwn a hs ag am ap aw an E s40) → va_S A s.heap H locs → lv_has ls 12 [(11, .int (zi v17)), (10, .int (zi v15)), (0, .ref (a 0)), (1, .ref (ag 0)), (2, .ref (am 0)), (3, .ref (ap 0)), (4, .ref (aw 0)), (5, .ref (an 0)), (6, .int (zi v7)), (7, .int (zi v8)), (8, .int (zi v9)), (9, .int (zi v10))] → W p l e ({ frames := 6, cells := 0, slots := 0, locals := 133 }) s m ([.ref (a 0), .ref (ag 0), .ref (am 0), .ref (ap 0), .ref (aw 0), .ref (an 0), .int (zi x6), .int (zi x7)] : List Value).toArray below meth c H locs 0 0 (MQ below (mQix E (fun h1 => wLXgmpwn a h1 ag am ap aw an E u.2) u.1 A) ([.ref (a 0), .ref (ag 0), .ref (am 0), .ref (ap 0), .ref (aw 0), .ref (an 0), .int (zi x6), .int (zi x7)] : List Value).toArray s 0 0 A) (F0 m 144 ls [.int (zi v39), .int (zi ((3 * v15) + 2)), .ref (ag 0)]) := by
            intro v39 s40 H locs ls h hP hD hS hl
            rw [e42] at h
            obtain ⟨g43, h⟩ := gd_t h
            obtain ⟨s44, e45, h⟩ := nm_t h
            refine iv_iast (f := s40.2.1) (j := ((3 * v15) + 2).toNat) (ws1 := wLXgmpwn a hs ag am ap aw an E s44) hx hb hK.1 hP hD hS 126 0 rfl rfl (by decide) g43 rfl (by rw [e45]; rfl) dL_comes_144 (fun H locs hP hD hS => ?_)
            refine lv_aload_n hx hb dL_comes_145 rfl (lv_at hl 4 rfl) ?_
            refine iv_iconst hx hb dL_comes_146 ?_
            refine lv_iload hx hb dL_comes_147 (lv_at hl 1 rfl) ?_
            refine iv_imul hx hb dL_comes_149 ?_
            refine lv_iload hx hb dL_comes_150 (lv_at hl 0 rfl) ?_
            refine iv_iconst hx hb dL_comes_152 ?_
            refine iv_ishr hx hb dL_comes_153 ?_
            refine iv_iconst hx hb dL_comes_154 ?_
            obtain ⟨u46, q47, h⟩ := bd_t h
            refine iv_callS (As := [.int (zi (srI v17 5)), .int (zi 4)]) (rest := [.int (zi (3 * v15)), .ref (am 0)]) ⟨hx, hb, hml, hown, hts⟩ (k_L_low l E H.size (srI v17 5) 4 u46 q47) (va_cwS 2 hts gL_comes_L_low rfl rfl rfl (by decide +kernel) ⟨Nat.le_of_ble_eq_true rfl, Nat.le_of_ble_eq_true rfl⟩) hK hP hS hA rfl hl.1 (Nat.le_of_ble_eq_true rfl) ⟨Nat.le_of_ble_eq_true rfl, Nat.le_of_ble_eq_true rfl⟩ dL_comes_155 (fun H locs hP hS => ?_)
            obtain ⟨g48, h⟩ := gd_t h
            obtain ⟨j51, e52, h⟩ := jn2_t h
            have hj51 : ∀ (v49 : Int) (s50 : bLXgmpwn) (H : Heap) (locs : List Loc) (ls : Array Slot), j51 v49 s50 = some u → va_P E.1 vwCl (wLXgmpwn a hs ag am ap aw an E s50) H → va_D A (wLXgmpwn a hs ag am ap aw an E s50) → va_S A s.heap H locs → lv_has ls 12 [(11, .int (zi v17)), (10, .int (zi v15)), (0, .ref (a 0)), (1, .ref (ag 0)), (2, .ref (am 0)), (3, .ref (ap 0)), (4, .ref (aw 0)), (5, .ref (an 0)), (6, .int (zi v7)), (7, .int (zi v8)), (8, .int (zi v9)), (9, .int (zi v10))] → W p l e ({ frames := 6, cells := 0, slots := 0, locals := 133 }) s m ([.ref (a 0), .ref (ag 0), .ref (am 0), .ref (ap 0), .ref (aw 0), .ref (an 0), .int (zi x6), .int (zi x7)] : List Value).toArray below meth c H locs 0 0 (MQ below (mQix E (fun h1 => wLXgmpwn a h1 ag am ap aw an E u.2) u.1 A) ([.ref (a 0), .ref (ag 0), .ref (am 0), .ref (ap 0), .ref (aw 0), .ref (an 0), .int (zi x6), .int (zi x7)] : List Value).toArray s 0 0 A) (F0 m 183 ls [.int (zi v49), .int (zi (3 * v15)), .ref (am 0)]) := by
              intro v49 s50 H locs ls h hP hD hS hl
              rw [e52] at h
              obtain ⟨s53, e54, h⟩ := nm_t h
              refine iv_iast (f := s50.2.2.1) (j := (3 * v15).toNat) (ws1 := wLXgmpwn a hs ag am ap aw an E s53) hx hb hK.1 hP hD hS 127 0 rfl rfl (by decide) g21 rfl (by rw [e54]; rfl) dL_comes_183 (fun H locs hP hD hS => ?_)
              refine lv_aload_n hx hb dL_comes_184 rfl (lv_at hl 4 rfl) ?_
              refine iv_iconst hx hb dL_comes_185 ?_
              refine lv_iload hx hb dL_comes_186 (lv_at hl 1 rfl) ?_
              refine iv_imul hx hb dL_comes_188 ?_
              refine iv_iconst hx hb dL_comes_189 ?_
              refine iv_iadd hx hb dL_comes_190 ?_
              refine lv_iload hx hb dL_comes_191 (lv_at hl 0 rfl) ?_
              refine iv_bipush hx hb dL_comes_193 (by decide +kernel) ?_
              refine iv_ishr hx hb dL_comes_195 ?_
              refine iv_bipush hx hb dL_comes_196 (by decide +kernel) ?_
              obtain ⟨u55, q56, h⟩ := bd_t h
              refine iv_callS (As := [.int (zi (srI v17 8)), .int (zi 10)]) (rest := [.int (zi ((3 * v15) + 1)), .ref (am 0)]) ⟨hx, hb, hml, hown, hts⟩ (k_L_low l E H.size (srI v17 8) 10 u55 q56) (va_cwS 2 hts gL_comes_L_low rfl rfl rfl (by decide +kernel) ⟨Nat.le_of_ble_eq_true rfl, Nat.le_of_ble_eq_true rfl⟩) hK hP hS hA rfl hl.1 (Nat.le_of_ble_eq_true rfl) ⟨Nat.le_of_ble_eq_true rfl, Nat.le_of_ble_eq_true rfl⟩ dL_comes_198 (fun H locs hP hS => ?_)
              obtain ⟨s57, e58, h⟩ := nm_t h
              refine iv_iast (f := s53.2.2.1) (j := ((3 * v15) + 1).toNat) (ws1 := wLXgmpwn a hs ag am ap aw an E s57) hx hb hK.1 hP hD hS 127 0 rfl rfl (by decide) g33 rfl (by rw [e58]; rfl) dL_comes_201 (fun H locs hP hD hS => ?_)
              refine lv_aload_n hx hb dL_comes_202 rfl (lv_at hl 4 rfl) ?_
              refine iv_iconst hx hb dL_comes_203 ?_
              refine lv_iload hx hb dL_comes_204 (lv_at hl 1 rfl) ?_
              refine iv_imul hx hb dL_comes_206 ?_
              refine iv_iconst hx hb dL_comes_207 ?_
              refine iv_iadd hx hb dL_comes_208 ?_
              refine iv_iconst hx hb dL_comes_209 ?_
              obtain ⟨s59, e60, h⟩ := nm_t h
              refine iv_iast (f := s57.2.2.1) (j := ((3 * v15) + 2).toNat) (ws1 := wLXgmpwn a hs ag am ap aw an E s59) hx hb hK.1 hP hD hS 127 0 rfl rfl (by decide) g43 rfl (by rw [e60]; rfl) dL_comes_210 (fun H locs hP hD hS => ?_)
              refine lv_aload_n hx hb dL_comes_211 rfl (lv_at hl 5 rfl) ?_
              refine iv_iconst hx hb dL_comes_212 ?_
              refine lv_iload hx hb dL_comes_213 (lv_at hl 1 rfl) ?_
              refine iv_imul hx hb dL_comes_215 ?_
              refine iv_iconst hx hb dL_comes_216 ?_
              obtain ⟨s61, e62, h⟩ := nm_t h
              refine iv_iast (f := s59.2.2.2.1) (j := (3 * v15).toNat) (ws1 := wLXgmpwn a hs ag am ap aw an E s61) hx hb hK.1 hP hD hS 128 0 rfl rfl (by decide) g21 rfl (by rw [e62]; rfl) dL_comes_217 (fun H locs hP hD hS => ?_)
              refine lv_aload_n hx hb dL_comes_218 rfl (lv_at hl 5 rfl) ?_
              refine iv_iconst hx hb dL_comes_219 ?_
              refine lv_iload hx hb dL_comes_220 (lv_at hl 1 rfl) ?_
              refine iv_imul hx hb dL_comes_222 ?_
              refine iv_iconst hx hb dL_comes_223 ?_
              refine iv_iadd hx hb dL_comes_224 ?_
              refine iv_bipush hx hb dL_comes_225 (by decide +kernel) ?_
              obtain ⟨s63, e64, h⟩ := nm_t h
              refine iv_iast (f := s61.2.2.2.1) (j := ((3 * v15) + 1).toNat) (ws1 := wLXgmpwn a hs ag am ap aw an E s63) hx hb hK.1 hP hD hS 128 0 rfl rfl (by decide) g33 rfl (by rw [e64]; rfl) dL_comes_227 (fun H locs hP hD hS => ?_)
              refine lv_aload_n hx hb dL_comes_228 rfl (lv_at hl 5 rfl) ?_
              refine iv_iconst hx hb dL_comes_229 ?_
              refine lv_iload hx hb dL_comes_230 (lv_at hl 1 rfl) ?_
              refine iv_imul hx hb dL_comes_232 ?_
              refine iv_iconst hx hb dL_comes_233 ?_
              refine iv_iadd hx hb dL_comes_234 ?_
              refine iv_bipush hx hb dL_comes_235 (by decide +kernel) ?_
              obtain ⟨s65, e66, h⟩ := nm_t h
              refine iv_iast (f := s63.2.2.2.1) (j := ((3 * v15) + 2).toNat) (ws1 := wLXgmpwn a hs ag am ap aw an E s65) hx hb hK.1 hP hD hS 128 0 rfl rfl (by decide) g43 rfl (by rw [e66]; rfl) dL_comes_237 (fun H locs hP hD hS => ?_)
              refine lv_aload hx hb dL_comes_238 (lv_at hl 6 rfl) ?_
              refine lv_aload hx hb dL_comes_240 (lv_at hl 7 rfl) ?_
              refine iv_bipush hx hb dL_comes_242 (by decide +kernel) ?_
              refine iv_iald (f := s65.2.2.2.2.2) (j := 14) hx hb hK.1 hP 130 0 rfl rfl (by decide) (by decide +kernel) rfl dL_comes_244 ?_
              refine lv_iload hx hb dL_comes_245 (lv_at hl 1 rfl) ?_
              obtain ⟨g67, h⟩ := gd_t h
              obtain ⟨s68, e69, h⟩ := nm_t h
              refine iv_iast (f := s65.2.2.2.2.1) (j := (s65.2.2.2.2.2 14).toNat) (ws1 := wLXgmpwn a hs ag am ap aw an E s68) hx hb hK.1 hP hD hS 129 0 rfl rfl (by decide) g67 rfl (by rw [e69]; rfl) dL_comes_247 (fun H locs hP hD hS => ?_)
              refine lv_aload hx hb dL_comes_248 (lv_at hl 7 rfl) ?_
              refine iv_bipush hx hb dL_comes_250 (by decide +kernel) ?_
              refine lv_dup2_11 hx hb dL_comes_252 rfl rfl ?_
              refine iv_iald (f := s68.2.2.2.2.2) (j := 13) hx hb hK.1 hP 130 0 rfl rfl (by decide) (by decide +kernel) rfl dL_comes_253 ?_
              refine iv_iconst hx hb dL_comes_254 ?_
              refine iv_iadd hx hb dL_comes_255 ?_
              obtain ⟨s70, e71, h⟩ := nm_t h
              refine iv_iast (f := s68.2.2.2.2.2) (j := 13) (ws1 := wLXgmpwn a hs ag am ap aw an E s70) hx hb hK.1 hP hD hS 130 0 rfl rfl (by decide) (by decide +kernel) rfl (by rw [e71]; rfl) dL_comes_256 (fun H locs hP hD hS => ?_)
              refine lv_aload hx hb dL_comes_257 (lv_at hl 7 rfl) ?_
              refine iv_bipush hx hb dL_comes_259 (by decide +kernel) ?_
              refine lv_dup2_11 hx hb dL_comes_261 rfl rfl ?_
              refine iv_iald (f := s70.2.2.2.2.2) (j := 14) hx hb hK.1 hP 130 0 rfl rfl (by decide) (by decide +kernel) rfl dL_comes_262 ?_
              refine iv_iconst hx hb dL_comes_263 ?_
              refine iv_iadd hx hb dL_comes_264 ?_
              obtain ⟨s72, e73, h⟩ := nm_t h
              refine iv_iast (f := s70.2.2.2.2.2) (j := 14) (ws1 := wLXgmpwn a hs ag am ap aw an E s72) hx hb hK.1 hP hD hS 130 0 rfl rfl (by decide) (by decide +kernel) rfl (by rw [e73]; rfl) dL_comes_265 (fun H locs hP hD hS => ?_)
              refine lv_iload hx hb dL_comes_266 (lv_at hl 11 rfl) ?_
              obtain ⟨j76, e77, h⟩ := jn2_t h
              have hj76 : ∀ (v74 : Int) (s75 : bLXgmpwn) (H : Heap) (locs : List Loc) (ls : Array Slot), j76 v74 s75 = some u → va_P E.1 vwCl (wLXgmpwn a hs ag am ap aw an E s75) H → va_D A (wLXgmpwn a hs ag am ap aw an E s75) → va_S A s.heap H locs → lv_has ls 12 [(11, .int (zi v17)), (10, .int (zi v15)), (0, .ref (a 0)), (1, .ref (ag 0)), (2, .ref (am 0)), (3, .ref (ap 0)), (4, .ref (aw 0)), (5, .ref (an 0)), (6, .int (zi v7)), (7, .int (zi v8)), (8, .int (zi v9)), (9, .int (zi v10))] → W p l e ({ frames := 6, cells := 0, slots := 0, locals := 133 }) s m ([.ref (a 0), .ref (ag 0), .ref (am 0), .ref (ap 0), .ref (aw 0), .ref (an 0), .int (zi x6), .int (zi x7)] : List Value).toArray below meth c H locs 0 0 (MQ below (mQix E (fun h1 => wLXgmpwn a h1 ag am ap aw an E u.2) u.1 A) ([.ref (a 0), .ref (ag 0), .ref (am 0), .ref (ap 0), .ref (aw 0), .ref (an 0), .int (zi x6), .int (zi x7)] : List Value).toArray s 0 0 A) (F0 m 282 ls [.int (zi v74)]) := by
                intro v74 s75 H locs ls h hP hD hS hl
                rw [e77] at h
                refine lv_istore (lv' := [(8, .int (zi v74)), (11, .int (zi v17)), (10, .int (zi v15)), (0, .ref (a 0)), (1, .ref (ag 0)), (2, .ref (am 0)), (3, .ref (ap 0)), (4, .ref (aw 0)), (5, .ref (an 0)), (6, .int (zi v7)), (7, .int (zi v8)), (9, .int (zi v10))]) hx hb dL_comes_282 hl (by decide) rfl (fun ls hl => ?_)
                refine lv_aload_n hx hb dL_comes_284 rfl (lv_at hl 3 rfl) ?_
                refine iv_bipush hx hb dL_comes_285 (by decide +kernel) ?_
                refine lv_aload_n hx hb dL_comes_287 rfl (lv_at hl 4 rfl) ?_
                refine iv_iconst hx hb dL_comes_288 ?_
                refine lv_iload hx hb dL_comes_289 (lv_at hl 2 rfl) ?_
                refine iv_imul hx hb dL_comes_291 ?_
                refine iv_iald (f := s75.2.1) (j := (3 * v15).toNat) hx hb hK.1 hP 126 0 rfl rfl (by decide) g21 rfl dL_comes_292 ?_
                refine iv_iadd hx hb dL_comes_293 ?_
                refine iv_i2c hx hb dL_comes_294 ?_
                obtain ⟨u78, q79, h⟩ := bd_t h
                obtain ⟨s80, e81, h⟩ := nm_t h
                refine iv_callIp (As := [.int (zi (chI (48 + (s75.2.1 ((3 * v15).toNat)))))]) (rest := []) (ws1 := wLXgmpwn a hs ag am ap aw an E s80) ⟨hx, hb, hml, hown, hts⟩ (k_X7_type l E a hs H.size (chI (48 + (s75.2.1 ((3 * v15).toNat)))) s75.1 u78 q79) (cwV 1 hts gL_comes_X7_type rfl rfl rfl (by decide +kernel) ⟨Nat.le_of_ble_eq_true rfl, Nat.le_of_ble_eq_true rfl⟩) hK hP hD hS hA 0 7 rfl rfl (pm_last) (by rw [e81]; exact pm_last) rfl hl.1 (Nat.le_of_ble_eq_true rfl) ⟨Nat.le_of_ble_eq_true rfl, Nat.le_of_ble_eq_true rfl⟩ dL_comes_295 (fun H locs hP hD hS => ?_)
                refine lv_istore (lv' := [(8, .int (zi u78.1)), (11, .int (zi v17)), (10, .int (zi v15)), (0, .ref (a 0)), (1, .ref (ag 0)), (2, .ref (am 0)), (3, .ref (ap 0)), (4, .ref (aw 0)), (5, .ref (an 0)), (6, .int (zi v7)), (7, .int (zi v8)), (9, .int (zi v10))]) hx hb dL_comes_298 hl (by decide) rfl (fun ls hl => ?_)
                refine lv_aload_n hx hb dL_comes_300 rfl (lv_at hl 3 rfl) ?_
                refine iv_bipush hx hb dL_comes_301 (by decide +kernel) ?_
                obtain ⟨u82, q83, h⟩ := bd_t h
                obtain ⟨s84, e85, h⟩ := nm_t h
                refine iv_callIp (As := [.int (zi 104)]) (rest := []) (ws1 := wLXgmpwn a hs ag am ap aw an E s84) ⟨hx, hb, hml, hown, hts⟩ (k_X7_type l E a hs H.size 104 s80.1 u82 q83) (cwV 1 hts gL_comes_X7_type rfl rfl rfl (by decide +kernel) ⟨Nat.le_of_ble_eq_true rfl, Nat.le_of_ble_eq_true rfl⟩) hK hP hD hS hA 0 7 rfl rfl (pm_last) (by rw [e85]; exact pm_last) rfl hl.1 (Nat.le_of_ble_eq_true rfl) ⟨Nat.le_of_ble_eq_true rfl, Nat.le_of_ble_eq_true rfl⟩ dL_comes_303 (fun H locs hP hD hS => ?_)
                refine lv_istore (lv' := [(8, .int (zi u82.1)), (11, .int (zi v17)), (10, .int (zi v15)), (0, .ref (a 0)), (1, .ref (ag 0)), (2, .ref (am 0)), (3, .ref (ap 0)), (4, .ref (aw 0)), (5, .ref (an 0)), (6, .int (zi v7)), (7, .int (zi v8)), (9, .int (zi v10))]) hx hb dL_comes_306 hl (by decide) rfl (fun ls hl => ?_)
                refine lv_aload_n hx hb dL_comes_308 rfl (lv_at hl 4 rfl) ?_
                refine iv_iconst hx hb dL_comes_309 ?_
                refine lv_iload hx hb dL_comes_310 (lv_at hl 2 rfl) ?_
                refine iv_imul hx hb dL_comes_312 ?_
                refine iv_iconst hx hb dL_comes_313 ?_
                refine iv_iadd hx hb dL_comes_314 ?_
                refine iv_iald (f := s84.2.1) (j := ((3 * v15) + 1).toNat) hx hb hK.1 hP 126 0 rfl rfl (by decide) g33 rfl dL_comes_315 ?_
                refine iv_bipush hx hb dL_comes_316 (by decide +kernel) ?_
                obtain ⟨g86, h⟩ := gd_t h
                obtain ⟨j89, e90, h⟩ := jn2_t h
                have hj89 : ∀ (v87 : Int) (s88 : bLXgmpwn) (H : Heap) (locs : List Loc) (ls : Array Slot), j89 v87 s88 = some u → va_P E.1 vwCl (wLXgmpwn a hs ag am ap aw an E s88) H → va_D A (wLXgmpwn a hs ag am ap aw an E s88) → va_S A s.heap H locs → lv_has ls 12 [(8, .int (zi u82.1)), (11, .int (zi v17)), (10, .int (zi v15)), (0, .ref (a 0)), (1, .ref (ag 0)), (2, .ref (am 0)), (3, .ref (ap 0)), (4, .ref (aw 0)), (5, .ref (an 0)), (6, .int (zi v7)), (7, .int (zi v8)), (9, .int (zi v10))] → W p l e ({ frames := 6, cells := 0, slots := 0, locals := 133 }) s m ([.ref (a 0), .ref (ag 0), .ref (am 0), .ref (ap 0), .ref (aw 0), .ref (an 0), .int (zi x6), .int (zi x7)] : List Value).toArray below meth c H locs 0 0 (MQ below (mQix E (fun h1 => wLXgmpwn a h1 ag am ap aw an E u.2) u.1 A) ([.ref (a 0), .ref (ag 0), .ref (am 0), .ref (ap 0), .ref (aw 0), .ref (an 0), .int (zi x6), .int (zi x7)] : List Value).toArray s 0 0 A) (F0 m 345 ls [.int (zi v87)]) := by
                  intro v87 s88 H locs ls h hP hD hS hl
                  rw [e90] at h
                  refine lv_istore (lv' := [(8, .int (zi v87)), (11, .int (zi v17)), (10, .int (zi v15)), (0, .ref (a 0)), (1, .ref (ag 0)), (2, .ref (am 0)), (3, .ref (ap 0)), (4, .ref (aw 0)), (5, .ref (an 0)), (6, .int (zi v7)), (7, .int (zi v8)), (9, .int (zi v10))]) hx hb dL_comes_345 hl (by decide) rfl (fun ls hl => ?_)
                  refine lv_aload_n hx hb dL_comes_347 rfl (lv_at hl 3 rfl) ?_
                  refine iv_bipush hx hb dL_comes_348 (by decide +kernel) ?_
                  refine lv_aload_n hx hb dL_comes_350 rfl (lv_at hl 4 rfl) ?_
                  refine iv_iconst hx hb dL_comes_351 ?_
                  refine lv_iload hx hb dL_comes_352 (lv_at hl 2 rfl) ?_
                  refine iv_imul hx hb dL_comes_354 ?_
                  refine iv_iconst hx hb dL_comes_355 ?_
                  refine iv_iadd hx hb dL_comes_356 ?_
                  refine iv_iald (f := s88.2.1) (j := ((3 * v15) + 1).toNat) hx hb hK.1 hP 126 0 rfl rfl (by decide) g33 rfl dL_comes_357 ?_
                  refine iv_bipush hx hb dL_comes_358 (by decide +kernel) ?_
                  refine iv_irem hx hb (by decide +kernel) dL_comes_360 ?_
                  refine iv_iadd hx hb dL_comes_361 ?_
                  refine iv_i2c hx hb dL_comes_362 ?_
                  obtain ⟨u91, q92, h⟩ := bd_t h
                  obtain ⟨s93, e94, h⟩ := nm_t h
                  refine iv_callIp (As := [.int (zi (chI (48 + (rmI (s88.2.1 (((3 * v15) + 1).toNat)) 10))))]) (rest := []) (ws1 := wLXgmpwn a hs ag am ap aw an E s93) ⟨hx, hb, hml, hown, hts⟩ (k_X7_type l E a hs H.size (chI (48 + (rmI (s88.2.1 (((3 * v15) + 1).toNat)) 10))) s88.1 u91 q92) (cwV 1 hts gL_comes_X7_type rfl rfl rfl (by decide +kernel) ⟨Nat.le_of_ble_eq_true rfl, Nat.le_of_ble_eq_true rfl⟩) hK hP hD hS hA 0 7 rfl rfl (pm_last) (by rw [e94]; exact pm_last) rfl hl.1 (Nat.le_of_ble_eq_true rfl) ⟨Nat.le_of_ble_eq_true rfl, Nat.le_of_ble_eq_true rfl⟩ dL_comes_363 (fun H locs hP hD hS => ?_)
                  refine lv_istore (lv' := [(8, .int (zi u91.1)), (11, .int (zi v17)), (10, .int (zi v15)), (0, .ref (a 0)), (1, .ref (ag 0)), (2, .ref (am 0)), (3, .ref (ap 0)), (4, .ref (aw 0)), (5, .ref (an 0)), (6, .int (zi v7)), (7, .int (zi v8)), (9, .int (zi v10))]) hx hb dL_comes_366 hl (by decide) rfl (fun ls hl => ?_)
                  refine lv_aload_n hx hb dL_comes_368 rfl (lv_at hl 3 rfl) ?_
                  refine iv_bipush hx hb dL_comes_369 (by decide +kernel) ?_
                  refine lv_aload_n hx hb dL_comes_371 rfl (lv_at hl 4 rfl) ?_
                  refine iv_iconst hx hb dL_comes_372 ?_
                  refine lv_iload hx hb dL_comes_373 (lv_at hl 2 rfl) ?_
                  refine iv_imul hx hb dL_comes_375 ?_
                  refine iv_iconst hx hb dL_comes_376 ?_
                  refine iv_iadd hx hb dL_comes_377 ?_
                  refine iv_iald (f := s93.2.1) (j := ((3 * v15) + 2).toNat) hx hb hK.1 hP 126 0 rfl rfl (by decide) g43 rfl dL_comes_378 ?_
                  refine lv_iload hx hb dL_comes_379 (lv_at hl 1 rfl) ?_
                  refine iv_iconst hx hb dL_comes_381 ?_
                  obtain ⟨u95, q96, h⟩ := bd_t h
                  refine iv_callS (As := [.int (zi v17), .int (zi 2)]) (rest := [.int (zi (s93.2.1 (((3 * v15) + 2).toNat))), .int (zi 105), .ref (a 0)]) ⟨hx, hb, hml, hown, hts⟩ (k_L_low l E H.size v17 2 u95 q96) (va_cwS 2 hts gL_comes_L_low rfl rfl rfl (by decide +kernel) ⟨Nat.le_of_ble_eq_true rfl, Nat.le_of_ble_eq_true rfl⟩) hK hP hS hA rfl hl.1 (Nat.le_of_ble_eq_true rfl) ⟨Nat.le_of_ble_eq_true rfl, Nat.le_of_ble_eq_true rfl⟩ dL_comes_382 (fun H locs hP hS => ?_)
                  obtain ⟨g97, h⟩ := gd_t h
                  obtain ⟨j100, e101, h⟩ := jn2_t h
                  have hj100 : ∀ (v98 : Int) (s99 : bLXgmpwn) (H : Heap) (locs : List Loc) (ls : Array Slot), j100 v98 s99 = some u → va_P E.1 vwCl (wLXgmpwn a hs ag am ap aw an E s99) H → va_D A (wLXgmpwn a hs ag am ap aw an E s99) → va_S A s.heap H locs → lv_has ls 12 [(8, .int (zi u91.1)), (11, .int (zi v17)), (10, .int (zi v15)), (0, .ref (a 0)), (1, .ref (ag 0)), (2, .ref (am 0)), (3, .ref (ap 0)), (4, .ref (aw 0)), (5, .ref (an 0)), (6, .int (zi v7)), (7, .int (zi v8)), (9, .int (zi v10))] → W p l e ({ frames := 6, cells := 0, slots := 0, locals := 133 }) s m ([.ref (a 0), .ref (ag 0), .ref (am 0), .ref (ap 0), .ref (aw 0), .ref (an 0), .int (zi x6), .int (zi x7)] : List Value).toArray below meth c H locs 0 0 (MQ below (mQix E (fun h1 => wLXgmpwn a h1 ag am ap aw an E u.2) u.1 A) ([.ref (a 0), .ref (ag 0), .ref (am 0), .ref (ap 0), .ref (aw 0), .ref (an 0), .int (zi x6), .int (zi x7)] : List Value).toArray s 0 0 A) (F0 m 393 ls [.int (zi v98), .int (zi (s93.2.1 (((3 * v15) + 2).toNat))), .int (zi 105), .ref (a 0)]) := by
                    intro v98 s99 H locs ls h hP hD hS hl
                    rw [e101] at h
                    obtain ⟨u102, q103, h⟩ := bd_t h
                    obtain ⟨s104, e105, h⟩ := nm_t h
                    refine iv_callWI (As := [.ref (a 0), .int (zi 105), .int (zi (s93.2.1 (((3 * v15) + 2).toNat))), .int (zi v98)]) (rest := []) (ws1 := wLXgmpwn a hs ag am ap aw an E s104) ⟨hx, hb, hml, hown, hts⟩ (k_L_typesDigit l E a hs H.size 105 (s93.2.1 (((3 * v15) + 2).toNat)) v98 s99.1 u102 q103) (va_cwS 4 hts gL_comes_L_typesDigit rfl rfl rfl (by decide +kernel) ⟨Nat.le_of_ble_eq_true rfl, Nat.le_of_ble_eq_true rfl⟩) hK hP hD hS hA (pm_last) (by rw [e105]; exact pm_last) rfl hl.1 (Nat.le_of_ble_eq_true rfl) ⟨Nat.le_of_ble_eq_true rfl, Nat.le_of_ble_eq_true rfl⟩ dL_comes_393 (fun H locs hP hD hS => ?_)
                    refine lv_istore (lv' := [(8, .int (zi u102.1)), (11, .int (zi v17)), (10, .int (zi v15)), (0, .ref (a 0)), (1, .ref (ag 0)), (2, .ref (am 0)), (3, .ref (ap 0)), (4, .ref (aw 0)), (5, .ref (an 0)), (6, .int (zi v7)), (7, .int (zi v8)), (9, .int (zi v10))]) hx hb dL_comes_396 hl (by decide) rfl (fun ls hl => ?_)
                    refine lv_aload_n hx hb dL_comes_398 rfl (lv_at hl 3 rfl) ?_
                    refine iv_bipush hx hb dL_comes_399 (by decide +kernel) ?_
                    refine lv_aload_n hx hb dL_comes_401 rfl (lv_at hl 5 rfl) ?_
                    refine iv_iconst hx hb dL_comes_402 ?_
                    refine lv_iload hx hb dL_comes_403 (lv_at hl 2 rfl) ?_
                    refine iv_imul hx hb dL_comes_405 ?_
                    refine iv_iald (f := s104.2.2.1) (j := (3 * v15).toNat) hx hb hK.1 hP 127 0 rfl rfl (by decide) g21 rfl dL_comes_406 ?_
                    refine lv_iload hx hb dL_comes_407 (lv_at hl 1 rfl) ?_
                    refine iv_iconst hx hb dL_comes_409 ?_
                    obtain ⟨u106, q107, h⟩ := bd_t h
                    refine iv_callS (As := [.int (zi v17), .int (zi 3)]) (rest := [.int (zi (s104.2.2.1 ((3 * v15).toNat))), .int (zi 99), .ref (a 0)]) ⟨hx, hb, hml, hown, hts⟩ (k_L_low l E H.size v17 3 u106 q107) (va_cwS 2 hts gL_comes_L_low rfl rfl rfl (by decide +kernel) ⟨Nat.le_of_ble_eq_true rfl, Nat.le_of_ble_eq_true rfl⟩) hK hP hS hA rfl hl.1 (Nat.le_of_ble_eq_true rfl) ⟨Nat.le_of_ble_eq_true rfl, Nat.le_of_ble_eq_true rfl⟩ dL_comes_410 (fun H locs hP hS => ?_)
                    obtain ⟨g108, h⟩ := gd_t h
                    obtain ⟨j111, e112, h⟩ := jn2_t h
                    have hj111 : ∀ (v109 : Int) (s110 : bLXgmpwn) (H : Heap) (locs : List Loc) (ls : Array Slot), j111 v109 s110 = some u → va_P E.1 vwCl (wLXgmpwn a hs ag am ap aw an E s110) H → va_D A (wLXgmpwn a hs ag am ap aw an E s110) → va_S A s.heap H locs → lv_has ls 12 [(8, .int (zi u102.1)), (11, .int (zi v17)), (10, .int (zi v15)), (0, .ref (a 0)), (1, .ref (ag 0)), (2, .ref (am 0)), (3, .ref (ap 0)), (4, .ref (aw 0)), (5, .ref (an 0)), (6, .int (zi v7)), (7, .int (zi v8)), (9, .int (zi v10))] → W p l e ({ frames := 6, cells := 0, slots := 0, locals := 133 }) s m ([.ref (a 0), .ref (ag 0), .ref (am 0), .ref (ap 0), .ref (aw 0), .ref (an 0), .int (zi x6), .int (zi x7)] : List Value).toArray below meth c H locs 0 0 (MQ below (mQix E (fun h1 => wLXgmpwn a h1 ag am ap aw an E u.2) u.1 A) ([.ref (a 0), .ref (ag 0), .ref (am 0), .ref (ap 0), .ref (aw 0), .ref (an 0), .int (zi x6), .int (zi x7)] : List Value).toArray s 0 0 A) (F0 m 421 ls [.int (zi v109), .int (zi (s104.2.2.1 ((3 * v15).toNat))), .int (zi 99), .ref (a 0)]) := by
                      intro v109 s110 H locs ls h hP hD hS hl
                      rw [e112] at h
                      obtain ⟨u113, q114, h⟩ := bd_t h
                      obtain ⟨s115, e116, h⟩ := nm_t h
                      refine iv_callWI (As := [.ref (a 0), .int (zi 99), .int (zi (s104.2.2.1 ((3 * v15).toNat))), .int (zi v109)]) (rest := []) (ws1 := wLXgmpwn a hs ag am ap aw an E s115) ⟨hx, hb, hml, hown, hts⟩ (k_L_typesDigit l E a hs H.size 99 (s104.2.2.1 ((3 * v15).toNat)) v109 s110.1 u113 q114) (va_cwS 4 hts gL_comes_L_typesDigit rfl rfl rfl (by decide +kernel) ⟨Nat.le_of_ble_eq_true rfl, Nat.le_of_ble_eq_true rfl⟩) hK hP hD hS hA (pm_last) (by rw [e116]; exact pm_last) rfl hl.1 (Nat.le_of_ble_eq_true rfl) ⟨Nat.le_of_ble_eq_true rfl, Nat.le_of_ble_eq_true rfl⟩ dL_comes_421 (fun H locs hP hD hS => ?_)
                      refine lv_istore (lv' := [(8, .int (zi u113.1)), (11, .int (zi v17)), (10, .int (zi v15)), (0, .ref (a 0)), (1, .ref (ag 0)), (2, .ref (am 0)), (3, .ref (ap 0)), (4, .ref (aw 0)), (5, .ref (an 0)), (6, .int (zi v7)), (7, .int (zi v8)), (9, .int (zi v10))]) hx hb dL_comes_424 hl (by decide) rfl (fun ls hl => ?_)
                      refine lv_aload_n hx hb dL_comes_426 rfl (lv_at hl 3 rfl) ?_
                      refine iv_bipush hx hb dL_comes_427 (by decide +kernel) ?_
                      refine lv_aload_n hx hb dL_comes_429 rfl (lv_at hl 5 rfl) ?_
                      refine iv_iconst hx hb dL_comes_430 ?_
                      refine lv_iload hx hb dL_comes_431 (lv_at hl 2 rfl) ?_
                      refine iv_imul hx hb dL_comes_433 ?_
                      refine iv_iconst hx hb dL_comes_434 ?_
                      refine iv_iadd hx hb dL_comes_435 ?_
                      refine iv_iald (f := s115.2.2.1) (j := ((3 * v15) + 1).toNat) hx hb hK.1 hP 127 0 rfl rfl (by decide) g33 rfl dL_comes_436 ?_
                      refine lv_iload hx hb dL_comes_437 (lv_at hl 1 rfl) ?_
                      refine iv_iconst hx hb dL_comes_439 ?_
                      obtain ⟨u117, q118, h⟩ := bd_t h
                      refine iv_callS (As := [.int (zi v17), .int (zi 5)]) (rest := [.int (zi (s115.2.2.1 (((3 * v15) + 1).toNat))), .int (zi 115), .ref (a 0)]) ⟨hx, hb, hml, hown, hts⟩ (k_L_low l E H.size v17 5 u117 q118) (va_cwS 2 hts gL_comes_L_low rfl rfl rfl (by decide +kernel) ⟨Nat.le_of_ble_eq_true rfl, Nat.le_of_ble_eq_true rfl⟩) hK hP hS hA rfl hl.1 (Nat.le_of_ble_eq_true rfl) ⟨Nat.le_of_ble_eq_true rfl, Nat.le_of_ble_eq_true rfl⟩ dL_comes_440 (fun H locs hP hS => ?_)
                      obtain ⟨g119, h⟩ := gd_t h
                      obtain ⟨j122, e123, h⟩ := jn2_t h
                      have hj122 : ∀ (v120 : Int) (s121 : bLXgmpwn) (H : Heap) (locs : List Loc) (ls : Array Slot), j122 v120 s121 = some u → va_P E.1 vwCl (wLXgmpwn a hs ag am ap aw an E s121) H → va_D A (wLXgmpwn a hs ag am ap aw an E s121) → va_S A s.heap H locs → lv_has ls 12 [(8, .int (zi u113.1)), (11, .int (zi v17)), (10, .int (zi v15)), (0, .ref (a 0)), (1, .ref (ag 0)), (2, .ref (am 0)), (3, .ref (ap 0)), (4, .ref (aw 0)), (5, .ref (an 0)), (6, .int (zi v7)), (7, .int (zi v8)), (9, .int (zi v10))] → W p l e ({ frames := 6, cells := 0, slots := 0, locals := 133 }) s m ([.ref (a 0), .ref (ag 0), .ref (am 0), .ref (ap 0), .ref (aw 0), .ref (an 0), .int (zi x6), .int (zi x7)] : List Value).toArray below meth c H locs 0 0 (MQ below (mQix E (fun h1 => wLXgmpwn a h1 ag am ap aw an E u.2) u.1 A) ([.ref (a 0), .ref (ag 0), .ref (am 0), .ref (ap 0), .ref (aw 0), .ref (an 0), .int (zi x6), .int (zi x7)] : List Value).toArray s 0 0 A) (F0 m 451 ls [.int (zi v120), .int (zi (s115.2.2.1 (((3 * v15) + 1).toNat))), .int (zi 115), .ref (a 0)]) := by
                        intro v120 s121 H locs ls h hP hD hS hl
                        rw [e123] at h
                        obtain ⟨u124, q125, h⟩ := bd_t h
                        obtain ⟨s126, e127, h⟩ := nm_t h
                        refine iv_callWI (As := [.ref (a 0), .int (zi 115), .int (zi (s115.2.2.1 (((3 * v15) + 1).toNat))), .int (zi v120)]) (rest := []) (ws1 := wLXgmpwn a hs ag am ap aw an E s126) ⟨hx, hb, hml, hown, hts⟩ (k_L_typesDigit l E a hs H.size 115 (s115.2.2.1 (((3 * v15) + 1).toNat)) v120 s121.1 u124 q125) (va_cwS 4 hts gL_comes_L_typesDigit rfl rfl rfl (by decide +kernel) ⟨Nat.le_of_ble_eq_true rfl, Nat.le_of_ble_eq_true rfl⟩) hK hP hD hS hA (pm_last) (by rw [e127]; exact pm_last) rfl hl.1 (Nat.le_of_ble_eq_true rfl) ⟨Nat.le_of_ble_eq_true rfl, Nat.le_of_ble_eq_true rfl⟩ dL_comes_451 (fun H locs hP hD hS => ?_)
                        refine lv_istore (lv' := [(8, .int (zi u124.1)), (11, .int (zi v17)), (10, .int (zi v15)), (0, .ref (a 0)), (1, .ref (ag 0)), (2, .ref (am 0)), (3, .ref (ap 0)), (4, .ref (aw 0)), (5, .ref (an 0)), (6, .int (zi v7)), (7, .int (zi v8)), (9, .int (zi v10))]) hx hb dL_comes_454 hl (by decide) rfl (fun ls hl => ?_)
                        refine lv_iinc (v := zi (v10 + 1)) (lv' := [(9, .int (zi (v10 + 1))), (8, .int (zi u124.1)), (11, .int (zi v17)), (10, .int (zi v15)), (0, .ref (a 0)), (1, .ref (ag 0)), (2, .ref (am 0)), (3, .ref (ap 0)), (4, .ref (aw 0)), (5, .ref (an 0)), (6, .int (zi v7)), (7, .int (zi v8))]) hx hb dL_comes_456 hl (k := 11) rfl (by rw [zi_add]; rfl) (by decide) rfl (fun ls hl => ?_)
                        refine lv_goto (tgt := 37) hx hb dL_comes_459 (by decide) ?_
                        exact ih v7 v8 u124.1 (v10 + 1) s126 _ _ _ h hP hD hS (lv_sub hl [4, 5, 6, 7, 8, 9, 10, 11, 1, 0] rfl)
                      refine iv_ne (tgt := 450) hx hb g119 dL_comes_443 (by decide) (fun c128 => ?_) (fun c128 => ?_)
                      · have h := it_f c128 h
                        refine iv_iconst hx hb dL_comes_450 ?_
                        exact hj122 0 s115 _ _ _ h hP hD hS (lv_sub hl [0, 1, 2, 3, 4, 5, 6, 7, 8, 9, 10, 11] rfl)
                      · have h := it_t c128 h
                        refine iv_iconst hx hb dL_comes_446 ?_
                        refine lv_goto (tgt := 451) hx hb dL_comes_447 (by decide) ?_
                        exact hj122 1 s115 _ _ _ h hP hD hS (lv_sub hl [0, 1, 2, 3, 4, 5, 6, 7, 8, 9, 10, 11] rfl)
                    refine iv_ne (tgt := 420) hx hb g108 dL_comes_413 (by decide) (fun c129 => ?_) (fun c129 => ?_)
                    · have h := it_f c129 h
                      refine iv_iconst hx hb dL_comes_420 ?_
                      exact hj111 0 s104 _ _ _ h hP hD hS (lv_sub hl [0, 1, 2, 3, 4, 5, 6, 7, 8, 9, 10, 11] rfl)
                    · have h := it_t c129 h
                      refine iv_iconst hx hb dL_comes_416 ?_
                      refine lv_goto (tgt := 421) hx hb dL_comes_417 (by decide) ?_
                      exact hj111 1 s104 _ _ _ h hP hD hS (lv_sub hl [0, 1, 2, 3, 4, 5, 6, 7, 8, 9, 10, 11] rfl)
                  refine iv_ne (tgt := 392) hx hb g97 dL_comes_385 (by decide) (fun c130 => ?_) (fun c130 => ?_)
                  · have h := it_f c130 h
                    refine iv_iconst hx hb dL_comes_392 ?_
                    exact hj100 0 s93 _ _ _ h hP hD hS (lv_sub hl [0, 1, 2, 3, 4, 5, 6, 7, 8, 9, 10, 11] rfl)
                  · have h := it_t c130 h
                    refine iv_iconst hx hb dL_comes_388 ?_
                    refine lv_goto (tgt := 393) hx hb dL_comes_389 (by decide) ?_
                    exact hj100 1 s93 _ _ _ h hP hD hS (lv_sub hl [0, 1, 2, 3, 4, 5, 6, 7, 8, 9, 10, 11] rfl)
                refine iv_ile (tgt := 343) hx hb g86 (by decide +kernel) dL_comes_318 (by decide) (fun c131 => ?_) (fun c131 => ?_)
                · have h := it_t c131 h
                  refine lv_iload hx hb dL_comes_343 (lv_at hl 0 rfl) ?_
                  exact hj89 u82.1 s84 _ _ _ h hP hD hS (lv_sub hl [0, 1, 2, 3, 4, 5, 6, 7, 8, 9, 10, 11] rfl)
                · have h := it_f c131 h
                  refine lv_aload_n hx hb dL_comes_321 rfl (lv_at hl 3 rfl) ?_
                  refine iv_bipush hx hb dL_comes_322 (by decide +kernel) ?_
                  refine lv_aload_n hx hb dL_comes_324 rfl (lv_at hl 4 rfl) ?_
                  refine iv_iconst hx hb dL_comes_325 ?_
                  refine lv_iload hx hb dL_comes_326 (lv_at hl 2 rfl) ?_
                  refine iv_imul hx hb dL_comes_328 ?_
                  refine iv_iconst hx hb dL_comes_329 ?_
                  refine iv_iadd hx hb dL_comes_330 ?_
                  refine iv_iald (f := s84.2.1) (j := ((3 * v15) + 1).toNat) hx hb hK.1 hP 126 0 rfl rfl (by decide) g33 rfl dL_comes_331 ?_
                  refine iv_bipush hx hb dL_comes_332 (by decide +kernel) ?_
                  refine iv_idiv hx hb (by decide +kernel) dL_comes_334 ?_
                  refine iv_iadd hx hb dL_comes_335 ?_
                  refine iv_i2c hx hb dL_comes_336 ?_
                  obtain ⟨u132, q133, h⟩ := bd_t h
                  obtain ⟨s134, e135, h⟩ := nm_t h
                  refine iv_callIp (As := [.int (zi (chI (48 + (dvI (s84.2.1 (((3 * v15) + 1).toNat)) 10))))]) (rest := []) (ws1 := wLXgmpwn a hs ag am ap aw an E s134) ⟨hx, hb, hml, hown, hts⟩ (k_X7_type l E a hs H.size (chI (48 + (dvI (s84.2.1 (((3 * v15) + 1).toNat)) 10))) s84.1 u132 q133) (cwV 1 hts gL_comes_X7_type rfl rfl rfl (by decide +kernel) ⟨Nat.le_of_ble_eq_true rfl, Nat.le_of_ble_eq_true rfl⟩) hK hP hD hS hA 0 7 rfl rfl (pm_last) (by rw [e135]; exact pm_last) rfl hl.1 (Nat.le_of_ble_eq_true rfl) ⟨Nat.le_of_ble_eq_true rfl, Nat.le_of_ble_eq_true rfl⟩ dL_comes_337 (fun H locs hP hD hS => ?_)
                  refine lv_goto (tgt := 345) hx hb dL_comes_340 (by decide) ?_
                  exact hj89 u132.1 s134 _ _ _ h hP hD hS (lv_sub hl [0, 1, 2, 3, 4, 5, 6, 7, 8, 9, 10, 11] rfl)
              refine iv_le (tgt := 280) hx hb g12 dL_comes_268 (by decide) (fun c136 => ?_) (fun c136 => ?_)
              · have h := it_t c136 h
                refine lv_iload hx hb dL_comes_280 (lv_at hl 10 rfl) ?_
                exact hj76 v9 s72 _ _ _ h hP hD hS (lv_sub hl [0, 1, 2, 3, 4, 5, 6, 7, 8, 9, 10, 11] rfl)
              · have h := it_f c136 h
                refine lv_aload_n hx hb dL_comes_271 rfl (lv_at hl 2 rfl) ?_
                refine iv_bipush hx hb dL_comes_272 (by decide +kernel) ?_
                obtain ⟨u137, q138, h⟩ := bd_t h
                obtain ⟨s139, e140, h⟩ := nm_t h
                refine iv_callIp (As := [.int (zi 44)]) (rest := []) (ws1 := wLXgmpwn a hs ag am ap aw an E s139) ⟨hx, hb, hml, hown, hts⟩ (k_X7_type l E a hs H.size 44 s72.1 u137 q138) (cwV 1 hts gL_comes_X7_type rfl rfl rfl (by decide +kernel) ⟨Nat.le_of_ble_eq_true rfl, Nat.le_of_ble_eq_true rfl⟩) hK hP hD hS hA 0 7 rfl rfl (pm_last) (by rw [e140]; exact pm_last) rfl hl.1 (Nat.le_of_ble_eq_true rfl) ⟨Nat.le_of_ble_eq_true rfl, Nat.le_of_ble_eq_true rfl⟩ dL_comes_274 (fun H locs hP hD hS => ?_)
                refine lv_goto (tgt := 282) hx hb dL_comes_277 (by decide) ?_
                exact hj76 u137.1 s139 _ _ _ h hP hD hS (lv_sub hl [0, 1, 2, 3, 4, 5, 6, 7, 8, 9, 10, 11] rfl)
            refine iv_ne (tgt := 174) hx hb g48 dL_comes_158 (by decide) (fun c141 => ?_) (fun c141 => ?_)
            · have h := it_f c141 h
              refine lv_iload hx hb dL_comes_174 (lv_at hl 0 rfl) ?_
              refine iv_bipush hx hb dL_comes_176 (by decide +kernel) ?_
              refine iv_ishr hx hb dL_comes_178 ?_
              refine iv_iconst hx hb dL_comes_179 ?_
              obtain ⟨u142, q143, h⟩ := bd_t h
              refine iv_callS (As := [.int (zi (srI v17 7)), .int (zi 3)]) (rest := [.int (zi (3 * v15)), .ref (am 0)]) ⟨hx, hb, hml, hown, hts⟩ (k_L_low l E H.size (srI v17 7) 3 u142 q143) (va_cwS 2 hts gL_comes_L_low rfl rfl rfl (by decide +kernel) ⟨Nat.le_of_ble_eq_true rfl, Nat.le_of_ble_eq_true rfl⟩) hK hP hS hA rfl hl.1 (Nat.le_of_ble_eq_true rfl) ⟨Nat.le_of_ble_eq_true rfl, Nat.le_of_ble_eq_true rfl⟩ dL_comes_180 (fun H locs hP hS => ?_)
              exact hj51 u142 s44 _ _ _ h hP hD hS (lv_sub hl [0, 1, 2, 3, 4, 5, 6, 7, 8, 9, 10, 11] rfl)
            · have h := it_t c141 h
              refine lv_iload hx hb dL_comes_161 (lv_at hl 0 rfl) ?_
              refine iv_bipush hx hb dL_comes_163 (by decide +kernel) ?_
              refine iv_ishr hx hb dL_comes_165 ?_
              refine iv_bipush hx hb dL_comes_166 (by decide +kernel) ?_
              obtain ⟨u144, q145, h⟩ := bd_t h
              refine iv_callS (As := [.int (zi (srI v17 7)), .int (zi 10)]) (rest := [.int (zi (3 * v15)), .ref (am 0)]) ⟨hx, hb, hml, hown, hts⟩ (k_L_low l E H.size (srI v17 7) 10 u144 q145) (va_cwS 2 hts gL_comes_L_low rfl rfl rfl (by decide +kernel) ⟨Nat.le_of_ble_eq_true rfl, Nat.le_of_ble_eq_true rfl⟩) hK hP hS hA rfl hl.1 (Nat.le_of_ble_eq_true rfl) ⟨Nat.le_of_ble_eq_true rfl, Nat.le_of_ble_eq_true rfl⟩ dL_comes_168 (fun H locs hP hS => ?_)
              refine lv_goto (tgt := 183) hx hb dL_comes_171 (by decide) ?_
              exact hj51 u144 s44 _ _ _ h hP hD hS (lv_sub hl [0, 1, 2, 3, 4, 5, 6, 7, 8, 9, 10, 11] rfl)
          refine iv_ne (tgt := 143) hx hb g38 dL_comes_127 (by decide) (fun c146 => ?_) (fun c146 => ?_)
          · have h := it_f c146 h
            refine iv_iconst hx hb dL_comes_143 ?_
            exact hj41 0 s34 _ _ _ h hP hD hS (lv_sub hl [0, 1, 2, 3, 4, 5, 6, 7, 8, 9, 10, 11] rfl)
          · have h := it_t c146 h
            refine lv_iload hx hb dL_comes_130 (lv_at hl 0 rfl) ?_
            refine iv_bipush hx hb dL_comes_132 (by decide +kernel) ?_
            refine iv_ishr hx hb dL_comes_134 ?_
            refine iv_bipush hx hb dL_comes_135 (by decide +kernel) ?_
            obtain ⟨u147, q148, h⟩ := bd_t h
            refine iv_callS (As := [.int (zi (srI v17 6)), .int (zi 10)]) (rest := [.int (zi ((3 * v15) + 2)), .ref (ag 0)]) ⟨hx, hb, hml, hown, hts⟩ (k_L_low l E H.size (srI v17 6) 10 u147 q148) (va_cwS 2 hts gL_comes_L_low rfl rfl rfl (by decide +kernel) ⟨Nat.le_of_ble_eq_true rfl, Nat.le_of_ble_eq_true rfl⟩) hK hP hS hA rfl hl.1 (Nat.le_of_ble_eq_true rfl) ⟨Nat.le_of_ble_eq_true rfl, Nat.le_of_ble_eq_true rfl⟩ dL_comes_137 (fun H locs hP hS => ?_)
            refine lv_goto (tgt := 144) hx hb dL_comes_140 (by decide) ?_
            exact hj41 u147 s34 _ _ _ h hP hD hS (lv_sub hl [0, 1, 2, 3, 4, 5, 6, 7, 8, 9, 10, 11] rfl)
        refine iv_ne (tgt := 105) hx hb g26 dL_comes_97 (by decide) (fun c149 => ?_) (fun c149 => ?_)
        · have h := it_f c149 h
          refine iv_bipush hx hb dL_comes_105 (by decide +kernel) ?_
          exact hj29 16 s22 _ _ _ h hP hD hS (lv_sub hl [0, 1, 2, 3, 4, 5, 6, 7, 8, 9, 10, 11] rfl)
        · have h := it_t c149 h
          refine iv_bipush hx hb dL_comes_100 (by decide +kernel) ?_
          refine lv_goto (tgt := 107) hx hb dL_comes_102 (by decide) ?_
          exact hj29 30 s22 _ _ _ h hP hD hS (lv_sub hl [0, 1, 2, 3, 4, 5, 6, 7, 8, 9, 10, 11] rfl)
  have h := hf
  rw [f_L_comes] at h
  refine lv_aload_n hx hb dL_comes_0 rfl (lv_at hl 0 rfl) ?_
  obtain ⟨u1, q2, h⟩ := bd_t h
  obtain ⟨s3, e4, h⟩ := nm_t h
  refine iv_callIp (As := []) (rest := []) (ws1 := wLXgmpwn a hs ag am ap aw an E s3) ⟨hx, hb, hml, hown, hts⟩ (k_X7_clearText l E a hs H.size  z.1 u1 q2) (cwV 0 hts gL_comes_X7_clearText rfl rfl rfl (by decide +kernel) ⟨Nat.le_of_ble_eq_true rfl, Nat.le_of_ble_eq_true rfl⟩) hK hP hD hS hA 0 7 rfl rfl (pm_last) (by rw [e4]; exact pm_last) rfl hl.1 (Nat.le_of_ble_eq_true rfl) ⟨Nat.le_of_ble_eq_true rfl, Nat.le_of_ble_eq_true rfl⟩ dL_comes_1 (fun H locs hP hD hS => ?_)
  refine lv_istore (lv' := [(8, .int (zi u1.1)), (0, .ref (a 0)), (1, .ref (ag 0)), (2, .ref (am 0)), (3, .ref (ap 0)), (4, .ref (aw 0)), (5, .ref (an 0)), (6, .int (zi x6)), (7, .int (zi x7))]) hx hb dL_comes_4 hl (by decide) rfl (fun ls hl => ?_)
  refine lv_aload hx hb dL_comes_6 (lv_at hl 6 rfl) ?_
  refine iv_bipush hx hb dL_comes_8 (by decide +kernel) ?_
  refine iv_iald (f := s3.2.2.2.2.2) (j := 13) hx hb hK.1 hP 130 0 rfl rfl (by decide) (by decide +kernel) rfl dL_comes_10 ?_
  refine lv_iload hx hb dL_comes_11 (lv_at hl 8 rfl) ?_
  refine iv_iadd hx hb dL_comes_13 ?_
  refine iv_bipush hx hb dL_comes_14 (by decide +kernel) ?_
  obtain ⟨g5, h⟩ := gd_t h
  refine iv_ile (tgt := 34) hx hb g5 (by decide +kernel) dL_comes_16 (by decide) (fun c6 => ?_) (fun c6 => ?_)
  · have h := it_t c6 h
    refine iv_iconst hx hb dL_comes_34 ?_
    refine lv_istore (lv' := [(9, .int (zi 0)), (8, .int (zi u1.1)), (0, .ref (a 0)), (1, .ref (ag 0)), (2, .ref (am 0)), (3, .ref (ap 0)), (4, .ref (aw 0)), (5, .ref (an 0)), (6, .int (zi x6)), (7, .int (zi x7))]) hx hb dL_comes_35 hl (by decide) rfl (fun ls hl => ?_)
    refine loop37 (fun v150 v151 v152 v153 s154 => bd (f_X7_read N  s154.1) fun u155 => nm (u155.2, s154.2) fun s157 => gd (rg u155.1) <| gd (rg v151) <| jn2 (fun (v162 : Int) (s163 : bLXgmpwn) => gd (inb v162 2) <| some (v162, s163)) fun j164 => if u155.1 = v151 then (j164 1 s157) else (j164 0 s157)) N (fun v150 v151 v152 v153 s154 H locs ls h hP hD hS hl => ?_) x6 x7 u1.1 0 s3 _ _ _ h hP hD hS (lv_sub hl [2, 3, 4, 5, 6, 7, 8, 9, 1, 0] rfl)
    refine lv_aload_n hx hb dL_comes_462 rfl (lv_at hl 0 rfl) ?_
    obtain ⟨u155, q156, h⟩ := bd_t h
    obtain ⟨s157, e158, h⟩ := nm_t h
    refine iv_callIxp (As := []) (rest := []) (wx := fun h159 => wLXgmpwn a h159 ag am ap aw an E s157) ⟨hx, hb, hml, hown, hts⟩ (k_X7_read l E a hs H.size N  s154.1 u155 q156) (cwV 0 hts gL_comes_X7_read rfl rfl rfl (by decide +kernel) ⟨Nat.le_of_ble_eq_true rfl, Nat.le_of_ble_eq_true rfl⟩) hK hP hD hS hA 0 7 rfl rfl (pm_last) (fun h159 => by rw [e158]; exact pm_last) rfl hl.1 (Nat.le_of_ble_eq_true rfl) ⟨Nat.le_of_ble_eq_true rfl, Nat.le_of_ble_eq_true rfl⟩ dL_comes_463 (fun h159 H locs hP hD hS => ?_)
    refine lv_iload hx hb dL_comes_466 (lv_at hl 7 rfl) ?_
    obtain ⟨g160, h⟩ := gd_t h
    obtain ⟨g161, h⟩ := gd_t h
    obtain ⟨j164, e165, h⟩ := jn2_t h
    have hj164 : ∀ (v162 : Int) (s163 : bLXgmpwn) (H : Heap) (locs : List Loc) (ls : Array Slot), j164 v162 s163 = some u → va_P E.1 vwCl (wLXgmpwn a h159 ag am ap aw an E s163) H → va_D A (wLXgmpwn a h159 ag am ap aw an E s163) → va_S A s.heap H locs → lv_has ls 12 [(0, .ref (a 0)), (1, .ref (ag 0)), (2, .ref (am 0)), (3, .ref (ap 0)), (4, .ref (aw 0)), (5, .ref (an 0)), (6, .int (zi v150)), (7, .int (zi v151)), (8, .int (zi v152)), (9, .int (zi v153))] → W p l e ({ frames := 6, cells := 0, slots := 0, locals := 133 }) s m ([.ref (a 0), .ref (ag 0), .ref (am 0), .ref (ap 0), .ref (aw 0), .ref (an 0), .int (zi x6), .int (zi x7)] : List Value).toArray below meth c H locs 0 0 (MQ below (mQix E (fun h1 => wLXgmpwn a h1 ag am ap aw an E u.2) u.1 A) ([.ref (a 0), .ref (ag 0), .ref (am 0), .ref (ap 0), .ref (aw 0), .ref (an 0), .int (zi x6), .int (zi x7)] : List Value).toArray s 0 0 A) (F0 m 476 ls [.int (zi v162)]) := by
      intro v162 s163 H locs ls h hP hD hS hl
      rw [e165] at h
      obtain ⟨g166, h⟩ := gd_t h
      cases h
      exact iv_zretx h159 rfl hx hb hr hlocks g166 hK hP hD hS dL_comes_476
    refine iv_ine (tgt := 475) hx hb g160 g161 dL_comes_468 (by decide) (fun c167 => ?_) (fun c167 => ?_)
    · have h := it_f c167 h
      refine iv_iconst hx hb dL_comes_475 ?_
      exact hj164 0 s157 _ _ _ h hP hD hS (lv_sub hl [0, 1, 2, 3, 4, 5, 6, 7, 8, 9] rfl)
    · have h := it_t c167 h
      refine iv_iconst hx hb dL_comes_471 ?_
      refine lv_goto (tgt := 476) hx hb dL_comes_472 (by decide) ?_
      exact hj164 1 s157 _ _ _ h hP hD hS (lv_sub hl [0, 1, 2, 3, 4, 5, 6, 7, 8, 9] rfl)
  · have h := it_f c6 h
    refine lv_aload_n hx hb dL_comes_19 rfl (lv_at hl 1 rfl) ?_
    obtain ⟨u168, q169, h⟩ := bd_t h
    obtain ⟨s170, e171, h⟩ := nm_t h
    refine iv_callIxp (As := []) (rest := []) (wx := fun h172 => wLXgmpwn a h172 ag am ap aw an E s170) ⟨hx, hb, hml, hown, hts⟩ (k_X7_read l E a hs H.size N  s3.1 u168 q169) (cwV 0 hts gL_comes_X7_read rfl rfl rfl (by decide +kernel) ⟨Nat.le_of_ble_eq_true rfl, Nat.le_of_ble_eq_true rfl⟩) hK hP hD hS hA 0 7 rfl rfl (pm_last) (fun h172 => by rw [e171]; exact pm_last) rfl hl.1 (Nat.le_of_ble_eq_true rfl) ⟨Nat.le_of_ble_eq_true rfl, Nat.le_of_ble_eq_true rfl⟩ dL_comes_20 (fun h172 H locs hP hD hS => ?_)
    refine iv_bipush hx hb dL_comes_23 (by decide +kernel) ?_
    obtain ⟨g173, h⟩ := gd_t h
    obtain ⟨j176, e177, h⟩ := jn2_t h
    have hj176 : ∀ (v174 : Int) (s175 : bLXgmpwn) (H : Heap) (locs : List Loc) (ls : Array Slot), j176 v174 s175 = some u → va_P E.1 vwCl (wLXgmpwn a h172 ag am ap aw an E s175) H → va_D A (wLXgmpwn a h172 ag am ap aw an E s175) → va_S A s.heap H locs → lv_has ls 12 [(8, .int (zi u1.1)), (0, .ref (a 0)), (1, .ref (ag 0)), (2, .ref (am 0)), (3, .ref (ap 0)), (4, .ref (aw 0)), (5, .ref (an 0)), (6, .int (zi x6)), (7, .int (zi x7))] → W p l e ({ frames := 6, cells := 0, slots := 0, locals := 133 }) s m ([.ref (a 0), .ref (ag 0), .ref (am 0), .ref (ap 0), .ref (aw 0), .ref (an 0), .int (zi x6), .int (zi x7)] : List Value).toArray below meth c H locs 0 0 (MQ below (mQix E (fun h1 => wLXgmpwn a h1 ag am ap aw an E u.2) u.1 A) ([.ref (a 0), .ref (ag 0), .ref (am 0), .ref (ap 0), .ref (aw 0), .ref (an 0), .int (zi x6), .int (zi x7)] : List Value).toArray s 0 0 A) (F0 m 33 ls [.int (zi v174)]) := by
      intro v174 s175 H locs ls h hP hD hS hl
      rw [e177] at h
      obtain ⟨g178, h⟩ := gd_t h
      cases h
      exact iv_zretx h172 rfl hx hb hr hlocks g178 hK hP hD hS dL_comes_33
    refine iv_ine (tgt := 32) hx hb g173 (by decide +kernel) dL_comes_25 (by decide) (fun c179 => ?_) (fun c179 => ?_)
    · have h := it_f c179 h
      refine iv_iconst hx hb dL_comes_32 ?_
      exact hj176 0 s170 _ _ _ h hP hD hS (lv_sub hl [0, 1, 2, 3, 4, 5, 6, 7, 8] rfl)
    · have h := it_t c179 h
      refine iv_iconst hx hb dL_comes_28 ?_
      refine lv_goto (tgt := 33) hx hb dL_comes_29 (by decide) ?_
      exact hj176 1 s170 _ _ _ h hP hD hS (lv_sub hl [0, 1, 2, 3, 4, 5, 6, 7, 8] rfl)
