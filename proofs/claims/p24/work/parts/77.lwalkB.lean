set_option maxHeartbeats 4000000 in
set_option maxRecDepth 100000 in
theorem k_L_areButtons (l : Launch) (E : wE) (a hs ag am ap aw an : Nat → Nat) (sz : Nat) (N : Nat) (z : bLXgmpwn) (u : (Int × bLXgmpwn)) (hf : f_L_areButtons N z = some u) : cI l yL_areButtons wsL_areButtons { frames := 4, cells := 0, slots := 0, locals := 85 } E sz [.ref (a 0), .ref (ag 0), .ref (am 0), .ref (ap 0), .ref (aw 0), .ref (an 0)] (wLXgmpwn a hs ag am ap aw an E z) (wLXgmpwn a hs ag am ap aw an E u.2) u.1 := by
  refine met_go (cc := cL_areButtons) (maxL := 11) (ret := (some .boolean)) (Q0 := mQi E (wLXgmpwn a hs ag am ap aw an E u.2) u.1) (by decide +kernel) rfl (Nat.le_of_ble_eq_true rfl) ?_
  intro A p e s m below meth c hx hb hr hml hts hown hlocks hP hK hD hA hS ls hl
  have hl : lv_has ls 11 [(0, .ref (a 0)), (1, .ref (ag 0)), (2, .ref (am 0)), (3, .ref (ap 0)), (4, .ref (aw 0)), (5, .ref (an 0))] := hl
  generalize hH : s.heap = H at hP
  have hS : va_S A s.heap H [] := by rw [← hH]; exact hS
  have hown : s.vm.findClass RL = some m.cls := hown
  have loop58 : ∀ (kt : Int → Int → Int → Int → Int → bLXgmpwn → Option (Int × bLXgmpwn)) (n : Nat), (∀ (v19 : Int) (v20 : Int) (v21 : Int) (v22 : Int) (v23 : Int) (s24 : bLXgmpwn) (H : Heap) (locs : List Loc) (ls : Array Slot), kt v19 v20 v21 v22 v23 s24 = some u → va_P E.1 vwCl (wLXgmpwn a hs ag am ap aw an E s24) H → va_D A (wLXgmpwn a hs ag am ap aw an E s24) → va_S A s.heap H locs → lv_has ls 11 [(0, .ref (a 0)), (1, .ref (ag 0)), (2, .ref (am 0)), (3, .ref (ap 0)), (4, .ref (aw 0)), (5, .ref (an 0)), (6, .int (zi v19)), (7, .int (zi v20)), (8, .int (zi v21)), (9, .int (zi v22)), (10, .int (zi v23))] → W p l e ({ frames := 4, cells := 0, slots := 0, locals := 85 }) s m ([.ref (a 0), .ref (ag 0), .ref (am 0), .ref (ap 0), .ref (aw 0), .ref (an 0)] : List Value).toArray below meth c H locs 0 0 (MQ below (mQi E (wLXgmpwn a hs ag am ap aw an E u.2) u.1 A) ([.ref (a 0), .ref (ag 0), .ref (am 0), .ref (ap 0), .ref (aw 0), .ref (an 0)] : List Value).toArray s 0 0 A) (F0 m 93 ls [])) → ∀ (v19 : Int) (v20 : Int) (v21 : Int) (v22 : Int) (v23 : Int) (s24 : bLXgmpwn) (H : Heap) (locs : List Loc) (ls : Array Slot), f_L_areButtons_L58 N kt n v19 v20 v21 v22 v23 s24 = some u → va_P E.1 vwCl (wLXgmpwn a hs ag am ap aw an E s24) H → va_D A (wLXgmpwn a hs ag am ap aw an E s24) → va_S A s.heap H locs → lv_has ls 11 [(0, .ref (a 0)), (1, .ref (ag 0)), (2, .ref (am 0)), (3, .ref (ap 0)), (4, .ref (aw 0)), (5, .ref (an 0)), (6, .int (zi v19)), (7, .int (zi v20)), (8, .int (zi v21)), (9, .int (zi v22)), (10, .int (zi v23))] → W p l e ({ frames := 4, cells := 0, slots := 0, locals := 85 }) s m ([.ref (a 0), .ref (ag 0), .ref (am 0), .ref (ap 0), .ref (aw 0), .ref (an 0)] : List Value).toArray below meth c H locs 0 0 (MQ below (mQi E (wLXgmpwn a hs ag am ap aw an E u.2) u.1 A) ([.ref (a 0), .ref (ag 0), .ref (am 0), .ref (ap 0), .ref (aw 0), .ref (an 0)] : List Value).toArray s 0 0 A) (F0 m 58 ls []) := by
    intro kt n hk
    induction n with
    | zero =>
      intro v19 v20 v21 v22 v23 s24 H locs ls h
      exact absurd (show (none : Option (Int × bLXgmpwn)) = some u from h) (by simp)
    | succ n ih =>
      intro v19 v20 v21 v22 v23 s24 H locs ls h hP hD hS hl
      rw [f_L_areButtons_L58] at h
      refine lv_iload hx hb dL_areButtons_58 (lv_at hl 10 rfl) ?_
      refine lv_aload hx hb dL_areButtons_60 (lv_at hl 5 rfl) ?_
      refine iv_bipush hx hb dL_areButtons_62 (by decide +kernel) ?_
      refine iv_iald (f := s24.2.2.2.2.2) (j := 14) hx hb hK.1 hP 130 0 rfl rfl (by decide) (by decide +kernel) rfl dL_areButtons_64 ?_
      obtain ⟨g25, h⟩ := gd_t h
      obtain ⟨g26, h⟩ := gd_t h
      refine iv_ige (tgt := 93) hx hb g25 g26 dL_areButtons_65 (by decide) (fun c27 => ?_) (fun c27 => ?_)
      · have h := it_t c27 h
        exact hk v19 v20 v21 v22 v23 s24 _ _ _ h hP hD hS (lv_sub hl [0, 1, 2, 3, 4, 5, 6, 7, 8, 9, 10] rfl)
      · have h := it_f c27 h
        refine lv_aload hx hb dL_areButtons_68 (lv_at hl 4 rfl) ?_
        refine lv_iload hx hb dL_areButtons_70 (lv_at hl 10 rfl) ?_
        obtain ⟨g28, h⟩ := gd_t h
        refine iv_iald (f := s24.2.2.2.2.1) (j := v23.toNat) hx hb hK.1 hP 129 0 rfl rfl (by decide) g28 rfl dL_areButtons_72 ?_
        refine lv_iload hx hb dL_areButtons_73 (lv_at hl 8 rfl) ?_
        obtain ⟨g29, h⟩ := gd_t h
        obtain ⟨g30, h⟩ := gd_t h
        obtain ⟨j33, e34, h⟩ := jn2_t h
        have hj33 : ∀ (v31 : Int) (s32 : bLXgmpwn) (H : Heap) (locs : List Loc) (ls : Array Slot), j33 v31 s32 = some u → va_P E.1 vwCl (wLXgmpwn a hs ag am ap aw an E s32) H → va_D A (wLXgmpwn a hs ag am ap aw an E s32) → va_S A s.heap H locs → lv_has ls 11 [(0, .ref (a 0)), (1, .ref (ag 0)), (2, .ref (am 0)), (3, .ref (ap 0)), (4, .ref (aw 0)), (5, .ref (an 0)), (6, .int (zi v19)), (7, .int (zi v20)), (8, .int (zi v21)), (9, .int (zi v22)), (10, .int (zi v23))] → W p l e ({ frames := 4, cells := 0, slots := 0, locals := 85 }) s m ([.ref (a 0), .ref (ag 0), .ref (am 0), .ref (ap 0), .ref (aw 0), .ref (an 0)] : List Value).toArray below meth c H locs 0 0 (MQ below (mQi E (wLXgmpwn a hs ag am ap aw an E u.2) u.1 A) ([.ref (a 0), .ref (ag 0), .ref (am 0), .ref (ap 0), .ref (aw 0), .ref (an 0)] : List Value).toArray s 0 0 A) (F0 m 85 ls [.int (zi v31)]) := by
          intro v31 s32 H locs ls h hP hD hS hl
          rw [e34] at h
          refine lv_istore (lv' := [(9, .int (zi v31)), (0, .ref (a 0)), (1, .ref (ag 0)), (2, .ref (am 0)), (3, .ref (ap 0)), (4, .ref (aw 0)), (5, .ref (an 0)), (6, .int (zi v19)), (7, .int (zi v20)), (8, .int (zi v21)), (10, .int (zi v23))]) hx hb dL_areButtons_85 hl (by decide) rfl (fun ls hl => ?_)
          refine lv_iinc (v := zi (v23 + 1)) (lv' := [(10, .int (zi (v23 + 1))), (9, .int (zi v31)), (0, .ref (a 0)), (1, .ref (ag 0)), (2, .ref (am 0)), (3, .ref (ap 0)), (4, .ref (aw 0)), (5, .ref (an 0)), (6, .int (zi v19)), (7, .int (zi v20)), (8, .int (zi v21))]) hx hb dL_areButtons_87 hl (k := 10) rfl (by rw [zi_add]; rfl) (by decide) rfl (fun ls hl => ?_)
          refine lv_goto (tgt := 58) hx hb dL_areButtons_90 (by decide) ?_
          exact ih v19 v20 v21 v31 (v23 + 1) s32 _ _ _ h hP hD hS (lv_sub hl [2, 3, 4, 5, 6, 7, 8, 9, 10, 1, 0] rfl)
        refine iv_ine (tgt := 83) hx hb g29 g30 dL_areButtons_75 (by decide) (fun c35 => ?_) (fun c35 => ?_)
        · have h := it_f c35 h
          refine lv_iload hx hb dL_areButtons_83 (lv_at hl 9 rfl) ?_
          exact hj33 v22 s24 _ _ _ h hP hD hS (lv_sub hl [0, 1, 2, 3, 4, 5, 6, 7, 8, 9, 10] rfl)
        · have h := it_t c35 h
          refine lv_iload hx hb dL_areButtons_78 (lv_at hl 10 rfl) ?_
          refine lv_goto (tgt := 85) hx hb dL_areButtons_80 (by decide) ?_
          exact hj33 v23 s24 _ _ _ h hP hD hS (lv_sub hl [0, 1, 2, 3, 4, 5, 6, 7, 8, 9, 10] rfl)
  have loop36 : ∀ (kt : Int → Int → Int → bLXgmpwn → Option (Int × bLXgmpwn)) (n : Nat), (∀ (v10 : Int) (v11 : Int) (v12 : Int) (s13 : bLXgmpwn) (H : Heap) (locs : List Loc) (ls : Array Slot), kt v10 v11 v12 s13 = some u → va_P E.1 vwCl (wLXgmpwn a hs ag am ap aw an E s13) H → va_D A (wLXgmpwn a hs ag am ap aw an E s13) → va_S A s.heap H locs → lv_has ls 11 [(0, .ref (a 0)), (1, .ref (ag 0)), (2, .ref (am 0)), (3, .ref (ap 0)), (4, .ref (aw 0)), (5, .ref (an 0)), (6, .int (zi v10)), (7, .int (zi v11)), (8, .int (zi v12))] → W p l e ({ frames := 4, cells := 0, slots := 0, locals := 85 }) s m ([.ref (a 0), .ref (ag 0), .ref (am 0), .ref (ap 0), .ref (aw 0), .ref (an 0)] : List Value).toArray below meth c H locs 0 0 (MQ below (mQi E (wLXgmpwn a hs ag am ap aw an E u.2) u.1 A) ([.ref (a 0), .ref (ag 0), .ref (am 0), .ref (ap 0), .ref (aw 0), .ref (an 0)] : List Value).toArray s 0 0 A) (F0 m 396 ls [])) → ∀ (v10 : Int) (v11 : Int) (v12 : Int) (s13 : bLXgmpwn) (H : Heap) (locs : List Loc) (ls : Array Slot), f_L_areButtons_L36 N kt n v10 v11 v12 s13 = some u → va_P E.1 vwCl (wLXgmpwn a hs ag am ap aw an E s13) H → va_D A (wLXgmpwn a hs ag am ap aw an E s13) → va_S A s.heap H locs → lv_has ls 11 [(0, .ref (a 0)), (1, .ref (ag 0)), (2, .ref (am 0)), (3, .ref (ap 0)), (4, .ref (aw 0)), (5, .ref (an 0)), (6, .int (zi v10)), (7, .int (zi v11)), (8, .int (zi v12))] → W p l e ({ frames := 4, cells := 0, slots := 0, locals := 85 }) s m ([.ref (a 0), .ref (ag 0), .ref (am 0), .ref (ap 0), .ref (aw 0), .ref (an 0)] : List Value).toArray below meth c H locs 0 0 (MQ below (mQi E (wLXgmpwn a hs ag am ap aw an E u.2) u.1 A) ([.ref (a 0), .ref (ag 0), .ref (am 0), .ref (ap 0), .ref (aw 0), .ref (an 0)] : List Value).toArray s 0 0 A) (F0 m 36 ls []) := by
    intro kt n hk
    induction n with
    | zero =>
      intro v10 v11 v12 s13 H locs ls h
      exact absurd (show (none : Option (Int × bLXgmpwn)) = some u from h) (by simp)
    | succ n ih =>
      intro v10 v11 v12 s13 H locs ls h hP hD hS hl
      rw [f_L_areButtons_L36] at h
      refine lv_iload hx hb dL_areButtons_36 (lv_at hl 8 rfl) ?_
      refine lv_aload hx hb dL_areButtons_38 (lv_at hl 5 rfl) ?_
      refine iv_bipush hx hb dL_areButtons_40 (by decide +kernel) ?_
      refine iv_iald (f := s13.2.2.2.2.2) (j := 13) hx hb hK.1 hP 130 0 rfl rfl (by decide) (by decide +kernel) rfl dL_areButtons_42 ?_
      obtain ⟨g14, h⟩ := gd_t h
      obtain ⟨g15, h⟩ := gd_t h
      refine iv_ige (tgt := 396) hx hb g14 g15 dL_areButtons_43 (by decide) (fun c16 => ?_) (fun c16 => ?_)
      · have h := it_t c16 h
        exact hk v10 v11 v12 s13 _ _ _ h hP hD hS (lv_sub hl [0, 1, 2, 3, 4, 5, 6, 7, 8] rfl)
      · have h := it_f c16 h
        refine lv_iload hx hb dL_areButtons_46 (lv_at hl 7 rfl) ?_
        obtain ⟨g17, h⟩ := gd_t h
        refine iv_eq (tgt := 396) hx hb g17 dL_areButtons_48 (by decide) (fun c18 => ?_) (fun c18 => ?_)
        · have h := it_t c18 h
          exact hk v10 v11 v12 s13 _ _ _ h hP hD hS (lv_sub hl [0, 1, 2, 3, 4, 5, 6, 7, 8] rfl)
        · have h := it_f c18 h
          refine iv_bipush hx hb dL_areButtons_51 (by decide +kernel) ?_
          refine lv_istore (lv' := [(9, .int (zi (-5))), (0, .ref (a 0)), (1, .ref (ag 0)), (2, .ref (am 0)), (3, .ref (ap 0)), (4, .ref (aw 0)), (5, .ref (an 0)), (6, .int (zi v10)), (7, .int (zi v11)), (8, .int (zi v12))]) hx hb dL_areButtons_53 hl (by decide) rfl (fun ls hl => ?_)
          refine iv_iconst hx hb dL_areButtons_55 ?_
          refine lv_istore (lv' := [(10, .int (zi 0)), (9, .int (zi (-5))), (0, .ref (a 0)), (1, .ref (ag 0)), (2, .ref (am 0)), (3, .ref (ap 0)), (4, .ref (aw 0)), (5, .ref (an 0)), (6, .int (zi v10)), (7, .int (zi v11)), (8, .int (zi v12))]) hx hb dL_areButtons_56 hl (by decide) rfl (fun ls hl => ?_)
          refine loop58 (fun v36 v37 v38 v39 v40 s41 => bd (f_L_goes v38 (s41.2.1, s41.2.2.1, s41.2.2.2.2.2)) fun u42 => gd (rg u42) <| jn2 (fun (v45 : Int) (s46 : bLXgmpwn) => bd (f_X7_button N v38 0 s46.1) fun u49 => nm (u49.2, s46.2) fun s51 => gd (inb (3 * v38) 60) <| gd (rg u49.1) <| gd (rg (s51.2.1 ((3 * v38).toNat))) <| jn2 (fun (v56 : Int) (s57 : bLXgmpwn) => nm (v36 + (s57.2.2.1 ((3 * v38).toNat))) fun v60 => f_L_areButtons_L36 N kt n v60 v56 (v38 + 1) s57) fun j58 => if u49.1 = (s51.2.1 ((3 * v38).toNat)) then (bd (f_X7_button N v38 1 s51.1) fun u63 => nm (u63.2, s51.2) fun s65 => gd (inb ((3 * v38) + 1) 60) <| gd (rg u63.1) <| gd (rg (s65.2.1 (((3 * v38) + 1).toNat))) <| if u63.1 = (s65.2.1 (((3 * v38) + 1).toNat)) then (bd (f_X7_button N v38 2 s65.1) fun u71 => nm (u71.2, s65.2) fun s73 => gd (inb ((3 * v38) + 2) 60) <| gd (rg u71.1) <| gd (rg (s73.2.1 (((3 * v38) + 2).toNat))) <| if u71.1 = (s73.2.1 (((3 * v38) + 2).toNat)) then (bd (f_X7_button N v38 3 s73.1) fun u79 => nm (u79.2, s73.2) fun s81 => gd (rg u79.1) <| gd (rg (s81.2.2.1 ((3 * v38).toNat))) <| if u79.1 = (s81.2.2.1 ((3 * v38).toNat)) then (bd (f_X7_button N v38 4 s81.1) fun u86 => nm (u86.2, s81.2) fun s88 => gd (rg u86.1) <| gd (rg (s88.2.2.1 (((3 * v38) + 1).toNat))) <| if u86.1 = (s88.2.2.1 (((3 * v38) + 1).toNat)) then (bd (f_X7_button N v38 5 s88.1) fun u93 => nm (u93.2, s88.2) fun s95 => gd (rg u93.1) <| gd (rg (s95.2.2.2.1 ((3 * v38).toNat))) <| if u93.1 = (s95.2.2.2.1 ((3 * v38).toNat)) then (bd (f_X7_button N v38 6 s95.1) fun u100 => nm (u100.2, s95.2) fun s102 => gd (rg u100.1) <| gd (rg (s102.2.2.2.1 (((3 * v38) + 1).toNat))) <| if u100.1 = (s102.2.2.2.1 (((3 * v38) + 1).toNat)) then (bd (f_X7_button N v38 7 s102.1) fun u107 => nm (u107.2, s102.2) fun s109 => gd (rg u107.1) <| gd (rg v39) <| if u107.1 = v39 then (bd (f_X7_button N v38 8 s109.1) fun u114 => nm (u114.2, s109.2) fun s116 => gd (rg u114.1) <| gd (rg (s116.2.2.2.1 (((3 * v38) + 2).toNat))) <| if u114.1 = (s116.2.2.2.1 (((3 * v38) + 2).toNat)) then (bd (f_X7_button N v38 9 s116.1) fun u121 => nm (u121.2, s116.2) fun s123 => gd (rg u121.1) <| gd (rg (s123.2.2.1 (((3 * v38) + 2).toNat))) <| if u121.1 = (s123.2.2.1 (((3 * v38) + 2).toNat)) then (bd (f_X7_button N v38 10 s123.1) fun u128 => nm (u128.2, s123.2) fun s130 => gd (rg u128.1) <| if u128.1 = (-2) then (bd (f_X7_goesTo N v38 s130.1) fun u134 => nm (u134.2, s130.2) fun s136 => jn2 (fun (v138 : Int) (s139 : bLXgmpwn) => gd (rg u134.1) <| gd (rg v138) <| if u134.1 = v138 then (j58 1 s139) else (j58 0 s139)) fun j140 => if 0 ≤ v39 then (j140 v45 s136) else (j140 (-4) s136)) else (j58 0 s130)) else (j58 0 s123)) else (j58 0 s116)) else (j58 0 s109)) else (j58 0 s102)) else (j58 0 s95)) else (j58 0 s88)) else (j58 0 s81)) else (j58 0 s73)) else (j58 0 s65)) else (j58 0 s51)) fun j47 => if u42 = 2 then (bd (f_L_at N 2 (s41.2.2.2.1, s41.2.2.2.2.2)) fun u155 => gd (rg (u155 + 1)) <| gd (rg (s41.2.2.2.2.2 5)) <| if (u155 + 1) < (s41.2.2.2.2.2 5) then (if u42 = 5 then (bd (f_L_binOf N v38 (s41.2.1, s41.2.2.2.2.2)) fun u161 => bd (f_L_in N u161 (s41.2.2.2.1, s41.2.2.2.2.2)) fun u163 => gd (rg u163) <| gd (rg (s41.2.2.2.2.2 6)) <| if u163 < (s41.2.2.2.2.2 6) then (j47 u42 s41) else (j47 0 s41)) else (j47 u42 s41)) else (j47 3 s41)) else (if u42 = 5 then (bd (f_L_binOf N v38 (s41.2.1, s41.2.2.2.2.2)) fun u148 => bd (f_L_in N u148 (s41.2.2.2.1, s41.2.2.2.2.2)) fun u150 => gd (rg u150) <| gd (rg (s41.2.2.2.2.2 6)) <| if u150 < (s41.2.2.2.2.2 6) then (j47 u42 s41) else (j47 0 s41)) else (j47 u42 s41))) N (fun v36 v37 v38 v39 v40 s41 H locs ls h hP hD hS hl => ?_) v10 v11 v12 (-5) 0 s13 _ _ _ h hP hD hS (lv_sub hl [2, 3, 4, 5, 6, 7, 8, 9, 10, 1, 0] rfl)
          refine lv_aload_n hx hb dL_areButtons_93 rfl (lv_at hl 1 rfl) ?_
          refine lv_aload_n hx hb dL_areButtons_94 rfl (lv_at hl 2 rfl) ?_
          refine lv_aload hx hb dL_areButtons_95 (lv_at hl 5 rfl) ?_
          refine lv_iload hx hb dL_areButtons_97 (lv_at hl 8 rfl) ?_
          obtain ⟨u42, q43, h⟩ := bd_t h
          refine iv_callWI (As := [.ref (ag 0), .ref (am 0), .ref (an 0), .int (zi v38)]) (rest := []) (ws1 := wLXgmpwn a hs ag am ap aw an E s41) ⟨hx, hb, hml, hown, hts⟩ (k_L_goes l E ag am an H.size v38 (s41.2.1, s41.2.2.1, s41.2.2.2.2.2) u42 q43) (va_cwS 4 hts gL_areButtons_L_goes rfl rfl rfl (by decide +kernel) ⟨Nat.le_of_ble_eq_true rfl, Nat.le_of_ble_eq_true rfl⟩) hK hP hD hS hA (pm_skip (pm_take (pm_take (pm_skip (pm_skip (pm_end)))))) (pm_skip (pm_take (pm_take (pm_skip (pm_skip (pm_end)))))) rfl hl.1 (Nat.le_of_ble_eq_true rfl) ⟨Nat.le_of_ble_eq_true rfl, Nat.le_of_ble_eq_true rfl⟩ dL_areButtons_99 (fun H locs hP hD hS => ?_)
          refine lv_istore (lv' := [(10, .int (zi u42)), (0, .ref (a 0)), (1, .ref (ag 0)), (2, .ref (am 0)), (3, .ref (ap 0)), (4, .ref (aw 0)), (5, .ref (an 0)), (6, .int (zi v36)), (7, .int (zi v37)), (8, .int (zi v38)), (9, .int (zi v39))]) hx hb dL_areButtons_102 hl (by decide) rfl (fun ls hl => ?_)
          refine lv_iload hx hb dL_areButtons_104 (lv_at hl 0 rfl) ?_
          refine iv_iconst hx hb dL_areButtons_106 ?_
          obtain ⟨g44, h⟩ := gd_t h
          obtain ⟨j47, e48, h⟩ := jn2_t h
          have hj47 : ∀ (v45 : Int) (s46 : bLXgmpwn) (H : Heap) (locs : List Loc) (ls : Array Slot), j47 v45 s46 = some u → va_P E.1 vwCl (wLXgmpwn a hs ag am ap aw an E s46) H → va_D A (wLXgmpwn a hs ag am ap aw an E s46) → va_S A s.heap H locs → lv_has ls 11 [(10, .int (zi u42)), (0, .ref (a 0)), (1, .ref (ag 0)), (2, .ref (am 0)), (3, .ref (ap 0)), (4, .ref (aw 0)), (5, .ref (an 0)), (6, .int (zi v36)), (7, .int (zi v37)), (8, .int (zi v38)), (9, .int (zi v39))] → W p l e ({ frames := 4, cells := 0, slots := 0, locals := 85 }) s m ([.ref (a 0), .ref (ag 0), .ref (am 0), .ref (ap 0), .ref (aw 0), .ref (an 0)] : List Value).toArray below meth c H locs 0 0 (MQ below (mQi E (wLXgmpwn a hs ag am ap aw an E u.2) u.1 A) ([.ref (a 0), .ref (ag 0), .ref (am 0), .ref (ap 0), .ref (aw 0), .ref (an 0)] : List Value).toArray s 0 0 A) (F0 m 164 ls [.int (zi v45)]) := by
            intro v45 s46 H locs ls h hP hD hS hl
            rw [e48] at h
            refine lv_istore (lv' := [(10, .int (zi v45)), (0, .ref (a 0)), (1, .ref (ag 0)), (2, .ref (am 0)), (3, .ref (ap 0)), (4, .ref (aw 0)), (5, .ref (an 0)), (6, .int (zi v36)), (7, .int (zi v37)), (8, .int (zi v38)), (9, .int (zi v39))]) hx hb dL_areButtons_164 hl (by decide) rfl (fun ls hl => ?_)
            refine lv_aload_n hx hb dL_areButtons_166 rfl (lv_at hl 1 rfl) ?_
            refine lv_iload hx hb dL_areButtons_167 (lv_at hl 9 rfl) ?_
            refine iv_iconst hx hb dL_areButtons_169 ?_
            obtain ⟨u49, q50, h⟩ := bd_t h
            obtain ⟨s51, e52, h⟩ := nm_t h
            refine iv_callIp (As := [.int (zi v38), .int (zi 0)]) (rest := []) (ws1 := wLXgmpwn a hs ag am ap aw an E s51) ⟨hx, hb, hml, hown, hts⟩ (k_X7_button l E a hs H.size N v38 0 s46.1 u49 q50) (cwV 2 hts gL_areButtons_X7_button rfl rfl rfl (by decide +kernel) ⟨Nat.le_of_ble_eq_true rfl, Nat.le_of_ble_eq_true rfl⟩) hK hP hD hS hA 0 7 rfl rfl (pm_last) (by rw [e52]; exact pm_last) rfl hl.1 (Nat.le_of_ble_eq_true rfl) ⟨Nat.le_of_ble_eq_true rfl, Nat.le_of_ble_eq_true rfl⟩ dL_areButtons_170 (fun H locs hP hD hS => ?_)
            refine lv_aload_n hx hb dL_areButtons_173 rfl (lv_at hl 2 rfl) ?_
            refine iv_iconst hx hb dL_areButtons_174 ?_
            refine lv_iload hx hb dL_areButtons_175 (lv_at hl 9 rfl) ?_
            refine iv_imul hx hb dL_areButtons_177 ?_
            obtain ⟨g53, h⟩ := gd_t h
            refine iv_iald (f := s51.2.1) (j := (3 * v38).toNat) hx hb hK.1 hP 126 0 rfl rfl (by decide) g53 rfl dL_areButtons_178 ?_
            obtain ⟨g54, h⟩ := gd_t h
            obtain ⟨g55, h⟩ := gd_t h
            obtain ⟨j58, e59, h⟩ := jn2_t h
            have hj58 : ∀ (v56 : Int) (s57 : bLXgmpwn) (H : Heap) (locs : List Loc) (ls : Array Slot), j58 v56 s57 = some u → va_P E.1 vwCl (wLXgmpwn a hs ag am ap aw an E s57) H → va_D A (wLXgmpwn a hs ag am ap aw an E s57) → va_S A s.heap H locs → lv_has ls 11 [(10, .int (zi v45)), (0, .ref (a 0)), (1, .ref (ag 0)), (2, .ref (am 0)), (3, .ref (ap 0)), (4, .ref (aw 0)), (5, .ref (an 0)), (6, .int (zi v36)), (7, .int (zi v37)), (8, .int (zi v38)), (9, .int (zi v39))] → W p l e ({ frames := 4, cells := 0, slots := 0, locals := 85 }) s m ([.ref (a 0), .ref (ag 0), .ref (am 0), .ref (ap 0), .ref (aw 0), .ref (an 0)] : List Value).toArray below meth c H locs 0 0 (MQ below (mQi E (wLXgmpwn a hs ag am ap aw an E u.2) u.1 A) ([.ref (a 0), .ref (ag 0), .ref (am 0), .ref (ap 0), .ref (aw 0), .ref (an 0)] : List Value).toArray s 0 0 A) (F0 m 377 ls [.int (zi v56)]) := by
              intro v56 s57 H locs ls h hP hD hS hl
              rw [e59] at h
              refine lv_istore (lv' := [(7, .int (zi v56)), (10, .int (zi v45)), (0, .ref (a 0)), (1, .ref (ag 0)), (2, .ref (am 0)), (3, .ref (ap 0)), (4, .ref (aw 0)), (5, .ref (an 0)), (6, .int (zi v36)), (8, .int (zi v38)), (9, .int (zi v39))]) hx hb dL_areButtons_377 hl (by decide) rfl (fun ls hl => ?_)
              refine lv_iload hx hb dL_areButtons_379 (lv_at hl 8 rfl) ?_
              refine lv_aload_n hx hb dL_areButtons_381 rfl (lv_at hl 4 rfl) ?_
              refine iv_iconst hx hb dL_areButtons_382 ?_
              refine lv_iload hx hb dL_areButtons_383 (lv_at hl 9 rfl) ?_
              refine iv_imul hx hb dL_areButtons_385 ?_
              refine iv_iald (f := s57.2.2.1) (j := (3 * v38).toNat) hx hb hK.1 hP 127 0 rfl rfl (by decide) g53 rfl dL_areButtons_386 ?_
              refine iv_iadd hx hb dL_areButtons_387 ?_
              obtain ⟨v60, e61, h⟩ := nm_t h
              refine iv_nm e61 ?_
              refine lv_istore (lv' := [(6, .int (zi v60)), (7, .int (zi v56)), (10, .int (zi v45)), (0, .ref (a 0)), (1, .ref (ag 0)), (2, .ref (am 0)), (3, .ref (ap 0)), (4, .ref (aw 0)), (5, .ref (an 0)), (8, .int (zi v38)), (9, .int (zi v39))]) hx hb dL_areButtons_388 hl (by decide) rfl (fun ls hl => ?_)
              refine lv_iinc (v := zi (v38 + 1)) (lv' := [(8, .int (zi (v38 + 1))), (6, .int (zi v60)), (7, .int (zi v56)), (10, .int (zi v45)), (0, .ref (a 0)), (1, .ref (ag 0)), (2, .ref (am 0)), (3, .ref (ap 0)), (4, .ref (aw 0)), (5, .ref (an 0)), (9, .int (zi v39))]) hx hb dL_areButtons_390 hl (k := 9) rfl (by rw [zi_add]; rfl) (by decide) rfl (fun ls hl => ?_)
              refine lv_goto (tgt := 36) hx hb dL_areButtons_393 (by decide) ?_
              exact ih v60 v56 (v38 + 1) s57 _ _ _ h hP hD hS (lv_sub hl [4, 5, 6, 7, 8, 9, 1, 2, 0] rfl)
            refine iv_ine (tgt := 376) hx hb g54 g55 dL_areButtons_179 (by decide) (fun c62 => ?_) (fun c62 => ?_)
            · have h := it_f c62 h
              refine iv_iconst hx hb dL_areButtons_376 ?_
              exact hj58 0 s51 _ _ _ h hP hD hS (lv_sub hl [0, 1, 2, 3, 4, 5, 6, 7, 8, 9, 10] rfl)
            · have h := it_t c62 h
              refine lv_aload_n hx hb dL_areButtons_182 rfl (lv_at hl 1 rfl) ?_
              refine lv_iload hx hb dL_areButtons_183 (lv_at hl 9 rfl) ?_
              refine iv_iconst hx hb dL_areButtons_185 ?_
              obtain ⟨u63, q64, h⟩ := bd_t h
              obtain ⟨s65, e66, h⟩ := nm_t h
              refine iv_callIp (As := [.int (zi v38), .int (zi 1)]) (rest := []) (ws1 := wLXgmpwn a hs ag am ap aw an E s65) ⟨hx, hb, hml, hown, hts⟩ (k_X7_button l E a hs H.size N v38 1 s51.1 u63 q64) (cwV 2 hts gL_areButtons_X7_button rfl rfl rfl (by decide +kernel) ⟨Nat.le_of_ble_eq_true rfl, Nat.le_of_ble_eq_true rfl⟩) hK hP hD hS hA 0 7 rfl rfl (pm_last) (by rw [e66]; exact pm_last) rfl hl.1 (Nat.le_of_ble_eq_true rfl) ⟨Nat.le_of_ble_eq_true rfl, Nat.le_of_ble_eq_true rfl⟩ dL_areButtons_186 (fun H locs hP hD hS => ?_)
              refine lv_aload_n hx hb dL_areButtons_189 rfl (lv_at hl 2 rfl) ?_
              refine iv_iconst hx hb dL_areButtons_190 ?_
              refine lv_iload hx hb dL_areButtons_191 (lv_at hl 9 rfl) ?_
              refine iv_imul hx hb dL_areButtons_193 ?_
              refine iv_iconst hx hb dL_areButtons_194 ?_
              refine iv_iadd hx hb dL_areButtons_195 ?_
              obtain ⟨g67, h⟩ := gd_t h
              refine iv_iald (f := s65.2.1) (j := ((3 * v38) + 1).toNat) hx hb hK.1 hP 126 0 rfl rfl (by decide) g67 rfl dL_areButtons_196 ?_
              obtain ⟨g68, h⟩ := gd_t h
              obtain ⟨g69, h⟩ := gd_t h
              refine iv_ine (tgt := 376) hx hb g68 g69 dL_areButtons_197 (by decide) (fun c70 => ?_) (fun c70 => ?_)
              · have h := it_f c70 h
                refine iv_iconst hx hb dL_areButtons_376 ?_
                exact hj58 0 s65 _ _ _ h hP hD hS (lv_sub hl [0, 1, 2, 3, 4, 5, 6, 7, 8, 9, 10] rfl)
              · have h := it_t c70 h
                refine lv_aload_n hx hb dL_areButtons_200 rfl (lv_at hl 1 rfl) ?_
                refine lv_iload hx hb dL_areButtons_201 (lv_at hl 9 rfl) ?_
                refine iv_iconst hx hb dL_areButtons_203 ?_
                obtain ⟨u71, q72, h⟩ := bd_t h
                obtain ⟨s73, e74, h⟩ := nm_t h
                refine iv_callIp (As := [.int (zi v38), .int (zi 2)]) (rest := []) (ws1 := wLXgmpwn a hs ag am ap aw an E s73) ⟨hx, hb, hml, hown, hts⟩ (k_X7_button l E a hs H.size N v38 2 s65.1 u71 q72) (cwV 2 hts gL_areButtons_X7_button rfl rfl rfl (by decide +kernel) ⟨Nat.le_of_ble_eq_true rfl, Nat.le_of_ble_eq_true rfl⟩) hK hP hD hS hA 0 7 rfl rfl (pm_last) (by rw [e74]; exact pm_last) rfl hl.1 (Nat.le_of_ble_eq_true rfl) ⟨Nat.le_of_ble_eq_true rfl, Nat.le_of_ble_eq_true rfl⟩ dL_areButtons_204 (fun H locs hP hD hS => ?_)
                refine lv_aload_n hx hb dL_areButtons_207 rfl (lv_at hl 2 rfl) ?_
                refine iv_iconst hx hb dL_areButtons_208 ?_
                refine lv_iload hx hb dL_areButtons_209 (lv_at hl 9 rfl) ?_
                refine iv_imul hx hb dL_areButtons_211 ?_
                refine iv_iconst hx hb dL_areButtons_212 ?_
                refine iv_iadd hx hb dL_areButtons_213 ?_
                obtain ⟨g75, h⟩ := gd_t h
                refine iv_iald (f := s73.2.1) (j := ((3 * v38) + 2).toNat) hx hb hK.1 hP 126 0 rfl rfl (by decide) g75 rfl dL_areButtons_214 ?_
                obtain ⟨g76, h⟩ := gd_t h
                obtain ⟨g77, h⟩ := gd_t h
                refine iv_ine (tgt := 376) hx hb g76 g77 dL_areButtons_215 (by decide) (fun c78 => ?_) (fun c78 => ?_)
                · have h := it_f c78 h
                  refine iv_iconst hx hb dL_areButtons_376 ?_
                  exact hj58 0 s73 _ _ _ h hP hD hS (lv_sub hl [0, 1, 2, 3, 4, 5, 6, 7, 8, 9, 10] rfl)
                · have h := it_t c78 h
                  refine lv_aload_n hx hb dL_areButtons_218 rfl (lv_at hl 1 rfl) ?_
                  refine lv_iload hx hb dL_areButtons_219 (lv_at hl 9 rfl) ?_
                  refine iv_iconst hx hb dL_areButtons_221 ?_
                  obtain ⟨u79, q80, h⟩ := bd_t h
                  obtain ⟨s81, e82, h⟩ := nm_t h
                  refine iv_callIp (As := [.int (zi v38), .int (zi 3)]) (rest := []) (ws1 := wLXgmpwn a hs ag am ap aw an E s81) ⟨hx, hb, hml, hown, hts⟩ (k_X7_button l E a hs H.size N v38 3 s73.1 u79 q80) (cwV 2 hts gL_areButtons_X7_button rfl rfl rfl (by decide +kernel) ⟨Nat.le_of_ble_eq_true rfl, Nat.le_of_ble_eq_true rfl⟩) hK hP hD hS hA 0 7 rfl rfl (pm_last) (by rw [e82]; exact pm_last) rfl hl.1 (Nat.le_of_ble_eq_true rfl) ⟨Nat.le_of_ble_eq_true rfl, Nat.le_of_ble_eq_true rfl⟩ dL_areButtons_222 (fun H locs hP hD hS => ?_)
                  refine lv_aload_n hx hb dL_areButtons_225 rfl (lv_at hl 3 rfl) ?_
                  refine iv_iconst hx hb dL_areButtons_226 ?_
                  refine lv_iload hx hb dL_areButtons_227 (lv_at hl 9 rfl) ?_
                  refine iv_imul hx hb dL_areButtons_229 ?_
                  refine iv_iald (f := s81.2.2.1) (j := (3 * v38).toNat) hx hb hK.1 hP 127 0 rfl rfl (by decide) g53 rfl dL_areButtons_230 ?_
                  obtain ⟨g83, h⟩ := gd_t h
                  obtain ⟨g84, h⟩ := gd_t h
                  refine iv_ine (tgt := 376) hx hb g83 g84 dL_areButtons_231 (by decide) (fun c85 => ?_) (fun c85 => ?_)
                  · have h := it_f c85 h
                    refine iv_iconst hx hb dL_areButtons_376 ?_
                    exact hj58 0 s81 _ _ _ h hP hD hS (lv_sub hl [0, 1, 2, 3, 4, 5, 6, 7, 8, 9, 10] rfl)
                  · have h := it_t c85 h
                    refine lv_aload_n hx hb dL_areButtons_234 rfl (lv_at hl 1 rfl) ?_
                    refine lv_iload hx hb dL_areButtons_235 (lv_at hl 9 rfl) ?_
                    refine iv_iconst hx hb dL_areButtons_237 ?_
                    obtain ⟨u86, q87, h⟩ := bd_t h
                    obtain ⟨s88, e89, h⟩ := nm_t h
                    refine iv_callIp (As := [.int (zi v38), .int (zi 4)]) (rest := []) (ws1 := wLXgmpwn a hs ag am ap aw an E s88) ⟨hx, hb, hml, hown, hts⟩ (k_X7_button l E a hs H.size N v38 4 s81.1 u86 q87) (cwV 2 hts gL_areButtons_X7_button rfl rfl rfl (by decide +kernel) ⟨Nat.le_of_ble_eq_true rfl, Nat.le_of_ble_eq_true rfl⟩) hK hP hD hS hA 0 7 rfl rfl (pm_last) (by rw [e89]; exact pm_last) rfl hl.1 (Nat.le_of_ble_eq_true rfl) ⟨Nat.le_of_ble_eq_true rfl, Nat.le_of_ble_eq_true rfl⟩ dL_areButtons_238 (fun H locs hP hD hS => ?_)
                    refine lv_aload_n hx hb dL_areButtons_241 rfl (lv_at hl 3 rfl) ?_
                    refine iv_iconst hx hb dL_areButtons_242 ?_
                    refine lv_iload hx hb dL_areButtons_243 (lv_at hl 9 rfl) ?_
                    refine iv_imul hx hb dL_areButtons_245 ?_
                    refine iv_iconst hx hb dL_areButtons_246 ?_
                    refine iv_iadd hx hb dL_areButtons_247 ?_
                    refine iv_iald (f := s88.2.2.1) (j := ((3 * v38) + 1).toNat) hx hb hK.1 hP 127 0 rfl rfl (by decide) g67 rfl dL_areButtons_248 ?_
                    obtain ⟨g90, h⟩ := gd_t h
                    obtain ⟨g91, h⟩ := gd_t h
                    refine iv_ine (tgt := 376) hx hb g90 g91 dL_areButtons_249 (by decide) (fun c92 => ?_) (fun c92 => ?_)
                    · have h := it_f c92 h
                      refine iv_iconst hx hb dL_areButtons_376 ?_
                      exact hj58 0 s88 _ _ _ h hP hD hS (lv_sub hl [0, 1, 2, 3, 4, 5, 6, 7, 8, 9, 10] rfl)
                    · have h := it_t c92 h
                      refine lv_aload_n hx hb dL_areButtons_252 rfl (lv_at hl 1 rfl) ?_
                      refine lv_iload hx hb dL_areButtons_253 (lv_at hl 9 rfl) ?_
                      refine iv_iconst hx hb dL_areButtons_255 ?_
                      obtain ⟨u93, q94, h⟩ := bd_t h
                      obtain ⟨s95, e96, h⟩ := nm_t h
                      refine iv_callIp (As := [.int (zi v38), .int (zi 5)]) (rest := []) (ws1 := wLXgmpwn a hs ag am ap aw an E s95) ⟨hx, hb, hml, hown, hts⟩ (k_X7_button l E a hs H.size N v38 5 s88.1 u93 q94) (cwV 2 hts gL_areButtons_X7_button rfl rfl rfl (by decide +kernel) ⟨Nat.le_of_ble_eq_true rfl, Nat.le_of_ble_eq_true rfl⟩) hK hP hD hS hA 0 7 rfl rfl (pm_last) (by rw [e96]; exact pm_last) rfl hl.1 (Nat.le_of_ble_eq_true rfl) ⟨Nat.le_of_ble_eq_true rfl, Nat.le_of_ble_eq_true rfl⟩ dL_areButtons_256 (fun H locs hP hD hS => ?_)
                      refine lv_aload_n hx hb dL_areButtons_259 rfl (lv_at hl 4 rfl) ?_
                      refine iv_iconst hx hb dL_areButtons_260 ?_
                      refine lv_iload hx hb dL_areButtons_261 (lv_at hl 9 rfl) ?_
                      refine iv_imul hx hb dL_areButtons_263 ?_
                      refine iv_iald (f := s95.2.2.2.1) (j := (3 * v38).toNat) hx hb hK.1 hP 128 0 rfl rfl (by decide) g53 rfl dL_areButtons_264 ?_
                      obtain ⟨g97, h⟩ := gd_t h
                      obtain ⟨g98, h⟩ := gd_t h
                      refine iv_ine (tgt := 376) hx hb g97 g98 dL_areButtons_265 (by decide) (fun c99 => ?_) (fun c99 => ?_)
                      · have h := it_f c99 h
                        refine iv_iconst hx hb dL_areButtons_376 ?_
                        exact hj58 0 s95 _ _ _ h hP hD hS (lv_sub hl [0, 1, 2, 3, 4, 5, 6, 7, 8, 9, 10] rfl)
                      · have h := it_t c99 h
                        refine lv_aload_n hx hb dL_areButtons_268 rfl (lv_at hl 1 rfl) ?_
                        refine lv_iload hx hb dL_areButtons_269 (lv_at hl 9 rfl) ?_
                        refine iv_bipush hx hb dL_areButtons_271 (by decide +kernel) ?_
                        obtain ⟨u100, q101, h⟩ := bd_t h
                        obtain ⟨s102, e103, h⟩ := nm_t h
                        refine iv_callIp (As := [.int (zi v38), .int (zi 6)]) (rest := []) (ws1 := wLXgmpwn a hs ag am ap aw an E s102) ⟨hx, hb, hml, hown, hts⟩ (k_X7_button l E a hs H.size N v38 6 s95.1 u100 q101) (cwV 2 hts gL_areButtons_X7_button rfl rfl rfl (by decide +kernel) ⟨Nat.le_of_ble_eq_true rfl, Nat.le_of_ble_eq_true rfl⟩) hK hP hD hS hA 0 7 rfl rfl (pm_last) (by rw [e103]; exact pm_last) rfl hl.1 (Nat.le_of_ble_eq_true rfl) ⟨Nat.le_of_ble_eq_true rfl, Nat.le_of_ble_eq_true rfl⟩ dL_areButtons_273 (fun H locs hP hD hS => ?_)
                        refine lv_aload_n hx hb dL_areButtons_276 rfl (lv_at hl 4 rfl) ?_
                        refine iv_iconst hx hb dL_areButtons_277 ?_
                        refine lv_iload hx hb dL_areButtons_278 (lv_at hl 9 rfl) ?_
                        refine iv_imul hx hb dL_areButtons_280 ?_
                        refine iv_iconst hx hb dL_areButtons_281 ?_
                        refine iv_iadd hx hb dL_areButtons_282 ?_
                        refine iv_iald (f := s102.2.2.2.1) (j := ((3 * v38) + 1).toNat) hx hb hK.1 hP 128 0 rfl rfl (by decide) g67 rfl dL_areButtons_283 ?_
                        obtain ⟨g104, h⟩ := gd_t h
                        obtain ⟨g105, h⟩ := gd_t h
                        refine iv_ine (tgt := 376) hx hb g104 g105 dL_areButtons_284 (by decide) (fun c106 => ?_) (fun c106 => ?_)
                        · have h := it_f c106 h
                          refine iv_iconst hx hb dL_areButtons_376 ?_
                          exact hj58 0 s102 _ _ _ h hP hD hS (lv_sub hl [0, 1, 2, 3, 4, 5, 6, 7, 8, 9, 10] rfl)
                        · have h := it_t c106 h
                          refine lv_aload_n hx hb dL_areButtons_287 rfl (lv_at hl 1 rfl) ?_
                          refine lv_iload hx hb dL_areButtons_288 (lv_at hl 9 rfl) ?_
                          refine iv_bipush hx hb dL_areButtons_290 (by decide +kernel) ?_
                          obtain ⟨u107, q108, h⟩ := bd_t h
                          obtain ⟨s109, e110, h⟩ := nm_t h
                          refine iv_callIp (As := [.int (zi v38), .int (zi 7)]) (rest := []) (ws1 := wLXgmpwn a hs ag am ap aw an E s109) ⟨hx, hb, hml, hown, hts⟩ (k_X7_button l E a hs H.size N v38 7 s102.1 u107 q108) (cwV 2 hts gL_areButtons_X7_button rfl rfl rfl (by decide +kernel) ⟨Nat.le_of_ble_eq_true rfl, Nat.le_of_ble_eq_true rfl⟩) hK hP hD hS hA 0 7 rfl rfl (pm_last) (by rw [e110]; exact pm_last) rfl hl.1 (Nat.le_of_ble_eq_true rfl) ⟨Nat.le_of_ble_eq_true rfl, Nat.le_of_ble_eq_true rfl⟩ dL_areButtons_292 (fun H locs hP hD hS => ?_)
                          refine lv_iload hx hb dL_areButtons_295 (lv_at hl 10 rfl) ?_
                          obtain ⟨g111, h⟩ := gd_t h
                          obtain ⟨g112, h⟩ := gd_t h
                          refine iv_ine (tgt := 376) hx hb g111 g112 dL_areButtons_297 (by decide) (fun c113 => ?_) (fun c113 => ?_)
                          · have h := it_f c113 h
                            refine iv_iconst hx hb dL_areButtons_376 ?_
                            exact hj58 0 s109 _ _ _ h hP hD hS (lv_sub hl [0, 1, 2, 3, 4, 5, 6, 7, 8, 9, 10] rfl)
                          · have h := it_t c113 h
                            refine lv_aload_n hx hb dL_areButtons_300 rfl (lv_at hl 1 rfl) ?_
                            refine lv_iload hx hb dL_areButtons_301 (lv_at hl 9 rfl) ?_
                            refine iv_bipush hx hb dL_areButtons_303 (by decide +kernel) ?_
                            obtain ⟨u114, q115, h⟩ := bd_t h
                            obtain ⟨s116, e117, h⟩ := nm_t h
                            refine iv_callIp (As := [.int (zi v38), .int (zi 8)]) (rest := []) (ws1 := wLXgmpwn a hs ag am ap aw an E s116) ⟨hx, hb, hml, hown, hts⟩ (k_X7_button l E a hs H.size N v38 8 s109.1 u114 q115) (cwV 2 hts gL_areButtons_X7_button rfl rfl rfl (by decide +kernel) ⟨Nat.le_of_ble_eq_true rfl, Nat.le_of_ble_eq_true rfl⟩) hK hP hD hS hA 0 7 rfl rfl (pm_last) (by rw [e117]; exact pm_last) rfl hl.1 (Nat.le_of_ble_eq_true rfl) ⟨Nat.le_of_ble_eq_true rfl, Nat.le_of_ble_eq_true rfl⟩ dL_areButtons_305 (fun H locs hP hD hS => ?_)
                            refine lv_aload_n hx hb dL_areButtons_308 rfl (lv_at hl 4 rfl) ?_
                            refine iv_iconst hx hb dL_areButtons_309 ?_
                            refine lv_iload hx hb dL_areButtons_310 (lv_at hl 9 rfl) ?_
                            refine iv_imul hx hb dL_areButtons_312 ?_
                            refine iv_iconst hx hb dL_areButtons_313 ?_
                            refine iv_iadd hx hb dL_areButtons_314 ?_
                            refine iv_iald (f := s116.2.2.2.1) (j := ((3 * v38) + 2).toNat) hx hb hK.1 hP 128 0 rfl rfl (by decide) g75 rfl dL_areButtons_315 ?_
                            obtain ⟨g118, h⟩ := gd_t h
                            obtain ⟨g119, h⟩ := gd_t h
                            refine iv_ine (tgt := 376) hx hb g118 g119 dL_areButtons_316 (by decide) (fun c120 => ?_) (fun c120 => ?_)
                            · have h := it_f c120 h
                              refine iv_iconst hx hb dL_areButtons_376 ?_
                              exact hj58 0 s116 _ _ _ h hP hD hS (lv_sub hl [0, 1, 2, 3, 4, 5, 6, 7, 8, 9, 10] rfl)
                            · have h := it_t c120 h
                              refine lv_aload_n hx hb dL_areButtons_319 rfl (lv_at hl 1 rfl) ?_
                              refine lv_iload hx hb dL_areButtons_320 (lv_at hl 9 rfl) ?_
                              refine iv_bipush hx hb dL_areButtons_322 (by decide +kernel) ?_
                              obtain ⟨u121, q122, h⟩ := bd_t h
                              obtain ⟨s123, e124, h⟩ := nm_t h
                              refine iv_callIp (As := [.int (zi v38), .int (zi 9)]) (rest := []) (ws1 := wLXgmpwn a hs ag am ap aw an E s123) ⟨hx, hb, hml, hown, hts⟩ (k_X7_button l E a hs H.size N v38 9 s116.1 u121 q122) (cwV 2 hts gL_areButtons_X7_button rfl rfl rfl (by decide +kernel) ⟨Nat.le_of_ble_eq_true rfl, Nat.le_of_ble_eq_true rfl⟩) hK hP hD hS hA 0 7 rfl rfl (pm_last) (by rw [e124]; exact pm_last) rfl hl.1 (Nat.le_of_ble_eq_true rfl) ⟨Nat.le_of_ble_eq_true rfl, Nat.le_of_ble_eq_true rfl⟩ dL_areButtons_324 (fun H locs hP hD hS => ?_)
                              refine lv_aload_n hx hb dL_areButtons_327 rfl (lv_at hl 3 rfl) ?_
                              refine iv_iconst hx hb dL_areButtons_328 ?_
                              refine lv_iload hx hb dL_areButtons_329 (lv_at hl 9 rfl) ?_
                              refine iv_imul hx hb dL_areButtons_331 ?_
                              refine iv_iconst hx hb dL_areButtons_332 ?_
                              refine iv_iadd hx hb dL_areButtons_333 ?_
                              refine iv_iald (f := s123.2.2.1) (j := ((3 * v38) + 2).toNat) hx hb hK.1 hP 127 0 rfl rfl (by decide) g75 rfl dL_areButtons_334 ?_
                              obtain ⟨g125, h⟩ := gd_t h
                              obtain ⟨g126, h⟩ := gd_t h
                              refine iv_ine (tgt := 376) hx hb g125 g126 dL_areButtons_335 (by decide) (fun c127 => ?_) (fun c127 => ?_)
                              · have h := it_f c127 h
                                refine iv_iconst hx hb dL_areButtons_376 ?_
                                exact hj58 0 s123 _ _ _ h hP hD hS (lv_sub hl [0, 1, 2, 3, 4, 5, 6, 7, 8, 9, 10] rfl)
                              · have h := it_t c127 h
                                refine lv_aload_n hx hb dL_areButtons_338 rfl (lv_at hl 1 rfl) ?_
                                refine lv_iload hx hb dL_areButtons_339 (lv_at hl 9 rfl) ?_
                                refine iv_bipush hx hb dL_areButtons_341 (by decide +kernel) ?_
                                obtain ⟨u128, q129, h⟩ := bd_t h
                                obtain ⟨s130, e131, h⟩ := nm_t h
                                refine iv_callIp (As := [.int (zi v38), .int (zi 10)]) (rest := []) (ws1 := wLXgmpwn a hs ag am ap aw an E s130) ⟨hx, hb, hml, hown, hts⟩ (k_X7_button l E a hs H.size N v38 10 s123.1 u128 q129) (cwV 2 hts gL_areButtons_X7_button rfl rfl rfl (by decide +kernel) ⟨Nat.le_of_ble_eq_true rfl, Nat.le_of_ble_eq_true rfl⟩) hK hP hD hS hA 0 7 rfl rfl (pm_last) (by rw [e131]; exact pm_last) rfl hl.1 (Nat.le_of_ble_eq_true rfl) ⟨Nat.le_of_ble_eq_true rfl, Nat.le_of_ble_eq_true rfl⟩ dL_areButtons_343 (fun H locs hP hD hS => ?_)
                                refine iv_bipush hx hb dL_areButtons_346 (by decide +kernel) ?_
                                obtain ⟨g132, h⟩ := gd_t h
                                refine iv_ine (tgt := 376) hx hb g132 (by decide +kernel) dL_areButtons_348 (by decide) (fun c133 => ?_) (fun c133 => ?_)
                                · have h := it_f c133 h
                                  refine iv_iconst hx hb dL_areButtons_376 ?_
                                  exact hj58 0 s130 _ _ _ h hP hD hS (lv_sub hl [0, 1, 2, 3, 4, 5, 6, 7, 8, 9, 10] rfl)
                                · have h := it_t c133 h
                                  refine lv_aload_n hx hb dL_areButtons_351 rfl (lv_at hl 1 rfl) ?_
                                  refine lv_iload hx hb dL_areButtons_352 (lv_at hl 9 rfl) ?_
                                  obtain ⟨u134, q135, h⟩ := bd_t h
                                  obtain ⟨s136, e137, h⟩ := nm_t h
                                  refine iv_callIp (As := [.int (zi v38)]) (rest := []) (ws1 := wLXgmpwn a hs ag am ap aw an E s136) ⟨hx, hb, hml, hown, hts⟩ (k_X7_goesTo l E a hs H.size N v38 s130.1 u134 q135) (cwV 1 hts gL_areButtons_X7_goesTo rfl rfl rfl (by decide +kernel) ⟨Nat.le_of_ble_eq_true rfl, Nat.le_of_ble_eq_true rfl⟩) hK hP hD hS hA 0 7 rfl rfl (pm_last) (by rw [e137]; exact pm_last) rfl hl.1 (Nat.le_of_ble_eq_true rfl) ⟨Nat.le_of_ble_eq_true rfl, Nat.le_of_ble_eq_true rfl⟩ dL_areButtons_354 (fun H locs hP hD hS => ?_)
                                  refine lv_iload hx hb dL_areButtons_357 (lv_at hl 10 rfl) ?_
                                  obtain ⟨j140, e141, h⟩ := jn2_t h
                                  have hj140 : ∀ (v138 : Int) (s139 : bLXgmpwn) (H : Heap) (locs : List Loc) (ls : Array Slot), j140 v138 s139 = some u → va_P E.1 vwCl (wLXgmpwn a hs ag am ap aw an E s139) H → va_D A (wLXgmpwn a hs ag am ap aw an E s139) → va_S A s.heap H locs → lv_has ls 11 [(10, .int (zi v45)), (0, .ref (a 0)), (1, .ref (ag 0)), (2, .ref (am 0)), (3, .ref (ap 0)), (4, .ref (aw 0)), (5, .ref (an 0)), (6, .int (zi v36)), (7, .int (zi v37)), (8, .int (zi v38)), (9, .int (zi v39))] → W p l e ({ frames := 4, cells := 0, slots := 0, locals := 85 }) s m ([.ref (a 0), .ref (ag 0), .ref (am 0), .ref (ap 0), .ref (aw 0), .ref (an 0)] : List Value).toArray below meth c H locs 0 0 (MQ below (mQi E (wLXgmpwn a hs ag am ap aw an E u.2) u.1 A) ([.ref (a 0), .ref (ag 0), .ref (am 0), .ref (ap 0), .ref (aw 0), .ref (an 0)] : List Value).toArray s 0 0 A) (F0 m 369 ls [.int (zi v138), .int (zi u134.1)]) := by
                                    intro v138 s139 H locs ls h hP hD hS hl
                                    rw [e141] at h
                                    obtain ⟨g142, h⟩ := gd_t h
                                    obtain ⟨g143, h⟩ := gd_t h
                                    refine iv_ine (tgt := 376) hx hb g142 g143 dL_areButtons_369 (by decide) (fun c144 => ?_) (fun c144 => ?_)
                                    · have h := it_f c144 h
                                      refine iv_iconst hx hb dL_areButtons_376 ?_
                                      exact hj58 0 s139 _ _ _ h hP hD hS (lv_sub hl [0, 1, 2, 3, 4, 5, 6, 7, 8, 9, 10] rfl)
                                    · have h := it_t c144 h
                                      refine iv_iconst hx hb dL_areButtons_372 ?_
                                      refine lv_goto (tgt := 377) hx hb dL_areButtons_373 (by decide) ?_
                                      exact hj58 1 s139 _ _ _ h hP hD hS (lv_sub hl [0, 1, 2, 3, 4, 5, 6, 7, 8, 9, 10] rfl)
                                  refine iv_ge (tgt := 367) hx hb g112 dL_areButtons_359 (by decide) (fun c145 => ?_) (fun c145 => ?_)
                                  · have h := it_t c145 h
                                    refine lv_iload hx hb dL_areButtons_367 (lv_at hl 0 rfl) ?_
                                    exact hj140 v45 s136 _ _ _ h hP hD hS (lv_sub hl [0, 1, 2, 3, 4, 5, 6, 7, 8, 9, 10] rfl)
                                  · have h := it_f c145 h
                                    refine iv_bipush hx hb dL_areButtons_362 (by decide +kernel) ?_
                                    refine lv_goto (tgt := 369) hx hb dL_areButtons_364 (by decide) ?_
                                    exact hj140 (-4) s136 _ _ _ h hP hD hS (lv_sub hl [0, 1, 2, 3, 4, 5, 6, 7, 8, 9, 10] rfl)
          refine iv_ine (tgt := 130) hx hb g44 (by decide +kernel) dL_areButtons_107 (by decide) (fun c146 => ?_) (fun c146 => ?_)
          · have h := it_f c146 h
            refine lv_iload hx hb dL_areButtons_130 (lv_at hl 0 rfl) ?_
            refine iv_iconst hx hb dL_areButtons_132 ?_
            refine iv_ine (tgt := 162) hx hb g44 (by decide +kernel) dL_areButtons_133 (by decide) (fun c147 => ?_) (fun c147 => ?_)
            · have h := it_f c147 h
              refine lv_iload hx hb dL_areButtons_162 (lv_at hl 0 rfl) ?_
              exact hj47 u42 s41 _ _ _ h hP hD hS (lv_sub hl [0, 1, 2, 3, 4, 5, 6, 7, 8, 9, 10] rfl)
            · have h := it_t c147 h
              refine lv_aload_n hx hb dL_areButtons_136 rfl (lv_at hl 4 rfl) ?_
              refine lv_aload hx hb dL_areButtons_137 (lv_at hl 6 rfl) ?_
              refine lv_aload_n hx hb dL_areButtons_139 rfl (lv_at hl 2 rfl) ?_
              refine lv_aload hx hb dL_areButtons_140 (lv_at hl 6 rfl) ?_
              refine lv_iload hx hb dL_areButtons_142 (lv_at hl 9 rfl) ?_
              obtain ⟨u148, q149, h⟩ := bd_t h
              refine iv_callWI (As := [.ref (ag 0), .ref (an 0), .int (zi v38)]) (rest := [.ref (an 0), .ref (ap 0)]) (ws1 := wLXgmpwn a hs ag am ap aw an E s41) ⟨hx, hb, hml, hown, hts⟩ (k_L_binOf l E ag an H.size N v38 (s41.2.1, s41.2.2.2.2.2) u148 q149) (va_cwS 3 hts gL_areButtons_L_binOf rfl rfl rfl (by decide +kernel) ⟨Nat.le_of_ble_eq_true rfl, Nat.le_of_ble_eq_true rfl⟩) hK hP hD hS hA (pm_skip (pm_take (pm_skip (pm_skip (pm_skip (pm_end)))))) (pm_skip (pm_take (pm_skip (pm_skip (pm_skip (pm_end)))))) rfl hl.1 (Nat.le_of_ble_eq_true rfl) ⟨Nat.le_of_ble_eq_true rfl, Nat.le_of_ble_eq_true rfl⟩ dL_areButtons_144 (fun H locs hP hD hS => ?_)
              obtain ⟨u150, q151, h⟩ := bd_t h
              refine iv_callWI (As := [.ref (ap 0), .ref (an 0), .int (zi u148)]) (rest := []) (ws1 := wLXgmpwn a hs ag am ap aw an E s41) ⟨hx, hb, hml, hown, hts⟩ (k_L_in l E ap an H.size N u148 (s41.2.2.2.1, s41.2.2.2.2.2) u150 q151) (va_cwS 3 hts gL_areButtons_L_in rfl rfl rfl (by decide +kernel) ⟨Nat.le_of_ble_eq_true rfl, Nat.le_of_ble_eq_true rfl⟩) hK hP hD hS hA (pm_skip (pm_skip (pm_skip (pm_take (pm_skip (pm_end)))))) (pm_skip (pm_skip (pm_skip (pm_take (pm_skip (pm_end)))))) rfl hl.1 (Nat.le_of_ble_eq_true rfl) ⟨Nat.le_of_ble_eq_true rfl, Nat.le_of_ble_eq_true rfl⟩ dL_areButtons_147 (fun H locs hP hD hS => ?_)
              refine lv_aload hx hb dL_areButtons_150 (lv_at hl 6 rfl) ?_
              refine iv_bipush hx hb dL_areButtons_152 (by decide +kernel) ?_
              refine iv_iald (f := s41.2.2.2.2.2) (j := 6) hx hb hK.1 hP 130 0 rfl rfl (by decide) (by decide +kernel) rfl dL_areButtons_154 ?_
              obtain ⟨g152, h⟩ := gd_t h
              obtain ⟨g153, h⟩ := gd_t h
              refine iv_ilt (tgt := 162) hx hb g152 g153 dL_areButtons_155 (by decide) (fun c154 => ?_) (fun c154 => ?_)
              · have h := it_t c154 h
                refine lv_iload hx hb dL_areButtons_162 (lv_at hl 0 rfl) ?_
                exact hj47 u42 s41 _ _ _ h hP hD hS (lv_sub hl [0, 1, 2, 3, 4, 5, 6, 7, 8, 9, 10] rfl)
              · have h := it_f c154 h
                refine iv_iconst hx hb dL_areButtons_158 ?_
                refine lv_goto (tgt := 164) hx hb dL_areButtons_159 (by decide) ?_
                exact hj47 0 s41 _ _ _ h hP hD hS (lv_sub hl [0, 1, 2, 3, 4, 5, 6, 7, 8, 9, 10] rfl)
          · have h := it_t c146 h
            refine lv_aload_n hx hb dL_areButtons_110 rfl (lv_at hl 4 rfl) ?_
            refine lv_aload hx hb dL_areButtons_111 (lv_at hl 6 rfl) ?_
            refine iv_iconst hx hb dL_areButtons_113 ?_
            obtain ⟨u155, q156, h⟩ := bd_t h
            refine iv_callWI (As := [.ref (ap 0), .ref (an 0), .int (zi 2)]) (rest := []) (ws1 := wLXgmpwn a hs ag am ap aw an E s41) ⟨hx, hb, hml, hown, hts⟩ (k_L_at l E ap an H.size N 2 (s41.2.2.2.1, s41.2.2.2.2.2) u155 q156) (va_cwS 3 hts gL_areButtons_L_at rfl rfl rfl (by decide +kernel) ⟨Nat.le_of_ble_eq_true rfl, Nat.le_of_ble_eq_true rfl⟩) hK hP hD hS hA (pm_skip (pm_skip (pm_skip (pm_take (pm_skip (pm_end)))))) (pm_skip (pm_skip (pm_skip (pm_take (pm_skip (pm_end)))))) rfl hl.1 (Nat.le_of_ble_eq_true rfl) ⟨Nat.le_of_ble_eq_true rfl, Nat.le_of_ble_eq_true rfl⟩ dL_areButtons_114 (fun H locs hP hD hS => ?_)
            refine iv_iconst hx hb dL_areButtons_117 ?_
            refine iv_iadd hx hb dL_areButtons_118 ?_
            refine lv_aload hx hb dL_areButtons_119 (lv_at hl 6 rfl) ?_
            refine iv_iconst hx hb dL_areButtons_121 ?_
            refine iv_iald (f := s41.2.2.2.2.2) (j := 5) hx hb hK.1 hP 130 0 rfl rfl (by decide) (by decide +kernel) rfl dL_areButtons_122 ?_
            obtain ⟨g157, h⟩ := gd_t h
            obtain ⟨g158, h⟩ := gd_t h
            refine iv_ilt (tgt := 130) hx hb g157 g158 dL_areButtons_123 (by decide) (fun c159 => ?_) (fun c159 => ?_)
            · have h := it_t c159 h
              refine lv_iload hx hb dL_areButtons_130 (lv_at hl 0 rfl) ?_
              refine iv_iconst hx hb dL_areButtons_132 ?_
              refine iv_ine (tgt := 162) hx hb g44 (by decide +kernel) dL_areButtons_133 (by decide) (fun c160 => ?_) (fun c160 => ?_)
              · have h := it_f c160 h
                refine lv_iload hx hb dL_areButtons_162 (lv_at hl 0 rfl) ?_
                exact hj47 u42 s41 _ _ _ h hP hD hS (lv_sub hl [0, 1, 2, 3, 4, 5, 6, 7, 8, 9, 10] rfl)
              · have h := it_t c160 h
                refine lv_aload_n hx hb dL_areButtons_136 rfl (lv_at hl 4 rfl) ?_
                refine lv_aload hx hb dL_areButtons_137 (lv_at hl 6 rfl) ?_
                refine lv_aload_n hx hb dL_areButtons_139 rfl (lv_at hl 2 rfl) ?_
                refine lv_aload hx hb dL_areButtons_140 (lv_at hl 6 rfl) ?_
                refine lv_iload hx hb dL_areButtons_142 (lv_at hl 9 rfl) ?_
                obtain ⟨u161, q162, h⟩ := bd_t h
                refine iv_callWI (As := [.ref (ag 0), .ref (an 0), .int (zi v38)]) (rest := [.ref (an 0), .ref (ap 0)]) (ws1 := wLXgmpwn a hs ag am ap aw an E s41) ⟨hx, hb, hml, hown, hts⟩ (k_L_binOf l E ag an H.size N v38 (s41.2.1, s41.2.2.2.2.2) u161 q162) (va_cwS 3 hts gL_areButtons_L_binOf rfl rfl rfl (by decide +kernel) ⟨Nat.le_of_ble_eq_true rfl, Nat.le_of_ble_eq_true rfl⟩) hK hP hD hS hA (pm_skip (pm_take (pm_skip (pm_skip (pm_skip (pm_end)))))) (pm_skip (pm_take (pm_skip (pm_skip (pm_skip (pm_end)))))) rfl hl.1 (Nat.le_of_ble_eq_true rfl) ⟨Nat.le_of_ble_eq_true rfl, Nat.le_of_ble_eq_true rfl⟩ dL_areButtons_144 (fun H locs hP hD hS => ?_)
                obtain ⟨u163, q164, h⟩ := bd_t h
                refine iv_callWI (As := [.ref (ap 0), .ref (an 0), .int (zi u161)]) (rest := []) (ws1 := wLXgmpwn a hs ag am ap aw an E s41) ⟨hx, hb, hml, hown, hts⟩ (k_L_in l E ap an H.size N u161 (s41.2.2.2.1, s41.2.2.2.2.2) u163 q164) (va_cwS 3 hts gL_areButtons_L_in rfl rfl rfl (by decide +kernel) ⟨Nat.le_of_ble_eq_true rfl, Nat.le_of_ble_eq_true rfl⟩) hK hP hD hS hA (pm_skip (pm_skip (pm_skip (pm_take (pm_skip (pm_end)))))) (pm_skip (pm_skip (pm_skip (pm_take (pm_skip (pm_end)))))) rfl hl.1 (Nat.le_of_ble_eq_true rfl) ⟨Nat.le_of_ble_eq_true rfl, Nat.le_of_ble_eq_true rfl⟩ dL_areButtons_147 (fun H locs hP hD hS => ?_)
                refine lv_aload hx hb dL_areButtons_150 (lv_at hl 6 rfl) ?_
                refine iv_bipush hx hb dL_areButtons_152 (by decide +kernel) ?_
                refine iv_iald (f := s41.2.2.2.2.2) (j := 6) hx hb hK.1 hP 130 0 rfl rfl (by decide) (by decide +kernel) rfl dL_areButtons_154 ?_
                obtain ⟨g165, h⟩ := gd_t h
                obtain ⟨g166, h⟩ := gd_t h
                refine iv_ilt (tgt := 162) hx hb g165 g166 dL_areButtons_155 (by decide) (fun c167 => ?_) (fun c167 => ?_)
                · have h := it_t c167 h
                  refine lv_iload hx hb dL_areButtons_162 (lv_at hl 0 rfl) ?_
                  exact hj47 u42 s41 _ _ _ h hP hD hS (lv_sub hl [0, 1, 2, 3, 4, 5, 6, 7, 8, 9, 10] rfl)
                · have h := it_f c167 h
                  refine iv_iconst hx hb dL_areButtons_158 ?_
                  refine lv_goto (tgt := 164) hx hb dL_areButtons_159 (by decide) ?_
                  exact hj47 0 s41 _ _ _ h hP hD hS (lv_sub hl [0, 1, 2, 3, 4, 5, 6, 7, 8, 9, 10] rfl)
            · have h := it_f c159 h
              refine iv_iconst hx hb dL_areButtons_126 ?_
              refine lv_goto (tgt := 164) hx hb dL_areButtons_127 (by decide) ?_
              exact hj47 3 s41 _ _ _ h hP hD hS (lv_sub hl [0, 1, 2, 3, 4, 5, 6, 7, 8, 9, 10] rfl)
  have loop399 : ∀ (kt : Int → Int → Int → bLXgmpwn → Option (Int × bLXgmpwn)) (n : Nat), (∀ (v172 : Int) (v173 : Int) (v174 : Int) (s175 : bLXgmpwn) (H : Heap) (locs : List Loc) (ls : Array Slot), kt v172 v173 v174 s175 = some u → va_P E.1 vwCl (wLXgmpwn a hs ag am ap aw an E s175) H → va_D A (wLXgmpwn a hs ag am ap aw an E s175) → va_S A s.heap H locs → lv_has ls 11 [(0, .ref (a 0)), (1, .ref (ag 0)), (2, .ref (am 0)), (3, .ref (ap 0)), (4, .ref (aw 0)), (5, .ref (an 0)), (6, .int (zi v172)), (7, .int (zi v173)), (8, .int (zi v174))] → W p l e ({ frames := 4, cells := 0, slots := 0, locals := 85 }) s m ([.ref (a 0), .ref (ag 0), .ref (am 0), .ref (ap 0), .ref (aw 0), .ref (an 0)] : List Value).toArray below meth c H locs 0 0 (MQ below (mQi E (wLXgmpwn a hs ag am ap aw an E u.2) u.1 A) ([.ref (a 0), .ref (ag 0), .ref (am 0), .ref (ap 0), .ref (aw 0), .ref (an 0)] : List Value).toArray s 0 0 A) (F0 m 465 ls [])) → ∀ (v172 : Int) (v173 : Int) (v174 : Int) (s175 : bLXgmpwn) (H : Heap) (locs : List Loc) (ls : Array Slot), f_L_areButtons_L399 N kt n v172 v173 v174 s175 = some u → va_P E.1 vwCl (wLXgmpwn a hs ag am ap aw an E s175) H → va_D A (wLXgmpwn a hs ag am ap aw an E s175) → va_S A s.heap H locs → lv_has ls 11 [(0, .ref (a 0)), (1, .ref (ag 0)), (2, .ref (am 0)), (3, .ref (ap 0)), (4, .ref (aw 0)), (5, .ref (an 0)), (6, .int (zi v172)), (7, .int (zi v173)), (8, .int (zi v174))] → W p l e ({ frames := 4, cells := 0, slots := 0, locals := 85 }) s m ([.ref (a 0), .ref (ag 0), .ref (am 0), .ref (ap 0), .ref (aw 0), .ref (an 0)] : List Value).toArray below meth c H locs 0 0 (MQ below (mQi E (wLXgmpwn a hs ag am ap aw an E u.2) u.1 A) ([.ref (a 0), .ref (ag 0), .ref (am 0), .ref (ap 0), .ref (aw 0), .ref (an 0)] : List Value).toArray s 0 0 A) (F0 m 399 ls []) := by
    intro kt n hk
    induction n with
    | zero =>
      intro v172 v173 v174 s175 H locs ls h
      exact absurd (show (none : Option (Int × bLXgmpwn)) = some u from h) (by simp)
    | succ n ih =>
      intro v172 v173 v174 s175 H locs ls h hP hD hS hl
      rw [f_L_areButtons_L399] at h
      refine lv_iload hx hb dL_areButtons_399 (lv_at hl 8 rfl) ?_
      refine iv_bipush hx hb dL_areButtons_401 (by decide +kernel) ?_
      obtain ⟨g176, h⟩ := gd_t h
      refine iv_ige (tgt := 465) hx hb g176 (by decide +kernel) dL_areButtons_403 (by decide) (fun c177 => ?_) (fun c177 => ?_)
      · have h := it_t c177 h
        exact hk v172 v173 v174 s175 _ _ _ h hP hD hS (lv_sub hl [0, 1, 2, 3, 4, 5, 6, 7, 8] rfl)
      · have h := it_f c177 h
        refine lv_iload hx hb dL_areButtons_406 (lv_at hl 7 rfl) ?_
        obtain ⟨g178, h⟩ := gd_t h
        obtain ⟨j181, e182, h⟩ := jn2_t h
        have hj181 : ∀ (v179 : Int) (s180 : bLXgmpwn) (H : Heap) (locs : List Loc) (ls : Array Slot), j181 v179 s180 = some u → va_P E.1 vwCl (wLXgmpwn a hs ag am ap aw an E s180) H → va_D A (wLXgmpwn a hs ag am ap aw an E s180) → va_S A s.heap H locs → lv_has ls 11 [(0, .ref (a 0)), (1, .ref (ag 0)), (2, .ref (am 0)), (3, .ref (ap 0)), (4, .ref (aw 0)), (5, .ref (an 0)), (6, .int (zi v172)), (7, .int (zi v173)), (8, .int (zi v174))] → W p l e ({ frames := 4, cells := 0, slots := 0, locals := 85 }) s m ([.ref (a 0), .ref (ag 0), .ref (am 0), .ref (ap 0), .ref (aw 0), .ref (an 0)] : List Value).toArray below meth c H locs 0 0 (MQ below (mQi E (wLXgmpwn a hs ag am ap aw an E u.2) u.1 A) ([.ref (a 0), .ref (ag 0), .ref (am 0), .ref (ap 0), .ref (aw 0), .ref (an 0)] : List Value).toArray s 0 0 A) (F0 m 457 ls [.int (zi v179)]) := by
          intro v179 s180 H locs ls h hP hD hS hl
          rw [e182] at h
          refine lv_istore (lv' := [(7, .int (zi v179)), (0, .ref (a 0)), (1, .ref (ag 0)), (2, .ref (am 0)), (3, .ref (ap 0)), (4, .ref (aw 0)), (5, .ref (an 0)), (6, .int (zi v172)), (8, .int (zi v174))]) hx hb dL_areButtons_457 hl (by decide) rfl (fun ls hl => ?_)
          refine lv_iinc (v := zi (v174 + 1)) (lv' := [(8, .int (zi (v174 + 1))), (7, .int (zi v179)), (0, .ref (a 0)), (1, .ref (ag 0)), (2, .ref (am 0)), (3, .ref (ap 0)), (4, .ref (aw 0)), (5, .ref (an 0)), (6, .int (zi v172))]) hx hb dL_areButtons_459 hl (k := 8) rfl (by rw [zi_add]; rfl) (by decide) rfl (fun ls hl => ?_)
          refine lv_goto (tgt := 399) hx hb dL_areButtons_462 (by decide) ?_
          exact ih v172 v179 (v174 + 1) s180 _ _ _ h hP hD hS (lv_sub hl [2, 3, 4, 5, 6, 7, 8, 1, 0] rfl)
        refine iv_eq (tgt := 456) hx hb g178 dL_areButtons_408 (by decide) (fun c183 => ?_) (fun c183 => ?_)
        · have h := it_t c183 h
          refine iv_iconst hx hb dL_areButtons_456 ?_
          exact hj181 0 s175 _ _ _ h hP hD hS (lv_sub hl [0, 1, 2, 3, 4, 5, 6, 7, 8] rfl)
        · have h := it_f c183 h
          refine lv_aload_n hx hb dL_areButtons_411 rfl (lv_at hl 0 rfl) ?_
          refine lv_iload hx hb dL_areButtons_412 (lv_at hl 8 rfl) ?_
          obtain ⟨u184, q185, h⟩ := bd_t h
          obtain ⟨s186, e187, h⟩ := nm_t h
          refine iv_callIp (As := [.int (zi v174)]) (rest := []) (ws1 := wLXgmpwn a hs ag am ap aw an E s186) ⟨hx, hb, hml, hown, hts⟩ (k_X7_total l E a hs H.size N v174 s175.1 u184 q185) (cwV 1 hts gL_areButtons_X7_total rfl rfl rfl (by decide +kernel) ⟨Nat.le_of_ble_eq_true rfl, Nat.le_of_ble_eq_true rfl⟩) hK hP hD hS hA 0 7 rfl rfl (pm_last) (by rw [e187]; exact pm_last) rfl hl.1 (Nat.le_of_ble_eq_true rfl) ⟨Nat.le_of_ble_eq_true rfl, Nat.le_of_ble_eq_true rfl⟩ dL_areButtons_414 (fun H locs hP hD hS => ?_)
          refine lv_aload hx hb dL_areButtons_417 (lv_at hl 5 rfl) ?_
          refine lv_iload hx hb dL_areButtons_419 (lv_at hl 8 rfl) ?_
          obtain ⟨g188, h⟩ := gd_t h
          refine iv_iald (f := s186.2.2.2.2.2) (j := v174.toNat) hx hb hK.1 hP 130 0 rfl rfl (by decide) g188 rfl dL_areButtons_421 ?_
          obtain ⟨g189, h⟩ := gd_t h
          obtain ⟨g190, h⟩ := gd_t h
          refine iv_ine (tgt := 456) hx hb g189 g190 dL_areButtons_422 (by decide) (fun c191 => ?_) (fun c191 => ?_)
          · have h := it_f c191 h
            refine iv_iconst hx hb dL_areButtons_456 ?_
            exact hj181 0 s186 _ _ _ h hP hD hS (lv_sub hl [0, 1, 2, 3, 4, 5, 6, 7, 8] rfl)
          · have h := it_t c191 h
            refine lv_iload hx hb dL_areButtons_425 (lv_at hl 8 rfl) ?_
            refine iv_bipush hx hb dL_areButtons_427 (by decide +kernel) ?_
            refine iv_ieq (tgt := 452) hx hb g176 (by decide +kernel) dL_areButtons_429 (by decide) (fun c192 => ?_) (fun c192 => ?_)
            · have h := it_t c192 h
              refine iv_iconst hx hb dL_areButtons_452 ?_
              refine lv_goto (tgt := 457) hx hb dL_areButtons_453 (by decide) ?_
              exact hj181 1 s186 _ _ _ h hP hD hS (lv_sub hl [0, 1, 2, 3, 4, 5, 6, 7, 8] rfl)
            · have h := it_f c192 h
              refine lv_aload_n hx hb dL_areButtons_432 rfl (lv_at hl 0 rfl) ?_
              refine iv_bipush hx hb dL_areButtons_433 (by decide +kernel) ?_
              refine lv_iload hx hb dL_areButtons_435 (lv_at hl 8 rfl) ?_
              refine iv_iadd hx hb dL_areButtons_437 ?_
              obtain ⟨u193, q194, h⟩ := bd_t h
              obtain ⟨s195, e196, h⟩ := nm_t h
              refine iv_callIp (As := [.int (zi (9 + v174))]) (rest := []) (ws1 := wLXgmpwn a hs ag am ap aw an E s195) ⟨hx, hb, hml, hown, hts⟩ (k_X7_total l E a hs H.size N (9 + v174) s186.1 u193 q194) (cwV 1 hts gL_areButtons_X7_total rfl rfl rfl (by decide +kernel) ⟨Nat.le_of_ble_eq_true rfl, Nat.le_of_ble_eq_true rfl⟩) hK hP hD hS hA 0 7 rfl rfl (pm_last) (by rw [e196]; exact pm_last) rfl hl.1 (Nat.le_of_ble_eq_true rfl) ⟨Nat.le_of_ble_eq_true rfl, Nat.le_of_ble_eq_true rfl⟩ dL_areButtons_438 (fun H locs hP hD hS => ?_)
              refine lv_aload_n hx hb dL_areButtons_441 rfl (lv_at hl 3 rfl) ?_
              refine lv_aload hx hb dL_areButtons_442 (lv_at hl 5 rfl) ?_
              refine lv_iload hx hb dL_areButtons_444 (lv_at hl 8 rfl) ?_
              obtain ⟨u197, q198, h⟩ := bd_t h
              refine iv_callWI (As := [.ref (ap 0), .ref (an 0), .int (zi v174)]) (rest := [.int (zi u193.1)]) (ws1 := wLXgmpwn a hs ag am ap aw an E s195) ⟨hx, hb, hml, hown, hts⟩ (k_L_at l E ap an H.size N v174 (s195.2.2.2.1, s195.2.2.2.2.2) u197 q198) (va_cwS 3 hts gL_areButtons_L_at rfl rfl rfl (by decide +kernel) ⟨Nat.le_of_ble_eq_true rfl, Nat.le_of_ble_eq_true rfl⟩) hK hP hD hS hA (pm_skip (pm_skip (pm_skip (pm_take (pm_skip (pm_end)))))) (pm_skip (pm_skip (pm_skip (pm_take (pm_skip (pm_end)))))) rfl hl.1 (Nat.le_of_ble_eq_true rfl) ⟨Nat.le_of_ble_eq_true rfl, Nat.le_of_ble_eq_true rfl⟩ dL_areButtons_446 (fun H locs hP hD hS => ?_)
              obtain ⟨g199, h⟩ := gd_t h
              obtain ⟨g200, h⟩ := gd_t h
              refine iv_ine (tgt := 456) hx hb g199 g200 dL_areButtons_449 (by decide) (fun c201 => ?_) (fun c201 => ?_)
              · have h := it_f c201 h
                refine iv_iconst hx hb dL_areButtons_456 ?_
                exact hj181 0 s195 _ _ _ h hP hD hS (lv_sub hl [0, 1, 2, 3, 4, 5, 6, 7, 8] rfl)
              · have h := it_t c201 h
                refine iv_iconst hx hb dL_areButtons_452 ?_
                refine lv_goto (tgt := 457) hx hb dL_areButtons_453 (by decide) ?_
                exact hj181 1 s195 _ _ _ h hP hD hS (lv_sub hl [0, 1, 2, 3, 4, 5, 6, 7, 8] rfl)
  have loop468 : ∀ (kt : Int → Int → Int → bLXgmpwn → Option (Int × bLXgmpwn)) (n : Nat), (∀ (v206 : Int) (v207 : Int) (v208 : Int) (s209 : bLXgmpwn) (H : Heap) (locs : List Loc) (ls : Array Slot), kt v206 v207 v208 s209 = some u → va_P E.1 vwCl (wLXgmpwn a hs ag am ap aw an E s209) H → va_D A (wLXgmpwn a hs ag am ap aw an E s209) → va_S A s.heap H locs → lv_has ls 11 [(0, .ref (a 0)), (1, .ref (ag 0)), (2, .ref (am 0)), (3, .ref (ap 0)), (4, .ref (aw 0)), (5, .ref (an 0)), (6, .int (zi v206)), (7, .int (zi v207)), (8, .int (zi v208))] → W p l e ({ frames := 4, cells := 0, slots := 0, locals := 85 }) s m ([.ref (a 0), .ref (ag 0), .ref (am 0), .ref (ap 0), .ref (aw 0), .ref (an 0)] : List Value).toArray below meth c H locs 0 0 (MQ below (mQi E (wLXgmpwn a hs ag am ap aw an E u.2) u.1 A) ([.ref (a 0), .ref (ag 0), .ref (am 0), .ref (ap 0), .ref (aw 0), .ref (an 0)] : List Value).toArray s 0 0 A) (F0 m 512 ls [])) → ∀ (v206 : Int) (v207 : Int) (v208 : Int) (s209 : bLXgmpwn) (H : Heap) (locs : List Loc) (ls : Array Slot), f_L_areButtons_L468 N kt n v206 v207 v208 s209 = some u → va_P E.1 vwCl (wLXgmpwn a hs ag am ap aw an E s209) H → va_D A (wLXgmpwn a hs ag am ap aw an E s209) → va_S A s.heap H locs → lv_has ls 11 [(0, .ref (a 0)), (1, .ref (ag 0)), (2, .ref (am 0)), (3, .ref (ap 0)), (4, .ref (aw 0)), (5, .ref (an 0)), (6, .int (zi v206)), (7, .int (zi v207)), (8, .int (zi v208))] → W p l e ({ frames := 4, cells := 0, slots := 0, locals := 85 }) s m ([.ref (a 0), .ref (ag 0), .ref (am 0), .ref (ap 0), .ref (aw 0), .ref (an 0)] : List Value).toArray below meth c H locs 0 0 (MQ below (mQi E (wLXgmpwn a hs ag am ap aw an E u.2) u.1 A) ([.ref (a 0), .ref (ag 0), .ref (am 0), .ref (ap 0), .ref (aw 0), .ref (an 0)] : List Value).toArray s 0 0 A) (F0 m 468 ls []) := by
    intro kt n hk
    induction n with
    | zero =>
      intro v206 v207 v208 s209 H locs ls h
      exact absurd (show (none : Option (Int × bLXgmpwn)) = some u from h) (by simp)
    | succ n ih =>
      intro v206 v207 v208 s209 H locs ls h hP hD hS hl
      rw [f_L_areButtons_L468] at h
      refine lv_iload hx hb dL_areButtons_468 (lv_at hl 8 rfl) ?_
      refine iv_iconst hx hb dL_areButtons_470 ?_
      obtain ⟨g210, h⟩ := gd_t h
      refine iv_ige (tgt := 512) hx hb g210 (by decide +kernel) dL_areButtons_471 (by decide) (fun c211 => ?_) (fun c211 => ?_)
      · have h := it_t c211 h
        exact hk v206 v207 v208 s209 _ _ _ h hP hD hS (lv_sub hl [0, 1, 2, 3, 4, 5, 6, 7, 8] rfl)
      · have h := it_f c211 h
        refine lv_iload hx hb dL_areButtons_474 (lv_at hl 7 rfl) ?_
        obtain ⟨g212, h⟩ := gd_t h
        obtain ⟨j215, e216, h⟩ := jn2_t h
        have hj215 : ∀ (v213 : Int) (s214 : bLXgmpwn) (H : Heap) (locs : List Loc) (ls : Array Slot), j215 v213 s214 = some u → va_P E.1 vwCl (wLXgmpwn a hs ag am ap aw an E s214) H → va_D A (wLXgmpwn a hs ag am ap aw an E s214) → va_S A s.heap H locs → lv_has ls 11 [(0, .ref (a 0)), (1, .ref (ag 0)), (2, .ref (am 0)), (3, .ref (ap 0)), (4, .ref (aw 0)), (5, .ref (an 0)), (6, .int (zi v206)), (7, .int (zi v207)), (8, .int (zi v208))] → W p l e ({ frames := 4, cells := 0, slots := 0, locals := 85 }) s m ([.ref (a 0), .ref (ag 0), .ref (am 0), .ref (ap 0), .ref (aw 0), .ref (an 0)] : List Value).toArray below meth c H locs 0 0 (MQ below (mQi E (wLXgmpwn a hs ag am ap aw an E u.2) u.1 A) ([.ref (a 0), .ref (ag 0), .ref (am 0), .ref (ap 0), .ref (aw 0), .ref (an 0)] : List Value).toArray s 0 0 A) (F0 m 504 ls [.int (zi v213)]) := by
          intro v213 s214 H locs ls h hP hD hS hl
          rw [e216] at h
          refine lv_istore (lv' := [(7, .int (zi v213)), (0, .ref (a 0)), (1, .ref (ag 0)), (2, .ref (am 0)), (3, .ref (ap 0)), (4, .ref (aw 0)), (5, .ref (an 0)), (6, .int (zi v206)), (8, .int (zi v208))]) hx hb dL_areButtons_504 hl (by decide) rfl (fun ls hl => ?_)
          refine lv_iinc (v := zi (v208 + 1)) (lv' := [(8, .int (zi (v208 + 1))), (7, .int (zi v213)), (0, .ref (a 0)), (1, .ref (ag 0)), (2, .ref (am 0)), (3, .ref (ap 0)), (4, .ref (aw 0)), (5, .ref (an 0)), (6, .int (zi v206))]) hx hb dL_areButtons_506 hl (k := 8) rfl (by rw [zi_add]; rfl) (by decide) rfl (fun ls hl => ?_)
          refine lv_goto (tgt := 468) hx hb dL_areButtons_509 (by decide) ?_
          exact ih v206 v213 (v208 + 1) s214 _ _ _ h hP hD hS (lv_sub hl [2, 3, 4, 5, 6, 7, 8, 1, 0] rfl)
        refine iv_eq (tgt := 503) hx hb g212 dL_areButtons_476 (by decide) (fun c217 => ?_) (fun c217 => ?_)
        · have h := it_t c217 h
          refine iv_iconst hx hb dL_areButtons_503 ?_
          exact hj215 0 s209 _ _ _ h hP hD hS (lv_sub hl [0, 1, 2, 3, 4, 5, 6, 7, 8] rfl)
        · have h := it_f c217 h
          refine lv_aload_n hx hb dL_areButtons_479 rfl (lv_at hl 0 rfl) ?_
          refine iv_bipush hx hb dL_areButtons_480 (by decide +kernel) ?_
          refine lv_iload hx hb dL_areButtons_482 (lv_at hl 8 rfl) ?_
          refine iv_iadd hx hb dL_areButtons_484 ?_
          obtain ⟨u218, q219, h⟩ := bd_t h
          obtain ⟨s220, e221, h⟩ := nm_t h
          refine iv_callIp (As := [.int (zi (16 + v208))]) (rest := []) (ws1 := wLXgmpwn a hs ag am ap aw an E s220) ⟨hx, hb, hml, hown, hts⟩ (k_X7_total l E a hs H.size N (16 + v208) s209.1 u218 q219) (cwV 1 hts gL_areButtons_X7_total rfl rfl rfl (by decide +kernel) ⟨Nat.le_of_ble_eq_true rfl, Nat.le_of_ble_eq_true rfl⟩) hK hP hD hS hA 0 7 rfl rfl (pm_last) (by rw [e221]; exact pm_last) rfl hl.1 (Nat.le_of_ble_eq_true rfl) ⟨Nat.le_of_ble_eq_true rfl, Nat.le_of_ble_eq_true rfl⟩ dL_areButtons_485 (fun H locs hP hD hS => ?_)
          refine lv_aload hx hb dL_areButtons_488 (lv_at hl 5 rfl) ?_
          refine iv_bipush hx hb dL_areButtons_490 (by decide +kernel) ?_
          refine lv_iload hx hb dL_areButtons_492 (lv_at hl 8 rfl) ?_
          refine iv_iadd hx hb dL_areButtons_494 ?_
          obtain ⟨g222, h⟩ := gd_t h
          refine iv_iald (f := s220.2.2.2.2.2) (j := (8 + v208).toNat) hx hb hK.1 hP 130 0 rfl rfl (by decide) g222 rfl dL_areButtons_495 ?_
          obtain ⟨g223, h⟩ := gd_t h
          obtain ⟨g224, h⟩ := gd_t h
          refine iv_ine (tgt := 503) hx hb g223 g224 dL_areButtons_496 (by decide) (fun c225 => ?_) (fun c225 => ?_)
          · have h := it_f c225 h
            refine iv_iconst hx hb dL_areButtons_503 ?_
            exact hj215 0 s220 _ _ _ h hP hD hS (lv_sub hl [0, 1, 2, 3, 4, 5, 6, 7, 8] rfl)
          · have h := it_t c225 h
            refine iv_iconst hx hb dL_areButtons_499 ?_
            refine lv_goto (tgt := 504) hx hb dL_areButtons_500 (by decide) ?_
            exact hj215 1 s220 _ _ _ h hP hD hS (lv_sub hl [0, 1, 2, 3, 4, 5, 6, 7, 8] rfl)
  have h := hf
  rw [f_L_areButtons] at h
  refine iv_iconst hx hb dL_areButtons_0 ?_
  refine lv_istore (lv' := [(6, .int (zi 0)), (0, .ref (a 0)), (1, .ref (ag 0)), (2, .ref (am 0)), (3, .ref (ap 0)), (4, .ref (aw 0)), (5, .ref (an 0))]) hx hb dL_areButtons_1 hl (by decide) rfl (fun ls hl => ?_)
  refine lv_aload_n hx hb dL_areButtons_3 rfl (lv_at hl 1 rfl) ?_
  refine lv_aload hx hb dL_areButtons_4 (lv_at hl 6 rfl) ?_
  refine iv_bipush hx hb dL_areButtons_6 (by decide +kernel) ?_
  refine iv_iald (f := z.2.2.2.2.2) (j := 13) hx hb hK.1 hP 130 0 rfl rfl (by decide) (by decide +kernel) rfl dL_areButtons_8 ?_
  refine iv_iconst hx hb dL_areButtons_9 ?_
  obtain ⟨u1, q2, h⟩ := bd_t h
  obtain ⟨s3, e4, h⟩ := nm_t h
  refine iv_callIp (As := [.int (zi (z.2.2.2.2.2 13)), .int (zi 0)]) (rest := []) (ws1 := wLXgmpwn a hs ag am ap aw an E s3) ⟨hx, hb, hml, hown, hts⟩ (k_X7_button l E a hs H.size N (z.2.2.2.2.2 13) 0 z.1 u1 q2) (cwV 2 hts gL_areButtons_X7_button rfl rfl rfl (by decide +kernel) ⟨Nat.le_of_ble_eq_true rfl, Nat.le_of_ble_eq_true rfl⟩) hK hP hD hS hA 0 7 rfl rfl (pm_last) (by rw [e4]; exact pm_last) rfl hl.1 (Nat.le_of_ble_eq_true rfl) ⟨Nat.le_of_ble_eq_true rfl, Nat.le_of_ble_eq_true rfl⟩ dL_areButtons_10 (fun H locs hP hD hS => ?_)
  refine iv_iconst hx hb dL_areButtons_13 ?_
  obtain ⟨g5, h⟩ := gd_t h
  obtain ⟨j8, e9, h⟩ := jn2_t h
  have hj8 : ∀ (v6 : Int) (s7 : bLXgmpwn) (H : Heap) (locs : List Loc) (ls : Array Slot), j8 v6 s7 = some u → va_P E.1 vwCl (wLXgmpwn a hs ag am ap aw an E s7) H → va_D A (wLXgmpwn a hs ag am ap aw an E s7) → va_S A s.heap H locs → lv_has ls 11 [(6, .int (zi 0)), (0, .ref (a 0)), (1, .ref (ag 0)), (2, .ref (am 0)), (3, .ref (ap 0)), (4, .ref (aw 0)), (5, .ref (an 0))] → W p l e ({ frames := 4, cells := 0, slots := 0, locals := 85 }) s m ([.ref (a 0), .ref (ag 0), .ref (am 0), .ref (ap 0), .ref (aw 0), .ref (an 0)] : List Value).toArray below meth c H locs 0 0 (MQ below (mQi E (wLXgmpwn a hs ag am ap aw an E u.2) u.1 A) ([.ref (a 0), .ref (ag 0), .ref (am 0), .ref (ap 0), .ref (aw 0), .ref (an 0)] : List Value).toArray s 0 0 A) (F0 m 31 ls [.int (zi v6)]) := by
    intro v6 s7 H locs ls h hP hD hS hl
    rw [e9] at h
    refine lv_istore (lv' := [(7, .int (zi v6)), (6, .int (zi 0)), (0, .ref (a 0)), (1, .ref (ag 0)), (2, .ref (am 0)), (3, .ref (ap 0)), (4, .ref (aw 0)), (5, .ref (an 0))]) hx hb dL_areButtons_31 hl (by decide) rfl (fun ls hl => ?_)
    refine iv_iconst hx hb dL_areButtons_33 ?_
    refine lv_istore (lv' := [(8, .int (zi 0)), (7, .int (zi v6)), (6, .int (zi 0)), (0, .ref (a 0)), (1, .ref (ag 0)), (2, .ref (am 0)), (3, .ref (ap 0)), (4, .ref (aw 0)), (5, .ref (an 0))]) hx hb dL_areButtons_34 hl (by decide) rfl (fun ls hl => ?_)
    refine loop36 (fun v168 v169 v170 s171 => f_L_areButtons_L399 N (fun v202 v203 v204 s205 => f_L_areButtons_L468 N (fun v226 v227 v228 s229 => gd (rg v227) <| jn2 (fun (v231 : Int) (s232 : bLXgmpwn) => gd (inb v231 2) <| some (v231, s232)) fun j233 => if v227 = 0 then (j233 0 s229) else (bd (f_X7_total N 8 s229.1) fun u237 => nm (u237.2, s229.2) fun s239 => gd (rg u237.1) <| gd (rg (s239.2.2.2.2.2 13)) <| if u237.1 = (s239.2.2.2.2.2 13) then (bd (f_X7_total N 9 s239.1) fun u244 => nm (u244.2, s239.2) fun s246 => gd (rg u244.1) <| gd (rg (s246.2.2.2.2.2 14)) <| if u244.1 = (s246.2.2.2.2.2 14) then (bd (f_X7_total N 21 s246.1) fun u251 => nm (u251.2, s246.2) fun s253 => gd (rg u251.1) <| gd (rg v226) <| if u251.1 = v226 then (bd (f_X7_total N 24 s253.1) fun u258 => nm (u258.2, s253.2) fun s260 => gd (rg u258.1) <| if u258.1 = (-2) then (j233 1 s260) else (j233 0 s260)) else (j233 0 s253)) else (j233 0 s246)) else (j233 0 s239))) N v202 v203 0 s205) N v168 v169 0 s171) N (fun v168 v169 v170 s171 H locs ls h hP hD hS hl => ?_) 0 v6 0 s7 _ _ _ h hP hD hS (lv_sub hl [3, 4, 5, 6, 7, 8, 2, 1, 0] rfl)
    refine iv_iconst hx hb dL_areButtons_396 ?_
    refine lv_istore (lv' := [(8, .int (zi 0)), (0, .ref (a 0)), (1, .ref (ag 0)), (2, .ref (am 0)), (3, .ref (ap 0)), (4, .ref (aw 0)), (5, .ref (an 0)), (6, .int (zi v168)), (7, .int (zi v169))]) hx hb dL_areButtons_397 hl (by decide) rfl (fun ls hl => ?_)
    refine loop399 (fun v202 v203 v204 s205 => f_L_areButtons_L468 N (fun v226 v227 v228 s229 => gd (rg v227) <| jn2 (fun (v231 : Int) (s232 : bLXgmpwn) => gd (inb v231 2) <| some (v231, s232)) fun j233 => if v227 = 0 then (j233 0 s229) else (bd (f_X7_total N 8 s229.1) fun u237 => nm (u237.2, s229.2) fun s239 => gd (rg u237.1) <| gd (rg (s239.2.2.2.2.2 13)) <| if u237.1 = (s239.2.2.2.2.2 13) then (bd (f_X7_total N 9 s239.1) fun u244 => nm (u244.2, s239.2) fun s246 => gd (rg u244.1) <| gd (rg (s246.2.2.2.2.2 14)) <| if u244.1 = (s246.2.2.2.2.2 14) then (bd (f_X7_total N 21 s246.1) fun u251 => nm (u251.2, s246.2) fun s253 => gd (rg u251.1) <| gd (rg v226) <| if u251.1 = v226 then (bd (f_X7_total N 24 s253.1) fun u258 => nm (u258.2, s253.2) fun s260 => gd (rg u258.1) <| if u258.1 = (-2) then (j233 1 s260) else (j233 0 s260)) else (j233 0 s253)) else (j233 0 s246)) else (j233 0 s239))) N v202 v203 0 s205) N (fun v202 v203 v204 s205 H locs ls h hP hD hS hl => ?_) v168 v169 0 s171 _ _ _ h hP hD hS (lv_sub hl [1, 2, 3, 4, 5, 6, 7, 8, 0] rfl)
    refine iv_iconst hx hb dL_areButtons_465 ?_
    refine lv_istore (lv' := [(8, .int (zi 0)), (0, .ref (a 0)), (1, .ref (ag 0)), (2, .ref (am 0)), (3, .ref (ap 0)), (4, .ref (aw 0)), (5, .ref (an 0)), (6, .int (zi v202)), (7, .int (zi v203))]) hx hb dL_areButtons_466 hl (by decide) rfl (fun ls hl => ?_)
    refine loop468 (fun v226 v227 v228 s229 => gd (rg v227) <| jn2 (fun (v231 : Int) (s232 : bLXgmpwn) => gd (inb v231 2) <| some (v231, s232)) fun j233 => if v227 = 0 then (j233 0 s229) else (bd (f_X7_total N 8 s229.1) fun u237 => nm (u237.2, s229.2) fun s239 => gd (rg u237.1) <| gd (rg (s239.2.2.2.2.2 13)) <| if u237.1 = (s239.2.2.2.2.2 13) then (bd (f_X7_total N 9 s239.1) fun u244 => nm (u244.2, s239.2) fun s246 => gd (rg u244.1) <| gd (rg (s246.2.2.2.2.2 14)) <| if u244.1 = (s246.2.2.2.2.2 14) then (bd (f_X7_total N 21 s246.1) fun u251 => nm (u251.2, s246.2) fun s253 => gd (rg u251.1) <| gd (rg v226) <| if u251.1 = v226 then (bd (f_X7_total N 24 s253.1) fun u258 => nm (u258.2, s253.2) fun s260 => gd (rg u258.1) <| if u258.1 = (-2) then (j233 1 s260) else (j233 0 s260)) else (j233 0 s253)) else (j233 0 s246)) else (j233 0 s239))) N (fun v226 v227 v228 s229 H locs ls h hP hD hS hl => ?_) v202 v203 0 s205 _ _ _ h hP hD hS (lv_sub hl [1, 2, 3, 4, 5, 6, 7, 8, 0] rfl)
    refine lv_iload hx hb dL_areButtons_512 (lv_at hl 7 rfl) ?_
    obtain ⟨g230, h⟩ := gd_t h
    obtain ⟨j233, e234, h⟩ := jn2_t h
    have hj233 : ∀ (v231 : Int) (s232 : bLXgmpwn) (H : Heap) (locs : List Loc) (ls : Array Slot), j233 v231 s232 = some u → va_P E.1 vwCl (wLXgmpwn a hs ag am ap aw an E s232) H → va_D A (wLXgmpwn a hs ag am ap aw an E s232) → va_S A s.heap H locs → lv_has ls 11 [(0, .ref (a 0)), (1, .ref (ag 0)), (2, .ref (am 0)), (3, .ref (ap 0)), (4, .ref (aw 0)), (5, .ref (an 0)), (6, .int (zi v226)), (7, .int (zi v227)), (8, .int (zi v228))] → W p l e ({ frames := 4, cells := 0, slots := 0, locals := 85 }) s m ([.ref (a 0), .ref (ag 0), .ref (am 0), .ref (ap 0), .ref (aw 0), .ref (an 0)] : List Value).toArray below meth c H locs 0 0 (MQ below (mQi E (wLXgmpwn a hs ag am ap aw an E u.2) u.1 A) ([.ref (a 0), .ref (ag 0), .ref (am 0), .ref (ap 0), .ref (aw 0), .ref (an 0)] : List Value).toArray s 0 0 A) (F0 m 572 ls [.int (zi v231)]) := by
      intro v231 s232 H locs ls h hP hD hS hl
      rw [e234] at h
      obtain ⟨g235, h⟩ := gd_t h
      cases h
      exact iv_zret hx hb hr hlocks g235 hK hP hD hS dL_areButtons_572
    refine iv_eq (tgt := 571) hx hb g230 dL_areButtons_514 (by decide) (fun c236 => ?_) (fun c236 => ?_)
    · have h := it_t c236 h
      refine iv_iconst hx hb dL_areButtons_571 ?_
      exact hj233 0 s229 _ _ _ h hP hD hS (lv_sub hl [0, 1, 2, 3, 4, 5, 6, 7, 8] rfl)
    · have h := it_f c236 h
      refine lv_aload_n hx hb dL_areButtons_517 rfl (lv_at hl 0 rfl) ?_
      refine iv_bipush hx hb dL_areButtons_518 (by decide +kernel) ?_
      obtain ⟨u237, q238, h⟩ := bd_t h
      obtain ⟨s239, e240, h⟩ := nm_t h
      refine iv_callIp (As := [.int (zi 8)]) (rest := []) (ws1 := wLXgmpwn a hs ag am ap aw an E s239) ⟨hx, hb, hml, hown, hts⟩ (k_X7_total l E a hs H.size N 8 s229.1 u237 q238) (cwV 1 hts gL_areButtons_X7_total rfl rfl rfl (by decide +kernel) ⟨Nat.le_of_ble_eq_true rfl, Nat.le_of_ble_eq_true rfl⟩) hK hP hD hS hA 0 7 rfl rfl (pm_last) (by rw [e240]; exact pm_last) rfl hl.1 (Nat.le_of_ble_eq_true rfl) ⟨Nat.le_of_ble_eq_true rfl, Nat.le_of_ble_eq_true rfl⟩ dL_areButtons_520 (fun H locs hP hD hS => ?_)
      refine lv_aload hx hb dL_areButtons_523 (lv_at hl 5 rfl) ?_
      refine iv_bipush hx hb dL_areButtons_525 (by decide +kernel) ?_
      refine iv_iald (f := s239.2.2.2.2.2) (j := 13) hx hb hK.1 hP 130 0 rfl rfl (by decide) (by decide +kernel) rfl dL_areButtons_527 ?_
      obtain ⟨g241, h⟩ := gd_t h
      obtain ⟨g242, h⟩ := gd_t h
      refine iv_ine (tgt := 571) hx hb g241 g242 dL_areButtons_528 (by decide) (fun c243 => ?_) (fun c243 => ?_)
      · have h := it_f c243 h
        refine iv_iconst hx hb dL_areButtons_571 ?_
        exact hj233 0 s239 _ _ _ h hP hD hS (lv_sub hl [0, 1, 2, 3, 4, 5, 6, 7, 8] rfl)
      · have h := it_t c243 h
        refine lv_aload_n hx hb dL_areButtons_531 rfl (lv_at hl 0 rfl) ?_
        refine iv_bipush hx hb dL_areButtons_532 (by decide +kernel) ?_
        obtain ⟨u244, q245, h⟩ := bd_t h
        obtain ⟨s246, e247, h⟩ := nm_t h
        refine iv_callIp (As := [.int (zi 9)]) (rest := []) (ws1 := wLXgmpwn a hs ag am ap aw an E s246) ⟨hx, hb, hml, hown, hts⟩ (k_X7_total l E a hs H.size N 9 s239.1 u244 q245) (cwV 1 hts gL_areButtons_X7_total rfl rfl rfl (by decide +kernel) ⟨Nat.le_of_ble_eq_true rfl, Nat.le_of_ble_eq_true rfl⟩) hK hP hD hS hA 0 7 rfl rfl (pm_last) (by rw [e247]; exact pm_last) rfl hl.1 (Nat.le_of_ble_eq_true rfl) ⟨Nat.le_of_ble_eq_true rfl, Nat.le_of_ble_eq_true rfl⟩ dL_areButtons_534 (fun H locs hP hD hS => ?_)
        refine lv_aload hx hb dL_areButtons_537 (lv_at hl 5 rfl) ?_
        refine iv_bipush hx hb dL_areButtons_539 (by decide +kernel) ?_
        refine iv_iald (f := s246.2.2.2.2.2) (j := 14) hx hb hK.1 hP 130 0 rfl rfl (by decide) (by decide +kernel) rfl dL_areButtons_541 ?_
        obtain ⟨g248, h⟩ := gd_t h
        obtain ⟨g249, h⟩ := gd_t h
        refine iv_ine (tgt := 571) hx hb g248 g249 dL_areButtons_542 (by decide) (fun c250 => ?_) (fun c250 => ?_)
        · have h := it_f c250 h
          refine iv_iconst hx hb dL_areButtons_571 ?_
          exact hj233 0 s246 _ _ _ h hP hD hS (lv_sub hl [0, 1, 2, 3, 4, 5, 6, 7, 8] rfl)
        · have h := it_t c250 h
          refine lv_aload_n hx hb dL_areButtons_545 rfl (lv_at hl 0 rfl) ?_
          refine iv_bipush hx hb dL_areButtons_546 (by decide +kernel) ?_
          obtain ⟨u251, q252, h⟩ := bd_t h
          obtain ⟨s253, e254, h⟩ := nm_t h
          refine iv_callIp (As := [.int (zi 21)]) (rest := []) (ws1 := wLXgmpwn a hs ag am ap aw an E s253) ⟨hx, hb, hml, hown, hts⟩ (k_X7_total l E a hs H.size N 21 s246.1 u251 q252) (cwV 1 hts gL_areButtons_X7_total rfl rfl rfl (by decide +kernel) ⟨Nat.le_of_ble_eq_true rfl, Nat.le_of_ble_eq_true rfl⟩) hK hP hD hS hA 0 7 rfl rfl (pm_last) (by rw [e254]; exact pm_last) rfl hl.1 (Nat.le_of_ble_eq_true rfl) ⟨Nat.le_of_ble_eq_true rfl, Nat.le_of_ble_eq_true rfl⟩ dL_areButtons_548 (fun H locs hP hD hS => ?_)
          refine lv_iload hx hb dL_areButtons_551 (lv_at hl 6 rfl) ?_
          obtain ⟨g255, h⟩ := gd_t h
          obtain ⟨g256, h⟩ := gd_t h
          refine iv_ine (tgt := 571) hx hb g255 g256 dL_areButtons_553 (by decide) (fun c257 => ?_) (fun c257 => ?_)
          · have h := it_f c257 h
            refine iv_iconst hx hb dL_areButtons_571 ?_
            exact hj233 0 s253 _ _ _ h hP hD hS (lv_sub hl [0, 1, 2, 3, 4, 5, 6, 7, 8] rfl)
          · have h := it_t c257 h
            refine lv_aload_n hx hb dL_areButtons_556 rfl (lv_at hl 0 rfl) ?_
            refine iv_bipush hx hb dL_areButtons_557 (by decide +kernel) ?_
            obtain ⟨u258, q259, h⟩ := bd_t h
            obtain ⟨s260, e261, h⟩ := nm_t h
            refine iv_callIp (As := [.int (zi 24)]) (rest := []) (ws1 := wLXgmpwn a hs ag am ap aw an E s260) ⟨hx, hb, hml, hown, hts⟩ (k_X7_total l E a hs H.size N 24 s253.1 u258 q259) (cwV 1 hts gL_areButtons_X7_total rfl rfl rfl (by decide +kernel) ⟨Nat.le_of_ble_eq_true rfl, Nat.le_of_ble_eq_true rfl⟩) hK hP hD hS hA 0 7 rfl rfl (pm_last) (by rw [e261]; exact pm_last) rfl hl.1 (Nat.le_of_ble_eq_true rfl) ⟨Nat.le_of_ble_eq_true rfl, Nat.le_of_ble_eq_true rfl⟩ dL_areButtons_559 (fun H locs hP hD hS => ?_)
            refine iv_bipush hx hb dL_areButtons_562 (by decide +kernel) ?_
            obtain ⟨g262, h⟩ := gd_t h
            refine iv_ine (tgt := 571) hx hb g262 (by decide +kernel) dL_areButtons_564 (by decide) (fun c263 => ?_) (fun c263 => ?_)
            · have h := it_f c263 h
              refine iv_iconst hx hb dL_areButtons_571 ?_
              exact hj233 0 s260 _ _ _ h hP hD hS (lv_sub hl [0, 1, 2, 3, 4, 5, 6, 7, 8] rfl)
            · have h := it_t c263 h
              refine iv_iconst hx hb dL_areButtons_567 ?_
              refine lv_goto (tgt := 572) hx hb dL_areButtons_568 (by decide) ?_
              exact hj233 1 s260 _ _ _ h hP hD hS (lv_sub hl [0, 1, 2, 3, 4, 5, 6, 7, 8] rfl)
  refine iv_ine (tgt := 30) hx hb g5 (by decide +kernel) dL_areButtons_14 (by decide) (fun c264 => ?_) (fun c264 => ?_)
  · have h := it_f c264 h
    refine iv_iconst hx hb dL_areButtons_30 ?_
    exact hj8 0 s3 _ _ _ h hP hD hS (lv_sub hl [0, 1, 2, 3, 4, 5, 6] rfl)
  · have h := it_t c264 h
    refine lv_aload_n hx hb dL_areButtons_17 rfl (lv_at hl 1 rfl) ?_
    refine iv_iconst hx hb dL_areButtons_18 ?_
    obtain ⟨u265, q266, h⟩ := bd_t h
    obtain ⟨s267, e268, h⟩ := nm_t h
    refine iv_callIp (As := [.int (zi (-1))]) (rest := []) (ws1 := wLXgmpwn a hs ag am ap aw an E s267) ⟨hx, hb, hml, hown, hts⟩ (k_X7_goesTo l E a hs H.size N (-1) s3.1 u265 q266) (cwV 1 hts gL_areButtons_X7_goesTo rfl rfl rfl (by decide +kernel) ⟨Nat.le_of_ble_eq_true rfl, Nat.le_of_ble_eq_true rfl⟩) hK hP hD hS hA 0 7 rfl rfl (pm_last) (by rw [e268]; exact pm_last) rfl hl.1 (Nat.le_of_ble_eq_true rfl) ⟨Nat.le_of_ble_eq_true rfl, Nat.le_of_ble_eq_true rfl⟩ dL_areButtons_19 (fun H locs hP hD hS => ?_)
    refine iv_iconst hx hb dL_areButtons_22 ?_
    obtain ⟨g269, h⟩ := gd_t h
    refine iv_ine (tgt := 30) hx hb g269 (by decide +kernel) dL_areButtons_23 (by decide) (fun c270 => ?_) (fun c270 => ?_)
    · have h := it_f c270 h
      refine iv_iconst hx hb dL_areButtons_30 ?_
      exact hj8 0 s267 _ _ _ h hP hD hS (lv_sub hl [0, 1, 2, 3, 4, 5, 6] rfl)
    · have h := it_t c270 h
      refine iv_iconst hx hb dL_areButtons_26 ?_
      refine lv_goto (tgt := 31) hx hb dL_areButtons_27 (by decide) ?_
      exact hj8 1 s267 _ _ _ h hP hD hS (lv_sub hl [0, 1, 2, 3, 4, 5, 6] rfl)
set_option maxHeartbeats 4000000 in
set_option maxRecDepth 100000 in
theorem k_L_areBins (l : Launch) (E : wE) (a hs am ap an : Nat → Nat) (sz : Nat) (N : Nat) (z : bLXmpn) (u : (Int × bLXmpn)) (hf : f_L_areBins N z = some u) : cI l yL_areBins wsL_areBins { frames := 4, cells := 0, slots := 0, locals := 89 } E sz [.ref (a 0), .ref (am 0), .ref (ap 0), .ref (an 0)] (wLXmpn a hs am ap an E z) (wLXmpn a hs am ap an E u.2) u.1 := by
  refine met_go (cc := cL_areBins) (maxL := 14) (ret := (some .boolean)) (Q0 := mQi E (wLXmpn a hs am ap an E u.2) u.1) (by decide +kernel) rfl (Nat.le_of_ble_eq_true rfl) ?_
  intro A p e s m below meth c hx hb hr hml hts hown hlocks hP hK hD hA hS ls hl
  have hl : lv_has ls 14 [(0, .ref (a 0)), (1, .ref (am 0)), (2, .ref (ap 0)), (3, .ref (an 0))] := hl
  generalize hH : s.heap = H at hP
  have hS : va_S A s.heap H [] := by rw [← hH]; exact hS
  have hown : s.vm.findClass RL = some m.cls := hown
  have loop68 : ∀ (kt : Int → Int → Int → Int → Int → Int → Int → Int → bLXmpn → Option (Int × bLXmpn)) (n : Nat), (∀ (v21 : Int) (v22 : Int) (v23 : Int) (v24 : Int) (v25 : Int) (v26 : Int) (v27 : Int) (v28 : Int) (s29 : bLXmpn) (H : Heap) (locs : List Loc) (ls : Array Slot), kt v21 v22 v23 v24 v25 v26 v27 v28 s29 = some u → va_P E.1 vwCl (wLXmpn a hs am ap an E s29) H → va_D A (wLXmpn a hs am ap an E s29) → va_S A s.heap H locs → lv_has ls 14 [(0, .ref (a 0)), (1, .ref (am 0)), (2, .ref (ap 0)), (3, .ref (an 0)), (4, .int (zi v21)), (5, .int (zi v22)), (6, .int (zi v23)), (7, .int (zi v24)), (8, .int (zi v25)), (9, .int (zi v26)), (10, .int (zi v27)), (11, .int (zi v28))] → W p l e ({ frames := 4, cells := 0, slots := 0, locals := 89 }) s m ([.ref (a 0), .ref (am 0), .ref (ap 0), .ref (an 0)] : List Value).toArray below meth c H locs 0 0 (MQ below (mQi E (wLXmpn a hs am ap an E u.2) u.1 A) ([.ref (a 0), .ref (am 0), .ref (ap 0), .ref (an 0)] : List Value).toArray s 0 0 A) (F0 m 133 ls [])) → ∀ (v21 : Int) (v22 : Int) (v23 : Int) (v24 : Int) (v25 : Int) (v26 : Int) (v27 : Int) (v28 : Int) (s29 : bLXmpn) (H : Heap) (locs : List Loc) (ls : Array Slot), f_L_areBins_L68 N kt n v21 v22 v23 v24 v25 v26 v27 v28 s29 = some u → va_P E.1 vwCl (wLXmpn a hs am ap an E s29) H → va_D A (wLXmpn a hs am ap an E s29) → va_S A s.heap H locs → lv_has ls 14 [(0, .ref (a 0)), (1, .ref (am 0)), (2, .ref (ap 0)), (3, .ref (an 0)), (4, .int (zi v21)), (5, .int (zi v22)), (6, .int (zi v23)), (7, .int (zi v24)), (8, .int (zi v25)), (9, .int (zi v26)), (10, .int (zi v27)), (11, .int (zi v28))] → W p l e ({ frames := 4, cells := 0, slots := 0, locals := 89 }) s m ([.ref (a 0), .ref (am 0), .ref (ap 0), .ref (an 0)] : List Value).toArray below meth c H locs 0 0 (MQ below (mQi E (wLXmpn a hs am ap an E u.2) u.1 A) ([.ref (a 0), .ref (am 0), .ref (ap 0), .ref (an 0)] : List Value).toArray s 0 0 A) (F0 m 68 ls []) := by
    intro kt n hk
    induction n with
    | zero =>
      intro v21 v22 v23 v24 v25 v26 v27 v28 s29 H locs ls h
      exact absurd (show (none : Option (Int × bLXmpn)) = some u from h) (by simp)
    | succ n ih =>
      intro v21 v22 v23 v24 v25 v26 v27 v28 s29 H locs ls h hP hD hS hl
      rw [f_L_areBins_L68] at h
      refine lv_iload hx hb dL_areBins_68 (lv_at hl 8 rfl) ?_
      obtain ⟨g30, h⟩ := gd_t h
      refine iv_lt (tgt := 133) hx hb g30 dL_areBins_70 (by decide) (fun c31 => ?_) (fun c31 => ?_)
      · have h := it_t c31 h
        exact hk v21 v22 v23 v24 v25 v26 v27 v28 s29 _ _ _ h hP hD hS (lv_sub hl [0, 1, 2, 3, 4, 5, 6, 7, 8, 9, 10, 11] rfl)
      · have h := it_f c31 h
        refine lv_iload hx hb dL_areBins_73 (lv_at hl 4 rfl) ?_
        obtain ⟨g32, h⟩ := gd_t h
        obtain ⟨j35, e36, h⟩ := jn2_t h
        have hj35 : ∀ (v33 : Int) (s34 : bLXmpn) (H : Heap) (locs : List Loc) (ls : Array Slot), j35 v33 s34 = some u → va_P E.1 vwCl (wLXmpn a hs am ap an E s34) H → va_D A (wLXmpn a hs am ap an E s34) → va_S A s.heap H locs → lv_has ls 14 [(0, .ref (a 0)), (1, .ref (am 0)), (2, .ref (ap 0)), (3, .ref (an 0)), (4, .int (zi v21)), (5, .int (zi v22)), (6, .int (zi v23)), (7, .int (zi v24)), (8, .int (zi v25)), (9, .int (zi v26)), (10, .int (zi v27)), (11, .int (zi v28))] → W p l e ({ frames := 4, cells := 0, slots := 0, locals := 89 }) s m ([.ref (a 0), .ref (am 0), .ref (ap 0), .ref (an 0)] : List Value).toArray below meth c H locs 0 0 (MQ below (mQi E (wLXmpn a hs am ap an E u.2) u.1 A) ([.ref (a 0), .ref (am 0), .ref (ap 0), .ref (an 0)] : List Value).toArray s 0 0 A) (F0 m 96 ls [.int (zi v33)]) := by
          intro v33 s34 H locs ls h hP hD hS hl
          rw [e36] at h
          refine lv_istore (lv' := [(4, .int (zi v33)), (0, .ref (a 0)), (1, .ref (am 0)), (2, .ref (ap 0)), (3, .ref (an 0)), (5, .int (zi v22)), (6, .int (zi v23)), (7, .int (zi v24)), (8, .int (zi v25)), (9, .int (zi v26)), (10, .int (zi v27)), (11, .int (zi v28))]) hx hb dL_areBins_96 hl (by decide) rfl (fun ls hl => ?_)
          refine lv_iload hx hb dL_areBins_98 (lv_at hl 7 rfl) ?_
          refine lv_aload_n hx hb dL_areBins_100 rfl (lv_at hl 2 rfl) ?_
          refine iv_iconst hx hb dL_areBins_101 ?_
          refine lv_iload hx hb dL_areBins_102 (lv_at hl 8 rfl) ?_
          refine iv_imul hx hb dL_areBins_104 ?_
          refine iv_iconst hx hb dL_areBins_105 ?_
          refine iv_iadd hx hb dL_areBins_106 ?_
          obtain ⟨g37, h⟩ := gd_t h
          refine iv_iald (f := s34.2.1) (j := ((3 * v25) + 1).toNat) hx hb hK.1 hP 126 0 rfl rfl (by decide) g37 rfl dL_areBins_107 ?_
          refine iv_iadd hx hb dL_areBins_108 ?_
          obtain ⟨v38, e39, h⟩ := nm_t h
          refine iv_nm e39 ?_
          refine lv_istore (lv' := [(7, .int (zi v38)), (4, .int (zi v33)), (0, .ref (a 0)), (1, .ref (am 0)), (2, .ref (ap 0)), (3, .ref (an 0)), (5, .int (zi v22)), (6, .int (zi v23)), (8, .int (zi v25)), (9, .int (zi v26)), (10, .int (zi v27)), (11, .int (zi v28))]) hx hb dL_areBins_109 hl (by decide) rfl (fun ls hl => ?_)
          refine lv_iload hx hb dL_areBins_111 (lv_at hl 8 rfl) ?_
          refine lv_istore (lv' := [(10, .int (zi v25)), (7, .int (zi v38)), (4, .int (zi v33)), (0, .ref (a 0)), (1, .ref (am 0)), (2, .ref (ap 0)), (3, .ref (an 0)), (5, .int (zi v22)), (6, .int (zi v23)), (8, .int (zi v25)), (9, .int (zi v26)), (11, .int (zi v28))]) hx hb dL_areBins_113 hl (by decide) rfl (fun ls hl => ?_)
          refine lv_iinc (v := zi (v26 + 1)) (lv' := [(9, .int (zi (v26 + 1))), (10, .int (zi v25)), (7, .int (zi v38)), (4, .int (zi v33)), (0, .ref (a 0)), (1, .ref (am 0)), (2, .ref (ap 0)), (3, .ref (an 0)), (5, .int (zi v22)), (6, .int (zi v23)), (8, .int (zi v25)), (11, .int (zi v28))]) hx hb dL_areBins_115 hl (k := 10) rfl (by rw [zi_add]; rfl) (by decide) rfl (fun ls hl => ?_)
          refine lv_aload_n hx hb dL_areBins_118 rfl (lv_at hl 5 rfl) ?_
          refine lv_aload_n hx hb dL_areBins_119 rfl (lv_at hl 6 rfl) ?_
          refine lv_aload_n hx hb dL_areBins_120 rfl (lv_at hl 7 rfl) ?_
          refine lv_iload hx hb dL_areBins_121 (lv_at hl 8 rfl) ?_
          refine lv_iload hx hb dL_areBins_123 (lv_at hl 10 rfl) ?_
          obtain ⟨u40, q41, h⟩ := bd_t h
          refine iv_callWI (As := [.ref (am 0), .ref (ap 0), .ref (an 0), .int (zi v22), .int (zi v25)]) (rest := []) (ws1 := wLXmpn a hs am ap an E s34) ⟨hx, hb, hml, hown, hts⟩ (k_L_next l E am ap an H.size N v22 v25 (s34.2.1, s34.2.2.1, s34.2.2.2) u40 q41) (va_cwS 5 hts gL_areBins_L_next rfl rfl rfl (by decide +kernel) ⟨Nat.le_of_ble_eq_true rfl, Nat.le_of_ble_eq_true rfl⟩) hK hP hD hS hA (pm_skip (pm_take (pm_take (pm_end)))) (pm_skip (pm_take (pm_take (pm_end)))) rfl hl.1 (Nat.le_of_ble_eq_true rfl) ⟨Nat.le_of_ble_eq_true rfl, Nat.le_of_ble_eq_true rfl⟩ dL_areBins_125 (fun H locs hP hD hS => ?_)
          refine lv_istore (lv' := [(8, .int (zi u40)), (9, .int (zi (v26 + 1))), (10, .int (zi v25)), (7, .int (zi v38)), (4, .int (zi v33)), (0, .ref (a 0)), (1, .ref (am 0)), (2, .ref (ap 0)), (3, .ref (an 0)), (5, .int (zi v22)), (6, .int (zi v23)), (11, .int (zi v28))]) hx hb dL_areBins_128 hl (by decide) rfl (fun ls hl => ?_)
          refine lv_goto (tgt := 68) hx hb dL_areBins_130 (by decide) ?_
          exact ih v33 v22 v23 v38 u40 (v26 + 1) v25 v28 s34 _ _ _ h hP hD hS (lv_sub hl [5, 6, 7, 8, 4, 9, 10, 3, 0, 1, 2, 11] rfl)
        refine iv_eq (tgt := 95) hx hb g32 dL_areBins_75 (by decide) (fun c42 => ?_) (fun c42 => ?_)
        · have h := it_t c42 h
          refine iv_iconst hx hb dL_areBins_95 ?_
          exact hj35 0 s29 _ _ _ h hP hD hS (lv_sub hl [0, 1, 2, 3, 4, 5, 6, 7, 8, 9, 10, 11] rfl)
        · have h := it_f c42 h
          refine lv_aload_n hx hb dL_areBins_78 rfl (lv_at hl 0 rfl) ?_
          refine lv_iload hx hb dL_areBins_79 (lv_at hl 5 rfl) ?_
          refine lv_iload hx hb dL_areBins_81 (lv_at hl 9 rfl) ?_
          obtain ⟨u43, q44, h⟩ := bd_t h
          obtain ⟨s45, e46, h⟩ := nm_t h
          refine iv_callIp (As := [.int (zi v22), .int (zi v26)]) (rest := []) (ws1 := wLXmpn a hs am ap an E s45) ⟨hx, hb, hml, hown, hts⟩ (k_X7_inBin l E a hs H.size N v22 v26 s29.1 u43 q44) (cwV 2 hts gL_areBins_X7_inBin rfl rfl rfl (by decide +kernel) ⟨Nat.le_of_ble_eq_true rfl, Nat.le_of_ble_eq_true rfl⟩) hK hP hD hS hA 0 7 rfl rfl (pm_last) (by rw [e46]; exact pm_last) rfl hl.1 (Nat.le_of_ble_eq_true rfl) ⟨Nat.le_of_ble_eq_true rfl, Nat.le_of_ble_eq_true rfl⟩ dL_areBins_83 (fun H locs hP hD hS => ?_)
          refine lv_iload hx hb dL_areBins_86 (lv_at hl 8 rfl) ?_
          obtain ⟨g47, h⟩ := gd_t h
          refine iv_ine (tgt := 95) hx hb g47 g30 dL_areBins_88 (by decide) (fun c48 => ?_) (fun c48 => ?_)
          · have h := it_f c48 h
            refine iv_iconst hx hb dL_areBins_95 ?_
            exact hj35 0 s45 _ _ _ h hP hD hS (lv_sub hl [0, 1, 2, 3, 4, 5, 6, 7, 8, 9, 10, 11] rfl)
          · have h := it_t c48 h
            refine iv_iconst hx hb dL_areBins_91 ?_
            refine lv_goto (tgt := 96) hx hb dL_areBins_92 (by decide) ?_
            exact hj35 1 s45 _ _ _ h hP hD hS (lv_sub hl [0, 1, 2, 3, 4, 5, 6, 7, 8, 9, 10, 11] rfl)
  have loop139 : ∀ (kt : Int → Int → Int → Int → Int → Int → Int → Int → Int → Int → bLXmpn → Option (Int × bLXmpn)) (n : Nat), (∀ (v58 : Int) (v59 : Int) (v60 : Int) (v61 : Int) (v62 : Int) (v63 : Int) (v64 : Int) (v65 : Int) (v66 : Int) (v67 : Int) (s68 : bLXmpn) (H : Heap) (locs : List Loc) (ls : Array Slot), kt v58 v59 v60 v61 v62 v63 v64 v65 v66 v67 s68 = some u → va_P E.1 vwCl (wLXmpn a hs am ap an E s68) H → va_D A (wLXmpn a hs am ap an E s68) → va_S A s.heap H locs → lv_has ls 14 [(0, .ref (a 0)), (1, .ref (am 0)), (2, .ref (ap 0)), (3, .ref (an 0)), (4, .int (zi v58)), (5, .int (zi v59)), (6, .int (zi v60)), (7, .int (zi v61)), (8, .int (zi v62)), (9, .int (zi v63)), (10, .int (zi v64)), (11, .int (zi v65)), (12, .int (zi v66)), (13, .int (zi v67))] → W p l e ({ frames := 4, cells := 0, slots := 0, locals := 89 }) s m ([.ref (a 0), .ref (am 0), .ref (ap 0), .ref (an 0)] : List Value).toArray below meth c H locs 0 0 (MQ below (mQi E (wLXmpn a hs am ap an E u.2) u.1 A) ([.ref (a 0), .ref (am 0), .ref (ap 0), .ref (an 0)] : List Value).toArray s 0 0 A) (F0 m 174 ls [])) → ∀ (v58 : Int) (v59 : Int) (v60 : Int) (v61 : Int) (v62 : Int) (v63 : Int) (v64 : Int) (v65 : Int) (v66 : Int) (v67 : Int) (s68 : bLXmpn) (H : Heap) (locs : List Loc) (ls : Array Slot), f_L_areBins_L139 N kt n v58 v59 v60 v61 v62 v63 v64 v65 v66 v67 s68 = some u → va_P E.1 vwCl (wLXmpn a hs am ap an E s68) H → va_D A (wLXmpn a hs am ap an E s68) → va_S A s.heap H locs → lv_has ls 14 [(0, .ref (a 0)), (1, .ref (am 0)), (2, .ref (ap 0)), (3, .ref (an 0)), (4, .int (zi v58)), (5, .int (zi v59)), (6, .int (zi v60)), (7, .int (zi v61)), (8, .int (zi v62)), (9, .int (zi v63)), (10, .int (zi v64)), (11, .int (zi v65)), (12, .int (zi v66)), (13, .int (zi v67))] → W p l e ({ frames := 4, cells := 0, slots := 0, locals := 89 }) s m ([.ref (a 0), .ref (am 0), .ref (ap 0), .ref (an 0)] : List Value).toArray below meth c H locs 0 0 (MQ below (mQi E (wLXmpn a hs am ap an E u.2) u.1 A) ([.ref (a 0), .ref (am 0), .ref (ap 0), .ref (an 0)] : List Value).toArray s 0 0 A) (F0 m 139 ls []) := by
    intro kt n hk
    induction n with
    | zero =>
      intro v58 v59 v60 v61 v62 v63 v64 v65 v66 v67 s68 H locs ls h
      exact absurd (show (none : Option (Int × bLXmpn)) = some u from h) (by simp)
    | succ n ih =>
      intro v58 v59 v60 v61 v62 v63 v64 v65 v66 v67 s68 H locs ls h hP hD hS hl
      rw [f_L_areBins_L139] at h
      refine lv_iload hx hb dL_areBins_139 (lv_at hl 13 rfl) ?_
      refine iv_bipush hx hb dL_areBins_141 (by decide +kernel) ?_
      obtain ⟨g69, h⟩ := gd_t h
      refine iv_ige (tgt := 174) hx hb g69 (by decide +kernel) dL_areBins_143 (by decide) (fun c70 => ?_) (fun c70 => ?_)
      · have h := it_t c70 h
        exact hk v58 v59 v60 v61 v62 v63 v64 v65 v66 v67 s68 _ _ _ h hP hD hS (lv_sub hl [0, 1, 2, 3, 4, 5, 6, 7, 8, 9, 10, 11, 12, 13] rfl)
      · have h := it_f c70 h
        refine lv_aload_n hx hb dL_areBins_146 rfl (lv_at hl 1 rfl) ?_
        refine lv_aload_n hx hb dL_areBins_147 rfl (lv_at hl 2 rfl) ?_
        refine lv_aload_n hx hb dL_areBins_148 rfl (lv_at hl 3 rfl) ?_
        refine lv_iload hx hb dL_areBins_149 (lv_at hl 5 rfl) ?_
        refine lv_iload hx hb dL_areBins_151 (lv_at hl 13 rfl) ?_
        obtain ⟨u71, q72, h⟩ := bd_t h
        refine iv_callWI (As := [.ref (am 0), .ref (ap 0), .ref (an 0), .int (zi v59), .int (zi v67)]) (rest := []) (ws1 := wLXmpn a hs am ap an E s68) ⟨hx, hb, hml, hown, hts⟩ (k_L_first l E am ap an H.size N v59 v67 (s68.2.1, s68.2.2.1, s68.2.2.2) u71 q72) (va_cwS 5 hts gL_areBins_L_first rfl rfl rfl (by decide +kernel) ⟨Nat.le_of_ble_eq_true rfl, Nat.le_of_ble_eq_true rfl⟩) hK hP hD hS hA (pm_skip (pm_take (pm_take (pm_end)))) (pm_skip (pm_take (pm_take (pm_end)))) rfl hl.1 (Nat.le_of_ble_eq_true rfl) ⟨Nat.le_of_ble_eq_true rfl, Nat.le_of_ble_eq_true rfl⟩ dL_areBins_153 (fun H locs hP hD hS => ?_)
        obtain ⟨g73, h⟩ := gd_t h
        obtain ⟨j76, e77, h⟩ := jn2_t h
        have hj76 : ∀ (v74 : Int) (s75 : bLXmpn) (H : Heap) (locs : List Loc) (ls : Array Slot), j76 v74 s75 = some u → va_P E.1 vwCl (wLXmpn a hs am ap an E s75) H → va_D A (wLXmpn a hs am ap an E s75) → va_S A s.heap H locs → lv_has ls 14 [(0, .ref (a 0)), (1, .ref (am 0)), (2, .ref (ap 0)), (3, .ref (an 0)), (4, .int (zi v58)), (5, .int (zi v59)), (6, .int (zi v60)), (7, .int (zi v61)), (8, .int (zi v62)), (9, .int (zi v63)), (10, .int (zi v64)), (11, .int (zi v65)), (12, .int (zi v66)), (13, .int (zi v67))] → W p l e ({ frames := 4, cells := 0, slots := 0, locals := 89 }) s m ([.ref (a 0), .ref (am 0), .ref (ap 0), .ref (an 0)] : List Value).toArray below meth c H locs 0 0 (MQ below (mQi E (wLXmpn a hs am ap an E u.2) u.1 A) ([.ref (a 0), .ref (am 0), .ref (ap 0), .ref (an 0)] : List Value).toArray s 0 0 A) (F0 m 166 ls [.int (zi v74)]) := by
          intro v74 s75 H locs ls h hP hD hS hl
          rw [e77] at h
          refine lv_istore (lv' := [(12, .int (zi v74)), (0, .ref (a 0)), (1, .ref (am 0)), (2, .ref (ap 0)), (3, .ref (an 0)), (4, .int (zi v58)), (5, .int (zi v59)), (6, .int (zi v60)), (7, .int (zi v61)), (8, .int (zi v62)), (9, .int (zi v63)), (10, .int (zi v64)), (11, .int (zi v65)), (13, .int (zi v67))]) hx hb dL_areBins_166 hl (by decide) rfl (fun ls hl => ?_)
          refine lv_iinc (v := zi (v67 + 1)) (lv' := [(13, .int (zi (v67 + 1))), (12, .int (zi v74)), (0, .ref (a 0)), (1, .ref (am 0)), (2, .ref (ap 0)), (3, .ref (an 0)), (4, .int (zi v58)), (5, .int (zi v59)), (6, .int (zi v60)), (7, .int (zi v61)), (8, .int (zi v62)), (9, .int (zi v63)), (10, .int (zi v64)), (11, .int (zi v65))]) hx hb dL_areBins_168 hl (k := 13) rfl (by rw [zi_add]; rfl) (by decide) rfl (fun ls hl => ?_)
          refine lv_goto (tgt := 139) hx hb dL_areBins_171 (by decide) ?_
          exact ih v58 v59 v60 v61 v62 v63 v64 v65 v74 (v67 + 1) s75 _ _ _ h hP hD hS (lv_sub hl [2, 3, 4, 5, 6, 7, 8, 9, 10, 11, 12, 13, 1, 0] rfl)
        refine iv_lt (tgt := 164) hx hb g73 dL_areBins_156 (by decide) (fun c78 => ?_) (fun c78 => ?_)
        · have h := it_t c78 h
          refine lv_iload hx hb dL_areBins_164 (lv_at hl 12 rfl) ?_
          exact hj76 v66 s68 _ _ _ h hP hD hS (lv_sub hl [0, 1, 2, 3, 4, 5, 6, 7, 8, 9, 10, 11, 12, 13] rfl)
        · have h := it_f c78 h
          refine lv_iload hx hb dL_areBins_159 (lv_at hl 13 rfl) ?_
          refine lv_goto (tgt := 166) hx hb dL_areBins_161 (by decide) ?_
          exact hj76 v67 s68 _ _ _ h hP hD hS (lv_sub hl [0, 1, 2, 3, 4, 5, 6, 7, 8, 9, 10, 11, 12, 13] rfl)
  have loop21 : ∀ (kt : Int → Int → bLXmpn → Option (Int × bLXmpn)) (n : Nat), (∀ (v10 : Int) (v11 : Int) (s12 : bLXmpn) (H : Heap) (locs : List Loc) (ls : Array Slot), kt v10 v11 s12 = some u → va_P E.1 vwCl (wLXmpn a hs am ap an E s12) H → va_D A (wLXmpn a hs am ap an E s12) → va_S A s.heap H locs → lv_has ls 14 [(0, .ref (a 0)), (1, .ref (am 0)), (2, .ref (ap 0)), (3, .ref (an 0)), (4, .int (zi v10)), (5, .int (zi v11))] → W p l e ({ frames := 4, cells := 0, slots := 0, locals := 89 }) s m ([.ref (a 0), .ref (am 0), .ref (ap 0), .ref (an 0)] : List Value).toArray below meth c H locs 0 0 (MQ below (mQi E (wLXmpn a hs am ap an E u.2) u.1 A) ([.ref (a 0), .ref (am 0), .ref (ap 0), .ref (an 0)] : List Value).toArray s 0 0 A) (F0 m 326 ls [])) → ∀ (v10 : Int) (v11 : Int) (s12 : bLXmpn) (H : Heap) (locs : List Loc) (ls : Array Slot), f_L_areBins_L21 N kt n v10 v11 s12 = some u → va_P E.1 vwCl (wLXmpn a hs am ap an E s12) H → va_D A (wLXmpn a hs am ap an E s12) → va_S A s.heap H locs → lv_has ls 14 [(0, .ref (a 0)), (1, .ref (am 0)), (2, .ref (ap 0)), (3, .ref (an 0)), (4, .int (zi v10)), (5, .int (zi v11))] → W p l e ({ frames := 4, cells := 0, slots := 0, locals := 89 }) s m ([.ref (a 0), .ref (am 0), .ref (ap 0), .ref (an 0)] : List Value).toArray below meth c H locs 0 0 (MQ below (mQi E (wLXmpn a hs am ap an E u.2) u.1 A) ([.ref (a 0), .ref (am 0), .ref (ap 0), .ref (an 0)] : List Value).toArray s 0 0 A) (F0 m 21 ls []) := by
    intro kt n hk
    induction n with
    | zero =>
      intro v10 v11 s12 H locs ls h
      exact absurd (show (none : Option (Int × bLXmpn)) = some u from h) (by simp)
    | succ n ih =>
      intro v10 v11 s12 H locs ls h hP hD hS hl
      rw [f_L_areBins_L21] at h
      refine lv_iload hx hb dL_areBins_21 (lv_at hl 5 rfl) ?_
      refine iv_bipush hx hb dL_areBins_23 (by decide +kernel) ?_
      obtain ⟨g13, h⟩ := gd_t h
      refine iv_ige (tgt := 326) hx hb g13 (by decide +kernel) dL_areBins_25 (by decide) (fun c14 => ?_) (fun c14 => ?_)
      · have h := it_t c14 h
        exact hk v10 v11 s12 _ _ _ h hP hD hS (lv_sub hl [0, 1, 2, 3, 4, 5] rfl)
      · have h := it_f c14 h
        refine lv_iload hx hb dL_areBins_28 (lv_at hl 4 rfl) ?_
        obtain ⟨g15, h⟩ := gd_t h
        refine iv_eq (tgt := 326) hx hb g15 dL_areBins_30 (by decide) (fun c16 => ?_) (fun c16 => ?_)
        · have h := it_t c16 h
          exact hk v10 v11 s12 _ _ _ h hP hD hS (lv_sub hl [0, 1, 2, 3, 4, 5] rfl)
        · have h := it_f c16 h
          refine lv_aload_n hx hb dL_areBins_33 rfl (lv_at hl 2 rfl) ?_
          refine lv_aload_n hx hb dL_areBins_34 rfl (lv_at hl 3 rfl) ?_
          refine lv_iload hx hb dL_areBins_35 (lv_at hl 5 rfl) ?_
          obtain ⟨u17, q18, h⟩ := bd_t h
          refine iv_callWI (As := [.ref (ap 0), .ref (an 0), .int (zi v11)]) (rest := []) (ws1 := wLXmpn a hs am ap an E s12) ⟨hx, hb, hml, hown, hts⟩ (k_L_in l E ap an H.size N v11 (s12.2.2.1, s12.2.2.2) u17 q18) (va_cwS 3 hts gL_areBins_L_in rfl rfl rfl (by decide +kernel) ⟨Nat.le_of_ble_eq_true rfl, Nat.le_of_ble_eq_true rfl⟩) hK hP hD hS hA (pm_skip (pm_skip (pm_take (pm_end)))) (pm_skip (pm_skip (pm_take (pm_end)))) rfl hl.1 (Nat.le_of_ble_eq_true rfl) ⟨Nat.le_of_ble_eq_true rfl, Nat.le_of_ble_eq_true rfl⟩ dL_areBins_37 (fun H locs hP hD hS => ?_)
          refine lv_istore (lv' := [(6, .int (zi u17)), (0, .ref (a 0)), (1, .ref (am 0)), (2, .ref (ap 0)), (3, .ref (an 0)), (4, .int (zi v10)), (5, .int (zi v11))]) hx hb dL_areBins_40 hl (by decide) rfl (fun ls hl => ?_)
          refine iv_iconst hx hb dL_areBins_42 ?_
          refine lv_istore (lv' := [(7, .int (zi 0)), (6, .int (zi u17)), (0, .ref (a 0)), (1, .ref (am 0)), (2, .ref (ap 0)), (3, .ref (an 0)), (4, .int (zi v10)), (5, .int (zi v11))]) hx hb dL_areBins_43 hl (by decide) rfl (fun ls hl => ?_)
          refine lv_aload_n hx hb dL_areBins_45 rfl (lv_at hl 3 rfl) ?_
          refine lv_aload_n hx hb dL_areBins_46 rfl (lv_at hl 4 rfl) ?_
          refine lv_aload_n hx hb dL_areBins_47 rfl (lv_at hl 5 rfl) ?_
          refine lv_iload hx hb dL_areBins_48 (lv_at hl 7 rfl) ?_
          refine iv_bipush hx hb dL_areBins_50 (by decide +kernel) ?_
          obtain ⟨u19, q20, h⟩ := bd_t h
          refine iv_callWI (As := [.ref (am 0), .ref (ap 0), .ref (an 0), .int (zi v11), .int (zi (-5))]) (rest := []) (ws1 := wLXmpn a hs am ap an E s12) ⟨hx, hb, hml, hown, hts⟩ (k_L_next l E am ap an H.size N v11 (-5) (s12.2.1, s12.2.2.1, s12.2.2.2) u19 q20) (va_cwS 5 hts gL_areBins_L_next rfl rfl rfl (by decide +kernel) ⟨Nat.le_of_ble_eq_true rfl, Nat.le_of_ble_eq_true rfl⟩) hK hP hD hS hA (pm_skip (pm_take (pm_take (pm_end)))) (pm_skip (pm_take (pm_take (pm_end)))) rfl hl.1 (Nat.le_of_ble_eq_true rfl) ⟨Nat.le_of_ble_eq_true rfl, Nat.le_of_ble_eq_true rfl⟩ dL_areBins_52 (fun H locs hP hD hS => ?_)
          refine lv_istore (lv' := [(8, .int (zi u19)), (7, .int (zi 0)), (6, .int (zi u17)), (0, .ref (a 0)), (1, .ref (am 0)), (2, .ref (ap 0)), (3, .ref (an 0)), (4, .int (zi v10)), (5, .int (zi v11))]) hx hb dL_areBins_55 hl (by decide) rfl (fun ls hl => ?_)
          refine iv_iconst hx hb dL_areBins_57 ?_
          refine lv_istore (lv' := [(9, .int (zi 0)), (8, .int (zi u19)), (7, .int (zi 0)), (6, .int (zi u17)), (0, .ref (a 0)), (1, .ref (am 0)), (2, .ref (ap 0)), (3, .ref (an 0)), (4, .int (zi v10)), (5, .int (zi v11))]) hx hb dL_areBins_58 hl (by decide) rfl (fun ls hl => ?_)
          refine lv_iload hx hb dL_areBins_60 (lv_at hl 1 rfl) ?_
          refine lv_istore (lv' := [(10, .int (zi u19)), (9, .int (zi 0)), (8, .int (zi u19)), (7, .int (zi 0)), (6, .int (zi u17)), (0, .ref (a 0)), (1, .ref (am 0)), (2, .ref (ap 0)), (3, .ref (an 0)), (4, .int (zi v10)), (5, .int (zi v11))]) hx hb dL_areBins_62 hl (by decide) rfl (fun ls hl => ?_)
          refine lv_iload hx hb dL_areBins_64 (lv_at hl 2 rfl) ?_
          refine lv_istore (lv' := [(11, .int (zi u19)), (10, .int (zi u19)), (9, .int (zi 0)), (8, .int (zi u19)), (7, .int (zi 0)), (6, .int (zi u17)), (0, .ref (a 0)), (1, .ref (am 0)), (2, .ref (ap 0)), (3, .ref (an 0)), (4, .int (zi v10)), (5, .int (zi v11))]) hx hb dL_areBins_66 hl (by decide) rfl (fun ls hl => ?_)
          refine loop68 (fun v49 v50 v51 v52 v53 v54 v55 v56 s57 => f_L_areBins_L139 N (fun v79 v80 v81 v82 v83 v84 v85 v86 v87 v88 s89 => gd (rg v79) <| jn2 (fun (v91 : Int) (s92 : bLXmpn) => f_L_areBins_L21 N kt n v91 (v80 + 1) s92) fun j93 => if v79 = 0 then (j93 0 s89) else (gd (rg v84) <| gd (rg v81) <| if v84 = v81 then (bd (f_X7_inBin N v80 v84 s89.1) fun u99 => nm (u99.2, s89.2) fun s101 => gd (rg u99.1) <| if u99.1 = (-5) then (bd (f_X7_bin N v80 0 s101.1) fun u105 => nm (u105.2, s101.2) fun s107 => gd (rg u105.1) <| if u105.1 = v81 then (bd (f_X7_bin N v80 1 s107.1) fun u111 => nm (u111.2, s107.2) fun s113 => gd (rg (s113.2.2.2 6)) <| jn2 (fun (v116 : Int) (s117 : bLXmpn) => gd (rg u111.1) <| gd (rg v116) <| if u111.1 = v116 then (bd (f_X7_bin N v80 2 s117.1) fun u123 => nm (u123.2, s117.2) fun s125 => gd (rg u123.1) <| gd (rg v82) <| if u123.1 = v82 then (bd (f_X7_bin N v80 3 s125.1) fun u130 => nm (u130.2, s125.2) fun s132 => gd (rg u130.1) <| gd (rg v87) <| if u130.1 = v87 then (bd (f_X7_bin N v80 4 s132.1) fun u137 => nm (u137.2, s132.2) fun s139 => jn2 (fun (v141 : Int) (s142 : bLXmpn) => gd (rg u137.1) <| gd (rg v141) <| if u137.1 = v141 then (bd (f_X7_bin N v80 5 s142.1) fun u148 => nm (u148.2, s142.2) fun s150 => gd (rg u148.1) <| if u148.1 = (-2) then (j93 1 s150) else (j93 0 s150)) else (j93 0 s142)) fun j143 => if v81 = 0 then (j143 0 s139) else (gd (inb ((3 * v85) + 1) 60) <| gd (inb ((3 * v86) + 1) 60) <| j143 ((s139.2.1 (((3 * v85) + 1).toNat)) - (s139.2.1 (((3 * v86) + 1).toNat))) s139)) else (j93 0 s132)) else (j93 0 s125)) else (j93 0 s117)) fun j118 => if v81 ≤ (s113.2.2.2 6) then (j118 ((s113.2.2.2 6) - v81) s113) else (j118 0 s113)) else (j93 0 s107)) else (j93 0 s101)) else (j93 0 s89))) N v49 v50 v51 v52 v53 v54 v55 v56 0 1 s57) N (fun v49 v50 v51 v52 v53 v54 v55 v56 s57 H locs ls h hP hD hS hl => ?_) v10 v11 u17 0 u19 0 u19 u19 s12 _ _ _ h hP hD hS (lv_sub hl [6, 7, 8, 9, 10, 11, 5, 4, 3, 2, 1, 0] rfl)
          refine iv_iconst hx hb dL_areBins_133 ?_
          refine lv_istore (lv' := [(12, .int (zi 0)), (0, .ref (a 0)), (1, .ref (am 0)), (2, .ref (ap 0)), (3, .ref (an 0)), (4, .int (zi v49)), (5, .int (zi v50)), (6, .int (zi v51)), (7, .int (zi v52)), (8, .int (zi v53)), (9, .int (zi v54)), (10, .int (zi v55)), (11, .int (zi v56))]) hx hb dL_areBins_134 hl (by decide) rfl (fun ls hl => ?_)
          refine iv_iconst hx hb dL_areBins_136 ?_
          refine lv_istore (lv' := [(13, .int (zi 1)), (12, .int (zi 0)), (0, .ref (a 0)), (1, .ref (am 0)), (2, .ref (ap 0)), (3, .ref (an 0)), (4, .int (zi v49)), (5, .int (zi v50)), (6, .int (zi v51)), (7, .int (zi v52)), (8, .int (zi v53)), (9, .int (zi v54)), (10, .int (zi v55)), (11, .int (zi v56))]) hx hb dL_areBins_137 hl (by decide) rfl (fun ls hl => ?_)
          refine loop139 (fun v79 v80 v81 v82 v83 v84 v85 v86 v87 v88 s89 => gd (rg v79) <| jn2 (fun (v91 : Int) (s92 : bLXmpn) => f_L_areBins_L21 N kt n v91 (v80 + 1) s92) fun j93 => if v79 = 0 then (j93 0 s89) else (gd (rg v84) <| gd (rg v81) <| if v84 = v81 then (bd (f_X7_inBin N v80 v84 s89.1) fun u99 => nm (u99.2, s89.2) fun s101 => gd (rg u99.1) <| if u99.1 = (-5) then (bd (f_X7_bin N v80 0 s101.1) fun u105 => nm (u105.2, s101.2) fun s107 => gd (rg u105.1) <| if u105.1 = v81 then (bd (f_X7_bin N v80 1 s107.1) fun u111 => nm (u111.2, s107.2) fun s113 => gd (rg (s113.2.2.2 6)) <| jn2 (fun (v116 : Int) (s117 : bLXmpn) => gd (rg u111.1) <| gd (rg v116) <| if u111.1 = v116 then (bd (f_X7_bin N v80 2 s117.1) fun u123 => nm (u123.2, s117.2) fun s125 => gd (rg u123.1) <| gd (rg v82) <| if u123.1 = v82 then (bd (f_X7_bin N v80 3 s125.1) fun u130 => nm (u130.2, s125.2) fun s132 => gd (rg u130.1) <| gd (rg v87) <| if u130.1 = v87 then (bd (f_X7_bin N v80 4 s132.1) fun u137 => nm (u137.2, s132.2) fun s139 => jn2 (fun (v141 : Int) (s142 : bLXmpn) => gd (rg u137.1) <| gd (rg v141) <| if u137.1 = v141 then (bd (f_X7_bin N v80 5 s142.1) fun u148 => nm (u148.2, s142.2) fun s150 => gd (rg u148.1) <| if u148.1 = (-2) then (j93 1 s150) else (j93 0 s150)) else (j93 0 s142)) fun j143 => if v81 = 0 then (j143 0 s139) else (gd (inb ((3 * v85) + 1) 60) <| gd (inb ((3 * v86) + 1) 60) <| j143 ((s139.2.1 (((3 * v85) + 1).toNat)) - (s139.2.1 (((3 * v86) + 1).toNat))) s139)) else (j93 0 s132)) else (j93 0 s125)) else (j93 0 s117)) fun j118 => if v81 ≤ (s113.2.2.2 6) then (j118 ((s113.2.2.2 6) - v81) s113) else (j118 0 s113)) else (j93 0 s107)) else (j93 0 s101)) else (j93 0 s89))) N (fun v79 v80 v81 v82 v83 v84 v85 v86 v87 v88 s89 H locs ls h hP hD hS hl => ?_) v49 v50 v51 v52 v53 v54 v55 v56 0 1 s57 _ _ _ h hP hD hS (lv_sub hl [2, 3, 4, 5, 6, 7, 8, 9, 10, 11, 12, 13, 1, 0] rfl)
          refine lv_iload hx hb dL_areBins_174 (lv_at hl 4 rfl) ?_
          obtain ⟨g90, h⟩ := gd_t h
          obtain ⟨j93, e94, h⟩ := jn2_t h
          have hj93 : ∀ (v91 : Int) (s92 : bLXmpn) (H : Heap) (locs : List Loc) (ls : Array Slot), j93 v91 s92 = some u → va_P E.1 vwCl (wLXmpn a hs am ap an E s92) H → va_D A (wLXmpn a hs am ap an E s92) → va_S A s.heap H locs → lv_has ls 14 [(0, .ref (a 0)), (1, .ref (am 0)), (2, .ref (ap 0)), (3, .ref (an 0)), (4, .int (zi v79)), (5, .int (zi v80)), (6, .int (zi v81)), (7, .int (zi v82)), (8, .int (zi v83)), (9, .int (zi v84)), (10, .int (zi v85)), (11, .int (zi v86)), (12, .int (zi v87)), (13, .int (zi v88))] → W p l e ({ frames := 4, cells := 0, slots := 0, locals := 89 }) s m ([.ref (a 0), .ref (am 0), .ref (ap 0), .ref (an 0)] : List Value).toArray below meth c H locs 0 0 (MQ below (mQi E (wLXmpn a hs am ap an E u.2) u.1 A) ([.ref (a 0), .ref (am 0), .ref (ap 0), .ref (an 0)] : List Value).toArray s 0 0 A) (F0 m 318 ls [.int (zi v91)]) := by
            intro v91 s92 H locs ls h hP hD hS hl
            rw [e94] at h
            refine lv_istore (lv' := [(4, .int (zi v91)), (0, .ref (a 0)), (1, .ref (am 0)), (2, .ref (ap 0)), (3, .ref (an 0)), (5, .int (zi v80)), (6, .int (zi v81)), (7, .int (zi v82)), (8, .int (zi v83)), (9, .int (zi v84)), (10, .int (zi v85)), (11, .int (zi v86)), (12, .int (zi v87)), (13, .int (zi v88))]) hx hb dL_areBins_318 hl (by decide) rfl (fun ls hl => ?_)
            refine lv_iinc (v := zi (v80 + 1)) (lv' := [(5, .int (zi (v80 + 1))), (4, .int (zi v91)), (0, .ref (a 0)), (1, .ref (am 0)), (2, .ref (ap 0)), (3, .ref (an 0)), (6, .int (zi v81)), (7, .int (zi v82)), (8, .int (zi v83)), (9, .int (zi v84)), (10, .int (zi v85)), (11, .int (zi v86)), (12, .int (zi v87)), (13, .int (zi v88))]) hx hb dL_areBins_320 hl (k := 5) rfl (by rw [zi_add]; rfl) (by decide) rfl (fun ls hl => ?_)
            refine lv_goto (tgt := 21) hx hb dL_areBins_323 (by decide) ?_
            exact ih v91 (v80 + 1) s92 _ _ _ h hP hD hS (lv_sub hl [2, 3, 4, 5, 1, 0] rfl)
          refine iv_eq (tgt := 317) hx hb g90 dL_areBins_176 (by decide) (fun c95 => ?_) (fun c95 => ?_)
          · have h := it_t c95 h
            refine iv_iconst hx hb dL_areBins_317 ?_
            exact hj93 0 s89 _ _ _ h hP hD hS (lv_sub hl [0, 1, 2, 3, 4, 5, 6, 7, 8, 9, 10, 11, 12, 13] rfl)
          · have h := it_f c95 h
            refine lv_iload hx hb dL_areBins_179 (lv_at hl 9 rfl) ?_
            refine lv_iload hx hb dL_areBins_181 (lv_at hl 6 rfl) ?_
            obtain ⟨g96, h⟩ := gd_t h
            obtain ⟨g97, h⟩ := gd_t h
            refine iv_ine (tgt := 317) hx hb g96 g97 dL_areBins_183 (by decide) (fun c98 => ?_) (fun c98 => ?_)
            · have h := it_f c98 h
              refine iv_iconst hx hb dL_areBins_317 ?_
              exact hj93 0 s89 _ _ _ h hP hD hS (lv_sub hl [0, 1, 2, 3, 4, 5, 6, 7, 8, 9, 10, 11, 12, 13] rfl)
            · have h := it_t c98 h
              refine lv_aload_n hx hb dL_areBins_186 rfl (lv_at hl 0 rfl) ?_
              refine lv_iload hx hb dL_areBins_187 (lv_at hl 5 rfl) ?_
              refine lv_iload hx hb dL_areBins_189 (lv_at hl 9 rfl) ?_
              obtain ⟨u99, q100, h⟩ := bd_t h
              obtain ⟨s101, e102, h⟩ := nm_t h
              refine iv_callIp (As := [.int (zi v80), .int (zi v84)]) (rest := []) (ws1 := wLXmpn a hs am ap an E s101) ⟨hx, hb, hml, hown, hts⟩ (k_X7_inBin l E a hs H.size N v80 v84 s89.1 u99 q100) (cwV 2 hts gL_areBins_X7_inBin rfl rfl rfl (by decide +kernel) ⟨Nat.le_of_ble_eq_true rfl, Nat.le_of_ble_eq_true rfl⟩) hK hP hD hS hA 0 7 rfl rfl (pm_last) (by rw [e102]; exact pm_last) rfl hl.1 (Nat.le_of_ble_eq_true rfl) ⟨Nat.le_of_ble_eq_true rfl, Nat.le_of_ble_eq_true rfl⟩ dL_areBins_191 (fun H locs hP hD hS => ?_)
              refine iv_bipush hx hb dL_areBins_194 (by decide +kernel) ?_
              obtain ⟨g103, h⟩ := gd_t h
              refine iv_ine (tgt := 317) hx hb g103 (by decide +kernel) dL_areBins_196 (by decide) (fun c104 => ?_) (fun c104 => ?_)
              · have h := it_f c104 h
                refine iv_iconst hx hb dL_areBins_317 ?_
                exact hj93 0 s101 _ _ _ h hP hD hS (lv_sub hl [0, 1, 2, 3, 4, 5, 6, 7, 8, 9, 10, 11, 12, 13] rfl)
              · have h := it_t c104 h
                refine lv_aload_n hx hb dL_areBins_199 rfl (lv_at hl 0 rfl) ?_
                refine lv_iload hx hb dL_areBins_200 (lv_at hl 5 rfl) ?_
                refine iv_iconst hx hb dL_areBins_202 ?_
                obtain ⟨u105, q106, h⟩ := bd_t h
                obtain ⟨s107, e108, h⟩ := nm_t h
                refine iv_callIp (As := [.int (zi v80), .int (zi 0)]) (rest := []) (ws1 := wLXmpn a hs am ap an E s107) ⟨hx, hb, hml, hown, hts⟩ (k_X7_bin l E a hs H.size N v80 0 s101.1 u105 q106) (cwV 2 hts gL_areBins_X7_bin rfl rfl rfl (by decide +kernel) ⟨Nat.le_of_ble_eq_true rfl, Nat.le_of_ble_eq_true rfl⟩) hK hP hD hS hA 0 7 rfl rfl (pm_last) (by rw [e108]; exact pm_last) rfl hl.1 (Nat.le_of_ble_eq_true rfl) ⟨Nat.le_of_ble_eq_true rfl, Nat.le_of_ble_eq_true rfl⟩ dL_areBins_203 (fun H locs hP hD hS => ?_)
                refine lv_iload hx hb dL_areBins_206 (lv_at hl 6 rfl) ?_
                obtain ⟨g109, h⟩ := gd_t h
                refine iv_ine (tgt := 317) hx hb g109 g97 dL_areBins_208 (by decide) (fun c110 => ?_) (fun c110 => ?_)
                · have h := it_f c110 h
                  refine iv_iconst hx hb dL_areBins_317 ?_
                  exact hj93 0 s107 _ _ _ h hP hD hS (lv_sub hl [0, 1, 2, 3, 4, 5, 6, 7, 8, 9, 10, 11, 12, 13] rfl)
                · have h := it_t c110 h
                  refine lv_aload_n hx hb dL_areBins_211 rfl (lv_at hl 0 rfl) ?_
                  refine lv_iload hx hb dL_areBins_212 (lv_at hl 5 rfl) ?_
                  refine iv_iconst hx hb dL_areBins_214 ?_
                  obtain ⟨u111, q112, h⟩ := bd_t h
                  obtain ⟨s113, e114, h⟩ := nm_t h
                  refine iv_callIp (As := [.int (zi v80), .int (zi 1)]) (rest := []) (ws1 := wLXmpn a hs am ap an E s113) ⟨hx, hb, hml, hown, hts⟩ (k_X7_bin l E a hs H.size N v80 1 s107.1 u111 q112) (cwV 2 hts gL_areBins_X7_bin rfl rfl rfl (by decide +kernel) ⟨Nat.le_of_ble_eq_true rfl, Nat.le_of_ble_eq_true rfl⟩) hK hP hD hS hA 0 7 rfl rfl (pm_last) (by rw [e114]; exact pm_last) rfl hl.1 (Nat.le_of_ble_eq_true rfl) ⟨Nat.le_of_ble_eq_true rfl, Nat.le_of_ble_eq_true rfl⟩ dL_areBins_215 (fun H locs hP hD hS => ?_)
                  refine lv_aload_n hx hb dL_areBins_218 rfl (lv_at hl 3 rfl) ?_
                  refine iv_bipush hx hb dL_areBins_219 (by decide +kernel) ?_
                  refine iv_iald (f := s113.2.2.2) (j := 6) hx hb hK.1 hP 128 0 rfl rfl (by decide) (by decide +kernel) rfl dL_areBins_221 ?_
                  refine lv_iload hx hb dL_areBins_222 (lv_at hl 6 rfl) ?_
                  obtain ⟨g115, h⟩ := gd_t h
                  obtain ⟨j118, e119, h⟩ := jn2_t h
                  have hj118 : ∀ (v116 : Int) (s117 : bLXmpn) (H : Heap) (locs : List Loc) (ls : Array Slot), j118 v116 s117 = some u → va_P E.1 vwCl (wLXmpn a hs am ap an E s117) H → va_D A (wLXmpn a hs am ap an E s117) → va_S A s.heap H locs → lv_has ls 14 [(0, .ref (a 0)), (1, .ref (am 0)), (2, .ref (ap 0)), (3, .ref (an 0)), (4, .int (zi v79)), (5, .int (zi v80)), (6, .int (zi v81)), (7, .int (zi v82)), (8, .int (zi v83)), (9, .int (zi v84)), (10, .int (zi v85)), (11, .int (zi v86)), (12, .int (zi v87)), (13, .int (zi v88))] → W p l e ({ frames := 4, cells := 0, slots := 0, locals := 89 }) s m ([.ref (a 0), .ref (am 0), .ref (ap 0), .ref (an 0)] : List Value).toArray below meth c H locs 0 0 (MQ below (mQi E (wLXmpn a hs am ap an E u.2) u.1 A) ([.ref (a 0), .ref (am 0), .ref (ap 0), .ref (an 0)] : List Value).toArray s 0 0 A) (F0 m 238 ls [.int (zi v116), .int (zi u111.1)]) := by
                    intro v116 s117 H locs ls h hP hD hS hl
                    rw [e119] at h
                    obtain ⟨g120, h⟩ := gd_t h
                    obtain ⟨g121, h⟩ := gd_t h
                    refine iv_ine (tgt := 317) hx hb g120 g121 dL_areBins_238 (by decide) (fun c122 => ?_) (fun c122 => ?_)
                    · have h := it_f c122 h
                      refine iv_iconst hx hb dL_areBins_317 ?_
                      exact hj93 0 s117 _ _ _ h hP hD hS (lv_sub hl [0, 1, 2, 3, 4, 5, 6, 7, 8, 9, 10, 11, 12, 13] rfl)
                    · have h := it_t c122 h
                      refine lv_aload_n hx hb dL_areBins_241 rfl (lv_at hl 0 rfl) ?_
                      refine lv_iload hx hb dL_areBins_242 (lv_at hl 5 rfl) ?_
                      refine iv_iconst hx hb dL_areBins_244 ?_
                      obtain ⟨u123, q124, h⟩ := bd_t h
                      obtain ⟨s125, e126, h⟩ := nm_t h
                      refine iv_callIp (As := [.int (zi v80), .int (zi 2)]) (rest := []) (ws1 := wLXmpn a hs am ap an E s125) ⟨hx, hb, hml, hown, hts⟩ (k_X7_bin l E a hs H.size N v80 2 s117.1 u123 q124) (cwV 2 hts gL_areBins_X7_bin rfl rfl rfl (by decide +kernel) ⟨Nat.le_of_ble_eq_true rfl, Nat.le_of_ble_eq_true rfl⟩) hK hP hD hS hA 0 7 rfl rfl (pm_last) (by rw [e126]; exact pm_last) rfl hl.1 (Nat.le_of_ble_eq_true rfl) ⟨Nat.le_of_ble_eq_true rfl, Nat.le_of_ble_eq_true rfl⟩ dL_areBins_245 (fun H locs hP hD hS => ?_)
                      refine lv_iload hx hb dL_areBins_248 (lv_at hl 7 rfl) ?_
                      obtain ⟨g127, h⟩ := gd_t h
                      obtain ⟨g128, h⟩ := gd_t h
                      refine iv_ine (tgt := 317) hx hb g127 g128 dL_areBins_250 (by decide) (fun c129 => ?_) (fun c129 => ?_)
                      · have h := it_f c129 h
                        refine iv_iconst hx hb dL_areBins_317 ?_
                        exact hj93 0 s125 _ _ _ h hP hD hS (lv_sub hl [0, 1, 2, 3, 4, 5, 6, 7, 8, 9, 10, 11, 12, 13] rfl)
                      · have h := it_t c129 h
                        refine lv_aload_n hx hb dL_areBins_253 rfl (lv_at hl 0 rfl) ?_
                        refine lv_iload hx hb dL_areBins_254 (lv_at hl 5 rfl) ?_
                        refine iv_iconst hx hb dL_areBins_256 ?_
                        obtain ⟨u130, q131, h⟩ := bd_t h
                        obtain ⟨s132, e133, h⟩ := nm_t h
                        refine iv_callIp (As := [.int (zi v80), .int (zi 3)]) (rest := []) (ws1 := wLXmpn a hs am ap an E s132) ⟨hx, hb, hml, hown, hts⟩ (k_X7_bin l E a hs H.size N v80 3 s125.1 u130 q131) (cwV 2 hts gL_areBins_X7_bin rfl rfl rfl (by decide +kernel) ⟨Nat.le_of_ble_eq_true rfl, Nat.le_of_ble_eq_true rfl⟩) hK hP hD hS hA 0 7 rfl rfl (pm_last) (by rw [e133]; exact pm_last) rfl hl.1 (Nat.le_of_ble_eq_true rfl) ⟨Nat.le_of_ble_eq_true rfl, Nat.le_of_ble_eq_true rfl⟩ dL_areBins_257 (fun H locs hP hD hS => ?_)
                        refine lv_iload hx hb dL_areBins_260 (lv_at hl 12 rfl) ?_
                        obtain ⟨g134, h⟩ := gd_t h
                        obtain ⟨g135, h⟩ := gd_t h
                        refine iv_ine (tgt := 317) hx hb g134 g135 dL_areBins_262 (by decide) (fun c136 => ?_) (fun c136 => ?_)
                        · have h := it_f c136 h
                          refine iv_iconst hx hb dL_areBins_317 ?_
                          exact hj93 0 s132 _ _ _ h hP hD hS (lv_sub hl [0, 1, 2, 3, 4, 5, 6, 7, 8, 9, 10, 11, 12, 13] rfl)
                        · have h := it_t c136 h
                          refine lv_aload_n hx hb dL_areBins_265 rfl (lv_at hl 0 rfl) ?_
                          refine lv_iload hx hb dL_areBins_266 (lv_at hl 5 rfl) ?_
                          refine iv_iconst hx hb dL_areBins_268 ?_
                          obtain ⟨u137, q138, h⟩ := bd_t h
                          obtain ⟨s139, e140, h⟩ := nm_t h
                          refine iv_callIp (As := [.int (zi v80), .int (zi 4)]) (rest := []) (ws1 := wLXmpn a hs am ap an E s139) ⟨hx, hb, hml, hown, hts⟩ (k_X7_bin l E a hs H.size N v80 4 s132.1 u137 q138) (cwV 2 hts gL_areBins_X7_bin rfl rfl rfl (by decide +kernel) ⟨Nat.le_of_ble_eq_true rfl, Nat.le_of_ble_eq_true rfl⟩) hK hP hD hS hA 0 7 rfl rfl (pm_last) (by rw [e140]; exact pm_last) rfl hl.1 (Nat.le_of_ble_eq_true rfl) ⟨Nat.le_of_ble_eq_true rfl, Nat.le_of_ble_eq_true rfl⟩ dL_areBins_269 (fun H locs hP hD hS => ?_)
                          refine lv_iload hx hb dL_areBins_272 (lv_at hl 6 rfl) ?_
                          obtain ⟨j143, e144, h⟩ := jn2_t h
                          have hj143 : ∀ (v141 : Int) (s142 : bLXmpn) (H : Heap) (locs : List Loc) (ls : Array Slot), j143 v141 s142 = some u → va_P E.1 vwCl (wLXmpn a hs am ap an E s142) H → va_D A (wLXmpn a hs am ap an E s142) → va_S A s.heap H locs → lv_has ls 14 [(0, .ref (a 0)), (1, .ref (am 0)), (2, .ref (ap 0)), (3, .ref (an 0)), (4, .int (zi v79)), (5, .int (zi v80)), (6, .int (zi v81)), (7, .int (zi v82)), (8, .int (zi v83)), (9, .int (zi v84)), (10, .int (zi v85)), (11, .int (zi v86)), (12, .int (zi v87)), (13, .int (zi v88))] → W p l e ({ frames := 4, cells := 0, slots := 0, locals := 89 }) s m ([.ref (a 0), .ref (am 0), .ref (ap 0), .ref (an 0)] : List Value).toArray below meth c H locs 0 0 (MQ below (mQi E (wLXmpn a hs am ap an E u.2) u.1 A) ([.ref (a 0), .ref (am 0), .ref (ap 0), .ref (an 0)] : List Value).toArray s 0 0 A) (F0 m 298 ls [.int (zi v141), .int (zi u137.1)]) := by
                            intro v141 s142 H locs ls h hP hD hS hl
                            rw [e144] at h
                            obtain ⟨g145, h⟩ := gd_t h
                            obtain ⟨g146, h⟩ := gd_t h
                            refine iv_ine (tgt := 317) hx hb g145 g146 dL_areBins_298 (by decide) (fun c147 => ?_) (fun c147 => ?_)
                            · have h := it_f c147 h
                              refine iv_iconst hx hb dL_areBins_317 ?_
                              exact hj93 0 s142 _ _ _ h hP hD hS (lv_sub hl [0, 1, 2, 3, 4, 5, 6, 7, 8, 9, 10, 11, 12, 13] rfl)
                            · have h := it_t c147 h
                              refine lv_aload_n hx hb dL_areBins_301 rfl (lv_at hl 0 rfl) ?_
                              refine lv_iload hx hb dL_areBins_302 (lv_at hl 5 rfl) ?_
                              refine iv_iconst hx hb dL_areBins_304 ?_
                              obtain ⟨u148, q149, h⟩ := bd_t h
                              obtain ⟨s150, e151, h⟩ := nm_t h
                              refine iv_callIp (As := [.int (zi v80), .int (zi 5)]) (rest := []) (ws1 := wLXmpn a hs am ap an E s150) ⟨hx, hb, hml, hown, hts⟩ (k_X7_bin l E a hs H.size N v80 5 s142.1 u148 q149) (cwV 2 hts gL_areBins_X7_bin rfl rfl rfl (by decide +kernel) ⟨Nat.le_of_ble_eq_true rfl, Nat.le_of_ble_eq_true rfl⟩) hK hP hD hS hA 0 7 rfl rfl (pm_last) (by rw [e151]; exact pm_last) rfl hl.1 (Nat.le_of_ble_eq_true rfl) ⟨Nat.le_of_ble_eq_true rfl, Nat.le_of_ble_eq_true rfl⟩ dL_areBins_305 (fun H locs hP hD hS => ?_)
                              refine iv_bipush hx hb dL_areBins_308 (by decide +kernel) ?_
                              obtain ⟨g152, h⟩ := gd_t h
                              refine iv_ine (tgt := 317) hx hb g152 (by decide +kernel) dL_areBins_310 (by decide) (fun c153 => ?_) (fun c153 => ?_)
                              · have h := it_f c153 h
                                refine iv_iconst hx hb dL_areBins_317 ?_
                                exact hj93 0 s150 _ _ _ h hP hD hS (lv_sub hl [0, 1, 2, 3, 4, 5, 6, 7, 8, 9, 10, 11, 12, 13] rfl)
                              · have h := it_t c153 h
                                refine iv_iconst hx hb dL_areBins_313 ?_
                                refine lv_goto (tgt := 318) hx hb dL_areBins_314 (by decide) ?_
                                exact hj93 1 s150 _ _ _ h hP hD hS (lv_sub hl [0, 1, 2, 3, 4, 5, 6, 7, 8, 9, 10, 11, 12, 13] rfl)
                          refine iv_ne (tgt := 281) hx hb g97 dL_areBins_274 (by decide) (fun c154 => ?_) (fun c154 => ?_)
                          · have h := it_f c154 h
                            refine lv_aload_n hx hb dL_areBins_281 rfl (lv_at hl 1 rfl) ?_
                            refine iv_iconst hx hb dL_areBins_282 ?_
                            refine lv_iload hx hb dL_areBins_283 (lv_at hl 10 rfl) ?_
                            refine iv_imul hx hb dL_areBins_285 ?_
                            refine iv_iconst hx hb dL_areBins_286 ?_
                            refine iv_iadd hx hb dL_areBins_287 ?_
                            obtain ⟨g155, h⟩ := gd_t h
                            refine iv_iald (f := s139.2.1) (j := ((3 * v85) + 1).toNat) hx hb hK.1 hP 126 0 rfl rfl (by decide) g155 rfl dL_areBins_288 ?_
                            refine lv_aload_n hx hb dL_areBins_289 rfl (lv_at hl 1 rfl) ?_
                            refine iv_iconst hx hb dL_areBins_290 ?_
                            refine lv_iload hx hb dL_areBins_291 (lv_at hl 11 rfl) ?_
                            refine iv_imul hx hb dL_areBins_293 ?_
                            refine iv_iconst hx hb dL_areBins_294 ?_
                            refine iv_iadd hx hb dL_areBins_295 ?_
                            obtain ⟨g156, h⟩ := gd_t h
                            refine iv_iald (f := s139.2.1) (j := ((3 * v86) + 1).toNat) hx hb hK.1 hP 126 0 rfl rfl (by decide) g156 rfl dL_areBins_296 ?_
                            refine iv_isub hx hb dL_areBins_297 ?_
                            exact hj143 ((s139.2.1 (((3 * v85) + 1).toNat)) - (s139.2.1 (((3 * v86) + 1).toNat))) s139 _ _ _ h hP hD hS (lv_sub hl [0, 1, 2, 3, 4, 5, 6, 7, 8, 9, 10, 11, 12, 13] rfl)
                          · have h := it_t c154 h
                            refine iv_iconst hx hb dL_areBins_277 ?_
                            refine lv_goto (tgt := 298) hx hb dL_areBins_278 (by decide) ?_
                            exact hj143 0 s139 _ _ _ h hP hD hS (lv_sub hl [0, 1, 2, 3, 4, 5, 6, 7, 8, 9, 10, 11, 12, 13] rfl)
                  refine iv_ige (tgt := 231) hx hb g115 g97 dL_areBins_224 (by decide) (fun c157 => ?_) (fun c157 => ?_)
                  · have h := it_t c157 h
                    refine lv_aload_n hx hb dL_areBins_231 rfl (lv_at hl 3 rfl) ?_
                    refine iv_bipush hx hb dL_areBins_232 (by decide +kernel) ?_
                    refine iv_iald (f := s113.2.2.2) (j := 6) hx hb hK.1 hP 128 0 rfl rfl (by decide) (by decide +kernel) rfl dL_areBins_234 ?_
                    refine lv_iload hx hb dL_areBins_235 (lv_at hl 6 rfl) ?_
                    refine iv_isub hx hb dL_areBins_237 ?_
                    exact hj118 ((s113.2.2.2 6) - v81) s113 _ _ _ h hP hD hS (lv_sub hl [0, 1, 2, 3, 4, 5, 6, 7, 8, 9, 10, 11, 12, 13] rfl)
                  · have h := it_f c157 h
                    refine iv_iconst hx hb dL_areBins_227 ?_
                    refine lv_goto (tgt := 238) hx hb dL_areBins_228 (by decide) ?_
                    exact hj118 0 s113 _ _ _ h hP hD hS (lv_sub hl [0, 1, 2, 3, 4, 5, 6, 7, 8, 9, 10, 11, 12, 13] rfl)
  have h := hf
  rw [f_L_areBins] at h
  refine lv_aload_n hx hb dL_areBins_0 rfl (lv_at hl 0 rfl) ?_
  refine iv_bipush hx hb dL_areBins_1 (by decide +kernel) ?_
  refine iv_iconst hx hb dL_areBins_3 ?_
  obtain ⟨u1, q2, h⟩ := bd_t h
  obtain ⟨s3, e4, h⟩ := nm_t h
  refine iv_callIp (As := [.int (zi 12), .int (zi 0)]) (rest := []) (ws1 := wLXmpn a hs am ap an E s3) ⟨hx, hb, hml, hown, hts⟩ (k_X7_bin l E a hs H.size N 12 0 z.1 u1 q2) (cwV 2 hts gL_areBins_X7_bin rfl rfl rfl (by decide +kernel) ⟨Nat.le_of_ble_eq_true rfl, Nat.le_of_ble_eq_true rfl⟩) hK hP hD hS hA 0 7 rfl rfl (pm_last) (by rw [e4]; exact pm_last) rfl hl.1 (Nat.le_of_ble_eq_true rfl) ⟨Nat.le_of_ble_eq_true rfl, Nat.le_of_ble_eq_true rfl⟩ dL_areBins_4 (fun H locs hP hD hS => ?_)
  refine iv_iconst hx hb dL_areBins_7 ?_
  obtain ⟨g5, h⟩ := gd_t h
  obtain ⟨j8, e9, h⟩ := jn2_t h
  have hj8 : ∀ (v6 : Int) (s7 : bLXmpn) (H : Heap) (locs : List Loc) (ls : Array Slot), j8 v6 s7 = some u → va_P E.1 vwCl (wLXmpn a hs am ap an E s7) H → va_D A (wLXmpn a hs am ap an E s7) → va_S A s.heap H locs → lv_has ls 14 [(0, .ref (a 0)), (1, .ref (am 0)), (2, .ref (ap 0)), (3, .ref (an 0))] → W p l e ({ frames := 4, cells := 0, slots := 0, locals := 89 }) s m ([.ref (a 0), .ref (am 0), .ref (ap 0), .ref (an 0)] : List Value).toArray below meth c H locs 0 0 (MQ below (mQi E (wLXmpn a hs am ap an E u.2) u.1 A) ([.ref (a 0), .ref (am 0), .ref (ap 0), .ref (an 0)] : List Value).toArray s 0 0 A) (F0 m 16 ls [.int (zi v6)]) := by
    intro v6 s7 H locs ls h hP hD hS hl
    rw [e9] at h
    refine lv_istore (lv' := [(4, .int (zi v6)), (0, .ref (a 0)), (1, .ref (am 0)), (2, .ref (ap 0)), (3, .ref (an 0))]) hx hb dL_areBins_16 hl (by decide) rfl (fun ls hl => ?_)
    refine iv_iconst hx hb dL_areBins_18 ?_
    refine lv_istore (lv' := [(5, .int (zi 0)), (4, .int (zi v6)), (0, .ref (a 0)), (1, .ref (am 0)), (2, .ref (ap 0)), (3, .ref (an 0))]) hx hb dL_areBins_19 hl (by decide) rfl (fun ls hl => ?_)
    refine loop21 (fun v158 v159 s160 => gd (inb v158 2) <| some (v158, s160)) N (fun v158 v159 s160 H locs ls h hP hD hS hl => ?_) v6 0 s7 _ _ _ h hP hD hS (lv_sub hl [2, 3, 4, 5, 1, 0] rfl)
    refine lv_iload hx hb dL_areBins_326 (lv_at hl 4 rfl) ?_
    obtain ⟨g161, h⟩ := gd_t h
    cases h
    exact iv_zret hx hb hr hlocks g161 hK hP hD hS dL_areBins_328
  refine iv_ine (tgt := 15) hx hb g5 (by decide +kernel) dL_areBins_8 (by decide) (fun c162 => ?_) (fun c162 => ?_)
  · have h := it_f c162 h
    refine iv_iconst hx hb dL_areBins_15 ?_
    exact hj8 0 s3 _ _ _ h hP hD hS (lv_sub hl [0, 1, 2, 3] rfl)
  · have h := it_t c162 h
    refine iv_iconst hx hb dL_areBins_11 ?_
    refine lv_goto (tgt := 16) hx hb dL_areBins_12 (by decide) ?_
    exact hj8 1 s3 _ _ _ h hP hD hS (lv_sub hl [0, 1, 2, 3] rfl)
