section
-- ===== PART A: goes FIRST, ahead of the names: the tables' words, and 'selects' of the private methods out of them =====
/-- a private method of a class that the tables say can be made, by its rows of tables_1 -/
def lw_okq (q : MethodName × Nat) : Prop := (q.1.cls ≠ "java/lang/invoke/MethodHandle" ∧ q.1.cls ≠ "java/lang/invoke/VarHandle") ∧ Cond.instantiable q.1.cls q.2 ∈ tables_1 ∧ Cond.privateMethod q.1 ∈ tables_1 ∧ Cond.instanceMethod q.1 ∈ tables_1
theorem lw_p0 : lw_okq (⟨"ShirtButtons$Batch", "takeButton", "(I)Z"⟩, 8) := ⟨⟨by decide +kernel, by decide +kernel⟩, List.mem_of_getElem? (i := 38) (by decide +kernel), List.mem_of_getElem? (i := 274) (by decide +kernel), List.mem_of_getElem? (i := 275) (by decide +kernel)⟩
theorem lw_p1 : lw_okq (⟨"ShirtButtons$Batch", "takeDigit", "(II)I"⟩, 8) := ⟨⟨by decide +kernel, by decide +kernel⟩, List.mem_of_getElem? (i := 38) (by decide +kernel), List.mem_of_getElem? (i := 278) (by decide +kernel), List.mem_of_getElem? (i := 279) (by decide +kernel)⟩
theorem lw_p2 : lw_okq (⟨"ShirtButtons$Batch", "takeSign", "(C)Z"⟩, 8) := ⟨⟨by decide +kernel, by decide +kernel⟩, List.mem_of_getElem? (i := 38) (by decide +kernel), List.mem_of_getElem? (i := 282) (by decide +kernel), List.mem_of_getElem? (i := 283) (by decide +kernel)⟩
theorem lw_p3 : lw_okq (⟨"ShirtButtons$Batch", "takeSize", "()I"⟩, 8) := ⟨⟨by decide +kernel, by decide +kernel⟩, List.mem_of_getElem? (i := 38) (by decide +kernel), List.mem_of_getElem? (i := 286) (by decide +kernel), List.mem_of_getElem? (i := 287) (by decide +kernel)⟩
theorem lw_p4 : lw_okq (⟨"ShirtButtons$Batch", "takePart", "(C)I"⟩, 8) := ⟨⟨by decide +kernel, by decide +kernel⟩, List.mem_of_getElem? (i := 38) (by decide +kernel), List.mem_of_getElem? (i := 290) (by decide +kernel), List.mem_of_getElem? (i := 291) (by decide +kernel)⟩
theorem lw_p5 : lw_okq (⟨"ShirtButtons$History", "dropOldest", "()V"⟩, 2) := ⟨⟨by decide +kernel, by decide +kernel⟩, List.mem_of_getElem? (i := 95) (by decide +kernel), List.mem_of_getElem? (i := 298) (by decide +kernel), List.mem_of_getElem? (i := 299) (by decide +kernel)⟩
theorem lw_p6 : lw_okq (⟨"ShirtButtons$State", "binFor", "(I)I"⟩, 8) := ⟨⟨by decide +kernel, by decide +kernel⟩, List.mem_of_getElem? (i := 102) (by decide +kernel), List.mem_of_getElem? (i := 351) (by decide +kernel), List.mem_of_getElem? (i := 352) (by decide +kernel)⟩
theorem lw_p7 : lw_okq (⟨"ShirtButtons$State", "meshClass", "(I)I"⟩, 8) := ⟨⟨by decide +kernel, by decide +kernel⟩, List.mem_of_getElem? (i := 102) (by decide +kernel), List.mem_of_getElem? (i := 355) (by decide +kernel), List.mem_of_getElem? (i := 356) (by decide +kernel)⟩
theorem lw_p8 : lw_okq (⟨"ShirtButtons$State", "rub", "(I)V"⟩, 8) := ⟨⟨by decide +kernel, by decide +kernel⟩, List.mem_of_getElem? (i := 102) (by decide +kernel), List.mem_of_getElem? (i := 365) (by decide +kernel), List.mem_of_getElem? (i := 366) (by decide +kernel)⟩
theorem lw_p9 : lw_okq (⟨"ShirtButtons$Order", "insert", "(II)V"⟩, 3) := ⟨⟨by decide +kernel, by decide +kernel⟩, List.mem_of_getElem? (i := 76) (by decide +kernel), List.mem_of_getElem? (i := 404) (by decide +kernel), List.mem_of_getElem? (i := 405) (by decide +kernel)⟩
theorem lw_p10 : lw_okq (⟨"ShirtButtons$Order", "spreadFrom", "(II)I"⟩, 3) := ⟨⟨by decide +kernel, by decide +kernel⟩, List.mem_of_getElem? (i := 76) (by decide +kernel), List.mem_of_getElem? (i := 412) (by decide +kernel), List.mem_of_getElem? (i := 413) (by decide +kernel)⟩
theorem lw_p11 : lw_okq (⟨"ShirtButtons", "refusalOf", "(I)I"⟩, 8) := ⟨⟨by decide +kernel, by decide +kernel⟩, List.mem_of_getElem? (i := 13) (by decide +kernel), List.mem_of_getElem? (i := 416) (by decide +kernel), List.mem_of_getElem? (i := 417) (by decide +kernel)⟩
theorem lw_p12 : lw_okq (⟨"ShirtButtonsModel", "record", "()V"⟩, 13) := ⟨⟨by decide +kernel, by decide +kernel⟩, List.mem_of_getElem? (i := 553) (by decide +kernel), List.mem_of_getElem? (i := 611) (by decide +kernel), List.mem_of_getElem? (i := 612) (by decide +kernel)⟩
theorem lw_p13 : lw_okq (⟨"ShirtButtonsModel", "sortOne", "()V"⟩, 13) := ⟨⟨by decide +kernel, by decide +kernel⟩, List.mem_of_getElem? (i := 553) (by decide +kernel), List.mem_of_getElem? (i := 622) (by decide +kernel), List.mem_of_getElem? (i := 623) (by decide +kernel)⟩
theorem lw_p14 : lw_okq (⟨"ShirtButtonsModel", "of", "(II)I"⟩, 13) := ⟨⟨by decide +kernel, by decide +kernel⟩, List.mem_of_getElem? (i := 553) (by decide +kernel), List.mem_of_getElem? (i := 626) (by decide +kernel), List.mem_of_getElem? (i := 627) (by decide +kernel)⟩
theorem lw_p15 : lw_okq (⟨"ShirtButtonsModel", "put", "(III)V"⟩, 13) := ⟨⟨by decide +kernel, by decide +kernel⟩, List.mem_of_getElem? (i := 553) (by decide +kernel), List.mem_of_getElem? (i := 630) (by decide +kernel), List.mem_of_getElem? (i := 631) (by decide +kernel)⟩
def lw_privs_1 : List (MethodName × Nat) := [(⟨"ShirtButtons$Batch", "takeButton", "(I)Z"⟩, 8), (⟨"ShirtButtons$Batch", "takeDigit", "(II)I"⟩, 8), (⟨"ShirtButtons$Batch", "takeSign", "(C)Z"⟩, 8), (⟨"ShirtButtons$Batch", "takeSize", "()I"⟩, 8), (⟨"ShirtButtons$Batch", "takePart", "(C)I"⟩, 8), (⟨"ShirtButtons$History", "dropOldest", "()V"⟩, 2), (⟨"ShirtButtons$State", "binFor", "(I)I"⟩, 8), (⟨"ShirtButtons$State", "meshClass", "(I)I"⟩, 8), (⟨"ShirtButtons$State", "rub", "(I)V"⟩, 8), (⟨"ShirtButtons$Order", "insert", "(II)V"⟩, 3), (⟨"ShirtButtons$Order", "spreadFrom", "(II)I"⟩, 3), (⟨"ShirtButtons", "refusalOf", "(I)I"⟩, 8), (⟨"ShirtButtonsModel", "record", "()V"⟩, 13), (⟨"ShirtButtonsModel", "sortOne", "()V"⟩, 13), (⟨"ShirtButtonsModel", "of", "(II)I"⟩, 13), (⟨"ShirtButtonsModel", "put", "(III)V"⟩, 13)]
theorem lw_r1 : ∀ q ∈ lw_privs_1, lw_okq q := List.forall_mem_cons.mpr ⟨lw_p0, List.forall_mem_cons.mpr ⟨lw_p1, List.forall_mem_cons.mpr ⟨lw_p2, List.forall_mem_cons.mpr ⟨lw_p3, List.forall_mem_cons.mpr ⟨lw_p4, List.forall_mem_cons.mpr ⟨lw_p5, List.forall_mem_cons.mpr ⟨lw_p6, List.forall_mem_cons.mpr ⟨lw_p7, List.forall_mem_cons.mpr ⟨lw_p8, List.forall_mem_cons.mpr ⟨lw_p9, List.forall_mem_cons.mpr ⟨lw_p10, List.forall_mem_cons.mpr ⟨lw_p11, List.forall_mem_cons.mpr ⟨lw_p12, List.forall_mem_cons.mpr ⟨lw_p13, List.forall_mem_cons.mpr ⟨lw_p14, List.forall_mem_cons.mpr ⟨lw_p15, fun _ h => absurd h List.not_mem_nil⟩⟩⟩⟩⟩⟩⟩⟩⟩⟩⟩⟩⟩⟩⟩⟩
theorem lw_p16 : lw_okq (⟨"ShirtButtonsModel", "placeFor", "(I)I"⟩, 13) := ⟨⟨by decide +kernel, by decide +kernel⟩, List.mem_of_getElem? (i := 553) (by decide +kernel), List.mem_of_getElem? (i := 634) (by decide +kernel), List.mem_of_getElem? (i := 635) (by decide +kernel)⟩
theorem lw_p17 : lw_okq (⟨"ShirtButtonsModel", "bring", "(II)V"⟩, 13) := ⟨⟨by decide +kernel, by decide +kernel⟩, List.mem_of_getElem? (i := 553) (by decide +kernel), List.mem_of_getElem? (i := 638) (by decide +kernel), List.mem_of_getElem? (i := 639) (by decide +kernel)⟩
theorem lw_p18 : lw_okq (⟨"ShirtButtonsModel", "at", "(I)I"⟩, 13) := ⟨⟨by decide +kernel, by decide +kernel⟩, List.mem_of_getElem? (i := 553) (by decide +kernel), List.mem_of_getElem? (i := 642) (by decide +kernel), List.mem_of_getElem? (i := 643) (by decide +kernel)⟩
theorem lw_p19 : lw_okq (⟨"ShirtButtonsModel", "letGoNow", "()I"⟩, 13) := ⟨⟨by decide +kernel, by decide +kernel⟩, List.mem_of_getElem? (i := 553) (by decide +kernel), List.mem_of_getElem? (i := 646) (by decide +kernel), List.mem_of_getElem? (i := 647) (by decide +kernel)⟩
theorem lw_p20 : lw_okq (⟨"ShirtButtonsModel", "classOf", "(I)I"⟩, 13) := ⟨⟨by decide +kernel, by decide +kernel⟩, List.mem_of_getElem? (i := 553) (by decide +kernel), List.mem_of_getElem? (i := 650) (by decide +kernel), List.mem_of_getElem? (i := 651) (by decide +kernel)⟩
theorem lw_p21 : lw_okq (⟨"ShirtButtonsModel", "binOf", "(I)I"⟩, 13) := ⟨⟨by decide +kernel, by decide +kernel⟩, List.mem_of_getElem? (i := 553) (by decide +kernel), List.mem_of_getElem? (i := 654) (by decide +kernel), List.mem_of_getElem? (i := 655) (by decide +kernel)⟩
theorem lw_p22 : lw_okq (⟨"ShirtButtonsModel", "manyIn", "(I)I"⟩, 13) := ⟨⟨by decide +kernel, by decide +kernel⟩, List.mem_of_getElem? (i := 553) (by decide +kernel), List.mem_of_getElem? (i := 658) (by decide +kernel), List.mem_of_getElem? (i := 659) (by decide +kernel)⟩
theorem lw_p23 : lw_okq (⟨"ShirtButtonsModel", "isIn", "(II)Z"⟩, 13) := ⟨⟨by decide +kernel, by decide +kernel⟩, List.mem_of_getElem? (i := 553) (by decide +kernel), List.mem_of_getElem? (i := 662) (by decide +kernel), List.mem_of_getElem? (i := 663) (by decide +kernel)⟩
theorem lw_p24 : lw_okq (⟨"ShirtButtonsModel", "toHopper", "(I)V"⟩, 13) := ⟨⟨by decide +kernel, by decide +kernel⟩, List.mem_of_getElem? (i := 553) (by decide +kernel), List.mem_of_getElem? (i := 666) (by decide +kernel), List.mem_of_getElem? (i := 667) (by decide +kernel)⟩
theorem lw_p25 : lw_okq (⟨"ShirtButtonsModel", "reasonFor", "(II)I"⟩, 13) := ⟨⟨by decide +kernel, by decide +kernel⟩, List.mem_of_getElem? (i := 553) (by decide +kernel), List.mem_of_getElem? (i := 685) (by decide +kernel), List.mem_of_getElem? (i := 686) (by decide +kernel)⟩
theorem lw_p26 : lw_okq (⟨"ShirtButtonsModel", "firstAlike", "(II)I"⟩, 13) := ⟨⟨by decide +kernel, by decide +kernel⟩, List.mem_of_getElem? (i := 553) (by decide +kernel), List.mem_of_getElem? (i := 689) (by decide +kernel), List.mem_of_getElem? (i := 690) (by decide +kernel)⟩
theorem lw_p27 : lw_okq (⟨"ShirtButtonsModel", "order", "(I)V"⟩, 13) := ⟨⟨by decide +kernel, by decide +kernel⟩, List.mem_of_getElem? (i := 553) (by decide +kernel), List.mem_of_getElem? (i := 693) (by decide +kernel), List.mem_of_getElem? (i := 694) (by decide +kernel)⟩
theorem lw_p28 : lw_okq (⟨"ShirtButtonsModel", "spread", "(II)I"⟩, 13) := ⟨⟨by decide +kernel, by decide +kernel⟩, List.mem_of_getElem? (i := 553) (by decide +kernel), List.mem_of_getElem? (i := 697) (by decide +kernel), List.mem_of_getElem? (i := 698) (by decide +kernel)⟩
theorem lw_p29 : lw_okq (⟨"ShirtButtonsModel", "shirtNow", "(II)I"⟩, 13) := ⟨⟨by decide +kernel, by decide +kernel⟩, List.mem_of_getElem? (i := 553) (by decide +kernel), List.mem_of_getElem? (i := 701) (by decide +kernel), List.mem_of_getElem? (i := 702) (by decide +kernel)⟩
theorem lw_p30 : lw_okq (⟨"ShirtButtonsModel", "isButton", "(I)Z"⟩, 13) := ⟨⟨by decide +kernel, by decide +kernel⟩, List.mem_of_getElem? (i := 553) (by decide +kernel), List.mem_of_getElem? (i := 709) (by decide +kernel), List.mem_of_getElem? (i := 710) (by decide +kernel)⟩
theorem lw_p31 : lw_okq (⟨"ShirtButtonsModel", "areMeshes", "(II)Z"⟩, 13) := ⟨⟨by decide +kernel, by decide +kernel⟩, List.mem_of_getElem? (i := 553) (by decide +kernel), List.mem_of_getElem? (i := 720) (by decide +kernel), List.mem_of_getElem? (i := 721) (by decide +kernel)⟩
def lw_privs_2 : List (MethodName × Nat) := [(⟨"ShirtButtonsModel", "placeFor", "(I)I"⟩, 13), (⟨"ShirtButtonsModel", "bring", "(II)V"⟩, 13), (⟨"ShirtButtonsModel", "at", "(I)I"⟩, 13), (⟨"ShirtButtonsModel", "letGoNow", "()I"⟩, 13), (⟨"ShirtButtonsModel", "classOf", "(I)I"⟩, 13), (⟨"ShirtButtonsModel", "binOf", "(I)I"⟩, 13), (⟨"ShirtButtonsModel", "manyIn", "(I)I"⟩, 13), (⟨"ShirtButtonsModel", "isIn", "(II)Z"⟩, 13), (⟨"ShirtButtonsModel", "toHopper", "(I)V"⟩, 13), (⟨"ShirtButtonsModel", "reasonFor", "(II)I"⟩, 13), (⟨"ShirtButtonsModel", "firstAlike", "(II)I"⟩, 13), (⟨"ShirtButtonsModel", "order", "(I)V"⟩, 13), (⟨"ShirtButtonsModel", "spread", "(II)I"⟩, 13), (⟨"ShirtButtonsModel", "shirtNow", "(II)I"⟩, 13), (⟨"ShirtButtonsModel", "isButton", "(I)Z"⟩, 13), (⟨"ShirtButtonsModel", "areMeshes", "(II)Z"⟩, 13)]
theorem lw_r2 : ∀ q ∈ lw_privs_2, lw_okq q := List.forall_mem_cons.mpr ⟨lw_p16, List.forall_mem_cons.mpr ⟨lw_p17, List.forall_mem_cons.mpr ⟨lw_p18, List.forall_mem_cons.mpr ⟨lw_p19, List.forall_mem_cons.mpr ⟨lw_p20, List.forall_mem_cons.mpr ⟨lw_p21, List.forall_mem_cons.mpr ⟨lw_p22, List.forall_mem_cons.mpr ⟨lw_p23, List.forall_mem_cons.mpr ⟨lw_p24, List.forall_mem_cons.mpr ⟨lw_p25, List.forall_mem_cons.mpr ⟨lw_p26, List.forall_mem_cons.mpr ⟨lw_p27, List.forall_mem_cons.mpr ⟨lw_p28, List.forall_mem_cons.mpr ⟨lw_p29, List.forall_mem_cons.mpr ⟨lw_p30, List.forall_mem_cons.mpr ⟨lw_p31, fun _ h => absurd h List.not_mem_nil⟩⟩⟩⟩⟩⟩⟩⟩⟩⟩⟩⟩⟩⟩⟩⟩
theorem lw_p32 : lw_okq (⟨"ShirtButtonsModel", "areButtons", "()Z"⟩, 13) := ⟨⟨by decide +kernel, by decide +kernel⟩, List.mem_of_getElem? (i := 553) (by decide +kernel), List.mem_of_getElem? (i := 736) (by decide +kernel), List.mem_of_getElem? (i := 737) (by decide +kernel)⟩
theorem lw_p33 : lw_okq (⟨"ShirtButtonsModel", "readsButton", "()Z"⟩, 13) := ⟨⟨by decide +kernel, by decide +kernel⟩, List.mem_of_getElem? (i := 553) (by decide +kernel), List.mem_of_getElem? (i := 740) (by decide +kernel), List.mem_of_getElem? (i := 741) (by decide +kernel)⟩
theorem lw_p34 : lw_okq (⟨"ShirtButtonsModel", "takes", "(II)Z"⟩, 13) := ⟨⟨by decide +kernel, by decide +kernel⟩, List.mem_of_getElem? (i := 553) (by decide +kernel), List.mem_of_getElem? (i := 744) (by decide +kernel), List.mem_of_getElem? (i := 745) (by decide +kernel)⟩
theorem lw_p35 : lw_okq (⟨"ShirtButtonsModel", "digit", "()I"⟩, 13) := ⟨⟨by decide +kernel, by decide +kernel⟩, List.mem_of_getElem? (i := 553) (by decide +kernel), List.mem_of_getElem? (i := 748) (by decide +kernel), List.mem_of_getElem? (i := 749) (by decide +kernel)⟩
theorem lw_p36 : lw_okq (⟨"ShirtButtonsModel", "readsSize", "()Z"⟩, 13) := ⟨⟨by decide +kernel, by decide +kernel⟩, List.mem_of_getElem? (i := 553) (by decide +kernel), List.mem_of_getElem? (i := 752) (by decide +kernel), List.mem_of_getElem? (i := 753) (by decide +kernel)⟩
theorem lw_p37 : lw_okq (⟨"ShirtButtonsModel", "readsDigit", "(II)Z"⟩, 13) := ⟨⟨by decide +kernel, by decide +kernel⟩, List.mem_of_getElem? (i := 553) (by decide +kernel), List.mem_of_getElem? (i := 756) (by decide +kernel), List.mem_of_getElem? (i := 757) (by decide +kernel)⟩
theorem lw_p38 : lw_okq (⟨"ShirtButtonsModel", "come", "(I)V"⟩, 13) := ⟨⟨by decide +kernel, by decide +kernel⟩, List.mem_of_getElem? (i := 553) (by decide +kernel), List.mem_of_getElem? (i := 760) (by decide +kernel), List.mem_of_getElem? (i := 761) (by decide +kernel)⟩
theorem lw_p39 : lw_okq (⟨"ShirtButtonsModel", "rankInHopper", "(I)I"⟩, 13) := ⟨⟨by decide +kernel, by decide +kernel⟩, List.mem_of_getElem? (i := 553) (by decide +kernel), List.mem_of_getElem? (i := 768) (by decide +kernel), List.mem_of_getElem? (i := 769) (by decide +kernel)⟩
theorem lw_p40 : lw_okq (⟨"ShirtButtonsModel", "sumOf", "(I)I"⟩, 13) := ⟨⟨by decide +kernel, by decide +kernel⟩, List.mem_of_getElem? (i := 553) (by decide +kernel), List.mem_of_getElem? (i := 780) (by decide +kernel), List.mem_of_getElem? (i := 781) (by decide +kernel)⟩
theorem lw_p41 : lw_okq (⟨"ShirtButtonsModel", "mostAlike", "(I)I"⟩, 13) := ⟨⟨by decide +kernel, by decide +kernel⟩, List.mem_of_getElem? (i := 553) (by decide +kernel), List.mem_of_getElem? (i := 784) (by decide +kernel), List.mem_of_getElem? (i := 785) (by decide +kernel)⟩
theorem lw_p42 : lw_okq (⟨"ShirtButtonsModel", "spreadOf", "(I)I"⟩, 13) := ⟨⟨by decide +kernel, by decide +kernel⟩, List.mem_of_getElem? (i := 553) (by decide +kernel), List.mem_of_getElem? (i := 788) (by decide +kernel), List.mem_of_getElem? (i := 789) (by decide +kernel)⟩
theorem lw_p43 : lw_okq (⟨"ShirtButtonsModel", "chips", "()I"⟩, 13) := ⟨⟨by decide +kernel, by decide +kernel⟩, List.mem_of_getElem? (i := 553) (by decide +kernel), List.mem_of_getElem? (i := 796) (by decide +kernel), List.mem_of_getElem? (i := 797) (by decide +kernel)⟩
theorem lw_p44 : lw_okq (⟨"ShirtButtonsModel", "putAside", "()V"⟩, 13) := ⟨⟨by decide +kernel, by decide +kernel⟩, List.mem_of_getElem? (i := 553) (by decide +kernel), List.mem_of_getElem? (i := 816) (by decide +kernel), List.mem_of_getElem? (i := 817) (by decide +kernel)⟩
theorem lw_p45 : lw_okq (⟨"ShirtButtonsModel", "putBack", "()V"⟩, 13) := ⟨⟨by decide +kernel, by decide +kernel⟩, List.mem_of_getElem? (i := 553) (by decide +kernel), List.mem_of_getElem? (i := 820) (by decide +kernel), List.mem_of_getElem? (i := 821) (by decide +kernel)⟩
def lw_privs_3 : List (MethodName × Nat) := [(⟨"ShirtButtonsModel", "areButtons", "()Z"⟩, 13), (⟨"ShirtButtonsModel", "readsButton", "()Z"⟩, 13), (⟨"ShirtButtonsModel", "takes", "(II)Z"⟩, 13), (⟨"ShirtButtonsModel", "digit", "()I"⟩, 13), (⟨"ShirtButtonsModel", "readsSize", "()Z"⟩, 13), (⟨"ShirtButtonsModel", "readsDigit", "(II)Z"⟩, 13), (⟨"ShirtButtonsModel", "come", "(I)V"⟩, 13), (⟨"ShirtButtonsModel", "rankInHopper", "(I)I"⟩, 13), (⟨"ShirtButtonsModel", "sumOf", "(I)I"⟩, 13), (⟨"ShirtButtonsModel", "mostAlike", "(I)I"⟩, 13), (⟨"ShirtButtonsModel", "spreadOf", "(I)I"⟩, 13), (⟨"ShirtButtonsModel", "chips", "()I"⟩, 13), (⟨"ShirtButtonsModel", "putAside", "()V"⟩, 13), (⟨"ShirtButtonsModel", "putBack", "()V"⟩, 13)]
theorem lw_r3 : ∀ q ∈ lw_privs_3, lw_okq q := List.forall_mem_cons.mpr ⟨lw_p32, List.forall_mem_cons.mpr ⟨lw_p33, List.forall_mem_cons.mpr ⟨lw_p34, List.forall_mem_cons.mpr ⟨lw_p35, List.forall_mem_cons.mpr ⟨lw_p36, List.forall_mem_cons.mpr ⟨lw_p37, List.forall_mem_cons.mpr ⟨lw_p38, List.forall_mem_cons.mpr ⟨lw_p39, List.forall_mem_cons.mpr ⟨lw_p40, List.forall_mem_cons.mpr ⟨lw_p41, List.forall_mem_cons.mpr ⟨lw_p42, List.forall_mem_cons.mpr ⟨lw_p43, List.forall_mem_cons.mpr ⟨lw_p44, List.forall_mem_cons.mpr ⟨lw_p45, fun _ h => absurd h List.not_mem_nil⟩⟩⟩⟩⟩⟩⟩⟩⟩⟩⟩⟩⟩⟩
def lw_privs : List (MethodName × Nat) := lw_privs_1 ++ (lw_privs_2 ++ (lw_privs_3))
def lw_tbl : List Cond := k2_sels lw_privs ++ tables_1
theorem lw_privs_ok : ∀ q ∈ lw_privs, lw_okq q := by
  show ∀ q ∈ lw_privs_1 ++ (lw_privs_2 ++ (lw_privs_3)), lw_okq q
  exact List.forall_mem_append.mpr ⟨lw_r1, List.forall_mem_append.mpr ⟨lw_r2, lw_r3⟩⟩
/-! ===== BEGIN words of one list among another's, by their places ===== -/
theorem goodIn_r {big : List Cond} (ws : List Cond) (ps : List Nat) (hp : ws = ps.filterMap (fun i => big[i]?)) (h : ws.all goodWord = true) : GoodIn big ws := by
  intro w hw
  have h1 := List.all_eq_true.mp h w hw
  rw [hp] at hw
  obtain ⟨i, -, hi⟩ := List.mem_filterMap.mp hw
  have hm : w ∈ big := by first | exact List.mem_of_getElem? hi | exact List.getElem?_mem hi
  exact ⟨hm, good_of_word h1⟩
theorem goodIn_app {big a b : List Cond} (ha : GoodIn big a) (hb : GoodIn big b) : GoodIn big (a ++ b) := fun w h => (List.mem_append.mp h).elim (ha w) (hb w)
theorem goodIn_ca {big a b : List Cond} {c : Cond} (ha : GoodIn big (c :: a)) (hb : GoodIn big b) : GoodIn big (c :: (a ++ b)) := fun w h => (List.mem_cons.mp h).elim (fun e => ha w (List.mem_cons.mpr (Or.inl e))) (fun h => (List.mem_append.mp h).elim (fun h => ha w (List.mem_cons.mpr (Or.inr h))) (hb w))
theorem goodIn_sub {big ws : List Cond} (hm : ∀ w ∈ ws, w ∈ big) (h : ws.all goodWord = true) : GoodIn big ws := fun w hw => ⟨hm w hw, good_of_word (List.all_eq_true.mp h w hw)⟩
/-! ===== END ===== -/

/-! ===== BEGIN printed: names, fields, word lists, decode rows ===== -/
def RX0 : String := "ShirtButtons$Batch"
def TX0 : u_T := fun k => match k with
  | 0 => ("ShirtButtons$Batch", "holes", "[I", true)
  | 1 => ("ShirtButtons$Batch", "size", "[I", true)
  | 2 => ("ShirtButtons$Batch", "iron", "[I", true)
  | 3 => ("ShirtButtons$Batch", "chips", "[I", true)
  | 4 => ("ShirtButtons$Batch", "shine", "[I", true)
  | 5 => ("ShirtButtons$Batch", "count", "I", false)
  | 6 => ("ShirtButtons$Batch", "source", "LShirtButtons$Text;", true)
  | _ => ("ShirtButtons$Batch", "at", "I", false)
def tyX0 : Nat → FieldType := fun k => match k with
  | 0 => .array .int
  | 1 => .array .int
  | 2 => .array .int
  | 3 => .array .int
  | 4 => .array .int
  | 5 => .int
  | 6 => .object "ShirtButtons$Text"
  | _ => .int
abbrev wsX00 : List Cond := u_ws RX0 TX0 8
theorem nmX0 : ∀ a, a < 8 → ∀ b, b < 8 → a ≠ b → (TX0 a).2.1 ≠ (TX0 b).2.1 := by decide +kernel
theorem tyX0_ok : ∀ k, k < 8 → parseFieldDescriptor (TX0 k).2.2.1 = some (tyX0 k) := by decide +kernel
abbrev cX0_init : ByteArray := prog_2_method_1_code
def yX0_init : MethodName := ⟨RX0, "<init>", "(LShirtButtons$Text;)V"⟩
abbrev cX0_parse : ByteArray := prog_2_method_2_code
def yX0_parse : MethodName := ⟨RX0, "parse", "()I"⟩
abbrev cX0_takeButton : ByteArray := prog_2_method_3_code
def yX0_takeButton : MethodName := ⟨RX0, "takeButton", "(I)Z"⟩
abbrev cX0_takePart : ByteArray := prog_2_method_4_code
def yX0_takePart : MethodName := ⟨RX0, "takePart", "(C)I"⟩
abbrev cX0_takeSize : ByteArray := prog_2_method_5_code
def yX0_takeSize : MethodName := ⟨RX0, "takeSize", "()I"⟩
abbrev cX0_takeSign : ByteArray := prog_2_method_6_code
def yX0_takeSign : MethodName := ⟨RX0, "takeSign", "(C)Z"⟩
abbrev cX0_takeDigit : ByteArray := prog_2_method_7_code
def yX0_takeDigit : MethodName := ⟨RX0, "takeDigit", "(II)I"⟩
def RX1 : String := "ShirtButtons$Buttons"
def TX1 : u_T := fun k => match k with
  | 0 => ("ShirtButtons$Buttons", "holes", "[I", true)
  | 1 => ("ShirtButtons$Buttons", "size", "[I", true)
  | 2 => ("ShirtButtons$Buttons", "iron", "[I", true)
  | 3 => ("ShirtButtons$Buttons", "chips", "[I", true)
  | 4 => ("ShirtButtons$Buttons", "shine", "[I", true)
  | 5 => ("ShirtButtons$Buttons", "sortings", "[I", true)
  | _ => ("ShirtButtons$Buttons", "count", "I", false)
def tyX1 : Nat → FieldType := fun k => match k with
  | 0 => .array .int
  | 1 => .array .int
  | 2 => .array .int
  | 3 => .array .int
  | 4 => .array .int
  | 5 => .array .int
  | _ => .int
abbrev wsX10 : List Cond := u_ws RX1 TX1 7
theorem nmX1 : ∀ a, a < 7 → ∀ b, b < 7 → a ≠ b → (TX1 a).2.1 ≠ (TX1 b).2.1 := by decide +kernel
theorem tyX1_ok : ∀ k, k < 7 → parseFieldDescriptor (TX1 k).2.2.1 = some (tyX1 k) := by decide +kernel
abbrev cX1_init : ByteArray := prog_3_method_1_code
def yX1_init : MethodName := ⟨RX1, "<init>", "()V"⟩
abbrev cX1_has : ByteArray := prog_3_method_2_code
def yX1_has : MethodName := ⟨RX1, "has", "(I)Z"⟩
abbrev cX1_brighten : ByteArray := prog_3_method_3_code
def yX1_brighten : MethodName := ⟨RX1, "brighten", "(I)V"⟩
abbrev cX1_chip : ByteArray := prog_3_method_4_code
def yX1_chip : MethodName := ⟨RX1, "chip", "(I)V"⟩
abbrev cX1_chipSum : ByteArray := prog_3_method_5_code
def yX1_chipSum : MethodName := ⟨RX1, "chipSum", "()I"⟩
abbrev cX1_copyFrom : ByteArray := prog_3_method_6_code
def yX1_copyFrom : MethodName := ⟨RX1, "copyFrom", "(LShirtButtons$Buttons;)V"⟩
def RX2 : String := "ShirtButtons$History"
def TX2 : u_T := fun k => match k with
  | 0 => ("ShirtButtons$History", "states", "[LShirtButtons$State;", true)
  | _ => ("ShirtButtons$History", "count", "I", false)
def tyX2 : Nat → FieldType := fun k => match k with
  | 0 => .array (.object "ShirtButtons$State")
  | _ => .int
abbrev wsX20 : List Cond := u_ws RX2 TX2 2
theorem nmX2 : ∀ a, a < 2 → ∀ b, b < 2 → a ≠ b → (TX2 a).2.1 ≠ (TX2 b).2.1 := by decide +kernel
theorem tyX2_ok : ∀ k, k < 2 → parseFieldDescriptor (TX2 k).2.2.1 = some (tyX2 k) := by decide +kernel
abbrev cX2_init : ByteArray := prog_4_method_1_code
def yX2_init : MethodName := ⟨RX2, "<init>", "()V"⟩
abbrev cX2_remember : ByteArray := prog_4_method_2_code
def yX2_remember : MethodName := ⟨RX2, "remember", "(LShirtButtons$State;)V"⟩
abbrev cX2_dropOldest : ByteArray := prog_4_method_3_code
def yX2_dropOldest : MethodName := ⟨RX2, "dropOldest", "()V"⟩
abbrev cX2_takeBack : ByteArray := prog_4_method_4_code
def yX2_takeBack : MethodName := ⟨RX2, "takeBack", "(LShirtButtons$State;)Z"⟩
def RX3 : String := "ShirtButtons$Order"
def TX3 : u_T := fun k => match k with
  | 0 => ("ShirtButtons$Order", "numbers", "[I", true)
  | 1 => ("ShirtButtons$Order", "shine", "[I", true)
  | _ => ("ShirtButtons$Order", "count", "I", false)
def tyX3 : Nat → FieldType := fun k => match k with
  | 0 => .array .int
  | 1 => .array .int
  | _ => .int
abbrev wsX30 : List Cond := u_ws RX3 TX3 3
theorem nmX3 : ∀ a, a < 3 → ∀ b, b < 3 → a ≠ b → (TX3 a).2.1 ≠ (TX3 b).2.1 := by decide +kernel
theorem tyX3_ok : ∀ k, k < 3 → parseFieldDescriptor (TX3 k).2.2.1 = some (tyX3 k) := by decide +kernel
abbrev cX3_init : ByteArray := prog_5_method_1_code
def yX3_init : MethodName := ⟨RX3, "<init>", "()V"⟩
abbrev cX3_fill : ByteArray := prog_5_method_2_code
def yX3_fill : MethodName := ⟨RX3, "fill", "(LShirtButtons$State;I)V"⟩
abbrev cX3_insert : ByteArray := prog_5_method_3_code
def yX3_insert : MethodName := ⟨RX3, "insert", "(II)V"⟩
abbrev cX3_spreadFrom : ByteArray := prog_5_method_4_code
def yX3_spreadFrom : MethodName := ⟨RX3, "spreadFrom", "(II)I"⟩
abbrev cX3_firstAlike : ByteArray := prog_5_method_5_code
def yX3_firstAlike : MethodName := ⟨RX3, "firstAlike", "(II)I"⟩
abbrev cX3_narrowest : ByteArray := prog_5_method_6_code
def yX3_narrowest : MethodName := ⟨RX3, "narrowest", "(I)I"⟩
abbrev cX3_mostAlike : ByteArray := prog_5_method_7_code
def yX3_mostAlike : MethodName := ⟨RX3, "mostAlike", "(I)I"⟩
abbrev cX3_groups : ByteArray := prog_5_method_8_code
def yX3_groups : MethodName := ⟨RX3, "groups", "(II)I"⟩
abbrev cX3_shineSum : ByteArray := prog_5_method_9_code
def yX3_shineSum : MethodName := ⟨RX3, "shineSum", "()I"⟩
def RX4 : String := "ShirtButtons$Places"
def TX4 : u_T := fun k => match k with
  | 0 => ("ShirtButtons$Places", "place", "[I", true)
  | 1 => ("ShirtButtons$Places", "binOf", "[I", true)
  | 2 => ("ShirtButtons$Places", "shirtOf", "[I", true)
  | 3 => ("ShirtButtons$Places", "hopper", "[I", true)
  | 4 => ("ShirtButtons$Places", "at", "[I", true)
  | _ => ("ShirtButtons$Places", "inBin", "[I", true)
def tyX4 : Nat → FieldType := fun k => match k with
  | 0 => .array .int
  | 1 => .array .int
  | 2 => .array .int
  | 3 => .array .int
  | 4 => .array .int
  | _ => .array .int
abbrev wsX40 : List Cond := u_ws RX4 TX4 6
theorem nmX4 : ∀ a, a < 6 → ∀ b, b < 6 → a ≠ b → (TX4 a).2.1 ≠ (TX4 b).2.1 := by decide +kernel
theorem tyX4_ok : ∀ k, k < 6 → parseFieldDescriptor (TX4 k).2.2.1 = some (tyX4 k) := by decide +kernel
abbrev cX4_init : ByteArray := prog_6_method_1_code
def yX4_init : MethodName := ⟨RX4, "<init>", "()V"⟩
abbrev cX4_takeFirst : ByteArray := prog_6_method_2_code
def yX4_takeFirst : MethodName := ⟨RX4, "takeFirst", "()I"⟩
abbrev cX4_leave : ByteArray := prog_6_method_3_code
def yX4_leave : MethodName := ⟨RX4, "leave", "(I)V"⟩
abbrev cX4_bringToHopper : ByteArray := prog_6_method_4_code
def yX4_bringToHopper : MethodName := ⟨RX4, "bringToHopper", "(I)V"⟩
abbrev cX4_bringToBin : ByteArray := prog_6_method_5_code
def yX4_bringToBin : MethodName := ⟨RX4, "bringToBin", "(II)V"⟩
abbrev cX4_bringToShirt : ByteArray := prog_6_method_6_code
def yX4_bringToShirt : MethodName := ⟨RX4, "bringToShirt", "(II)V"⟩
abbrev cX4_bring : ByteArray := prog_6_method_7_code
def yX4_bring : MethodName := ⟨RX4, "bring", "(II)V"⟩
abbrev cX4_rankInHopper : ByteArray := prog_6_method_8_code
def yX4_rankInHopper : MethodName := ⟨RX4, "rankInHopper", "(I)I"⟩
abbrev cX4_copyFrom : ByteArray := prog_6_method_9_code
def yX4_copyFrom : MethodName := ⟨RX4, "copyFrom", "(LShirtButtons$Places;I)V"⟩
def RX5 : String := "ShirtButtons$State"
def TX5 : u_T := fun k => match k with
  | 0 => ("ShirtButtons$State", "buttons", "LShirtButtons$Buttons;", true)
  | 1 => ("ShirtButtons$State", "places", "LShirtButtons$Places;", true)
  | 2 => ("ShirtButtons$State", "settings", "[I", true)
  | 3 => ("ShirtButtons$State", "shirtsMade", "I", false)
  | 4 => ("ShirtButtons$State", "worthMade", "I", false)
  | 5 => ("ShirtButtons$State", "sortingsDone", "I", false)
  | 6 => ("ShirtButtons$State", "goneBack", "I", false)
  | _ => ("ShirtButtons$State", "rubbed", "I", false)
def tyX5 : Nat → FieldType := fun k => match k with
  | 0 => .object "ShirtButtons$Buttons"
  | 1 => .object "ShirtButtons$Places"
  | 2 => .array .int
  | 3 => .int
  | 4 => .int
  | 5 => .int
  | 6 => .int
  | _ => .int
abbrev wsX50 : List Cond := u_ws RX5 TX5 8
theorem nmX5 : ∀ a, a < 8 → ∀ b, b < 8 → a ≠ b → (TX5 a).2.1 ≠ (TX5 b).2.1 := by decide +kernel
theorem tyX5_ok : ∀ k, k < 8 → parseFieldDescriptor (TX5 k).2.2.1 = some (tyX5 k) := by decide +kernel
abbrev cX5_init : ByteArray := prog_7_method_1_code
def yX5_init : MethodName := ⟨RX5, "<init>", "()V"⟩
abbrev cX5_takeIn : ByteArray := prog_7_method_2_code
def yX5_takeIn : MethodName := ⟨RX5, "takeIn", "(LShirtButtons$Batch;I)V"⟩
abbrev cX5_placeFor : ByteArray := prog_7_method_3_code
def yX5_placeFor : MethodName := ⟨RX5, "placeFor", "(I)I"⟩
abbrev cX5_meshClass : ByteArray := prog_7_method_4_code
def yX5_meshClass : MethodName := ⟨RX5, "meshClass", "(I)I"⟩
abbrev cX5_binFor : ByteArray := prog_7_method_5_code
def yX5_binFor : MethodName := ⟨RX5, "binFor", "(I)I"⟩
abbrev cX5_sortFirst : ByteArray := prog_7_method_6_code
def yX5_sortFirst : MethodName := ⟨RX5, "sortFirst", "()V"⟩
abbrev cX5_rub : ByteArray := prog_7_method_7_code
def yX5_rub : MethodName := ⟨RX5, "rub", "(I)V"⟩
abbrev cX5_emptyMagnet : ByteArray := prog_7_method_8_code
def yX5_emptyMagnet : MethodName := ⟨RX5, "emptyMagnet", "()V"⟩
abbrev cX5_emptyBin : ByteArray := prog_7_method_9_code
def yX5_emptyBin : MethodName := ⟨RX5, "emptyBin", "(I)V"⟩
abbrev cX5_makeShirt : ByteArray := prog_7_method_10_code
def yX5_makeShirt : MethodName := ⟨RX5, "makeShirt", "(LShirtButtons$Order;II)I"⟩
abbrev cX5_meshesAllow : ByteArray := prog_7_method_11_code
def yX5_meshesAllow : MethodName := ⟨RX5, "meshesAllow", "(II)Z"⟩
abbrev cX5_copyFrom : ByteArray := prog_7_method_12_code
def yX5_copyFrom : MethodName := ⟨RX5, "copyFrom", "(LShirtButtons$State;)V"⟩
def RX6 : String := "ShirtButtons$Text"
def TX6 : u_T := fun k => match k with
  | 0 => ("ShirtButtons$Text", "signs", "[C", true)
  | _ => ("ShirtButtons$Text", "length", "I", false)
def tyX6 : Nat → FieldType := fun k => match k with
  | 0 => .array .char
  | _ => .int
abbrev wsX60 : List Cond := u_ws RX6 TX6 2
theorem nmX6 : ∀ a, a < 2 → ∀ b, b < 2 → a ≠ b → (TX6 a).2.1 ≠ (TX6 b).2.1 := by decide +kernel
theorem tyX6_ok : ∀ k, k < 2 → parseFieldDescriptor (TX6 k).2.2.1 = some (tyX6 k) := by decide +kernel
abbrev cX6_init : ByteArray := prog_8_method_1_code
def yX6_init : MethodName := ⟨RX6, "<init>", "()V"⟩
abbrev cX6_append : ByteArray := prog_8_method_2_code
def yX6_append : MethodName := ⟨RX6, "append", "(C)Z"⟩
def RX7 : String := "ShirtButtons"
def TX7 : u_T := fun k => match k with
  | 0 => ("ShirtButtons", "text", "LShirtButtons$Text;", true)
  | 1 => ("ShirtButtons", "batch", "LShirtButtons$Batch;", true)
  | 2 => ("ShirtButtons", "order", "LShirtButtons$Order;", true)
  | 3 => ("ShirtButtons", "history", "LShirtButtons$History;", true)
  | 4 => ("ShirtButtons", "now", "LShirtButtons$State;", true)
  | 5 => ("ShirtButtons", "snapshot", "LShirtButtons$State;", true)
  | 6 => ("ShirtButtons", "trial", "LShirtButtons$State;", true)
  | _ => ("ShirtButtons", "hasSnapshot", "Z", false)
def tyX7 : Nat → FieldType := fun k => match k with
  | 0 => .object "ShirtButtons$Text"
  | 1 => .object "ShirtButtons$Batch"
  | 2 => .object "ShirtButtons$Order"
  | 3 => .object "ShirtButtons$History"
  | 4 => .object "ShirtButtons$State"
  | 5 => .object "ShirtButtons$State"
  | 6 => .object "ShirtButtons$State"
  | _ => .boolean
abbrev wsX70 : List Cond := u_ws RX7 TX7 8
theorem nmX7 : ∀ a, a < 8 → ∀ b, b < 8 → a ≠ b → (TX7 a).2.1 ≠ (TX7 b).2.1 := by decide +kernel
theorem tyX7_ok : ∀ k, k < 8 → parseFieldDescriptor (TX7 k).2.2.1 = some (tyX7 k) := by decide +kernel
abbrev cX7_init : ByteArray := prog_1_method_1_code
def yX7_init : MethodName := ⟨RX7, "<init>", "()V"⟩
abbrev cX7_read : ByteArray := prog_1_method_2_code
def yX7_read : MethodName := ⟨RX7, "read", "()I"⟩
abbrev cX7_sort : ByteArray := prog_1_method_3_code
def yX7_sort : MethodName := ⟨RX7, "sort", "(I)I"⟩
abbrev cX7_letGo : ByteArray := prog_1_method_4_code
def yX7_letGo : MethodName := ⟨RX7, "letGo", "()I"⟩
abbrev cX7_pour : ByteArray := prog_1_method_5_code
def yX7_pour : MethodName := ⟨RX7, "pour", "(I)I"⟩
abbrev cX7_shirt : ByteArray := prog_1_method_6_code
def yX7_shirt : MethodName := ⟨RX7, "shirt", "(II)I"⟩
abbrev cX7_polish : ByteArray := prog_1_method_7_code
def yX7_polish : MethodName := ⟨RX7, "polish", "(I)I"⟩
abbrev cX7_set : ByteArray := prog_1_method_8_code
def yX7_set : MethodName := ⟨RX7, "set", "(II)I"⟩
abbrev cX7_type : ByteArray := prog_1_method_9_code
def yX7_type : MethodName := ⟨RX7, "type", "(C)I"⟩
abbrev cX7_clearText : ByteArray := prog_1_method_10_code
def yX7_clearText : MethodName := ⟨RX7, "clearText", "()I"⟩
abbrev cX7_undo : ByteArray := prog_1_method_11_code
def yX7_undo : MethodName := ⟨RX7, "undo", "()I"⟩
abbrev cX7_keep : ByteArray := prog_1_method_12_code
def yX7_keep : MethodName := ⟨RX7, "keep", "()I"⟩
abbrev cX7_restore : ByteArray := prog_1_method_13_code
def yX7_restore : MethodName := ⟨RX7, "restore", "()I"⟩
abbrev cX7_button : ByteArray := prog_1_method_14_code
def yX7_button : MethodName := ⟨RX7, "button", "(II)I"⟩
abbrev cX7_inBin : ByteArray := prog_1_method_15_code
def yX7_inBin : MethodName := ⟨RX7, "inBin", "(II)I"⟩
abbrev cX7_bin : ByteArray := prog_1_method_16_code
def yX7_bin : MethodName := ⟨RX7, "bin", "(II)I"⟩
abbrev cX7_total : ByteArray := prog_1_method_17_code
def yX7_total : MethodName := ⟨RX7, "total", "(I)I"⟩
abbrev cX7_goesTo : ByteArray := prog_1_method_18_code
def yX7_goesTo : MethodName := ⟨RX7, "goesTo", "(I)I"⟩
abbrev cX7_reason : ByteArray := prog_1_method_19_code
def yX7_reason : MethodName := ⟨RX7, "reason", "(II)I"⟩
abbrev cX7_leastSpread : ByteArray := prog_1_method_20_code
def yX7_leastSpread : MethodName := ⟨RX7, "leastSpread", "(II)I"⟩
abbrev cX7_shirts : ByteArray := prog_1_method_21_code
def yX7_shirts : MethodName := ⟨RX7, "shirts", "(I)I"⟩
abbrev cX7_ifMesh : ByteArray := prog_1_method_22_code
def yX7_ifMesh : MethodName := ⟨RX7, "ifMesh", "(III)I"⟩
abbrev cX7_isBin : ByteArray := prog_1_method_23_code
def yX7_isBin : MethodName := ⟨RX7, "isBin", "(I)Z"⟩
abbrev cX7_isWanted : ByteArray := prog_1_method_24_code
def yX7_isWanted : MethodName := ⟨RX7, "isWanted", "(I)Z"⟩
abbrev cX7_isValue : ByteArray := prog_1_method_25_code
def yX7_isValue : MethodName := ⟨RX7, "isValue", "(II)Z"⟩
abbrev cX7_refusalOf : ByteArray := prog_1_method_26_code
def yX7_refusalOf : MethodName := ⟨RX7, "refusalOf", "(I)I"⟩
def RX8 : String := "ShirtButtonsModel"
def TX8 : u_T := fun k => match k with
  | 0 => ("ShirtButtonsModel", "row", "[I", true)
  | 1 => ("ShirtButtonsModel", "history", "[I", true)
  | 2 => ("ShirtButtonsModel", "states", "I", false)
  | 3 => ("ShirtButtonsModel", "snapshot", "[I", true)
  | 4 => ("ShirtButtonsModel", "isKept", "Z", false)
  | 5 => ("ShirtButtonsModel", "aside", "[I", true)
  | 6 => ("ShirtButtonsModel", "line", "[I", true)
  | 7 => ("ShirtButtonsModel", "lineMany", "I", false)
  | 8 => ("ShirtButtonsModel", "text", "[I", true)
  | 9 => ("ShirtButtonsModel", "length", "I", false)
  | 10 => ("ShirtButtonsModel", "spot", "I", false)
  | 11 => ("ShirtButtonsModel", "reads", "I", false)
  | _ => ("ShirtButtonsModel", "read", "[I", true)
def tyX8 : Nat → FieldType := fun k => match k with
  | 0 => .array .int
  | 1 => .array .int
  | 2 => .int
  | 3 => .array .int
  | 4 => .boolean
  | 5 => .array .int
  | 6 => .array .int
  | 7 => .int
  | 8 => .array .int
  | 9 => .int
  | 10 => .int
  | 11 => .int
  | _ => .array .int
abbrev wsX80 : List Cond := u_ws RX8 TX8 13
theorem nmX8 : ∀ a, a < 13 → ∀ b, b < 13 → a ≠ b → (TX8 a).2.1 ≠ (TX8 b).2.1 := by decide +kernel
theorem tyX8_ok : ∀ k, k < 13 → parseFieldDescriptor (TX8 k).2.2.1 = some (tyX8 k) := by decide +kernel
abbrev cX8_init : ByteArray := prog_10_method_1_code
def yX8_init : MethodName := ⟨RX8, "<init>", "()V"⟩
abbrev cX8_in : ByteArray := prog_10_method_2_code
def yX8_in : MethodName := ⟨RX8, "in", "(III)Z"⟩
abbrev cX8_isButton : ByteArray := prog_10_method_3_code
def yX8_isButton : MethodName := ⟨RX8, "isButton", "(I)Z"⟩
abbrev cX8_isBin : ByteArray := prog_10_method_4_code
def yX8_isBin : MethodName := ⟨RX8, "isBin", "(I)Z"⟩
abbrev cX8_of : ByteArray := prog_10_method_5_code
def yX8_of : MethodName := ⟨RX8, "of", "(II)I"⟩
abbrev cX8_put : ByteArray := prog_10_method_6_code
def yX8_put : MethodName := ⟨RX8, "put", "(III)V"⟩
abbrev cX8_putAside : ByteArray := prog_10_method_7_code
def yX8_putAside : MethodName := ⟨RX8, "putAside", "()V"⟩
abbrev cX8_putBack : ByteArray := prog_10_method_8_code
def yX8_putBack : MethodName := ⟨RX8, "putBack", "()V"⟩
abbrev cX8_record : ByteArray := prog_10_method_9_code
def yX8_record : MethodName := ⟨RX8, "record", "()V"⟩
abbrev cX8_undo : ByteArray := prog_10_method_10_code
def yX8_undo : MethodName := ⟨RX8, "undo", "()I"⟩
abbrev cX8_keep : ByteArray := prog_10_method_11_code
def yX8_keep : MethodName := ⟨RX8, "keep", "()I"⟩
abbrev cX8_restore : ByteArray := prog_10_method_12_code
def yX8_restore : MethodName := ⟨RX8, "restore", "()I"⟩
abbrev cX8_at : ByteArray := prog_10_method_13_code
def yX8_at : MethodName := ⟨RX8, "at", "(I)I"⟩
abbrev cX8_isIn : ByteArray := prog_10_method_14_code
def yX8_isIn : MethodName := ⟨RX8, "isIn", "(II)Z"⟩
abbrev cX8_manyIn : ByteArray := prog_10_method_15_code
def yX8_manyIn : MethodName := ⟨RX8, "manyIn", "(I)I"⟩
abbrev cX8_bring : ByteArray := prog_10_method_16_code
def yX8_bring : MethodName := ⟨RX8, "bring", "(II)V"⟩
abbrev cX8_toHopper : ByteArray := prog_10_method_17_code
def yX8_toHopper : MethodName := ⟨RX8, "toHopper", "(I)V"⟩
abbrev cX8_letGoNow : ByteArray := prog_10_method_18_code
def yX8_letGoNow : MethodName := ⟨RX8, "letGoNow", "()I"⟩
abbrev cX8_classOf : ByteArray := prog_10_method_19_code
def yX8_classOf : MethodName := ⟨RX8, "classOf", "(I)I"⟩
abbrev cX8_binOf : ByteArray := prog_10_method_20_code
def yX8_binOf : MethodName := ⟨RX8, "binOf", "(I)I"⟩
abbrev cX8_placeFor : ByteArray := prog_10_method_21_code
def yX8_placeFor : MethodName := ⟨RX8, "placeFor", "(I)I"⟩
abbrev cX8_sortOne : ByteArray := prog_10_method_22_code
def yX8_sortOne : MethodName := ⟨RX8, "sortOne", "()V"⟩
abbrev cX8_sort : ByteArray := prog_10_method_23_code
def yX8_sort : MethodName := ⟨RX8, "sort", "(I)I"⟩
abbrev cX8_letGo : ByteArray := prog_10_method_24_code
def yX8_letGo : MethodName := ⟨RX8, "letGo", "()I"⟩
abbrev cX8_pour : ByteArray := prog_10_method_25_code
def yX8_pour : MethodName := ⟨RX8, "pour", "(I)I"⟩
abbrev cX8_order : ByteArray := prog_10_method_26_code
def yX8_order : MethodName := ⟨RX8, "order", "(I)V"⟩
abbrev cX8_spread : ByteArray := prog_10_method_27_code
def yX8_spread : MethodName := ⟨RX8, "spread", "(II)I"⟩
abbrev cX8_firstAlike : ByteArray := prog_10_method_28_code
def yX8_firstAlike : MethodName := ⟨RX8, "firstAlike", "(II)I"⟩
abbrev cX8_reasonFor : ByteArray := prog_10_method_29_code
def yX8_reasonFor : MethodName := ⟨RX8, "reasonFor", "(II)I"⟩
abbrev cX8_shirtNow : ByteArray := prog_10_method_30_code
def yX8_shirtNow : MethodName := ⟨RX8, "shirtNow", "(II)I"⟩
abbrev cX8_shirt : ByteArray := prog_10_method_31_code
def yX8_shirt : MethodName := ⟨RX8, "shirt", "(II)I"⟩
abbrev cX8_polish : ByteArray := prog_10_method_32_code
def yX8_polish : MethodName := ⟨RX8, "polish", "(I)I"⟩
abbrev cX8_maySet : ByteArray := prog_10_method_33_code
def yX8_maySet : MethodName := ⟨RX8, "maySet", "(II)Z"⟩
abbrev cX8_areMeshes : ByteArray := prog_10_method_34_code
def yX8_areMeshes : MethodName := ⟨RX8, "areMeshes", "(II)Z"⟩
abbrev cX8_set : ByteArray := prog_10_method_35_code
def yX8_set : MethodName := ⟨RX8, "set", "(II)I"⟩
abbrev cX8_type : ByteArray := prog_10_method_36_code
def yX8_type : MethodName := ⟨RX8, "type", "(C)I"⟩
abbrev cX8_clearText : ByteArray := prog_10_method_37_code
def yX8_clearText : MethodName := ⟨RX8, "clearText", "()I"⟩
abbrev cX8_takes : ByteArray := prog_10_method_38_code
def yX8_takes : MethodName := ⟨RX8, "takes", "(II)Z"⟩
abbrev cX8_digit : ByteArray := prog_10_method_39_code
def yX8_digit : MethodName := ⟨RX8, "digit", "()I"⟩
abbrev cX8_readsSize : ByteArray := prog_10_method_40_code
def yX8_readsSize : MethodName := ⟨RX8, "readsSize", "()Z"⟩
abbrev cX8_readsDigit : ByteArray := prog_10_method_41_code
def yX8_readsDigit : MethodName := ⟨RX8, "readsDigit", "(II)Z"⟩
abbrev cX8_readsButton : ByteArray := prog_10_method_42_code
def yX8_readsButton : MethodName := ⟨RX8, "readsButton", "()Z"⟩
abbrev cX8_areButtons : ByteArray := prog_10_method_43_code
def yX8_areButtons : MethodName := ⟨RX8, "areButtons", "()Z"⟩
abbrev cX8_come : ByteArray := prog_10_method_44_code
def yX8_come : MethodName := ⟨RX8, "come", "(I)V"⟩
abbrev cX8_read : ByteArray := prog_10_method_45_code
def yX8_read : MethodName := ⟨RX8, "read", "()I"⟩
abbrev cX8_rankInHopper : ByteArray := prog_10_method_46_code
def yX8_rankInHopper : MethodName := ⟨RX8, "rankInHopper", "(I)I"⟩
abbrev cX8_button : ByteArray := prog_10_method_47_code
def yX8_button : MethodName := ⟨RX8, "button", "(II)I"⟩
abbrev cX8_inBin : ByteArray := prog_10_method_48_code
def yX8_inBin : MethodName := ⟨RX8, "inBin", "(II)I"⟩
abbrev cX8_sumOf : ByteArray := prog_10_method_49_code
def yX8_sumOf : MethodName := ⟨RX8, "sumOf", "(I)I"⟩
abbrev cX8_mostAlike : ByteArray := prog_10_method_50_code
def yX8_mostAlike : MethodName := ⟨RX8, "mostAlike", "(I)I"⟩
abbrev cX8_spreadOf : ByteArray := prog_10_method_51_code
def yX8_spreadOf : MethodName := ⟨RX8, "spreadOf", "(I)I"⟩
abbrev cX8_bin : ByteArray := prog_10_method_52_code
def yX8_bin : MethodName := ⟨RX8, "bin", "(II)I"⟩
abbrev cX8_chips : ByteArray := prog_10_method_53_code
def yX8_chips : MethodName := ⟨RX8, "chips", "()I"⟩
abbrev cX8_total : ByteArray := prog_10_method_54_code
def yX8_total : MethodName := ⟨RX8, "total", "(I)I"⟩
abbrev cX8_goesTo : ByteArray := prog_10_method_55_code
def yX8_goesTo : MethodName := ⟨RX8, "goesTo", "(I)I"⟩
abbrev cX8_reason : ByteArray := prog_10_method_56_code
def yX8_reason : MethodName := ⟨RX8, "reason", "(II)I"⟩
abbrev cX8_leastSpread : ByteArray := prog_10_method_57_code
def yX8_leastSpread : MethodName := ⟨RX8, "leastSpread", "(II)I"⟩
abbrev cX8_shirts : ByteArray := prog_10_method_58_code
def yX8_shirts : MethodName := ⟨RX8, "shirts", "(I)I"⟩
abbrev cX8_ifMesh : ByteArray := prog_10_method_59_code
def yX8_ifMesh : MethodName := ⟨RX8, "ifMesh", "(III)I"⟩
def RJx8e188 : String := "java/lang/Cloneable"
def TJx8e188 : u_T := fun k => match k with
  | _ => ("", "", "", false)
def tyJx8e188 : Nat → FieldType := fun k => match k with
  | _ => .int
abbrev wsJx8e1880 : List Cond := u_ws RJx8e188 TJx8e188 0
theorem nmJx8e188 : ∀ a, a < 0 → ∀ b, b < 0 → a ≠ b → (TJx8e188 a).2.1 ≠ (TJx8e188 b).2.1 := by decide +kernel
theorem tyJx8e188_ok : ∀ k, k < 0 → parseFieldDescriptor (TJx8e188 k).2.2.1 = some (tyJx8e188 k) := by decide +kernel
def RJ9 : String := "java/lang/Math"
def TJ9 : u_T := fun k => match k with
  | _ => ("", "", "", false)
def tyJ9 : Nat → FieldType := fun k => match k with
  | _ => .int
abbrev wsJ90 : List Cond := u_ws RJ9 TJ9 0
theorem nmJ9 : ∀ a, a < 0 → ∀ b, b < 0 → a ≠ b → (TJ9 a).2.1 ≠ (TJ9 b).2.1 := by decide +kernel
theorem tyJ9_ok : ∀ k, k < 0 → parseFieldDescriptor (TJ9 k).2.2.1 = some (tyJ9 k) := by decide +kernel
abbrev cJ9_max_7cf53 : ByteArray := prog_12_method_65_code
def yJ9_max_7cf53 : MethodName := ⟨RJ9, "max", "(II)I"⟩
abbrev cJ9_min_7cf53 : ByteArray := prog_12_method_69_code
def yJ9_min_7cf53 : MethodName := ⟨RJ9, "min", "(II)I"⟩
def RJ10 : String := "java/lang/System"
def TJ10 : u_T := fun k => match k with
  | _ => ("", "", "", false)
def tyJ10 : Nat → FieldType := fun k => match k with
  | _ => .int
abbrev wsJ100 : List Cond := u_ws RJ10 TJ10 0
theorem nmJ10 : ∀ a, a < 0 → ∀ b, b < 0 → a ≠ b → (TJ10 a).2.1 ≠ (TJ10 b).2.1 := by decide +kernel
theorem tyJ10_ok : ∀ k, k < 0 → parseFieldDescriptor (TJ10 k).2.2.1 = some (tyJ10 k) := by decide +kernel
def RL : String := "ShirtButtonsLaw"
abbrev cL_law : ByteArray := code
def yL_law : MethodName := ⟨RL, "law", "([I)Z"⟩
def wsX0_init : List Cond := .code yX0_init cX0_init 2 none :: ([.methodLink RX0 3 objectInit, .instanceMethod objectInit, .code objectInit ⟨#[0xb1]⟩ 1 none, .arrayClass .int, .fieldLink RX0 9 "ShirtButtons$Batch" "holes" "[I", .fieldLink RX0 15 "ShirtButtons$Batch" "size" "[I", .fieldLink RX0 18 "ShirtButtons$Batch" "iron" "[I", .fieldLink RX0 21 "ShirtButtons$Batch" "chips" "[I", .fieldLink RX0 24 "ShirtButtons$Batch" "shine" "[I", .fieldLink RX0 27 "ShirtButtons$Batch" "count" "I", .fieldLink RX0 31 "ShirtButtons$Batch" "at" "I", .fieldLink RX0 34 "ShirtButtons$Batch" "source" "LShirtButtons$Text;"] ++ wsX00)
def wsX0_takeDigit : List Cond := .code yX0_takeDigit cX0_takeDigit 4 (some .int) :: ([.fieldLink RX0 31 "ShirtButtons$Batch" "at" "I", .fieldLink RX0 34 "ShirtButtons$Batch" "source" "LShirtButtons$Text;", .fieldLink RX0 42 "ShirtButtons$Text" "length" "I", .fieldLink RX0 63 "ShirtButtons$Text" "signs" "[C"] ++ wsX00 ++ wsX60)
def wsX0_takeSign : List Cond := .code yX0_takeSign cX0_takeSign 2 (some .boolean) :: ([.fieldLink RX0 31 "ShirtButtons$Batch" "at" "I", .fieldLink RX0 34 "ShirtButtons$Batch" "source" "LShirtButtons$Text;", .fieldLink RX0 42 "ShirtButtons$Text" "length" "I", .fieldLink RX0 63 "ShirtButtons$Text" "signs" "[C"] ++ wsX00 ++ wsX60)
def wsX0_takeSize : List Cond := .code yX0_takeSize cX0_takeSize 3 (some .int) :: ([.methodLink RX0 51 yX0_takeDigit, .instanceMethod yX0_takeDigit, .selects RX0 yX0_takeDigit yX0_takeDigit, .initialized RX0, .code yX0_takeDigit cX0_takeDigit 4 (some .int), .fieldLink RX0 31 "ShirtButtons$Batch" "at" "I", .fieldLink RX0 34 "ShirtButtons$Batch" "source" "LShirtButtons$Text;", .fieldLink RX0 42 "ShirtButtons$Text" "length" "I", .fieldLink RX0 63 "ShirtButtons$Text" "signs" "[C"] ++ wsX00 ++ wsX60)
def wsX0_takePart : List Cond := .code yX0_takePart cX0_takePart 2 (some .int) :: ([.methodLink RX0 47 yX0_takeSign, .instanceMethod yX0_takeSign, .selects RX0 yX0_takeSign yX0_takeSign, .initialized RX0, .code yX0_takeSign cX0_takeSign 2 (some .boolean), .fieldLink RX0 31 "ShirtButtons$Batch" "at" "I", .fieldLink RX0 34 "ShirtButtons$Batch" "source" "LShirtButtons$Text;", .fieldLink RX0 42 "ShirtButtons$Text" "length" "I", .fieldLink RX0 63 "ShirtButtons$Text" "signs" "[C", .methodLink RX0 51 yX0_takeDigit, .instanceMethod yX0_takeDigit, .selects RX0 yX0_takeDigit yX0_takeDigit, .code yX0_takeDigit cX0_takeDigit 4 (some .int)] ++ wsX00 ++ wsX60)
def wsX0_takeButton_r1 : List Cond := [Cond.fieldLink RX0 9 "ShirtButtons$Batch" "holes" "[I", Cond.fieldLink RX0 15 "ShirtButtons$Batch" "size" "[I", Cond.fieldLink RX0 18 "ShirtButtons$Batch" "iron" "[I", Cond.fieldLink RX0 21 "ShirtButtons$Batch" "chips" "[I", Cond.fieldLink RX0 24 "ShirtButtons$Batch" "shine" "[I", Cond.methodLink RX0 51 yX0_takeDigit, Cond.instanceMethod yX0_takeDigit, Cond.selects RX0 yX0_takeDigit yX0_takeDigit, Cond.initialized RX0, Cond.code yX0_takeDigit cX0_takeDigit 4 (some .int), Cond.fieldLink RX0 31 "ShirtButtons$Batch" "at" "I", Cond.fieldLink RX0 34 "ShirtButtons$Batch" "source" "LShirtButtons$Text;", Cond.fieldLink RX0 42 "ShirtButtons$Text" "length" "I", Cond.fieldLink RX0 63 "ShirtButtons$Text" "signs" "[C", Cond.methodLink RX0 47 yX0_takeSign, Cond.instanceMethod yX0_takeSign, Cond.selects RX0 yX0_takeSign yX0_takeSign, Cond.code yX0_takeSign cX0_takeSign 2 (some .boolean), Cond.methodLink RX0 55 yX0_takeSize, Cond.instanceMethod yX0_takeSize, Cond.selects RX0 yX0_takeSize yX0_takeSize, Cond.code yX0_takeSize cX0_takeSize 3 (some .int), Cond.methodLink RX0 59 yX0_takePart, Cond.instanceMethod yX0_takePart]
def wsX0_takeButton_r2 : List Cond := [Cond.selects RX0 yX0_takePart yX0_takePart, Cond.code yX0_takePart cX0_takePart 2 (some .int)]
def wsX0_takeButton : List Cond := .code yX0_takeButton cX0_takeButton 2 (some .boolean) :: ((wsX0_takeButton_r1 ++ wsX0_takeButton_r2) ++ wsX00 ++ wsX60)
def wsX0_parse_r1 : List Cond := [Cond.fieldLink RX0 31 "ShirtButtons$Batch" "at" "I", Cond.fieldLink RX0 27 "ShirtButtons$Batch" "count" "I", Cond.fieldLink RX0 34 "ShirtButtons$Batch" "source" "LShirtButtons$Text;", Cond.fieldLink RX0 42 "ShirtButtons$Text" "length" "I", Cond.methodLink RX0 38 yX0_takeButton, Cond.instanceMethod yX0_takeButton, Cond.selects RX0 yX0_takeButton yX0_takeButton, Cond.initialized RX0, Cond.code yX0_takeButton cX0_takeButton 2 (some .boolean), Cond.fieldLink RX0 9 "ShirtButtons$Batch" "holes" "[I", Cond.fieldLink RX0 15 "ShirtButtons$Batch" "size" "[I", Cond.fieldLink RX0 18 "ShirtButtons$Batch" "iron" "[I", Cond.fieldLink RX0 21 "ShirtButtons$Batch" "chips" "[I", Cond.fieldLink RX0 24 "ShirtButtons$Batch" "shine" "[I", Cond.methodLink RX0 51 yX0_takeDigit, Cond.instanceMethod yX0_takeDigit, Cond.selects RX0 yX0_takeDigit yX0_takeDigit, Cond.code yX0_takeDigit cX0_takeDigit 4 (some .int), Cond.fieldLink RX0 63 "ShirtButtons$Text" "signs" "[C", Cond.methodLink RX0 47 yX0_takeSign, Cond.instanceMethod yX0_takeSign, Cond.selects RX0 yX0_takeSign yX0_takeSign, Cond.code yX0_takeSign cX0_takeSign 2 (some .boolean), Cond.methodLink RX0 55 yX0_takeSize]
def wsX0_parse_r2 : List Cond := [Cond.instanceMethod yX0_takeSize, Cond.selects RX0 yX0_takeSize yX0_takeSize, Cond.code yX0_takeSize cX0_takeSize 3 (some .int), Cond.methodLink RX0 59 yX0_takePart, Cond.instanceMethod yX0_takePart, Cond.selects RX0 yX0_takePart yX0_takePart, Cond.code yX0_takePart cX0_takePart 2 (some .int)]
def wsX0_parse : List Cond := .code yX0_parse cX0_parse 2 (some .int) :: ((wsX0_parse_r1 ++ wsX0_parse_r2) ++ wsX00 ++ wsX60)
def wsX1_init : List Cond := .code yX1_init cX1_init 1 none :: ([.methodLink RX1 3 objectInit, .instanceMethod objectInit, .code objectInit ⟨#[0xb1]⟩ 1 none, .arrayClass .int, .fieldLink RX1 9 "ShirtButtons$Buttons" "holes" "[I", .fieldLink RX1 15 "ShirtButtons$Buttons" "size" "[I", .fieldLink RX1 18 "ShirtButtons$Buttons" "iron" "[I", .fieldLink RX1 21 "ShirtButtons$Buttons" "chips" "[I", .fieldLink RX1 24 "ShirtButtons$Buttons" "shine" "[I", .fieldLink RX1 27 "ShirtButtons$Buttons" "sortings" "[I", .fieldLink RX1 30 "ShirtButtons$Buttons" "count" "I"] ++ wsX10)
def wsX1_has : List Cond := .code yX1_has cX1_has 2 (some .boolean) :: ([.fieldLink RX1 30 "ShirtButtons$Buttons" "count" "I"] ++ wsX10)
def wsX1_brighten : List Cond := .code yX1_brighten cX1_brighten 2 none :: ([.fieldLink RX1 24 "ShirtButtons$Buttons" "shine" "[I", .fieldLink RX1 21 "ShirtButtons$Buttons" "chips" "[I"] ++ wsX10)
def wsX1_chip : List Cond := .code yX1_chip cX1_chip 2 none :: ([.fieldLink RX1 21 "ShirtButtons$Buttons" "chips" "[I"] ++ wsX10)
def wsX1_chipSum : List Cond := .code yX1_chipSum cX1_chipSum 3 (some .int) :: ([.fieldLink RX1 30 "ShirtButtons$Buttons" "count" "I", .fieldLink RX1 21 "ShirtButtons$Buttons" "chips" "[I"] ++ wsX10)
def wsX1_copyFrom : List Cond := .code yX1_copyFrom cX1_copyFrom 2 none :: ([.fieldLink RX1 30 "ShirtButtons$Buttons" "count" "I", .fieldLink RX1 9 "ShirtButtons$Buttons" "holes" "[I", .methodLink RX1 34 arraycopyName, .native arraycopyName, .static arraycopyName, .initialized "java/lang/System", .fieldLink RX1 15 "ShirtButtons$Buttons" "size" "[I", .fieldLink RX1 18 "ShirtButtons$Buttons" "iron" "[I", .fieldLink RX1 21 "ShirtButtons$Buttons" "chips" "[I", .fieldLink RX1 24 "ShirtButtons$Buttons" "shine" "[I", .fieldLink RX1 27 "ShirtButtons$Buttons" "sortings" "[I"] ++ wsX10)
def wsX4_init : List Cond := .code yX4_init cX4_init 1 none :: ([.methodLink RX4 3 objectInit, .instanceMethod objectInit, .code objectInit ⟨#[0xb1]⟩ 1 none, .arrayClass .int, .fieldLink RX4 9 "ShirtButtons$Places" "place" "[I", .fieldLink RX4 15 "ShirtButtons$Places" "binOf" "[I", .fieldLink RX4 18 "ShirtButtons$Places" "shirtOf" "[I", .fieldLink RX4 21 "ShirtButtons$Places" "hopper" "[I", .fieldLink RX4 24 "ShirtButtons$Places" "at" "[I", .fieldLink RX4 27 "ShirtButtons$Places" "inBin" "[I"] ++ wsX40)
def wsX5_init_r1 : List Cond := [Cond.methodLink RX5 3 objectInit, Cond.instanceMethod objectInit, Cond.code objectInit ⟨#[0xb1]⟩ 1 none, Cond.classLink RX5 9 RX1, Cond.instantiable RX1 7, Cond.initialized RX1, Cond.fieldLink RX5 12 "ShirtButtons$State" "buttons" "LShirtButtons$Buttons;", Cond.classLink RX5 18 RX4, Cond.instantiable RX4 6, Cond.initialized RX4, Cond.fieldLink RX5 21 "ShirtButtons$State" "places" "LShirtButtons$Places;", Cond.methodLink RX5 29 ⟨"[I", "clone", "()Ljava/lang/Object;"⟩, Cond.sameMethod "[I" "java/lang/Object" "clone" "()Ljava/lang/Object;", Cond.native ⟨"java/lang/Object", "clone", "()Ljava/lang/Object;"⟩, Cond.instanceMethod ⟨"java/lang/Object", "clone", "()Ljava/lang/Object;"⟩, Cond.selects "[I" ⟨"[I", "clone", "()Ljava/lang/Object;"⟩ ⟨"java/lang/Object", "clone", "()Ljava/lang/Object;"⟩, Cond.classLink RX5 30 "[I", Cond.fieldLink RX5 34 "ShirtButtons$State" "settings" "[I", Cond.fieldLink RX5 37 "ShirtButtons$State" "shirtsMade" "I", Cond.fieldLink RX5 41 "ShirtButtons$State" "worthMade" "I", Cond.fieldLink RX5 44 "ShirtButtons$State" "sortingsDone" "I", Cond.fieldLink RX5 47 "ShirtButtons$State" "goneBack" "I", Cond.fieldLink RX5 50 "ShirtButtons$State" "rubbed" "I", Cond.instanceMethod yX1_init]
def wsX5_init_r2 : List Cond := [Cond.code yX1_init cX1_init 1 none, Cond.methodLink RX1 3 objectInit, Cond.arrayClass .int, Cond.fieldLink RX1 9 "ShirtButtons$Buttons" "holes" "[I", Cond.fieldLink RX1 15 "ShirtButtons$Buttons" "size" "[I", Cond.fieldLink RX1 18 "ShirtButtons$Buttons" "iron" "[I", Cond.fieldLink RX1 21 "ShirtButtons$Buttons" "chips" "[I", Cond.fieldLink RX1 24 "ShirtButtons$Buttons" "shine" "[I", Cond.fieldLink RX1 27 "ShirtButtons$Buttons" "sortings" "[I", Cond.fieldLink RX1 30 "ShirtButtons$Buttons" "count" "I", Cond.instanceMethod yX4_init, Cond.code yX4_init cX4_init 1 none, Cond.methodLink RX4 3 objectInit, Cond.fieldLink RX4 9 "ShirtButtons$Places" "place" "[I", Cond.fieldLink RX4 15 "ShirtButtons$Places" "binOf" "[I", Cond.fieldLink RX4 18 "ShirtButtons$Places" "shirtOf" "[I", Cond.fieldLink RX4 21 "ShirtButtons$Places" "hopper" "[I", Cond.fieldLink RX4 24 "ShirtButtons$Places" "at" "[I", Cond.fieldLink RX4 27 "ShirtButtons$Places" "inBin" "[I"]
def wsX5_init : List Cond := .code yX5_init cX5_init 1 none :: ((wsX5_init_r1 ++ wsX5_init_r2) ++ wsX10 ++ wsX50 ++ wsX40)
def wsX2_init_r1 : List Cond := [Cond.methodLink RX2 3 objectInit, Cond.instanceMethod objectInit, Cond.code objectInit ⟨#[0xb1]⟩ 1 none, Cond.classLink RX2 9 RX5, Cond.fieldLink RX2 11 "ShirtButtons$History" "states" "[LShirtButtons$State;", Cond.fieldLink RX2 17 "ShirtButtons$History" "count" "I", Cond.instantiable RX5 8, Cond.initialized RX5, Cond.instanceMethod yX5_init, Cond.code yX5_init cX5_init 1 none, Cond.methodLink RX5 3 objectInit, Cond.classLink RX5 9 RX1, Cond.instantiable RX1 7, Cond.initialized RX1, Cond.fieldLink RX5 12 "ShirtButtons$State" "buttons" "LShirtButtons$Buttons;", Cond.classLink RX5 18 RX4, Cond.instantiable RX4 6, Cond.initialized RX4, Cond.fieldLink RX5 21 "ShirtButtons$State" "places" "LShirtButtons$Places;", Cond.methodLink RX5 29 ⟨"[I", "clone", "()Ljava/lang/Object;"⟩, Cond.sameMethod "[I" "java/lang/Object" "clone" "()Ljava/lang/Object;", Cond.native ⟨"java/lang/Object", "clone", "()Ljava/lang/Object;"⟩, Cond.instanceMethod ⟨"java/lang/Object", "clone", "()Ljava/lang/Object;"⟩, Cond.selects "[I" ⟨"[I", "clone", "()Ljava/lang/Object;"⟩ ⟨"java/lang/Object", "clone", "()Ljava/lang/Object;"⟩]
def wsX2_init_r2 : List Cond := [Cond.classLink RX5 30 "[I", Cond.fieldLink RX5 34 "ShirtButtons$State" "settings" "[I", Cond.fieldLink RX5 37 "ShirtButtons$State" "shirtsMade" "I", Cond.fieldLink RX5 41 "ShirtButtons$State" "worthMade" "I", Cond.fieldLink RX5 44 "ShirtButtons$State" "sortingsDone" "I", Cond.fieldLink RX5 47 "ShirtButtons$State" "goneBack" "I", Cond.fieldLink RX5 50 "ShirtButtons$State" "rubbed" "I", Cond.instanceMethod yX1_init, Cond.code yX1_init cX1_init 1 none, Cond.methodLink RX1 3 objectInit, Cond.arrayClass .int, Cond.fieldLink RX1 9 "ShirtButtons$Buttons" "holes" "[I", Cond.fieldLink RX1 15 "ShirtButtons$Buttons" "size" "[I", Cond.fieldLink RX1 18 "ShirtButtons$Buttons" "iron" "[I", Cond.fieldLink RX1 21 "ShirtButtons$Buttons" "chips" "[I", Cond.fieldLink RX1 24 "ShirtButtons$Buttons" "shine" "[I", Cond.fieldLink RX1 27 "ShirtButtons$Buttons" "sortings" "[I", Cond.fieldLink RX1 30 "ShirtButtons$Buttons" "count" "I", Cond.instanceMethod yX4_init, Cond.code yX4_init cX4_init 1 none, Cond.methodLink RX4 3 objectInit, Cond.fieldLink RX4 9 "ShirtButtons$Places" "place" "[I", Cond.fieldLink RX4 15 "ShirtButtons$Places" "binOf" "[I", Cond.fieldLink RX4 18 "ShirtButtons$Places" "shirtOf" "[I"]
def wsX2_init_r3 : List Cond := [Cond.fieldLink RX4 21 "ShirtButtons$Places" "hopper" "[I", Cond.fieldLink RX4 24 "ShirtButtons$Places" "at" "[I", Cond.fieldLink RX4 27 "ShirtButtons$Places" "inBin" "[I"]
def wsX2_init : List Cond := .code yX2_init cX2_init 2 none :: ((wsX2_init_r1 ++ (wsX2_init_r2 ++ wsX2_init_r3)) ++ wsX20 ++ wsX50 ++ wsX10 ++ wsX40)
def wsX2_dropOldest : List Cond := .code yX2_dropOldest cX2_dropOldest 3 none :: ([.fieldLink RX2 11 "ShirtButtons$History" "states" "[LShirtButtons$State;", .fieldLink RX2 17 "ShirtButtons$History" "count" "I"] ++ wsX20)
def wsX4_copyFrom : List Cond := .code yX4_copyFrom cX4_copyFrom 3 none :: ([.fieldLink RX4 9 "ShirtButtons$Places" "place" "[I", .methodLink RX4 34 arraycopyName, .native arraycopyName, .static arraycopyName, .initialized "java/lang/System", .fieldLink RX4 15 "ShirtButtons$Places" "binOf" "[I", .fieldLink RX4 18 "ShirtButtons$Places" "shirtOf" "[I", .fieldLink RX4 21 "ShirtButtons$Places" "hopper" "[I", .fieldLink RX4 24 "ShirtButtons$Places" "at" "[I", .fieldLink RX4 27 "ShirtButtons$Places" "inBin" "[I"] ++ wsX40)
def wsX5_copyFrom_r1 : List Cond := [Cond.fieldLink RX5 12 "ShirtButtons$State" "buttons" "LShirtButtons$Buttons;", Cond.fieldLink RX5 21 "ShirtButtons$State" "places" "LShirtButtons$Places;", Cond.fieldLink RX5 53 "ShirtButtons$Buttons" "count" "I", Cond.fieldLink RX5 34 "ShirtButtons$State" "settings" "[I", Cond.methodLink RX5 151 arraycopyName, Cond.native arraycopyName, Cond.static arraycopyName, Cond.initialized "java/lang/System", Cond.fieldLink RX5 37 "ShirtButtons$State" "shirtsMade" "I", Cond.fieldLink RX5 41 "ShirtButtons$State" "worthMade" "I", Cond.fieldLink RX5 44 "ShirtButtons$State" "sortingsDone" "I", Cond.fieldLink RX5 47 "ShirtButtons$State" "goneBack" "I", Cond.fieldLink RX5 50 "ShirtButtons$State" "rubbed" "I", Cond.methodLink RX5 144 yX1_copyFrom, Cond.instanceMethod yX1_copyFrom, Cond.selects RX1 yX1_copyFrom yX1_copyFrom, Cond.initialized RX1, Cond.code yX1_copyFrom cX1_copyFrom 2 none, Cond.fieldLink RX1 30 "ShirtButtons$Buttons" "count" "I", Cond.fieldLink RX1 9 "ShirtButtons$Buttons" "holes" "[I", Cond.methodLink RX1 34 arraycopyName, Cond.fieldLink RX1 15 "ShirtButtons$Buttons" "size" "[I", Cond.fieldLink RX1 18 "ShirtButtons$Buttons" "iron" "[I", Cond.fieldLink RX1 21 "ShirtButtons$Buttons" "chips" "[I"]
def wsX5_copyFrom_r2 : List Cond := [Cond.fieldLink RX1 24 "ShirtButtons$Buttons" "shine" "[I", Cond.fieldLink RX1 27 "ShirtButtons$Buttons" "sortings" "[I", Cond.methodLink RX5 148 yX4_copyFrom, Cond.instanceMethod yX4_copyFrom, Cond.selects RX4 yX4_copyFrom yX4_copyFrom, Cond.initialized RX4, Cond.code yX4_copyFrom cX4_copyFrom 3 none, Cond.fieldLink RX4 9 "ShirtButtons$Places" "place" "[I", Cond.methodLink RX4 34 arraycopyName, Cond.fieldLink RX4 15 "ShirtButtons$Places" "binOf" "[I", Cond.fieldLink RX4 18 "ShirtButtons$Places" "shirtOf" "[I", Cond.fieldLink RX4 21 "ShirtButtons$Places" "hopper" "[I", Cond.fieldLink RX4 24 "ShirtButtons$Places" "at" "[I", Cond.fieldLink RX4 27 "ShirtButtons$Places" "inBin" "[I"]
def wsX5_copyFrom : List Cond := .code yX5_copyFrom cX5_copyFrom 2 none :: ((wsX5_copyFrom_r1 ++ wsX5_copyFrom_r2) ++ wsX50 ++ wsX10 ++ wsX40)
def wsX2_remember_r1 : List Cond := [Cond.fieldLink RX2 17 "ShirtButtons$History" "count" "I", Cond.fieldLink RX2 11 "ShirtButtons$History" "states" "[LShirtButtons$State;", Cond.methodLink RX2 22 yX2_dropOldest, Cond.instanceMethod yX2_dropOldest, Cond.selects RX2 yX2_dropOldest yX2_dropOldest, Cond.initialized RX2, Cond.code yX2_dropOldest cX2_dropOldest 3 none, Cond.methodLink RX2 25 yX5_copyFrom, Cond.instanceMethod yX5_copyFrom, Cond.selects RX5 yX5_copyFrom yX5_copyFrom, Cond.initialized RX5, Cond.code yX5_copyFrom cX5_copyFrom 2 none, Cond.fieldLink RX5 12 "ShirtButtons$State" "buttons" "LShirtButtons$Buttons;", Cond.fieldLink RX5 21 "ShirtButtons$State" "places" "LShirtButtons$Places;", Cond.fieldLink RX5 53 "ShirtButtons$Buttons" "count" "I", Cond.fieldLink RX5 34 "ShirtButtons$State" "settings" "[I", Cond.methodLink RX5 151 arraycopyName, Cond.native arraycopyName, Cond.static arraycopyName, Cond.initialized "java/lang/System", Cond.fieldLink RX5 37 "ShirtButtons$State" "shirtsMade" "I", Cond.fieldLink RX5 41 "ShirtButtons$State" "worthMade" "I", Cond.fieldLink RX5 44 "ShirtButtons$State" "sortingsDone" "I", Cond.fieldLink RX5 47 "ShirtButtons$State" "goneBack" "I"]
def wsX2_remember_r2 : List Cond := [Cond.fieldLink RX5 50 "ShirtButtons$State" "rubbed" "I", Cond.methodLink RX5 144 yX1_copyFrom, Cond.instanceMethod yX1_copyFrom, Cond.selects RX1 yX1_copyFrom yX1_copyFrom, Cond.initialized RX1, Cond.code yX1_copyFrom cX1_copyFrom 2 none, Cond.fieldLink RX1 30 "ShirtButtons$Buttons" "count" "I", Cond.fieldLink RX1 9 "ShirtButtons$Buttons" "holes" "[I", Cond.methodLink RX1 34 arraycopyName, Cond.fieldLink RX1 15 "ShirtButtons$Buttons" "size" "[I", Cond.fieldLink RX1 18 "ShirtButtons$Buttons" "iron" "[I", Cond.fieldLink RX1 21 "ShirtButtons$Buttons" "chips" "[I", Cond.fieldLink RX1 24 "ShirtButtons$Buttons" "shine" "[I", Cond.fieldLink RX1 27 "ShirtButtons$Buttons" "sortings" "[I", Cond.methodLink RX5 148 yX4_copyFrom, Cond.instanceMethod yX4_copyFrom, Cond.selects RX4 yX4_copyFrom yX4_copyFrom, Cond.initialized RX4, Cond.code yX4_copyFrom cX4_copyFrom 3 none, Cond.fieldLink RX4 9 "ShirtButtons$Places" "place" "[I", Cond.methodLink RX4 34 arraycopyName, Cond.fieldLink RX4 15 "ShirtButtons$Places" "binOf" "[I", Cond.fieldLink RX4 18 "ShirtButtons$Places" "shirtOf" "[I", Cond.fieldLink RX4 21 "ShirtButtons$Places" "hopper" "[I"]
def wsX2_remember_r3 : List Cond := [Cond.fieldLink RX4 24 "ShirtButtons$Places" "at" "[I", Cond.fieldLink RX4 27 "ShirtButtons$Places" "inBin" "[I"]
def wsX2_remember : List Cond := .code yX2_remember cX2_remember 2 none :: ((wsX2_remember_r1 ++ (wsX2_remember_r2 ++ wsX2_remember_r3)) ++ wsX20 ++ wsX50 ++ wsX10 ++ wsX40)
def wsX2_takeBack_r1 : List Cond := [Cond.fieldLink RX2 17 "ShirtButtons$History" "count" "I", Cond.fieldLink RX2 11 "ShirtButtons$History" "states" "[LShirtButtons$State;", Cond.methodLink RX2 25 yX5_copyFrom, Cond.instanceMethod yX5_copyFrom, Cond.selects RX5 yX5_copyFrom yX5_copyFrom, Cond.initialized RX5, Cond.code yX5_copyFrom cX5_copyFrom 2 none, Cond.fieldLink RX5 12 "ShirtButtons$State" "buttons" "LShirtButtons$Buttons;", Cond.fieldLink RX5 21 "ShirtButtons$State" "places" "LShirtButtons$Places;", Cond.fieldLink RX5 53 "ShirtButtons$Buttons" "count" "I", Cond.fieldLink RX5 34 "ShirtButtons$State" "settings" "[I", Cond.methodLink RX5 151 arraycopyName, Cond.native arraycopyName, Cond.static arraycopyName, Cond.initialized "java/lang/System", Cond.fieldLink RX5 37 "ShirtButtons$State" "shirtsMade" "I", Cond.fieldLink RX5 41 "ShirtButtons$State" "worthMade" "I", Cond.fieldLink RX5 44 "ShirtButtons$State" "sortingsDone" "I", Cond.fieldLink RX5 47 "ShirtButtons$State" "goneBack" "I", Cond.fieldLink RX5 50 "ShirtButtons$State" "rubbed" "I", Cond.methodLink RX5 144 yX1_copyFrom, Cond.instanceMethod yX1_copyFrom, Cond.selects RX1 yX1_copyFrom yX1_copyFrom, Cond.initialized RX1]
def wsX2_takeBack_r2 : List Cond := [Cond.code yX1_copyFrom cX1_copyFrom 2 none, Cond.fieldLink RX1 30 "ShirtButtons$Buttons" "count" "I", Cond.fieldLink RX1 9 "ShirtButtons$Buttons" "holes" "[I", Cond.methodLink RX1 34 arraycopyName, Cond.fieldLink RX1 15 "ShirtButtons$Buttons" "size" "[I", Cond.fieldLink RX1 18 "ShirtButtons$Buttons" "iron" "[I", Cond.fieldLink RX1 21 "ShirtButtons$Buttons" "chips" "[I", Cond.fieldLink RX1 24 "ShirtButtons$Buttons" "shine" "[I", Cond.fieldLink RX1 27 "ShirtButtons$Buttons" "sortings" "[I", Cond.methodLink RX5 148 yX4_copyFrom, Cond.instanceMethod yX4_copyFrom, Cond.selects RX4 yX4_copyFrom yX4_copyFrom, Cond.initialized RX4, Cond.code yX4_copyFrom cX4_copyFrom 3 none, Cond.fieldLink RX4 9 "ShirtButtons$Places" "place" "[I", Cond.methodLink RX4 34 arraycopyName, Cond.fieldLink RX4 15 "ShirtButtons$Places" "binOf" "[I", Cond.fieldLink RX4 18 "ShirtButtons$Places" "shirtOf" "[I", Cond.fieldLink RX4 21 "ShirtButtons$Places" "hopper" "[I", Cond.fieldLink RX4 24 "ShirtButtons$Places" "at" "[I", Cond.fieldLink RX4 27 "ShirtButtons$Places" "inBin" "[I"]
def wsX2_takeBack : List Cond := .code yX2_takeBack cX2_takeBack 2 (some .boolean) :: ((wsX2_takeBack_r1 ++ wsX2_takeBack_r2) ++ wsX20 ++ wsX50 ++ wsX10 ++ wsX40)
def wsX3_init : List Cond := .code yX3_init cX3_init 1 none :: ([.methodLink RX3 3 objectInit, .instanceMethod objectInit, .code objectInit ⟨#[0xb1]⟩ 1 none, .arrayClass .int, .fieldLink RX3 9 "ShirtButtons$Order" "numbers" "[I", .fieldLink RX3 15 "ShirtButtons$Order" "shine" "[I", .fieldLink RX3 18 "ShirtButtons$Order" "count" "I"] ++ wsX30)
def wsX3_insert : List Cond := .code yX3_insert cX3_insert 4 none :: ([.fieldLink RX3 18 "ShirtButtons$Order" "count" "I", .fieldLink RX3 15 "ShirtButtons$Order" "shine" "[I", .fieldLink RX3 9 "ShirtButtons$Order" "numbers" "[I"] ++ wsX30)
def wsX3_fill : List Cond := .code yX3_fill cX3_fill 4 none :: ([.fieldLink RX3 18 "ShirtButtons$Order" "count" "I", .fieldLink RX3 22 "ShirtButtons$State" "buttons" "LShirtButtons$Buttons;", .fieldLink RX3 28 "ShirtButtons$Buttons" "count" "I", .fieldLink RX3 31 "ShirtButtons$State" "places" "LShirtButtons$Places;", .fieldLink RX3 35 "ShirtButtons$Places" "binOf" "[I", .fieldLink RX3 40 "ShirtButtons$Buttons" "shine" "[I", .methodLink RX3 41 yX3_insert, .instanceMethod yX3_insert, .selects RX3 yX3_insert yX3_insert, .initialized RX3, .code yX3_insert cX3_insert 4 none, .fieldLink RX3 15 "ShirtButtons$Order" "shine" "[I", .fieldLink RX3 9 "ShirtButtons$Order" "numbers" "[I"] ++ wsX30 ++ wsX50 ++ wsX10 ++ wsX40)
def wsX3_spreadFrom : List Cond := .code yX3_spreadFrom cX3_spreadFrom 3 (some .int) :: ([.fieldLink RX3 15 "ShirtButtons$Order" "shine" "[I"] ++ wsX30)
def wsX3_firstAlike : List Cond := .code yX3_firstAlike cX3_firstAlike 4 (some .int) :: ([.fieldLink RX3 18 "ShirtButtons$Order" "count" "I", .methodLink RX3 45 yX3_spreadFrom, .instanceMethod yX3_spreadFrom, .selects RX3 yX3_spreadFrom yX3_spreadFrom, .initialized RX3, .code yX3_spreadFrom cX3_spreadFrom 3 (some .int), .fieldLink RX3 15 "ShirtButtons$Order" "shine" "[I"] ++ wsX30)
def wsX3_narrowest : List Cond := .code yX3_narrowest cX3_narrowest 4 (some .int) :: ([.fieldLink RX3 18 "ShirtButtons$Order" "count" "I", .methodLink RX3 49 Lib.Math.min.name, .static Lib.Math.min.name, .initialized "java/lang/Math", .code Lib.Math.min.name Lib.Math.min.code 2 (some .int), .methodLink RX3 45 yX3_spreadFrom, .instanceMethod yX3_spreadFrom, .selects RX3 yX3_spreadFrom yX3_spreadFrom, .initialized RX3, .code yX3_spreadFrom cX3_spreadFrom 3 (some .int), .fieldLink RX3 15 "ShirtButtons$Order" "shine" "[I"] ++ wsX30)
def wsX3_mostAlike : List Cond := .code yX3_mostAlike cX3_mostAlike 3 (some .int) :: ([.methodLink RX3 54 yX3_firstAlike, .instanceMethod yX3_firstAlike, .selects RX3 yX3_firstAlike yX3_firstAlike, .initialized RX3, .code yX3_firstAlike cX3_firstAlike 4 (some .int), .fieldLink RX3 18 "ShirtButtons$Order" "count" "I", .methodLink RX3 45 yX3_spreadFrom, .instanceMethod yX3_spreadFrom, .selects RX3 yX3_spreadFrom yX3_spreadFrom, .code yX3_spreadFrom cX3_spreadFrom 3 (some .int), .fieldLink RX3 15 "ShirtButtons$Order" "shine" "[I"] ++ wsX30)
def wsX3_groups : List Cond := .code yX3_groups cX3_groups 5 (some .int) :: ([.fieldLink RX3 18 "ShirtButtons$Order" "count" "I", .methodLink RX3 45 yX3_spreadFrom, .instanceMethod yX3_spreadFrom, .selects RX3 yX3_spreadFrom yX3_spreadFrom, .initialized RX3, .code yX3_spreadFrom cX3_spreadFrom 3 (some .int), .fieldLink RX3 15 "ShirtButtons$Order" "shine" "[I"] ++ wsX30)
def wsX3_shineSum : List Cond := .code yX3_shineSum cX3_shineSum 3 (some .int) :: ([.fieldLink RX3 18 "ShirtButtons$Order" "count" "I", .fieldLink RX3 15 "ShirtButtons$Order" "shine" "[I"] ++ wsX30)
def wsX4_leave : List Cond := .code yX4_leave cX4_leave 2 none :: ([.fieldLink RX4 24 "ShirtButtons$Places" "at" "[I", .fieldLink RX4 9 "ShirtButtons$Places" "place" "[I", .fieldLink RX4 15 "ShirtButtons$Places" "binOf" "[I", .fieldLink RX4 27 "ShirtButtons$Places" "inBin" "[I"] ++ wsX40)
def wsX4_takeFirst : List Cond := .code yX4_takeFirst cX4_takeFirst 2 (some .int) :: ([.fieldLink RX4 21 "ShirtButtons$Places" "hopper" "[I", .fieldLink RX4 24 "ShirtButtons$Places" "at" "[I", .methodLink RX4 34 arraycopyName, .native arraycopyName, .static arraycopyName, .initialized "java/lang/System", .methodLink RX4 30 yX4_leave, .instanceMethod yX4_leave, .selects RX4 yX4_leave yX4_leave, .initialized RX4, .code yX4_leave cX4_leave 2 none, .fieldLink RX4 9 "ShirtButtons$Places" "place" "[I", .fieldLink RX4 15 "ShirtButtons$Places" "binOf" "[I", .fieldLink RX4 27 "ShirtButtons$Places" "inBin" "[I"] ++ wsX40)
def wsX4_bring : List Cond := .code yX4_bring cX4_bring 3 none :: ([.fieldLink RX4 9 "ShirtButtons$Places" "place" "[I", .fieldLink RX4 15 "ShirtButtons$Places" "binOf" "[I", .fieldLink RX4 18 "ShirtButtons$Places" "shirtOf" "[I", .fieldLink RX4 24 "ShirtButtons$Places" "at" "[I"] ++ wsX40)
def wsX4_bringToHopper : List Cond := .code yX4_bringToHopper cX4_bringToHopper 2 none :: ([.fieldLink RX4 21 "ShirtButtons$Places" "hopper" "[I", .fieldLink RX4 24 "ShirtButtons$Places" "at" "[I", .methodLink RX4 40 yX4_bring, .instanceMethod yX4_bring, .selects RX4 yX4_bring yX4_bring, .initialized RX4, .code yX4_bring cX4_bring 3 none, .fieldLink RX4 9 "ShirtButtons$Places" "place" "[I", .fieldLink RX4 15 "ShirtButtons$Places" "binOf" "[I", .fieldLink RX4 18 "ShirtButtons$Places" "shirtOf" "[I"] ++ wsX40)
def wsX4_bringToBin : List Cond := .code yX4_bringToBin cX4_bringToBin 3 none :: ([.fieldLink RX4 15 "ShirtButtons$Places" "binOf" "[I", .fieldLink RX4 27 "ShirtButtons$Places" "inBin" "[I", .methodLink RX4 40 yX4_bring, .instanceMethod yX4_bring, .selects RX4 yX4_bring yX4_bring, .initialized RX4, .code yX4_bring cX4_bring 3 none, .fieldLink RX4 9 "ShirtButtons$Places" "place" "[I", .fieldLink RX4 18 "ShirtButtons$Places" "shirtOf" "[I", .fieldLink RX4 24 "ShirtButtons$Places" "at" "[I"] ++ wsX40)
def wsX4_bringToShirt : List Cond := .code yX4_bringToShirt cX4_bringToShirt 3 none :: ([.fieldLink RX4 18 "ShirtButtons$Places" "shirtOf" "[I", .methodLink RX4 40 yX4_bring, .instanceMethod yX4_bring, .selects RX4 yX4_bring yX4_bring, .initialized RX4, .code yX4_bring cX4_bring 3 none, .fieldLink RX4 9 "ShirtButtons$Places" "place" "[I", .fieldLink RX4 15 "ShirtButtons$Places" "binOf" "[I", .fieldLink RX4 24 "ShirtButtons$Places" "at" "[I"] ++ wsX40)
def wsX4_rankInHopper : List Cond := .code yX4_rankInHopper cX4_rankInHopper 3 (some .int) :: ([.fieldLink RX4 24 "ShirtButtons$Places" "at" "[I", .fieldLink RX4 21 "ShirtButtons$Places" "hopper" "[I"] ++ wsX40)
def wsX5_takeIn_r1 : List Cond := [Cond.fieldLink RX5 12 "ShirtButtons$State" "buttons" "LShirtButtons$Buttons;", Cond.fieldLink RX5 53 "ShirtButtons$Buttons" "count" "I", Cond.fieldLink RX5 56 "ShirtButtons$Buttons" "holes" "[I", Cond.fieldLink RX5 59 "ShirtButtons$Batch" "holes" "[I", Cond.fieldLink RX5 62 "ShirtButtons$Buttons" "size" "[I", Cond.fieldLink RX5 65 "ShirtButtons$Batch" "size" "[I", Cond.fieldLink RX5 66 "ShirtButtons$Buttons" "iron" "[I", Cond.fieldLink RX5 69 "ShirtButtons$Batch" "iron" "[I", Cond.fieldLink RX5 70 "ShirtButtons$Buttons" "chips" "[I", Cond.fieldLink RX5 73 "ShirtButtons$Batch" "chips" "[I", Cond.fieldLink RX5 74 "ShirtButtons$Buttons" "shine" "[I", Cond.fieldLink RX5 77 "ShirtButtons$Batch" "shine" "[I", Cond.fieldLink RX5 78 "ShirtButtons$Buttons" "sortings" "[I", Cond.fieldLink RX5 21 "ShirtButtons$State" "places" "LShirtButtons$Places;", Cond.methodLink RX5 81 yX4_bringToHopper, Cond.instanceMethod yX4_bringToHopper, Cond.selects RX4 yX4_bringToHopper yX4_bringToHopper, Cond.initialized RX4, Cond.code yX4_bringToHopper cX4_bringToHopper 2 none, Cond.fieldLink RX4 21 "ShirtButtons$Places" "hopper" "[I", Cond.fieldLink RX4 24 "ShirtButtons$Places" "at" "[I", Cond.methodLink RX4 40 yX4_bring, Cond.instanceMethod yX4_bring, Cond.selects RX4 yX4_bring yX4_bring]
def wsX5_takeIn_r2 : List Cond := [Cond.code yX4_bring cX4_bring 3 none, Cond.fieldLink RX4 9 "ShirtButtons$Places" "place" "[I", Cond.fieldLink RX4 15 "ShirtButtons$Places" "binOf" "[I", Cond.fieldLink RX4 18 "ShirtButtons$Places" "shirtOf" "[I"]
def wsX5_takeIn : List Cond := .code yX5_takeIn cX5_takeIn 4 none :: ((wsX5_takeIn_r1 ++ wsX5_takeIn_r2) ++ wsX50 ++ wsX10 ++ wsX00 ++ wsX40)
def wsX5_meshClass : List Cond := .code yX5_meshClass cX5_meshClass 3 (some .int) :: ([.fieldLink RX5 34 "ShirtButtons$State" "settings" "[I", .fieldLink RX5 12 "ShirtButtons$State" "buttons" "LShirtButtons$Buttons;", .fieldLink RX5 62 "ShirtButtons$Buttons" "size" "[I"] ++ wsX50 ++ wsX10)
def wsX5_binFor : List Cond := .code yX5_binFor cX5_binFor 2 (some .int) :: ([.fieldLink RX5 12 "ShirtButtons$State" "buttons" "LShirtButtons$Buttons;", .fieldLink RX5 56 "ShirtButtons$Buttons" "holes" "[I", .methodLink RX5 95 yX5_meshClass, .instanceMethod yX5_meshClass, .selects RX5 yX5_meshClass yX5_meshClass, .initialized RX5, .code yX5_meshClass cX5_meshClass 3 (some .int), .fieldLink RX5 34 "ShirtButtons$State" "settings" "[I", .fieldLink RX5 62 "ShirtButtons$Buttons" "size" "[I"] ++ wsX50 ++ wsX10)
def wsX5_placeFor : List Cond := .code yX5_placeFor cX5_placeFor 2 (some .int) :: ([.fieldLink RX5 12 "ShirtButtons$State" "buttons" "LShirtButtons$Buttons;", .fieldLink RX5 70 "ShirtButtons$Buttons" "chips" "[I", .fieldLink RX5 34 "ShirtButtons$State" "settings" "[I", .fieldLink RX5 66 "ShirtButtons$Buttons" "iron" "[I", .fieldLink RX5 21 "ShirtButtons$State" "places" "LShirtButtons$Places;", .fieldLink RX5 85 "ShirtButtons$Places" "at" "[I", .fieldLink RX5 62 "ShirtButtons$Buttons" "size" "[I", .fieldLink RX5 88 "ShirtButtons$Places" "inBin" "[I", .methodLink RX5 91 yX5_binFor, .instanceMethod yX5_binFor, .selects RX5 yX5_binFor yX5_binFor, .initialized RX5, .code yX5_binFor cX5_binFor 2 (some .int), .fieldLink RX5 56 "ShirtButtons$Buttons" "holes" "[I", .methodLink RX5 95 yX5_meshClass, .instanceMethod yX5_meshClass, .selects RX5 yX5_meshClass yX5_meshClass, .code yX5_meshClass cX5_meshClass 3 (some .int)] ++ wsX50 ++ wsX10 ++ wsX40)
def wsX5_emptyMagnet : List Cond := .code yX5_emptyMagnet cX5_emptyMagnet 2 none :: ([.fieldLink RX5 12 "ShirtButtons$State" "buttons" "LShirtButtons$Buttons;", .fieldLink RX5 53 "ShirtButtons$Buttons" "count" "I", .fieldLink RX5 21 "ShirtButtons$State" "places" "LShirtButtons$Places;", .fieldLink RX5 121 "ShirtButtons$Places" "place" "[I", .methodLink RX5 124 yX4_leave, .instanceMethod yX4_leave, .selects RX4 yX4_leave yX4_leave, .initialized RX4, .code yX4_leave cX4_leave 2 none, .fieldLink RX4 24 "ShirtButtons$Places" "at" "[I", .fieldLink RX4 9 "ShirtButtons$Places" "place" "[I", .fieldLink RX4 15 "ShirtButtons$Places" "binOf" "[I", .fieldLink RX4 27 "ShirtButtons$Places" "inBin" "[I", .methodLink RX5 105 yX4_bring, .instanceMethod yX4_bring, .selects RX4 yX4_bring yX4_bring, .code yX4_bring cX4_bring 3 none, .fieldLink RX4 18 "ShirtButtons$Places" "shirtOf" "[I"] ++ wsX50 ++ wsX10 ++ wsX40)
def wsX5_rub : List Cond := .code yX5_rub cX5_rub 2 none :: ([.fieldLink RX5 12 "ShirtButtons$State" "buttons" "LShirtButtons$Buttons;", .fieldLink RX5 62 "ShirtButtons$Buttons" "size" "[I", .fieldLink RX5 34 "ShirtButtons$State" "settings" "[I", .fieldLink RX5 50 "ShirtButtons$State" "rubbed" "I", .methodLink RX5 95 yX5_meshClass, .instanceMethod yX5_meshClass, .selects RX5 yX5_meshClass yX5_meshClass, .initialized RX5, .code yX5_meshClass cX5_meshClass 3 (some .int), .methodLink RX5 118 yX1_chip, .instanceMethod yX1_chip, .selects RX1 yX1_chip yX1_chip, .initialized RX1, .code yX1_chip cX1_chip 2 none, .fieldLink RX1 21 "ShirtButtons$Buttons" "chips" "[I"] ++ wsX50 ++ wsX10)
def wsX5_sortFirst_r1 : List Cond := [Cond.fieldLink RX5 21 "ShirtButtons$State" "places" "LShirtButtons$Places;", Cond.fieldLink RX5 85 "ShirtButtons$Places" "at" "[I", Cond.fieldLink RX5 12 "ShirtButtons$State" "buttons" "LShirtButtons$Buttons;", Cond.fieldLink RX5 78 "ShirtButtons$Buttons" "sortings" "[I", Cond.fieldLink RX5 44 "ShirtButtons$State" "sortingsDone" "I", Cond.fieldLink RX5 47 "ShirtButtons$State" "goneBack" "I", Cond.methodLink RX5 98 yX4_takeFirst, Cond.instanceMethod yX4_takeFirst, Cond.selects RX4 yX4_takeFirst yX4_takeFirst, Cond.initialized RX4, Cond.code yX4_takeFirst cX4_takeFirst 2 (some .int), Cond.fieldLink RX4 21 "ShirtButtons$Places" "hopper" "[I", Cond.fieldLink RX4 24 "ShirtButtons$Places" "at" "[I", Cond.methodLink RX4 34 arraycopyName, Cond.native arraycopyName, Cond.static arraycopyName, Cond.initialized "java/lang/System", Cond.methodLink RX4 30 yX4_leave, Cond.instanceMethod yX4_leave, Cond.selects RX4 yX4_leave yX4_leave, Cond.code yX4_leave cX4_leave 2 none, Cond.fieldLink RX4 9 "ShirtButtons$Places" "place" "[I", Cond.fieldLink RX4 15 "ShirtButtons$Places" "binOf" "[I", Cond.fieldLink RX4 27 "ShirtButtons$Places" "inBin" "[I"]
def wsX5_sortFirst_r2 : List Cond := [Cond.methodLink RX5 102 yX5_placeFor, Cond.instanceMethod yX5_placeFor, Cond.selects RX5 yX5_placeFor yX5_placeFor, Cond.initialized RX5, Cond.code yX5_placeFor cX5_placeFor 2 (some .int), Cond.fieldLink RX5 70 "ShirtButtons$Buttons" "chips" "[I", Cond.fieldLink RX5 34 "ShirtButtons$State" "settings" "[I", Cond.fieldLink RX5 66 "ShirtButtons$Buttons" "iron" "[I", Cond.fieldLink RX5 62 "ShirtButtons$Buttons" "size" "[I", Cond.fieldLink RX5 88 "ShirtButtons$Places" "inBin" "[I", Cond.methodLink RX5 91 yX5_binFor, Cond.instanceMethod yX5_binFor, Cond.selects RX5 yX5_binFor yX5_binFor, Cond.code yX5_binFor cX5_binFor 2 (some .int), Cond.fieldLink RX5 56 "ShirtButtons$Buttons" "holes" "[I", Cond.methodLink RX5 95 yX5_meshClass, Cond.instanceMethod yX5_meshClass, Cond.selects RX5 yX5_meshClass yX5_meshClass, Cond.code yX5_meshClass cX5_meshClass 3 (some .int), Cond.methodLink RX5 105 yX4_bring, Cond.instanceMethod yX4_bring, Cond.selects RX4 yX4_bring yX4_bring, Cond.code yX4_bring cX4_bring 3 none, Cond.fieldLink RX4 18 "ShirtButtons$Places" "shirtOf" "[I"]
def wsX5_sortFirst_r3 : List Cond := [Cond.methodLink RX5 109 yX5_emptyMagnet, Cond.instanceMethod yX5_emptyMagnet, Cond.selects RX5 yX5_emptyMagnet yX5_emptyMagnet, Cond.code yX5_emptyMagnet cX5_emptyMagnet 2 none, Cond.fieldLink RX5 53 "ShirtButtons$Buttons" "count" "I", Cond.fieldLink RX5 121 "ShirtButtons$Places" "place" "[I", Cond.methodLink RX5 124 yX4_leave, Cond.methodLink RX5 112 yX5_rub, Cond.instanceMethod yX5_rub, Cond.selects RX5 yX5_rub yX5_rub, Cond.code yX5_rub cX5_rub 2 none, Cond.fieldLink RX5 50 "ShirtButtons$State" "rubbed" "I", Cond.methodLink RX5 118 yX1_chip, Cond.instanceMethod yX1_chip, Cond.selects RX1 yX1_chip yX1_chip, Cond.initialized RX1, Cond.code yX1_chip cX1_chip 2 none, Cond.fieldLink RX1 21 "ShirtButtons$Buttons" "chips" "[I", Cond.methodLink RX5 115 yX4_bringToBin, Cond.instanceMethod yX4_bringToBin, Cond.selects RX4 yX4_bringToBin yX4_bringToBin, Cond.code yX4_bringToBin cX4_bringToBin 3 none, Cond.methodLink RX4 40 yX4_bring, Cond.methodLink RX5 81 yX4_bringToHopper]
def wsX5_sortFirst_r4 : List Cond := [Cond.instanceMethod yX4_bringToHopper, Cond.selects RX4 yX4_bringToHopper yX4_bringToHopper, Cond.code yX4_bringToHopper cX4_bringToHopper 2 none]
def wsX5_sortFirst : List Cond := .code yX5_sortFirst cX5_sortFirst 3 none :: ((wsX5_sortFirst_r1 ++ (wsX5_sortFirst_r2 ++ (wsX5_sortFirst_r3 ++ wsX5_sortFirst_r4))) ++ wsX50 ++ wsX40 ++ wsX10)
def wsX5_emptyBin : List Cond := .code yX5_emptyBin cX5_emptyBin 3 none :: ([.fieldLink RX5 12 "ShirtButtons$State" "buttons" "LShirtButtons$Buttons;", .fieldLink RX5 53 "ShirtButtons$Buttons" "count" "I", .fieldLink RX5 21 "ShirtButtons$State" "places" "LShirtButtons$Places;", .fieldLink RX5 127 "ShirtButtons$Places" "binOf" "[I", .methodLink RX5 124 yX4_leave, .instanceMethod yX4_leave, .selects RX4 yX4_leave yX4_leave, .initialized RX4, .code yX4_leave cX4_leave 2 none, .fieldLink RX4 24 "ShirtButtons$Places" "at" "[I", .fieldLink RX4 9 "ShirtButtons$Places" "place" "[I", .fieldLink RX4 15 "ShirtButtons$Places" "binOf" "[I", .fieldLink RX4 27 "ShirtButtons$Places" "inBin" "[I", .methodLink RX5 81 yX4_bringToHopper, .instanceMethod yX4_bringToHopper, .selects RX4 yX4_bringToHopper yX4_bringToHopper, .code yX4_bringToHopper cX4_bringToHopper 2 none, .fieldLink RX4 21 "ShirtButtons$Places" "hopper" "[I", .methodLink RX4 40 yX4_bring, .instanceMethod yX4_bring, .selects RX4 yX4_bring yX4_bring, .code yX4_bring cX4_bring 3 none, .fieldLink RX4 18 "ShirtButtons$Places" "shirtOf" "[I"] ++ wsX50 ++ wsX10 ++ wsX40)
def wsX5_makeShirt_r1 : List Cond := [Cond.fieldLink RX5 130 "ShirtButtons$Order" "numbers" "[I", Cond.fieldLink RX5 12 "ShirtButtons$State" "buttons" "LShirtButtons$Buttons;", Cond.fieldLink RX5 74 "ShirtButtons$Buttons" "shine" "[I", Cond.fieldLink RX5 70 "ShirtButtons$Buttons" "chips" "[I", Cond.fieldLink RX5 21 "ShirtButtons$State" "places" "LShirtButtons$Places;", Cond.fieldLink RX5 37 "ShirtButtons$State" "shirtsMade" "I", Cond.methodLink RX5 138 Lib.Math.max.name, Cond.static Lib.Math.max.name, Cond.initialized "java/lang/Math", Cond.code Lib.Math.max.name Lib.Math.max.code 2 (some .int), Cond.fieldLink RX5 41 "ShirtButtons$State" "worthMade" "I", Cond.methodLink RX5 124 yX4_leave, Cond.instanceMethod yX4_leave, Cond.selects RX4 yX4_leave yX4_leave, Cond.initialized RX4, Cond.code yX4_leave cX4_leave 2 none, Cond.fieldLink RX4 24 "ShirtButtons$Places" "at" "[I", Cond.fieldLink RX4 9 "ShirtButtons$Places" "place" "[I", Cond.fieldLink RX4 15 "ShirtButtons$Places" "binOf" "[I", Cond.fieldLink RX4 27 "ShirtButtons$Places" "inBin" "[I", Cond.methodLink RX5 135 yX4_bringToShirt, Cond.instanceMethod yX4_bringToShirt, Cond.selects RX4 yX4_bringToShirt yX4_bringToShirt, Cond.code yX4_bringToShirt cX4_bringToShirt 3 none]
def wsX5_makeShirt_r2 : List Cond := [Cond.fieldLink RX4 18 "ShirtButtons$Places" "shirtOf" "[I", Cond.methodLink RX4 40 yX4_bring, Cond.instanceMethod yX4_bring, Cond.selects RX4 yX4_bring yX4_bring, Cond.code yX4_bring cX4_bring 3 none]
def wsX5_makeShirt : List Cond := .code yX5_makeShirt cX5_makeShirt 7 (some .int) :: ((wsX5_makeShirt_r1 ++ wsX5_makeShirt_r2) ++ wsX30 ++ wsX50 ++ wsX10 ++ wsX40)
def wsX5_meshesAllow : List Cond := .code yX5_meshesAllow cX5_meshesAllow 3 (some .boolean) :: ([.fieldLink RX5 34 "ShirtButtons$State" "settings" "[I"] ++ wsX50)
def wsX6_init : List Cond := .code yX6_init cX6_init 1 none :: ([.methodLink RX6 3 objectInit, .instanceMethod objectInit, .code objectInit ⟨#[0xb1]⟩ 1 none, .arrayClass .char, .fieldLink RX6 9 "ShirtButtons$Text" "signs" "[C", .fieldLink RX6 15 "ShirtButtons$Text" "length" "I"] ++ wsX60)
def wsX6_append : List Cond := .code yX6_append cX6_append 2 (some .boolean) :: ([.fieldLink RX6 15 "ShirtButtons$Text" "length" "I", .fieldLink RX6 9 "ShirtButtons$Text" "signs" "[C"] ++ wsX60)
def wsX7_init_r1 : List Cond := [Cond.methodLink RX7 1 objectInit, Cond.instanceMethod objectInit, Cond.code objectInit ⟨#[0xb1]⟩ 1 none, Cond.classLink RX7 7 RX6, Cond.instantiable RX6 2, Cond.initialized RX6, Cond.fieldLink RX7 10 "ShirtButtons" "text" "LShirtButtons$Text;", Cond.classLink RX7 16 RX0, Cond.instantiable RX0 8, Cond.initialized RX0, Cond.fieldLink RX7 21 "ShirtButtons" "batch" "LShirtButtons$Batch;", Cond.classLink RX7 25 RX3, Cond.instantiable RX3 3, Cond.initialized RX3, Cond.fieldLink RX7 28 "ShirtButtons" "order" "LShirtButtons$Order;", Cond.classLink RX7 32 RX2, Cond.instantiable RX2 2, Cond.initialized RX2, Cond.fieldLink RX7 35 "ShirtButtons" "history" "LShirtButtons$History;", Cond.classLink RX7 39 RX5, Cond.instantiable RX5 8, Cond.initialized RX5, Cond.fieldLink RX7 42 "ShirtButtons" "now" "LShirtButtons$State;", Cond.fieldLink RX7 46 "ShirtButtons" "snapshot" "LShirtButtons$State;"]
def wsX7_init_r2 : List Cond := [Cond.fieldLink RX7 49 "ShirtButtons" "trial" "LShirtButtons$State;", Cond.fieldLink RX7 52 "ShirtButtons" "hasSnapshot" "Z", Cond.instanceMethod yX6_init, Cond.code yX6_init cX6_init 1 none, Cond.methodLink RX6 3 objectInit, Cond.arrayClass .char, Cond.fieldLink RX6 9 "ShirtButtons$Text" "signs" "[C", Cond.fieldLink RX6 15 "ShirtButtons$Text" "length" "I", Cond.methodLink RX7 18 yX0_init, Cond.instanceMethod yX0_init, Cond.code yX0_init cX0_init 2 none, Cond.methodLink RX0 3 objectInit, Cond.arrayClass .int, Cond.fieldLink RX0 9 "ShirtButtons$Batch" "holes" "[I", Cond.fieldLink RX0 15 "ShirtButtons$Batch" "size" "[I", Cond.fieldLink RX0 18 "ShirtButtons$Batch" "iron" "[I", Cond.fieldLink RX0 21 "ShirtButtons$Batch" "chips" "[I", Cond.fieldLink RX0 24 "ShirtButtons$Batch" "shine" "[I", Cond.fieldLink RX0 27 "ShirtButtons$Batch" "count" "I", Cond.fieldLink RX0 31 "ShirtButtons$Batch" "at" "I", Cond.fieldLink RX0 34 "ShirtButtons$Batch" "source" "LShirtButtons$Text;", Cond.instanceMethod yX3_init, Cond.code yX3_init cX3_init 1 none, Cond.methodLink RX3 3 objectInit]
def wsX7_init_r3 : List Cond := [Cond.fieldLink RX3 9 "ShirtButtons$Order" "numbers" "[I", Cond.fieldLink RX3 15 "ShirtButtons$Order" "shine" "[I", Cond.fieldLink RX3 18 "ShirtButtons$Order" "count" "I", Cond.methodLink RX7 34 yX2_init, Cond.instanceMethod yX2_init, Cond.code yX2_init cX2_init 2 none, Cond.methodLink RX2 3 objectInit, Cond.classLink RX2 9 RX5, Cond.fieldLink RX2 11 "ShirtButtons$History" "states" "[LShirtButtons$State;", Cond.fieldLink RX2 17 "ShirtButtons$History" "count" "I", Cond.instanceMethod yX5_init, Cond.code yX5_init cX5_init 1 none, Cond.methodLink RX5 3 objectInit, Cond.classLink RX5 9 RX1, Cond.instantiable RX1 7, Cond.initialized RX1, Cond.fieldLink RX5 12 "ShirtButtons$State" "buttons" "LShirtButtons$Buttons;", Cond.classLink RX5 18 RX4, Cond.instantiable RX4 6, Cond.initialized RX4, Cond.fieldLink RX5 21 "ShirtButtons$State" "places" "LShirtButtons$Places;", Cond.methodLink RX5 29 ⟨"[I", "clone", "()Ljava/lang/Object;"⟩, Cond.sameMethod "[I" "java/lang/Object" "clone" "()Ljava/lang/Object;", Cond.native ⟨"java/lang/Object", "clone", "()Ljava/lang/Object;"⟩]
def wsX7_init_r4 : List Cond := [Cond.instanceMethod ⟨"java/lang/Object", "clone", "()Ljava/lang/Object;"⟩, Cond.selects "[I" ⟨"[I", "clone", "()Ljava/lang/Object;"⟩ ⟨"java/lang/Object", "clone", "()Ljava/lang/Object;"⟩, Cond.classLink RX5 30 "[I", Cond.fieldLink RX5 34 "ShirtButtons$State" "settings" "[I", Cond.fieldLink RX5 37 "ShirtButtons$State" "shirtsMade" "I", Cond.fieldLink RX5 41 "ShirtButtons$State" "worthMade" "I", Cond.fieldLink RX5 44 "ShirtButtons$State" "sortingsDone" "I", Cond.fieldLink RX5 47 "ShirtButtons$State" "goneBack" "I", Cond.fieldLink RX5 50 "ShirtButtons$State" "rubbed" "I", Cond.instanceMethod yX1_init, Cond.code yX1_init cX1_init 1 none, Cond.methodLink RX1 3 objectInit, Cond.fieldLink RX1 9 "ShirtButtons$Buttons" "holes" "[I", Cond.fieldLink RX1 15 "ShirtButtons$Buttons" "size" "[I", Cond.fieldLink RX1 18 "ShirtButtons$Buttons" "iron" "[I", Cond.fieldLink RX1 21 "ShirtButtons$Buttons" "chips" "[I", Cond.fieldLink RX1 24 "ShirtButtons$Buttons" "shine" "[I", Cond.fieldLink RX1 27 "ShirtButtons$Buttons" "sortings" "[I", Cond.fieldLink RX1 30 "ShirtButtons$Buttons" "count" "I", Cond.instanceMethod yX4_init, Cond.code yX4_init cX4_init 1 none, Cond.methodLink RX4 3 objectInit, Cond.fieldLink RX4 9 "ShirtButtons$Places" "place" "[I", Cond.fieldLink RX4 15 "ShirtButtons$Places" "binOf" "[I"]
def wsX7_init_r5 : List Cond := [Cond.fieldLink RX4 18 "ShirtButtons$Places" "shirtOf" "[I", Cond.fieldLink RX4 21 "ShirtButtons$Places" "hopper" "[I", Cond.fieldLink RX4 24 "ShirtButtons$Places" "at" "[I", Cond.fieldLink RX4 27 "ShirtButtons$Places" "inBin" "[I"]
def wsX7_init : List Cond := .code yX7_init cX7_init 1 none :: ((wsX7_init_r1 ++ (wsX7_init_r2 ++ (wsX7_init_r3 ++ (wsX7_init_r4 ++ wsX7_init_r5)))) ++ wsX60 ++ wsX70 ++ wsX00 ++ wsX30 ++ wsX20 ++ wsX50 ++ wsX10 ++ wsX40)
def wsX7_read_r1 : List Cond := [Cond.fieldLink RX7 21 "ShirtButtons" "batch" "LShirtButtons$Batch;", Cond.fieldLink RX7 42 "ShirtButtons" "now" "LShirtButtons$State;", Cond.fieldLink RX7 60 "ShirtButtons$State" "buttons" "LShirtButtons$Buttons;", Cond.fieldLink RX7 64 "ShirtButtons$Buttons" "count" "I", Cond.fieldLink RX7 70 "ShirtButtons$Batch" "count" "I", Cond.fieldLink RX7 35 "ShirtButtons" "history" "LShirtButtons$History;", Cond.methodLink RX7 56 yX0_parse, Cond.instanceMethod yX0_parse, Cond.selects RX0 yX0_parse yX0_parse, Cond.initialized RX0, Cond.code yX0_parse cX0_parse 2 (some .int), Cond.fieldLink RX0 31 "ShirtButtons$Batch" "at" "I", Cond.fieldLink RX0 27 "ShirtButtons$Batch" "count" "I", Cond.fieldLink RX0 34 "ShirtButtons$Batch" "source" "LShirtButtons$Text;", Cond.fieldLink RX0 42 "ShirtButtons$Text" "length" "I", Cond.methodLink RX0 38 yX0_takeButton, Cond.instanceMethod yX0_takeButton, Cond.selects RX0 yX0_takeButton yX0_takeButton, Cond.code yX0_takeButton cX0_takeButton 2 (some .boolean), Cond.fieldLink RX0 9 "ShirtButtons$Batch" "holes" "[I", Cond.fieldLink RX0 15 "ShirtButtons$Batch" "size" "[I", Cond.fieldLink RX0 18 "ShirtButtons$Batch" "iron" "[I", Cond.fieldLink RX0 21 "ShirtButtons$Batch" "chips" "[I", Cond.fieldLink RX0 24 "ShirtButtons$Batch" "shine" "[I"]
def wsX7_read_r2 : List Cond := [Cond.methodLink RX0 51 yX0_takeDigit, Cond.instanceMethod yX0_takeDigit, Cond.selects RX0 yX0_takeDigit yX0_takeDigit, Cond.code yX0_takeDigit cX0_takeDigit 4 (some .int), Cond.fieldLink RX0 63 "ShirtButtons$Text" "signs" "[C", Cond.methodLink RX0 47 yX0_takeSign, Cond.instanceMethod yX0_takeSign, Cond.selects RX0 yX0_takeSign yX0_takeSign, Cond.code yX0_takeSign cX0_takeSign 2 (some .boolean), Cond.methodLink RX0 55 yX0_takeSize, Cond.instanceMethod yX0_takeSize, Cond.selects RX0 yX0_takeSize yX0_takeSize, Cond.code yX0_takeSize cX0_takeSize 3 (some .int), Cond.methodLink RX0 59 yX0_takePart, Cond.instanceMethod yX0_takePart, Cond.selects RX0 yX0_takePart yX0_takePart, Cond.code yX0_takePart cX0_takePart 2 (some .int), Cond.methodLink RX7 71 yX2_remember, Cond.instanceMethod yX2_remember, Cond.selects RX2 yX2_remember yX2_remember, Cond.initialized RX2, Cond.code yX2_remember cX2_remember 2 none, Cond.fieldLink RX2 17 "ShirtButtons$History" "count" "I", Cond.fieldLink RX2 11 "ShirtButtons$History" "states" "[LShirtButtons$State;"]
def wsX7_read_r3 : List Cond := [Cond.methodLink RX2 22 yX2_dropOldest, Cond.instanceMethod yX2_dropOldest, Cond.selects RX2 yX2_dropOldest yX2_dropOldest, Cond.code yX2_dropOldest cX2_dropOldest 3 none, Cond.methodLink RX2 25 yX5_copyFrom, Cond.instanceMethod yX5_copyFrom, Cond.selects RX5 yX5_copyFrom yX5_copyFrom, Cond.initialized RX5, Cond.code yX5_copyFrom cX5_copyFrom 2 none, Cond.fieldLink RX5 12 "ShirtButtons$State" "buttons" "LShirtButtons$Buttons;", Cond.fieldLink RX5 21 "ShirtButtons$State" "places" "LShirtButtons$Places;", Cond.fieldLink RX5 53 "ShirtButtons$Buttons" "count" "I", Cond.fieldLink RX5 34 "ShirtButtons$State" "settings" "[I", Cond.methodLink RX5 151 arraycopyName, Cond.native arraycopyName, Cond.static arraycopyName, Cond.initialized "java/lang/System", Cond.fieldLink RX5 37 "ShirtButtons$State" "shirtsMade" "I", Cond.fieldLink RX5 41 "ShirtButtons$State" "worthMade" "I", Cond.fieldLink RX5 44 "ShirtButtons$State" "sortingsDone" "I", Cond.fieldLink RX5 47 "ShirtButtons$State" "goneBack" "I", Cond.fieldLink RX5 50 "ShirtButtons$State" "rubbed" "I", Cond.methodLink RX5 144 yX1_copyFrom, Cond.instanceMethod yX1_copyFrom]
def wsX7_read_r4 : List Cond := [Cond.selects RX1 yX1_copyFrom yX1_copyFrom, Cond.initialized RX1, Cond.code yX1_copyFrom cX1_copyFrom 2 none, Cond.fieldLink RX1 30 "ShirtButtons$Buttons" "count" "I", Cond.fieldLink RX1 9 "ShirtButtons$Buttons" "holes" "[I", Cond.methodLink RX1 34 arraycopyName, Cond.fieldLink RX1 15 "ShirtButtons$Buttons" "size" "[I", Cond.fieldLink RX1 18 "ShirtButtons$Buttons" "iron" "[I", Cond.fieldLink RX1 21 "ShirtButtons$Buttons" "chips" "[I", Cond.fieldLink RX1 24 "ShirtButtons$Buttons" "shine" "[I", Cond.fieldLink RX1 27 "ShirtButtons$Buttons" "sortings" "[I", Cond.methodLink RX5 148 yX4_copyFrom, Cond.instanceMethod yX4_copyFrom, Cond.selects RX4 yX4_copyFrom yX4_copyFrom, Cond.initialized RX4, Cond.code yX4_copyFrom cX4_copyFrom 3 none, Cond.fieldLink RX4 9 "ShirtButtons$Places" "place" "[I", Cond.methodLink RX4 34 arraycopyName, Cond.fieldLink RX4 15 "ShirtButtons$Places" "binOf" "[I", Cond.fieldLink RX4 18 "ShirtButtons$Places" "shirtOf" "[I", Cond.fieldLink RX4 21 "ShirtButtons$Places" "hopper" "[I", Cond.fieldLink RX4 24 "ShirtButtons$Places" "at" "[I", Cond.fieldLink RX4 27 "ShirtButtons$Places" "inBin" "[I", Cond.methodLink RX7 75 yX5_takeIn]
def wsX7_read_r5 : List Cond := [Cond.instanceMethod yX5_takeIn, Cond.selects RX5 yX5_takeIn yX5_takeIn, Cond.code yX5_takeIn cX5_takeIn 4 none, Cond.fieldLink RX5 56 "ShirtButtons$Buttons" "holes" "[I", Cond.fieldLink RX5 59 "ShirtButtons$Batch" "holes" "[I", Cond.fieldLink RX5 62 "ShirtButtons$Buttons" "size" "[I", Cond.fieldLink RX5 65 "ShirtButtons$Batch" "size" "[I", Cond.fieldLink RX5 66 "ShirtButtons$Buttons" "iron" "[I", Cond.fieldLink RX5 69 "ShirtButtons$Batch" "iron" "[I", Cond.fieldLink RX5 70 "ShirtButtons$Buttons" "chips" "[I", Cond.fieldLink RX5 73 "ShirtButtons$Batch" "chips" "[I", Cond.fieldLink RX5 74 "ShirtButtons$Buttons" "shine" "[I", Cond.fieldLink RX5 77 "ShirtButtons$Batch" "shine" "[I", Cond.fieldLink RX5 78 "ShirtButtons$Buttons" "sortings" "[I", Cond.methodLink RX5 81 yX4_bringToHopper, Cond.instanceMethod yX4_bringToHopper, Cond.selects RX4 yX4_bringToHopper yX4_bringToHopper, Cond.code yX4_bringToHopper cX4_bringToHopper 2 none, Cond.methodLink RX4 40 yX4_bring, Cond.instanceMethod yX4_bring, Cond.selects RX4 yX4_bring yX4_bring, Cond.code yX4_bring cX4_bring 3 none]
def wsX7_read : List Cond := .code yX7_read cX7_read 3 (some .int) :: ((wsX7_read_r1 ++ (wsX7_read_r2 ++ (wsX7_read_r3 ++ (wsX7_read_r4 ++ wsX7_read_r5)))) ++ wsX70 ++ wsX50 ++ wsX10 ++ wsX00 ++ wsX60 ++ wsX20 ++ wsX40)
def wsX7_sort_r1 : List Cond := [Cond.fieldLink RX7 42 "ShirtButtons" "now" "LShirtButtons$State;", Cond.fieldLink RX7 79 "ShirtButtons$State" "places" "LShirtButtons$Places;", Cond.fieldLink RX7 83 "ShirtButtons$Places" "at" "[I", Cond.fieldLink RX7 35 "ShirtButtons" "history" "LShirtButtons$History;", Cond.methodLink RX7 71 yX2_remember, Cond.instanceMethod yX2_remember, Cond.selects RX2 yX2_remember yX2_remember, Cond.initialized RX2, Cond.code yX2_remember cX2_remember 2 none, Cond.fieldLink RX2 17 "ShirtButtons$History" "count" "I", Cond.fieldLink RX2 11 "ShirtButtons$History" "states" "[LShirtButtons$State;", Cond.methodLink RX2 22 yX2_dropOldest, Cond.instanceMethod yX2_dropOldest, Cond.selects RX2 yX2_dropOldest yX2_dropOldest, Cond.code yX2_dropOldest cX2_dropOldest 3 none, Cond.methodLink RX2 25 yX5_copyFrom, Cond.instanceMethod yX5_copyFrom, Cond.selects RX5 yX5_copyFrom yX5_copyFrom, Cond.initialized RX5, Cond.code yX5_copyFrom cX5_copyFrom 2 none, Cond.fieldLink RX5 12 "ShirtButtons$State" "buttons" "LShirtButtons$Buttons;", Cond.fieldLink RX5 21 "ShirtButtons$State" "places" "LShirtButtons$Places;", Cond.fieldLink RX5 53 "ShirtButtons$Buttons" "count" "I", Cond.fieldLink RX5 34 "ShirtButtons$State" "settings" "[I"]
def wsX7_sort_r2 : List Cond := [Cond.methodLink RX5 151 arraycopyName, Cond.native arraycopyName, Cond.static arraycopyName, Cond.initialized "java/lang/System", Cond.fieldLink RX5 37 "ShirtButtons$State" "shirtsMade" "I", Cond.fieldLink RX5 41 "ShirtButtons$State" "worthMade" "I", Cond.fieldLink RX5 44 "ShirtButtons$State" "sortingsDone" "I", Cond.fieldLink RX5 47 "ShirtButtons$State" "goneBack" "I", Cond.fieldLink RX5 50 "ShirtButtons$State" "rubbed" "I", Cond.methodLink RX5 144 yX1_copyFrom, Cond.instanceMethod yX1_copyFrom, Cond.selects RX1 yX1_copyFrom yX1_copyFrom, Cond.initialized RX1, Cond.code yX1_copyFrom cX1_copyFrom 2 none, Cond.fieldLink RX1 30 "ShirtButtons$Buttons" "count" "I", Cond.fieldLink RX1 9 "ShirtButtons$Buttons" "holes" "[I", Cond.methodLink RX1 34 arraycopyName, Cond.fieldLink RX1 15 "ShirtButtons$Buttons" "size" "[I", Cond.fieldLink RX1 18 "ShirtButtons$Buttons" "iron" "[I", Cond.fieldLink RX1 21 "ShirtButtons$Buttons" "chips" "[I", Cond.fieldLink RX1 24 "ShirtButtons$Buttons" "shine" "[I", Cond.fieldLink RX1 27 "ShirtButtons$Buttons" "sortings" "[I", Cond.methodLink RX5 148 yX4_copyFrom, Cond.instanceMethod yX4_copyFrom]
def wsX7_sort_r3 : List Cond := [Cond.selects RX4 yX4_copyFrom yX4_copyFrom, Cond.initialized RX4, Cond.code yX4_copyFrom cX4_copyFrom 3 none, Cond.fieldLink RX4 9 "ShirtButtons$Places" "place" "[I", Cond.methodLink RX4 34 arraycopyName, Cond.fieldLink RX4 15 "ShirtButtons$Places" "binOf" "[I", Cond.fieldLink RX4 18 "ShirtButtons$Places" "shirtOf" "[I", Cond.fieldLink RX4 21 "ShirtButtons$Places" "hopper" "[I", Cond.fieldLink RX4 24 "ShirtButtons$Places" "at" "[I", Cond.fieldLink RX4 27 "ShirtButtons$Places" "inBin" "[I", Cond.methodLink RX7 89 yX5_sortFirst, Cond.instanceMethod yX5_sortFirst, Cond.selects RX5 yX5_sortFirst yX5_sortFirst, Cond.code yX5_sortFirst cX5_sortFirst 3 none, Cond.fieldLink RX5 85 "ShirtButtons$Places" "at" "[I", Cond.fieldLink RX5 78 "ShirtButtons$Buttons" "sortings" "[I", Cond.methodLink RX5 98 yX4_takeFirst, Cond.instanceMethod yX4_takeFirst, Cond.selects RX4 yX4_takeFirst yX4_takeFirst, Cond.code yX4_takeFirst cX4_takeFirst 2 (some .int), Cond.methodLink RX4 30 yX4_leave, Cond.instanceMethod yX4_leave, Cond.selects RX4 yX4_leave yX4_leave, Cond.code yX4_leave cX4_leave 2 none]
def wsX7_sort_r4 : List Cond := [Cond.methodLink RX5 102 yX5_placeFor, Cond.instanceMethod yX5_placeFor, Cond.selects RX5 yX5_placeFor yX5_placeFor, Cond.code yX5_placeFor cX5_placeFor 2 (some .int), Cond.fieldLink RX5 70 "ShirtButtons$Buttons" "chips" "[I", Cond.fieldLink RX5 66 "ShirtButtons$Buttons" "iron" "[I", Cond.fieldLink RX5 62 "ShirtButtons$Buttons" "size" "[I", Cond.fieldLink RX5 88 "ShirtButtons$Places" "inBin" "[I", Cond.methodLink RX5 91 yX5_binFor, Cond.instanceMethod yX5_binFor, Cond.selects RX5 yX5_binFor yX5_binFor, Cond.code yX5_binFor cX5_binFor 2 (some .int), Cond.fieldLink RX5 56 "ShirtButtons$Buttons" "holes" "[I", Cond.methodLink RX5 95 yX5_meshClass, Cond.instanceMethod yX5_meshClass, Cond.selects RX5 yX5_meshClass yX5_meshClass, Cond.code yX5_meshClass cX5_meshClass 3 (some .int), Cond.methodLink RX5 105 yX4_bring, Cond.instanceMethod yX4_bring, Cond.selects RX4 yX4_bring yX4_bring, Cond.code yX4_bring cX4_bring 3 none, Cond.methodLink RX5 109 yX5_emptyMagnet, Cond.instanceMethod yX5_emptyMagnet, Cond.selects RX5 yX5_emptyMagnet yX5_emptyMagnet]
def wsX7_sort_r5 : List Cond := [Cond.code yX5_emptyMagnet cX5_emptyMagnet 2 none, Cond.fieldLink RX5 121 "ShirtButtons$Places" "place" "[I", Cond.methodLink RX5 124 yX4_leave, Cond.methodLink RX5 112 yX5_rub, Cond.instanceMethod yX5_rub, Cond.selects RX5 yX5_rub yX5_rub, Cond.code yX5_rub cX5_rub 2 none, Cond.methodLink RX5 118 yX1_chip, Cond.instanceMethod yX1_chip, Cond.selects RX1 yX1_chip yX1_chip, Cond.code yX1_chip cX1_chip 2 none, Cond.methodLink RX5 115 yX4_bringToBin, Cond.instanceMethod yX4_bringToBin, Cond.selects RX4 yX4_bringToBin yX4_bringToBin, Cond.code yX4_bringToBin cX4_bringToBin 3 none, Cond.methodLink RX4 40 yX4_bring, Cond.methodLink RX5 81 yX4_bringToHopper, Cond.instanceMethod yX4_bringToHopper, Cond.selects RX4 yX4_bringToHopper yX4_bringToHopper, Cond.code yX4_bringToHopper cX4_bringToHopper 2 none]
def wsX7_sort : List Cond := .code yX7_sort cX7_sort 3 (some .int) :: ((wsX7_sort_r1 ++ (wsX7_sort_r2 ++ (wsX7_sort_r3 ++ (wsX7_sort_r4 ++ wsX7_sort_r5)))) ++ wsX70 ++ wsX50 ++ wsX40 ++ wsX20 ++ wsX10)
def wsX7_letGo_r1 : List Cond := [Cond.fieldLink RX7 42 "ShirtButtons" "now" "LShirtButtons$State;", Cond.fieldLink RX7 79 "ShirtButtons$State" "places" "LShirtButtons$Places;", Cond.fieldLink RX7 83 "ShirtButtons$Places" "at" "[I", Cond.fieldLink RX7 35 "ShirtButtons" "history" "LShirtButtons$History;", Cond.methodLink RX7 71 yX2_remember, Cond.instanceMethod yX2_remember, Cond.selects RX2 yX2_remember yX2_remember, Cond.initialized RX2, Cond.code yX2_remember cX2_remember 2 none, Cond.fieldLink RX2 17 "ShirtButtons$History" "count" "I", Cond.fieldLink RX2 11 "ShirtButtons$History" "states" "[LShirtButtons$State;", Cond.methodLink RX2 22 yX2_dropOldest, Cond.instanceMethod yX2_dropOldest, Cond.selects RX2 yX2_dropOldest yX2_dropOldest, Cond.code yX2_dropOldest cX2_dropOldest 3 none, Cond.methodLink RX2 25 yX5_copyFrom, Cond.instanceMethod yX5_copyFrom, Cond.selects RX5 yX5_copyFrom yX5_copyFrom, Cond.initialized RX5, Cond.code yX5_copyFrom cX5_copyFrom 2 none, Cond.fieldLink RX5 12 "ShirtButtons$State" "buttons" "LShirtButtons$Buttons;", Cond.fieldLink RX5 21 "ShirtButtons$State" "places" "LShirtButtons$Places;", Cond.fieldLink RX5 53 "ShirtButtons$Buttons" "count" "I", Cond.fieldLink RX5 34 "ShirtButtons$State" "settings" "[I"]
def wsX7_letGo_r2 : List Cond := [Cond.methodLink RX5 151 arraycopyName, Cond.native arraycopyName, Cond.static arraycopyName, Cond.initialized "java/lang/System", Cond.fieldLink RX5 37 "ShirtButtons$State" "shirtsMade" "I", Cond.fieldLink RX5 41 "ShirtButtons$State" "worthMade" "I", Cond.fieldLink RX5 44 "ShirtButtons$State" "sortingsDone" "I", Cond.fieldLink RX5 47 "ShirtButtons$State" "goneBack" "I", Cond.fieldLink RX5 50 "ShirtButtons$State" "rubbed" "I", Cond.methodLink RX5 144 yX1_copyFrom, Cond.instanceMethod yX1_copyFrom, Cond.selects RX1 yX1_copyFrom yX1_copyFrom, Cond.initialized RX1, Cond.code yX1_copyFrom cX1_copyFrom 2 none, Cond.fieldLink RX1 30 "ShirtButtons$Buttons" "count" "I", Cond.fieldLink RX1 9 "ShirtButtons$Buttons" "holes" "[I", Cond.methodLink RX1 34 arraycopyName, Cond.fieldLink RX1 15 "ShirtButtons$Buttons" "size" "[I", Cond.fieldLink RX1 18 "ShirtButtons$Buttons" "iron" "[I", Cond.fieldLink RX1 21 "ShirtButtons$Buttons" "chips" "[I", Cond.fieldLink RX1 24 "ShirtButtons$Buttons" "shine" "[I", Cond.fieldLink RX1 27 "ShirtButtons$Buttons" "sortings" "[I", Cond.methodLink RX5 148 yX4_copyFrom, Cond.instanceMethod yX4_copyFrom]
def wsX7_letGo_r3 : List Cond := [Cond.selects RX4 yX4_copyFrom yX4_copyFrom, Cond.initialized RX4, Cond.code yX4_copyFrom cX4_copyFrom 3 none, Cond.fieldLink RX4 9 "ShirtButtons$Places" "place" "[I", Cond.methodLink RX4 34 arraycopyName, Cond.fieldLink RX4 15 "ShirtButtons$Places" "binOf" "[I", Cond.fieldLink RX4 18 "ShirtButtons$Places" "shirtOf" "[I", Cond.fieldLink RX4 21 "ShirtButtons$Places" "hopper" "[I", Cond.fieldLink RX4 24 "ShirtButtons$Places" "at" "[I", Cond.fieldLink RX4 27 "ShirtButtons$Places" "inBin" "[I", Cond.methodLink RX7 92 yX5_emptyMagnet, Cond.instanceMethod yX5_emptyMagnet, Cond.selects RX5 yX5_emptyMagnet yX5_emptyMagnet, Cond.code yX5_emptyMagnet cX5_emptyMagnet 2 none, Cond.fieldLink RX5 121 "ShirtButtons$Places" "place" "[I", Cond.methodLink RX5 124 yX4_leave, Cond.instanceMethod yX4_leave, Cond.selects RX4 yX4_leave yX4_leave, Cond.code yX4_leave cX4_leave 2 none, Cond.methodLink RX5 105 yX4_bring, Cond.instanceMethod yX4_bring, Cond.selects RX4 yX4_bring yX4_bring, Cond.code yX4_bring cX4_bring 3 none]
def wsX7_letGo : List Cond := .code yX7_letGo cX7_letGo 2 (some .int) :: ((wsX7_letGo_r1 ++ (wsX7_letGo_r2 ++ wsX7_letGo_r3)) ++ wsX70 ++ wsX50 ++ wsX40 ++ wsX20 ++ wsX10)
def wsX7_isBin : List Cond := .code yX7_isBin cX7_isBin 1 (some .boolean) :: ([])
def wsX7_pour_r1 : List Cond := [Cond.fieldLink RX7 42 "ShirtButtons" "now" "LShirtButtons$State;", Cond.fieldLink RX7 79 "ShirtButtons$State" "places" "LShirtButtons$Places;", Cond.fieldLink RX7 99 "ShirtButtons$Places" "inBin" "[I", Cond.fieldLink RX7 35 "ShirtButtons" "history" "LShirtButtons$History;", Cond.methodLink RX7 95 yX7_isBin, Cond.static yX7_isBin, Cond.initialized RX7, Cond.code yX7_isBin cX7_isBin 1 (some .boolean), Cond.methodLink RX7 71 yX2_remember, Cond.instanceMethod yX2_remember, Cond.selects RX2 yX2_remember yX2_remember, Cond.initialized RX2, Cond.code yX2_remember cX2_remember 2 none, Cond.fieldLink RX2 17 "ShirtButtons$History" "count" "I", Cond.fieldLink RX2 11 "ShirtButtons$History" "states" "[LShirtButtons$State;", Cond.methodLink RX2 22 yX2_dropOldest, Cond.instanceMethod yX2_dropOldest, Cond.selects RX2 yX2_dropOldest yX2_dropOldest, Cond.code yX2_dropOldest cX2_dropOldest 3 none, Cond.methodLink RX2 25 yX5_copyFrom, Cond.instanceMethod yX5_copyFrom, Cond.selects RX5 yX5_copyFrom yX5_copyFrom, Cond.initialized RX5, Cond.code yX5_copyFrom cX5_copyFrom 2 none]
def wsX7_pour_r2 : List Cond := [Cond.fieldLink RX5 12 "ShirtButtons$State" "buttons" "LShirtButtons$Buttons;", Cond.fieldLink RX5 21 "ShirtButtons$State" "places" "LShirtButtons$Places;", Cond.fieldLink RX5 53 "ShirtButtons$Buttons" "count" "I", Cond.fieldLink RX5 34 "ShirtButtons$State" "settings" "[I", Cond.methodLink RX5 151 arraycopyName, Cond.native arraycopyName, Cond.static arraycopyName, Cond.initialized "java/lang/System", Cond.fieldLink RX5 37 "ShirtButtons$State" "shirtsMade" "I", Cond.fieldLink RX5 41 "ShirtButtons$State" "worthMade" "I", Cond.fieldLink RX5 44 "ShirtButtons$State" "sortingsDone" "I", Cond.fieldLink RX5 47 "ShirtButtons$State" "goneBack" "I", Cond.fieldLink RX5 50 "ShirtButtons$State" "rubbed" "I", Cond.methodLink RX5 144 yX1_copyFrom, Cond.instanceMethod yX1_copyFrom, Cond.selects RX1 yX1_copyFrom yX1_copyFrom, Cond.initialized RX1, Cond.code yX1_copyFrom cX1_copyFrom 2 none, Cond.fieldLink RX1 30 "ShirtButtons$Buttons" "count" "I", Cond.fieldLink RX1 9 "ShirtButtons$Buttons" "holes" "[I", Cond.methodLink RX1 34 arraycopyName, Cond.fieldLink RX1 15 "ShirtButtons$Buttons" "size" "[I", Cond.fieldLink RX1 18 "ShirtButtons$Buttons" "iron" "[I", Cond.fieldLink RX1 21 "ShirtButtons$Buttons" "chips" "[I"]
def wsX7_pour_r3 : List Cond := [Cond.fieldLink RX1 24 "ShirtButtons$Buttons" "shine" "[I", Cond.fieldLink RX1 27 "ShirtButtons$Buttons" "sortings" "[I", Cond.methodLink RX5 148 yX4_copyFrom, Cond.instanceMethod yX4_copyFrom, Cond.selects RX4 yX4_copyFrom yX4_copyFrom, Cond.initialized RX4, Cond.code yX4_copyFrom cX4_copyFrom 3 none, Cond.fieldLink RX4 9 "ShirtButtons$Places" "place" "[I", Cond.methodLink RX4 34 arraycopyName, Cond.fieldLink RX4 15 "ShirtButtons$Places" "binOf" "[I", Cond.fieldLink RX4 18 "ShirtButtons$Places" "shirtOf" "[I", Cond.fieldLink RX4 21 "ShirtButtons$Places" "hopper" "[I", Cond.fieldLink RX4 24 "ShirtButtons$Places" "at" "[I", Cond.fieldLink RX4 27 "ShirtButtons$Places" "inBin" "[I", Cond.methodLink RX7 102 yX5_emptyBin, Cond.instanceMethod yX5_emptyBin, Cond.selects RX5 yX5_emptyBin yX5_emptyBin, Cond.code yX5_emptyBin cX5_emptyBin 3 none, Cond.fieldLink RX5 127 "ShirtButtons$Places" "binOf" "[I", Cond.methodLink RX5 124 yX4_leave, Cond.instanceMethod yX4_leave, Cond.selects RX4 yX4_leave yX4_leave, Cond.code yX4_leave cX4_leave 2 none, Cond.methodLink RX5 81 yX4_bringToHopper]
def wsX7_pour_r4 : List Cond := [Cond.instanceMethod yX4_bringToHopper, Cond.selects RX4 yX4_bringToHopper yX4_bringToHopper, Cond.code yX4_bringToHopper cX4_bringToHopper 2 none, Cond.methodLink RX4 40 yX4_bring, Cond.instanceMethod yX4_bring, Cond.selects RX4 yX4_bring yX4_bring, Cond.code yX4_bring cX4_bring 3 none]
def wsX7_pour : List Cond := .code yX7_pour cX7_pour 3 (some .int) :: ((wsX7_pour_r1 ++ (wsX7_pour_r2 ++ (wsX7_pour_r3 ++ wsX7_pour_r4))) ++ wsX70 ++ wsX50 ++ wsX40 ++ wsX20 ++ wsX10)
def wsX7_isWanted : List Cond := .code yX7_isWanted cX7_isWanted 1 (some .boolean) :: ([])
def wsX7_refusalOf : List Cond := .code yX7_refusalOf cX7_refusalOf 2 (some .int) :: ([.fieldLink RX7 28 "ShirtButtons" "order" "LShirtButtons$Order;", .fieldLink RX7 186 "ShirtButtons$Order" "count" "I", .fieldLink RX7 42 "ShirtButtons" "now" "LShirtButtons$State;", .fieldLink RX7 113 "ShirtButtons$State" "settings" "[I", .methodLink RX7 116 yX3_firstAlike, .instanceMethod yX3_firstAlike, .selects RX3 yX3_firstAlike yX3_firstAlike, .initialized RX3, .code yX3_firstAlike cX3_firstAlike 4 (some .int), .fieldLink RX3 18 "ShirtButtons$Order" "count" "I", .methodLink RX3 45 yX3_spreadFrom, .instanceMethod yX3_spreadFrom, .selects RX3 yX3_spreadFrom yX3_spreadFrom, .code yX3_spreadFrom cX3_spreadFrom 3 (some .int), .fieldLink RX3 15 "ShirtButtons$Order" "shine" "[I"] ++ wsX70 ++ wsX30 ++ wsX50)
def wsX7_shirt_r1 : List Cond := [Cond.fieldLink RX7 28 "ShirtButtons" "order" "LShirtButtons$Order;", Cond.fieldLink RX7 42 "ShirtButtons" "now" "LShirtButtons$State;", Cond.fieldLink RX7 113 "ShirtButtons$State" "settings" "[I", Cond.fieldLink RX7 35 "ShirtButtons" "history" "LShirtButtons$History;", Cond.methodLink RX7 95 yX7_isBin, Cond.static yX7_isBin, Cond.initialized RX7, Cond.code yX7_isBin cX7_isBin 1 (some .boolean), Cond.methodLink RX7 106 yX7_isWanted, Cond.static yX7_isWanted, Cond.code yX7_isWanted cX7_isWanted 1 (some .boolean), Cond.methodLink RX7 109 yX3_fill, Cond.instanceMethod yX3_fill, Cond.selects RX3 yX3_fill yX3_fill, Cond.initialized RX3, Cond.code yX3_fill cX3_fill 4 none, Cond.fieldLink RX3 18 "ShirtButtons$Order" "count" "I", Cond.fieldLink RX3 22 "ShirtButtons$State" "buttons" "LShirtButtons$Buttons;", Cond.fieldLink RX3 28 "ShirtButtons$Buttons" "count" "I", Cond.fieldLink RX3 31 "ShirtButtons$State" "places" "LShirtButtons$Places;", Cond.fieldLink RX3 35 "ShirtButtons$Places" "binOf" "[I", Cond.fieldLink RX3 40 "ShirtButtons$Buttons" "shine" "[I", Cond.methodLink RX3 41 yX3_insert, Cond.instanceMethod yX3_insert]
def wsX7_shirt_r2 : List Cond := [Cond.selects RX3 yX3_insert yX3_insert, Cond.code yX3_insert cX3_insert 4 none, Cond.fieldLink RX3 15 "ShirtButtons$Order" "shine" "[I", Cond.fieldLink RX3 9 "ShirtButtons$Order" "numbers" "[I", Cond.methodLink RX7 116 yX3_firstAlike, Cond.instanceMethod yX3_firstAlike, Cond.selects RX3 yX3_firstAlike yX3_firstAlike, Cond.code yX3_firstAlike cX3_firstAlike 4 (some .int), Cond.methodLink RX3 45 yX3_spreadFrom, Cond.instanceMethod yX3_spreadFrom, Cond.selects RX3 yX3_spreadFrom yX3_spreadFrom, Cond.code yX3_spreadFrom cX3_spreadFrom 3 (some .int), Cond.methodLink RX7 120 yX7_refusalOf, Cond.instanceMethod yX7_refusalOf, Cond.selects RX7 yX7_refusalOf yX7_refusalOf, Cond.code yX7_refusalOf cX7_refusalOf 2 (some .int), Cond.fieldLink RX7 186 "ShirtButtons$Order" "count" "I", Cond.methodLink RX7 71 yX2_remember, Cond.instanceMethod yX2_remember, Cond.selects RX2 yX2_remember yX2_remember, Cond.initialized RX2, Cond.code yX2_remember cX2_remember 2 none, Cond.fieldLink RX2 17 "ShirtButtons$History" "count" "I", Cond.fieldLink RX2 11 "ShirtButtons$History" "states" "[LShirtButtons$State;"]
def wsX7_shirt_r3 : List Cond := [Cond.methodLink RX2 22 yX2_dropOldest, Cond.instanceMethod yX2_dropOldest, Cond.selects RX2 yX2_dropOldest yX2_dropOldest, Cond.code yX2_dropOldest cX2_dropOldest 3 none, Cond.methodLink RX2 25 yX5_copyFrom, Cond.instanceMethod yX5_copyFrom, Cond.selects RX5 yX5_copyFrom yX5_copyFrom, Cond.initialized RX5, Cond.code yX5_copyFrom cX5_copyFrom 2 none, Cond.fieldLink RX5 12 "ShirtButtons$State" "buttons" "LShirtButtons$Buttons;", Cond.fieldLink RX5 21 "ShirtButtons$State" "places" "LShirtButtons$Places;", Cond.fieldLink RX5 53 "ShirtButtons$Buttons" "count" "I", Cond.fieldLink RX5 34 "ShirtButtons$State" "settings" "[I", Cond.methodLink RX5 151 arraycopyName, Cond.native arraycopyName, Cond.static arraycopyName, Cond.initialized "java/lang/System", Cond.fieldLink RX5 37 "ShirtButtons$State" "shirtsMade" "I", Cond.fieldLink RX5 41 "ShirtButtons$State" "worthMade" "I", Cond.fieldLink RX5 44 "ShirtButtons$State" "sortingsDone" "I", Cond.fieldLink RX5 47 "ShirtButtons$State" "goneBack" "I", Cond.fieldLink RX5 50 "ShirtButtons$State" "rubbed" "I", Cond.methodLink RX5 144 yX1_copyFrom, Cond.instanceMethod yX1_copyFrom]
def wsX7_shirt_r4 : List Cond := [Cond.selects RX1 yX1_copyFrom yX1_copyFrom, Cond.initialized RX1, Cond.code yX1_copyFrom cX1_copyFrom 2 none, Cond.fieldLink RX1 30 "ShirtButtons$Buttons" "count" "I", Cond.fieldLink RX1 9 "ShirtButtons$Buttons" "holes" "[I", Cond.methodLink RX1 34 arraycopyName, Cond.fieldLink RX1 15 "ShirtButtons$Buttons" "size" "[I", Cond.fieldLink RX1 18 "ShirtButtons$Buttons" "iron" "[I", Cond.fieldLink RX1 21 "ShirtButtons$Buttons" "chips" "[I", Cond.fieldLink RX1 24 "ShirtButtons$Buttons" "shine" "[I", Cond.fieldLink RX1 27 "ShirtButtons$Buttons" "sortings" "[I", Cond.methodLink RX5 148 yX4_copyFrom, Cond.instanceMethod yX4_copyFrom, Cond.selects RX4 yX4_copyFrom yX4_copyFrom, Cond.initialized RX4, Cond.code yX4_copyFrom cX4_copyFrom 3 none, Cond.fieldLink RX4 9 "ShirtButtons$Places" "place" "[I", Cond.methodLink RX4 34 arraycopyName, Cond.fieldLink RX4 15 "ShirtButtons$Places" "binOf" "[I", Cond.fieldLink RX4 18 "ShirtButtons$Places" "shirtOf" "[I", Cond.fieldLink RX4 21 "ShirtButtons$Places" "hopper" "[I", Cond.fieldLink RX4 24 "ShirtButtons$Places" "at" "[I", Cond.fieldLink RX4 27 "ShirtButtons$Places" "inBin" "[I", Cond.methodLink RX7 124 yX5_makeShirt]
def wsX7_shirt_r5 : List Cond := [Cond.instanceMethod yX5_makeShirt, Cond.selects RX5 yX5_makeShirt yX5_makeShirt, Cond.code yX5_makeShirt cX5_makeShirt 7 (some .int), Cond.fieldLink RX5 130 "ShirtButtons$Order" "numbers" "[I", Cond.fieldLink RX5 74 "ShirtButtons$Buttons" "shine" "[I", Cond.fieldLink RX5 70 "ShirtButtons$Buttons" "chips" "[I", Cond.methodLink RX5 138 Lib.Math.max.name, Cond.static Lib.Math.max.name, Cond.initialized "java/lang/Math", Cond.code Lib.Math.max.name Lib.Math.max.code 2 (some .int), Cond.methodLink RX5 124 yX4_leave, Cond.instanceMethod yX4_leave, Cond.selects RX4 yX4_leave yX4_leave, Cond.code yX4_leave cX4_leave 2 none, Cond.methodLink RX5 135 yX4_bringToShirt, Cond.instanceMethod yX4_bringToShirt, Cond.selects RX4 yX4_bringToShirt yX4_bringToShirt, Cond.code yX4_bringToShirt cX4_bringToShirt 3 none, Cond.methodLink RX4 40 yX4_bring, Cond.instanceMethod yX4_bring, Cond.selects RX4 yX4_bring yX4_bring, Cond.code yX4_bring cX4_bring 3 none]
def wsX7_shirt : List Cond := .code yX7_shirt cX7_shirt 4 (some .int) :: ((wsX7_shirt_r1 ++ (wsX7_shirt_r2 ++ (wsX7_shirt_r3 ++ (wsX7_shirt_r4 ++ wsX7_shirt_r5)))) ++ wsX70 ++ wsX50 ++ wsX30 ++ wsX10 ++ wsX40 ++ wsX20)
def wsX7_polish_r1 : List Cond := [Cond.fieldLink RX7 42 "ShirtButtons" "now" "LShirtButtons$State;", Cond.fieldLink RX7 60 "ShirtButtons$State" "buttons" "LShirtButtons$Buttons;", Cond.fieldLink RX7 79 "ShirtButtons$State" "places" "LShirtButtons$Places;", Cond.fieldLink RX7 131 "ShirtButtons$Places" "place" "[I", Cond.fieldLink RX7 134 "ShirtButtons$Buttons" "shine" "[I", Cond.fieldLink RX7 35 "ShirtButtons" "history" "LShirtButtons$History;", Cond.methodLink RX7 128 yX1_has, Cond.instanceMethod yX1_has, Cond.selects RX1 yX1_has yX1_has, Cond.initialized RX1, Cond.code yX1_has cX1_has 2 (some .boolean), Cond.fieldLink RX1 30 "ShirtButtons$Buttons" "count" "I", Cond.methodLink RX7 71 yX2_remember, Cond.instanceMethod yX2_remember, Cond.selects RX2 yX2_remember yX2_remember, Cond.initialized RX2, Cond.code yX2_remember cX2_remember 2 none, Cond.fieldLink RX2 17 "ShirtButtons$History" "count" "I", Cond.fieldLink RX2 11 "ShirtButtons$History" "states" "[LShirtButtons$State;", Cond.methodLink RX2 22 yX2_dropOldest, Cond.instanceMethod yX2_dropOldest, Cond.selects RX2 yX2_dropOldest yX2_dropOldest, Cond.code yX2_dropOldest cX2_dropOldest 3 none, Cond.methodLink RX2 25 yX5_copyFrom]
def wsX7_polish_r2 : List Cond := [Cond.instanceMethod yX5_copyFrom, Cond.selects RX5 yX5_copyFrom yX5_copyFrom, Cond.initialized RX5, Cond.code yX5_copyFrom cX5_copyFrom 2 none, Cond.fieldLink RX5 12 "ShirtButtons$State" "buttons" "LShirtButtons$Buttons;", Cond.fieldLink RX5 21 "ShirtButtons$State" "places" "LShirtButtons$Places;", Cond.fieldLink RX5 53 "ShirtButtons$Buttons" "count" "I", Cond.fieldLink RX5 34 "ShirtButtons$State" "settings" "[I", Cond.methodLink RX5 151 arraycopyName, Cond.native arraycopyName, Cond.static arraycopyName, Cond.initialized "java/lang/System", Cond.fieldLink RX5 37 "ShirtButtons$State" "shirtsMade" "I", Cond.fieldLink RX5 41 "ShirtButtons$State" "worthMade" "I", Cond.fieldLink RX5 44 "ShirtButtons$State" "sortingsDone" "I", Cond.fieldLink RX5 47 "ShirtButtons$State" "goneBack" "I", Cond.fieldLink RX5 50 "ShirtButtons$State" "rubbed" "I", Cond.methodLink RX5 144 yX1_copyFrom, Cond.instanceMethod yX1_copyFrom, Cond.selects RX1 yX1_copyFrom yX1_copyFrom, Cond.code yX1_copyFrom cX1_copyFrom 2 none, Cond.fieldLink RX1 9 "ShirtButtons$Buttons" "holes" "[I", Cond.methodLink RX1 34 arraycopyName, Cond.fieldLink RX1 15 "ShirtButtons$Buttons" "size" "[I"]
def wsX7_polish_r3 : List Cond := [Cond.fieldLink RX1 18 "ShirtButtons$Buttons" "iron" "[I", Cond.fieldLink RX1 21 "ShirtButtons$Buttons" "chips" "[I", Cond.fieldLink RX1 24 "ShirtButtons$Buttons" "shine" "[I", Cond.fieldLink RX1 27 "ShirtButtons$Buttons" "sortings" "[I", Cond.methodLink RX5 148 yX4_copyFrom, Cond.instanceMethod yX4_copyFrom, Cond.selects RX4 yX4_copyFrom yX4_copyFrom, Cond.initialized RX4, Cond.code yX4_copyFrom cX4_copyFrom 3 none, Cond.fieldLink RX4 9 "ShirtButtons$Places" "place" "[I", Cond.methodLink RX4 34 arraycopyName, Cond.fieldLink RX4 15 "ShirtButtons$Places" "binOf" "[I", Cond.fieldLink RX4 18 "ShirtButtons$Places" "shirtOf" "[I", Cond.fieldLink RX4 21 "ShirtButtons$Places" "hopper" "[I", Cond.fieldLink RX4 24 "ShirtButtons$Places" "at" "[I", Cond.fieldLink RX4 27 "ShirtButtons$Places" "inBin" "[I", Cond.methodLink RX7 137 yX1_brighten, Cond.instanceMethod yX1_brighten, Cond.selects RX1 yX1_brighten yX1_brighten, Cond.code yX1_brighten cX1_brighten 2 none]
def wsX7_polish : List Cond := .code yX7_polish cX7_polish 2 (some .int) :: ((wsX7_polish_r1 ++ (wsX7_polish_r2 ++ wsX7_polish_r3)) ++ wsX70 ++ wsX50 ++ wsX40 ++ wsX10 ++ wsX20)
def wsX7_isValue : List Cond := .code yX7_isValue cX7_isValue 2 (some .boolean) :: ([.fieldLink RX7 228 "ShirtButtons" "LOWEST" "[I", .fieldLink RX7 231 "ShirtButtons" "HIGHEST" "[I"])
def wsX7_set_r1 : List Cond := [Cond.fieldLink RX7 42 "ShirtButtons" "now" "LShirtButtons$State;", Cond.fieldLink RX7 113 "ShirtButtons$State" "settings" "[I", Cond.fieldLink RX7 35 "ShirtButtons" "history" "LShirtButtons$History;", Cond.methodLink RX7 140 yX7_isValue, Cond.static yX7_isValue, Cond.initialized RX7, Cond.code yX7_isValue cX7_isValue 2 (some .boolean), Cond.fieldLink RX7 228 "ShirtButtons" "LOWEST" "[I", Cond.fieldLink RX7 231 "ShirtButtons" "HIGHEST" "[I", Cond.methodLink RX7 144 yX5_meshesAllow, Cond.instanceMethod yX5_meshesAllow, Cond.selects RX5 yX5_meshesAllow yX5_meshesAllow, Cond.initialized RX5, Cond.code yX5_meshesAllow cX5_meshesAllow 3 (some .boolean), Cond.fieldLink RX5 34 "ShirtButtons$State" "settings" "[I", Cond.methodLink RX7 71 yX2_remember, Cond.instanceMethod yX2_remember, Cond.selects RX2 yX2_remember yX2_remember, Cond.initialized RX2, Cond.code yX2_remember cX2_remember 2 none, Cond.fieldLink RX2 17 "ShirtButtons$History" "count" "I", Cond.fieldLink RX2 11 "ShirtButtons$History" "states" "[LShirtButtons$State;", Cond.methodLink RX2 22 yX2_dropOldest, Cond.instanceMethod yX2_dropOldest]
def wsX7_set_r2 : List Cond := [Cond.selects RX2 yX2_dropOldest yX2_dropOldest, Cond.code yX2_dropOldest cX2_dropOldest 3 none, Cond.methodLink RX2 25 yX5_copyFrom, Cond.instanceMethod yX5_copyFrom, Cond.selects RX5 yX5_copyFrom yX5_copyFrom, Cond.code yX5_copyFrom cX5_copyFrom 2 none, Cond.fieldLink RX5 12 "ShirtButtons$State" "buttons" "LShirtButtons$Buttons;", Cond.fieldLink RX5 21 "ShirtButtons$State" "places" "LShirtButtons$Places;", Cond.fieldLink RX5 53 "ShirtButtons$Buttons" "count" "I", Cond.methodLink RX5 151 arraycopyName, Cond.native arraycopyName, Cond.static arraycopyName, Cond.initialized "java/lang/System", Cond.fieldLink RX5 37 "ShirtButtons$State" "shirtsMade" "I", Cond.fieldLink RX5 41 "ShirtButtons$State" "worthMade" "I", Cond.fieldLink RX5 44 "ShirtButtons$State" "sortingsDone" "I", Cond.fieldLink RX5 47 "ShirtButtons$State" "goneBack" "I", Cond.fieldLink RX5 50 "ShirtButtons$State" "rubbed" "I", Cond.methodLink RX5 144 yX1_copyFrom, Cond.instanceMethod yX1_copyFrom, Cond.selects RX1 yX1_copyFrom yX1_copyFrom, Cond.initialized RX1, Cond.code yX1_copyFrom cX1_copyFrom 2 none, Cond.fieldLink RX1 30 "ShirtButtons$Buttons" "count" "I"]
def wsX7_set_r3 : List Cond := [Cond.fieldLink RX1 9 "ShirtButtons$Buttons" "holes" "[I", Cond.methodLink RX1 34 arraycopyName, Cond.fieldLink RX1 15 "ShirtButtons$Buttons" "size" "[I", Cond.fieldLink RX1 18 "ShirtButtons$Buttons" "iron" "[I", Cond.fieldLink RX1 21 "ShirtButtons$Buttons" "chips" "[I", Cond.fieldLink RX1 24 "ShirtButtons$Buttons" "shine" "[I", Cond.fieldLink RX1 27 "ShirtButtons$Buttons" "sortings" "[I", Cond.methodLink RX5 148 yX4_copyFrom, Cond.instanceMethod yX4_copyFrom, Cond.selects RX4 yX4_copyFrom yX4_copyFrom, Cond.initialized RX4, Cond.code yX4_copyFrom cX4_copyFrom 3 none, Cond.fieldLink RX4 9 "ShirtButtons$Places" "place" "[I", Cond.methodLink RX4 34 arraycopyName, Cond.fieldLink RX4 15 "ShirtButtons$Places" "binOf" "[I", Cond.fieldLink RX4 18 "ShirtButtons$Places" "shirtOf" "[I", Cond.fieldLink RX4 21 "ShirtButtons$Places" "hopper" "[I", Cond.fieldLink RX4 24 "ShirtButtons$Places" "at" "[I", Cond.fieldLink RX4 27 "ShirtButtons$Places" "inBin" "[I"]
def wsX7_set : List Cond := .code yX7_set cX7_set 4 (some .int) :: ((wsX7_set_r1 ++ (wsX7_set_r2 ++ wsX7_set_r3)) ++ wsX70 ++ wsX50 ++ wsX20 ++ wsX10 ++ wsX40)
def wsX7_type : List Cond := .code yX7_type cX7_type 2 (some .int) :: ([.fieldLink RX7 10 "ShirtButtons" "text" "LShirtButtons$Text;", .fieldLink RX7 151 "ShirtButtons$Text" "length" "I", .methodLink RX7 147 yX6_append, .instanceMethod yX6_append, .selects RX6 yX6_append yX6_append, .initialized RX6, .code yX6_append cX6_append 2 (some .boolean), .fieldLink RX6 15 "ShirtButtons$Text" "length" "I", .fieldLink RX6 9 "ShirtButtons$Text" "signs" "[C"] ++ wsX70 ++ wsX60)
def wsX7_clearText : List Cond := .code yX7_clearText cX7_clearText 2 (some .int) :: ([.fieldLink RX7 10 "ShirtButtons" "text" "LShirtButtons$Text;", .fieldLink RX7 151 "ShirtButtons$Text" "length" "I"] ++ wsX70 ++ wsX60)
def wsX7_undo_r1 : List Cond := [Cond.fieldLink RX7 35 "ShirtButtons" "history" "LShirtButtons$History;", Cond.fieldLink RX7 42 "ShirtButtons" "now" "LShirtButtons$State;", Cond.fieldLink RX7 158 "ShirtButtons$History" "count" "I", Cond.methodLink RX7 154 yX2_takeBack, Cond.instanceMethod yX2_takeBack, Cond.selects RX2 yX2_takeBack yX2_takeBack, Cond.initialized RX2, Cond.code yX2_takeBack cX2_takeBack 2 (some .boolean), Cond.fieldLink RX2 17 "ShirtButtons$History" "count" "I", Cond.fieldLink RX2 11 "ShirtButtons$History" "states" "[LShirtButtons$State;", Cond.methodLink RX2 25 yX5_copyFrom, Cond.instanceMethod yX5_copyFrom, Cond.selects RX5 yX5_copyFrom yX5_copyFrom, Cond.initialized RX5, Cond.code yX5_copyFrom cX5_copyFrom 2 none, Cond.fieldLink RX5 12 "ShirtButtons$State" "buttons" "LShirtButtons$Buttons;", Cond.fieldLink RX5 21 "ShirtButtons$State" "places" "LShirtButtons$Places;", Cond.fieldLink RX5 53 "ShirtButtons$Buttons" "count" "I", Cond.fieldLink RX5 34 "ShirtButtons$State" "settings" "[I", Cond.methodLink RX5 151 arraycopyName, Cond.native arraycopyName, Cond.static arraycopyName, Cond.initialized "java/lang/System", Cond.fieldLink RX5 37 "ShirtButtons$State" "shirtsMade" "I"]
def wsX7_undo_r2 : List Cond := [Cond.fieldLink RX5 41 "ShirtButtons$State" "worthMade" "I", Cond.fieldLink RX5 44 "ShirtButtons$State" "sortingsDone" "I", Cond.fieldLink RX5 47 "ShirtButtons$State" "goneBack" "I", Cond.fieldLink RX5 50 "ShirtButtons$State" "rubbed" "I", Cond.methodLink RX5 144 yX1_copyFrom, Cond.instanceMethod yX1_copyFrom, Cond.selects RX1 yX1_copyFrom yX1_copyFrom, Cond.initialized RX1, Cond.code yX1_copyFrom cX1_copyFrom 2 none, Cond.fieldLink RX1 30 "ShirtButtons$Buttons" "count" "I", Cond.fieldLink RX1 9 "ShirtButtons$Buttons" "holes" "[I", Cond.methodLink RX1 34 arraycopyName, Cond.fieldLink RX1 15 "ShirtButtons$Buttons" "size" "[I", Cond.fieldLink RX1 18 "ShirtButtons$Buttons" "iron" "[I", Cond.fieldLink RX1 21 "ShirtButtons$Buttons" "chips" "[I", Cond.fieldLink RX1 24 "ShirtButtons$Buttons" "shine" "[I", Cond.fieldLink RX1 27 "ShirtButtons$Buttons" "sortings" "[I", Cond.methodLink RX5 148 yX4_copyFrom, Cond.instanceMethod yX4_copyFrom, Cond.selects RX4 yX4_copyFrom yX4_copyFrom, Cond.initialized RX4, Cond.code yX4_copyFrom cX4_copyFrom 3 none, Cond.fieldLink RX4 9 "ShirtButtons$Places" "place" "[I", Cond.methodLink RX4 34 arraycopyName]
def wsX7_undo_r3 : List Cond := [Cond.fieldLink RX4 15 "ShirtButtons$Places" "binOf" "[I", Cond.fieldLink RX4 18 "ShirtButtons$Places" "shirtOf" "[I", Cond.fieldLink RX4 21 "ShirtButtons$Places" "hopper" "[I", Cond.fieldLink RX4 24 "ShirtButtons$Places" "at" "[I", Cond.fieldLink RX4 27 "ShirtButtons$Places" "inBin" "[I"]
def wsX7_undo : List Cond := .code yX7_undo cX7_undo 1 (some .int) :: ((wsX7_undo_r1 ++ (wsX7_undo_r2 ++ wsX7_undo_r3)) ++ wsX70 ++ wsX20 ++ wsX50 ++ wsX10 ++ wsX40)
def wsX7_keep_r1 : List Cond := [Cond.fieldLink RX7 46 "ShirtButtons" "snapshot" "LShirtButtons$State;", Cond.fieldLink RX7 42 "ShirtButtons" "now" "LShirtButtons$State;", Cond.fieldLink RX7 52 "ShirtButtons" "hasSnapshot" "Z", Cond.fieldLink RX7 60 "ShirtButtons$State" "buttons" "LShirtButtons$Buttons;", Cond.fieldLink RX7 64 "ShirtButtons$Buttons" "count" "I", Cond.methodLink RX7 159 yX5_copyFrom, Cond.instanceMethod yX5_copyFrom, Cond.selects RX5 yX5_copyFrom yX5_copyFrom, Cond.initialized RX5, Cond.code yX5_copyFrom cX5_copyFrom 2 none, Cond.fieldLink RX5 12 "ShirtButtons$State" "buttons" "LShirtButtons$Buttons;", Cond.fieldLink RX5 21 "ShirtButtons$State" "places" "LShirtButtons$Places;", Cond.fieldLink RX5 53 "ShirtButtons$Buttons" "count" "I", Cond.fieldLink RX5 34 "ShirtButtons$State" "settings" "[I", Cond.methodLink RX5 151 arraycopyName, Cond.native arraycopyName, Cond.static arraycopyName, Cond.initialized "java/lang/System", Cond.fieldLink RX5 37 "ShirtButtons$State" "shirtsMade" "I", Cond.fieldLink RX5 41 "ShirtButtons$State" "worthMade" "I", Cond.fieldLink RX5 44 "ShirtButtons$State" "sortingsDone" "I", Cond.fieldLink RX5 47 "ShirtButtons$State" "goneBack" "I", Cond.fieldLink RX5 50 "ShirtButtons$State" "rubbed" "I", Cond.methodLink RX5 144 yX1_copyFrom]
def wsX7_keep_r2 : List Cond := [Cond.instanceMethod yX1_copyFrom, Cond.selects RX1 yX1_copyFrom yX1_copyFrom, Cond.initialized RX1, Cond.code yX1_copyFrom cX1_copyFrom 2 none, Cond.fieldLink RX1 30 "ShirtButtons$Buttons" "count" "I", Cond.fieldLink RX1 9 "ShirtButtons$Buttons" "holes" "[I", Cond.methodLink RX1 34 arraycopyName, Cond.fieldLink RX1 15 "ShirtButtons$Buttons" "size" "[I", Cond.fieldLink RX1 18 "ShirtButtons$Buttons" "iron" "[I", Cond.fieldLink RX1 21 "ShirtButtons$Buttons" "chips" "[I", Cond.fieldLink RX1 24 "ShirtButtons$Buttons" "shine" "[I", Cond.fieldLink RX1 27 "ShirtButtons$Buttons" "sortings" "[I", Cond.methodLink RX5 148 yX4_copyFrom, Cond.instanceMethod yX4_copyFrom, Cond.selects RX4 yX4_copyFrom yX4_copyFrom, Cond.initialized RX4, Cond.code yX4_copyFrom cX4_copyFrom 3 none, Cond.fieldLink RX4 9 "ShirtButtons$Places" "place" "[I", Cond.methodLink RX4 34 arraycopyName, Cond.fieldLink RX4 15 "ShirtButtons$Places" "binOf" "[I", Cond.fieldLink RX4 18 "ShirtButtons$Places" "shirtOf" "[I", Cond.fieldLink RX4 21 "ShirtButtons$Places" "hopper" "[I", Cond.fieldLink RX4 24 "ShirtButtons$Places" "at" "[I", Cond.fieldLink RX4 27 "ShirtButtons$Places" "inBin" "[I"]
def wsX7_keep : List Cond := .code yX7_keep cX7_keep 1 (some .int) :: ((wsX7_keep_r1 ++ wsX7_keep_r2) ++ wsX70 ++ wsX50 ++ wsX10 ++ wsX40)
def wsX7_restore_r1 : List Cond := [Cond.fieldLink RX7 52 "ShirtButtons" "hasSnapshot" "Z", Cond.fieldLink RX7 35 "ShirtButtons" "history" "LShirtButtons$History;", Cond.fieldLink RX7 42 "ShirtButtons" "now" "LShirtButtons$State;", Cond.fieldLink RX7 46 "ShirtButtons" "snapshot" "LShirtButtons$State;", Cond.fieldLink RX7 60 "ShirtButtons$State" "buttons" "LShirtButtons$Buttons;", Cond.fieldLink RX7 64 "ShirtButtons$Buttons" "count" "I", Cond.methodLink RX7 71 yX2_remember, Cond.instanceMethod yX2_remember, Cond.selects RX2 yX2_remember yX2_remember, Cond.initialized RX2, Cond.code yX2_remember cX2_remember 2 none, Cond.fieldLink RX2 17 "ShirtButtons$History" "count" "I", Cond.fieldLink RX2 11 "ShirtButtons$History" "states" "[LShirtButtons$State;", Cond.methodLink RX2 22 yX2_dropOldest, Cond.instanceMethod yX2_dropOldest, Cond.selects RX2 yX2_dropOldest yX2_dropOldest, Cond.code yX2_dropOldest cX2_dropOldest 3 none, Cond.methodLink RX2 25 yX5_copyFrom, Cond.instanceMethod yX5_copyFrom, Cond.selects RX5 yX5_copyFrom yX5_copyFrom, Cond.initialized RX5, Cond.code yX5_copyFrom cX5_copyFrom 2 none, Cond.fieldLink RX5 12 "ShirtButtons$State" "buttons" "LShirtButtons$Buttons;", Cond.fieldLink RX5 21 "ShirtButtons$State" "places" "LShirtButtons$Places;"]
def wsX7_restore_r2 : List Cond := [Cond.fieldLink RX5 53 "ShirtButtons$Buttons" "count" "I", Cond.fieldLink RX5 34 "ShirtButtons$State" "settings" "[I", Cond.methodLink RX5 151 arraycopyName, Cond.native arraycopyName, Cond.static arraycopyName, Cond.initialized "java/lang/System", Cond.fieldLink RX5 37 "ShirtButtons$State" "shirtsMade" "I", Cond.fieldLink RX5 41 "ShirtButtons$State" "worthMade" "I", Cond.fieldLink RX5 44 "ShirtButtons$State" "sortingsDone" "I", Cond.fieldLink RX5 47 "ShirtButtons$State" "goneBack" "I", Cond.fieldLink RX5 50 "ShirtButtons$State" "rubbed" "I", Cond.methodLink RX5 144 yX1_copyFrom, Cond.instanceMethod yX1_copyFrom, Cond.selects RX1 yX1_copyFrom yX1_copyFrom, Cond.initialized RX1, Cond.code yX1_copyFrom cX1_copyFrom 2 none, Cond.fieldLink RX1 30 "ShirtButtons$Buttons" "count" "I", Cond.fieldLink RX1 9 "ShirtButtons$Buttons" "holes" "[I", Cond.methodLink RX1 34 arraycopyName, Cond.fieldLink RX1 15 "ShirtButtons$Buttons" "size" "[I", Cond.fieldLink RX1 18 "ShirtButtons$Buttons" "iron" "[I", Cond.fieldLink RX1 21 "ShirtButtons$Buttons" "chips" "[I", Cond.fieldLink RX1 24 "ShirtButtons$Buttons" "shine" "[I", Cond.fieldLink RX1 27 "ShirtButtons$Buttons" "sortings" "[I"]
def wsX7_restore_r3 : List Cond := [Cond.methodLink RX5 148 yX4_copyFrom, Cond.instanceMethod yX4_copyFrom, Cond.selects RX4 yX4_copyFrom yX4_copyFrom, Cond.initialized RX4, Cond.code yX4_copyFrom cX4_copyFrom 3 none, Cond.fieldLink RX4 9 "ShirtButtons$Places" "place" "[I", Cond.methodLink RX4 34 arraycopyName, Cond.fieldLink RX4 15 "ShirtButtons$Places" "binOf" "[I", Cond.fieldLink RX4 18 "ShirtButtons$Places" "shirtOf" "[I", Cond.fieldLink RX4 21 "ShirtButtons$Places" "hopper" "[I", Cond.fieldLink RX4 24 "ShirtButtons$Places" "at" "[I", Cond.fieldLink RX4 27 "ShirtButtons$Places" "inBin" "[I", Cond.methodLink RX7 159 yX5_copyFrom]
def wsX7_restore : List Cond := .code yX7_restore cX7_restore 1 (some .int) :: ((wsX7_restore_r1 ++ (wsX7_restore_r2 ++ wsX7_restore_r3)) ++ wsX70 ++ wsX50 ++ wsX10 ++ wsX20 ++ wsX40)
def wsX7_button_r1 : List Cond := [Cond.fieldLink RX7 42 "ShirtButtons" "now" "LShirtButtons$State;", Cond.fieldLink RX7 60 "ShirtButtons$State" "buttons" "LShirtButtons$Buttons;", Cond.fieldLink RX7 162 "ShirtButtons$Buttons" "holes" "[I", Cond.fieldLink RX7 165 "ShirtButtons$Buttons" "size" "[I", Cond.fieldLink RX7 168 "ShirtButtons$Buttons" "iron" "[I", Cond.fieldLink RX7 171 "ShirtButtons$Buttons" "chips" "[I", Cond.fieldLink RX7 134 "ShirtButtons$Buttons" "shine" "[I", Cond.fieldLink RX7 79 "ShirtButtons$State" "places" "LShirtButtons$Places;", Cond.fieldLink RX7 131 "ShirtButtons$Places" "place" "[I", Cond.fieldLink RX7 174 "ShirtButtons$Places" "binOf" "[I", Cond.fieldLink RX7 180 "ShirtButtons$Places" "shirtOf" "[I", Cond.fieldLink RX7 183 "ShirtButtons$Buttons" "sortings" "[I", Cond.methodLink RX7 128 yX1_has, Cond.instanceMethod yX1_has, Cond.selects RX1 yX1_has yX1_has, Cond.initialized RX1, Cond.code yX1_has cX1_has 2 (some .boolean), Cond.fieldLink RX1 30 "ShirtButtons$Buttons" "count" "I", Cond.methodLink RX7 177 yX4_rankInHopper, Cond.instanceMethod yX4_rankInHopper, Cond.selects RX4 yX4_rankInHopper yX4_rankInHopper, Cond.initialized RX4, Cond.code yX4_rankInHopper cX4_rankInHopper 3 (some .int), Cond.fieldLink RX4 24 "ShirtButtons$Places" "at" "[I"]
def wsX7_button_r2 : List Cond := [Cond.fieldLink RX4 21 "ShirtButtons$Places" "hopper" "[I"]
def wsX7_button : List Cond := .code yX7_button cX7_button 3 (some .int) :: ((wsX7_button_r1 ++ wsX7_button_r2) ++ wsX70 ++ wsX50 ++ wsX10 ++ wsX40)
def wsX7_inBin_r1 : List Cond := [Cond.fieldLink RX7 28 "ShirtButtons" "order" "LShirtButtons$Order;", Cond.fieldLink RX7 42 "ShirtButtons" "now" "LShirtButtons$State;", Cond.fieldLink RX7 186 "ShirtButtons$Order" "count" "I", Cond.fieldLink RX7 187 "ShirtButtons$Order" "numbers" "[I", Cond.methodLink RX7 95 yX7_isBin, Cond.static yX7_isBin, Cond.initialized RX7, Cond.code yX7_isBin cX7_isBin 1 (some .boolean), Cond.methodLink RX7 109 yX3_fill, Cond.instanceMethod yX3_fill, Cond.selects RX3 yX3_fill yX3_fill, Cond.initialized RX3, Cond.code yX3_fill cX3_fill 4 none, Cond.fieldLink RX3 18 "ShirtButtons$Order" "count" "I", Cond.fieldLink RX3 22 "ShirtButtons$State" "buttons" "LShirtButtons$Buttons;", Cond.fieldLink RX3 28 "ShirtButtons$Buttons" "count" "I", Cond.fieldLink RX3 31 "ShirtButtons$State" "places" "LShirtButtons$Places;", Cond.fieldLink RX3 35 "ShirtButtons$Places" "binOf" "[I", Cond.fieldLink RX3 40 "ShirtButtons$Buttons" "shine" "[I", Cond.methodLink RX3 41 yX3_insert, Cond.instanceMethod yX3_insert, Cond.selects RX3 yX3_insert yX3_insert, Cond.code yX3_insert cX3_insert 4 none, Cond.fieldLink RX3 15 "ShirtButtons$Order" "shine" "[I"]
def wsX7_inBin_r2 : List Cond := [Cond.fieldLink RX3 9 "ShirtButtons$Order" "numbers" "[I"]
def wsX7_inBin : List Cond := .code yX7_inBin cX7_inBin 3 (some .int) :: ((wsX7_inBin_r1 ++ wsX7_inBin_r2) ++ wsX70 ++ wsX30 ++ wsX50 ++ wsX10 ++ wsX40)
def wsX7_bin_r1 : List Cond := [Cond.fieldLink RX7 28 "ShirtButtons" "order" "LShirtButtons$Order;", Cond.fieldLink RX7 42 "ShirtButtons" "now" "LShirtButtons$State;", Cond.fieldLink RX7 186 "ShirtButtons$Order" "count" "I", Cond.fieldLink RX7 113 "ShirtButtons$State" "settings" "[I", Cond.methodLink RX7 190 Lib.Math.max.name, Cond.static Lib.Math.max.name, Cond.initialized "java/lang/Math", Cond.code Lib.Math.max.name Lib.Math.max.code 2 (some .int), Cond.methodLink RX7 95 yX7_isBin, Cond.static yX7_isBin, Cond.initialized RX7, Cond.code yX7_isBin cX7_isBin 1 (some .boolean), Cond.methodLink RX7 109 yX3_fill, Cond.instanceMethod yX3_fill, Cond.selects RX3 yX3_fill yX3_fill, Cond.initialized RX3, Cond.code yX3_fill cX3_fill 4 none, Cond.fieldLink RX3 18 "ShirtButtons$Order" "count" "I", Cond.fieldLink RX3 22 "ShirtButtons$State" "buttons" "LShirtButtons$Buttons;", Cond.fieldLink RX3 28 "ShirtButtons$Buttons" "count" "I", Cond.fieldLink RX3 31 "ShirtButtons$State" "places" "LShirtButtons$Places;", Cond.fieldLink RX3 35 "ShirtButtons$Places" "binOf" "[I", Cond.fieldLink RX3 40 "ShirtButtons$Buttons" "shine" "[I", Cond.methodLink RX3 41 yX3_insert]
def wsX7_bin_r2 : List Cond := [Cond.instanceMethod yX3_insert, Cond.selects RX3 yX3_insert yX3_insert, Cond.code yX3_insert cX3_insert 4 none, Cond.fieldLink RX3 15 "ShirtButtons$Order" "shine" "[I", Cond.fieldLink RX3 9 "ShirtButtons$Order" "numbers" "[I", Cond.methodLink RX7 195 yX3_shineSum, Cond.instanceMethod yX3_shineSum, Cond.selects RX3 yX3_shineSum yX3_shineSum, Cond.code yX3_shineSum cX3_shineSum 3 (some .int), Cond.methodLink RX7 198 yX3_mostAlike, Cond.instanceMethod yX3_mostAlike, Cond.selects RX3 yX3_mostAlike yX3_mostAlike, Cond.code yX3_mostAlike cX3_mostAlike 3 (some .int), Cond.methodLink RX3 54 yX3_firstAlike, Cond.instanceMethod yX3_firstAlike, Cond.selects RX3 yX3_firstAlike yX3_firstAlike, Cond.code yX3_firstAlike cX3_firstAlike 4 (some .int), Cond.methodLink RX3 45 yX3_spreadFrom, Cond.instanceMethod yX3_spreadFrom, Cond.selects RX3 yX3_spreadFrom yX3_spreadFrom, Cond.code yX3_spreadFrom cX3_spreadFrom 3 (some .int), Cond.methodLink RX7 201 yX3_narrowest, Cond.instanceMethod yX3_narrowest, Cond.selects RX3 yX3_narrowest yX3_narrowest]
def wsX7_bin_r3 : List Cond := [Cond.code yX3_narrowest cX3_narrowest 4 (some .int), Cond.methodLink RX3 49 Lib.Math.min.name, Cond.static Lib.Math.min.name, Cond.code Lib.Math.min.name Lib.Math.min.code 2 (some .int)]
def wsX7_bin : List Cond := .code yX7_bin cX7_bin 3 (some .int) :: ((wsX7_bin_r1 ++ (wsX7_bin_r2 ++ wsX7_bin_r3)) ++ wsX70 ++ wsX30 ++ wsX50 ++ wsX10 ++ wsX40)
def wsX7_total : List Cond := .code yX7_total cX7_total 2 (some .int) :: ([.fieldLink RX7 42 "ShirtButtons" "now" "LShirtButtons$State;", .fieldLink RX7 113 "ShirtButtons$State" "settings" "[I", .fieldLink RX7 79 "ShirtButtons$State" "places" "LShirtButtons$Places;", .fieldLink RX7 83 "ShirtButtons$Places" "at" "[I", .fieldLink RX7 60 "ShirtButtons$State" "buttons" "LShirtButtons$Buttons;", .fieldLink RX7 64 "ShirtButtons$Buttons" "count" "I", .fieldLink RX7 204 "ShirtButtons$State" "shirtsMade" "I", .fieldLink RX7 207 "ShirtButtons$State" "worthMade" "I", .fieldLink RX7 210 "ShirtButtons$State" "sortingsDone" "I", .fieldLink RX7 213 "ShirtButtons$State" "goneBack" "I", .fieldLink RX7 216 "ShirtButtons$State" "rubbed" "I", .fieldLink RX7 35 "ShirtButtons" "history" "LShirtButtons$History;", .fieldLink RX7 158 "ShirtButtons$History" "count" "I", .fieldLink RX7 10 "ShirtButtons" "text" "LShirtButtons$Text;", .fieldLink RX7 151 "ShirtButtons$Text" "length" "I", .methodLink RX7 219 yX1_chipSum, .instanceMethod yX1_chipSum, .selects RX1 yX1_chipSum yX1_chipSum, .initialized RX1, .code yX1_chipSum cX1_chipSum 3 (some .int), .fieldLink RX1 30 "ShirtButtons$Buttons" "count" "I", .fieldLink RX1 21 "ShirtButtons$Buttons" "chips" "[I"] ++ wsX70 ++ wsX50 ++ wsX40 ++ wsX10 ++ wsX20 ++ wsX60)
def wsX7_goesTo_r1 : List Cond := [Cond.fieldLink RX7 42 "ShirtButtons" "now" "LShirtButtons$State;", Cond.fieldLink RX7 60 "ShirtButtons$State" "buttons" "LShirtButtons$Buttons;", Cond.fieldLink RX7 79 "ShirtButtons$State" "places" "LShirtButtons$Places;", Cond.fieldLink RX7 131 "ShirtButtons$Places" "place" "[I", Cond.methodLink RX7 128 yX1_has, Cond.instanceMethod yX1_has, Cond.selects RX1 yX1_has yX1_has, Cond.initialized RX1, Cond.code yX1_has cX1_has 2 (some .boolean), Cond.fieldLink RX1 30 "ShirtButtons$Buttons" "count" "I", Cond.methodLink RX7 222 yX5_placeFor, Cond.instanceMethod yX5_placeFor, Cond.selects RX5 yX5_placeFor yX5_placeFor, Cond.initialized RX5, Cond.code yX5_placeFor cX5_placeFor 2 (some .int), Cond.fieldLink RX5 12 "ShirtButtons$State" "buttons" "LShirtButtons$Buttons;", Cond.fieldLink RX5 70 "ShirtButtons$Buttons" "chips" "[I", Cond.fieldLink RX5 34 "ShirtButtons$State" "settings" "[I", Cond.fieldLink RX5 66 "ShirtButtons$Buttons" "iron" "[I", Cond.fieldLink RX5 21 "ShirtButtons$State" "places" "LShirtButtons$Places;", Cond.fieldLink RX5 85 "ShirtButtons$Places" "at" "[I", Cond.fieldLink RX5 62 "ShirtButtons$Buttons" "size" "[I", Cond.fieldLink RX5 88 "ShirtButtons$Places" "inBin" "[I", Cond.methodLink RX5 91 yX5_binFor]
def wsX7_goesTo_r2 : List Cond := [Cond.instanceMethod yX5_binFor, Cond.selects RX5 yX5_binFor yX5_binFor, Cond.code yX5_binFor cX5_binFor 2 (some .int), Cond.fieldLink RX5 56 "ShirtButtons$Buttons" "holes" "[I", Cond.methodLink RX5 95 yX5_meshClass, Cond.instanceMethod yX5_meshClass, Cond.selects RX5 yX5_meshClass yX5_meshClass, Cond.code yX5_meshClass cX5_meshClass 3 (some .int)]
def wsX7_goesTo : List Cond := .code yX7_goesTo cX7_goesTo 2 (some .int) :: ((wsX7_goesTo_r1 ++ wsX7_goesTo_r2) ++ wsX70 ++ wsX50 ++ wsX40 ++ wsX10)
def wsX7_reason_r1 : List Cond := [Cond.fieldLink RX7 28 "ShirtButtons" "order" "LShirtButtons$Order;", Cond.fieldLink RX7 42 "ShirtButtons" "now" "LShirtButtons$State;", Cond.methodLink RX7 95 yX7_isBin, Cond.static yX7_isBin, Cond.initialized RX7, Cond.code yX7_isBin cX7_isBin 1 (some .boolean), Cond.methodLink RX7 106 yX7_isWanted, Cond.static yX7_isWanted, Cond.code yX7_isWanted cX7_isWanted 1 (some .boolean), Cond.methodLink RX7 109 yX3_fill, Cond.instanceMethod yX3_fill, Cond.selects RX3 yX3_fill yX3_fill, Cond.initialized RX3, Cond.code yX3_fill cX3_fill 4 none, Cond.fieldLink RX3 18 "ShirtButtons$Order" "count" "I", Cond.fieldLink RX3 22 "ShirtButtons$State" "buttons" "LShirtButtons$Buttons;", Cond.fieldLink RX3 28 "ShirtButtons$Buttons" "count" "I", Cond.fieldLink RX3 31 "ShirtButtons$State" "places" "LShirtButtons$Places;", Cond.fieldLink RX3 35 "ShirtButtons$Places" "binOf" "[I", Cond.fieldLink RX3 40 "ShirtButtons$Buttons" "shine" "[I", Cond.methodLink RX3 41 yX3_insert, Cond.instanceMethod yX3_insert, Cond.selects RX3 yX3_insert yX3_insert, Cond.code yX3_insert cX3_insert 4 none]
def wsX7_reason_r2 : List Cond := [Cond.fieldLink RX3 15 "ShirtButtons$Order" "shine" "[I", Cond.fieldLink RX3 9 "ShirtButtons$Order" "numbers" "[I", Cond.methodLink RX7 120 yX7_refusalOf, Cond.instanceMethod yX7_refusalOf, Cond.selects RX7 yX7_refusalOf yX7_refusalOf, Cond.code yX7_refusalOf cX7_refusalOf 2 (some .int), Cond.fieldLink RX7 186 "ShirtButtons$Order" "count" "I", Cond.fieldLink RX7 113 "ShirtButtons$State" "settings" "[I", Cond.methodLink RX7 116 yX3_firstAlike, Cond.instanceMethod yX3_firstAlike, Cond.selects RX3 yX3_firstAlike yX3_firstAlike, Cond.code yX3_firstAlike cX3_firstAlike 4 (some .int), Cond.methodLink RX3 45 yX3_spreadFrom, Cond.instanceMethod yX3_spreadFrom, Cond.selects RX3 yX3_spreadFrom yX3_spreadFrom, Cond.code yX3_spreadFrom cX3_spreadFrom 3 (some .int)]
def wsX7_reason : List Cond := .code yX7_reason cX7_reason 3 (some .int) :: ((wsX7_reason_r1 ++ wsX7_reason_r2) ++ wsX70 ++ wsX30 ++ wsX50 ++ wsX10 ++ wsX40)
def wsX7_leastSpread_r1 : List Cond := [Cond.fieldLink RX7 28 "ShirtButtons" "order" "LShirtButtons$Order;", Cond.fieldLink RX7 42 "ShirtButtons" "now" "LShirtButtons$State;", Cond.fieldLink RX7 186 "ShirtButtons$Order" "count" "I", Cond.methodLink RX7 95 yX7_isBin, Cond.static yX7_isBin, Cond.initialized RX7, Cond.code yX7_isBin cX7_isBin 1 (some .boolean), Cond.methodLink RX7 106 yX7_isWanted, Cond.static yX7_isWanted, Cond.code yX7_isWanted cX7_isWanted 1 (some .boolean), Cond.methodLink RX7 109 yX3_fill, Cond.instanceMethod yX3_fill, Cond.selects RX3 yX3_fill yX3_fill, Cond.initialized RX3, Cond.code yX3_fill cX3_fill 4 none, Cond.fieldLink RX3 18 "ShirtButtons$Order" "count" "I", Cond.fieldLink RX3 22 "ShirtButtons$State" "buttons" "LShirtButtons$Buttons;", Cond.fieldLink RX3 28 "ShirtButtons$Buttons" "count" "I", Cond.fieldLink RX3 31 "ShirtButtons$State" "places" "LShirtButtons$Places;", Cond.fieldLink RX3 35 "ShirtButtons$Places" "binOf" "[I", Cond.fieldLink RX3 40 "ShirtButtons$Buttons" "shine" "[I", Cond.methodLink RX3 41 yX3_insert, Cond.instanceMethod yX3_insert, Cond.selects RX3 yX3_insert yX3_insert]
def wsX7_leastSpread_r2 : List Cond := [Cond.code yX3_insert cX3_insert 4 none, Cond.fieldLink RX3 15 "ShirtButtons$Order" "shine" "[I", Cond.fieldLink RX3 9 "ShirtButtons$Order" "numbers" "[I", Cond.methodLink RX7 201 yX3_narrowest, Cond.instanceMethod yX3_narrowest, Cond.selects RX3 yX3_narrowest yX3_narrowest, Cond.code yX3_narrowest cX3_narrowest 4 (some .int), Cond.methodLink RX3 49 Lib.Math.min.name, Cond.static Lib.Math.min.name, Cond.initialized "java/lang/Math", Cond.code Lib.Math.min.name Lib.Math.min.code 2 (some .int), Cond.methodLink RX3 45 yX3_spreadFrom, Cond.instanceMethod yX3_spreadFrom, Cond.selects RX3 yX3_spreadFrom yX3_spreadFrom, Cond.code yX3_spreadFrom cX3_spreadFrom 3 (some .int)]
def wsX7_leastSpread : List Cond := .code yX7_leastSpread cX7_leastSpread 3 (some .int) :: ((wsX7_leastSpread_r1 ++ wsX7_leastSpread_r2) ++ wsX70 ++ wsX30 ++ wsX50 ++ wsX10 ++ wsX40)
def wsX7_shirts_r1 : List Cond := [Cond.fieldLink RX7 28 "ShirtButtons" "order" "LShirtButtons$Order;", Cond.fieldLink RX7 42 "ShirtButtons" "now" "LShirtButtons$State;", Cond.fieldLink RX7 113 "ShirtButtons$State" "settings" "[I", Cond.methodLink RX7 106 yX7_isWanted, Cond.static yX7_isWanted, Cond.initialized RX7, Cond.code yX7_isWanted cX7_isWanted 1 (some .boolean), Cond.methodLink RX7 109 yX3_fill, Cond.instanceMethod yX3_fill, Cond.selects RX3 yX3_fill yX3_fill, Cond.initialized RX3, Cond.code yX3_fill cX3_fill 4 none, Cond.fieldLink RX3 18 "ShirtButtons$Order" "count" "I", Cond.fieldLink RX3 22 "ShirtButtons$State" "buttons" "LShirtButtons$Buttons;", Cond.fieldLink RX3 28 "ShirtButtons$Buttons" "count" "I", Cond.fieldLink RX3 31 "ShirtButtons$State" "places" "LShirtButtons$Places;", Cond.fieldLink RX3 35 "ShirtButtons$Places" "binOf" "[I", Cond.fieldLink RX3 40 "ShirtButtons$Buttons" "shine" "[I", Cond.methodLink RX3 41 yX3_insert, Cond.instanceMethod yX3_insert, Cond.selects RX3 yX3_insert yX3_insert, Cond.code yX3_insert cX3_insert 4 none, Cond.fieldLink RX3 15 "ShirtButtons$Order" "shine" "[I", Cond.fieldLink RX3 9 "ShirtButtons$Order" "numbers" "[I"]
def wsX7_shirts_r2 : List Cond := [Cond.methodLink RX7 225 yX3_groups, Cond.instanceMethod yX3_groups, Cond.selects RX3 yX3_groups yX3_groups, Cond.code yX3_groups cX3_groups 5 (some .int), Cond.methodLink RX3 45 yX3_spreadFrom, Cond.instanceMethod yX3_spreadFrom, Cond.selects RX3 yX3_spreadFrom yX3_spreadFrom, Cond.code yX3_spreadFrom cX3_spreadFrom 3 (some .int)]
def wsX7_shirts : List Cond := .code yX7_shirts cX7_shirts 4 (some .int) :: ((wsX7_shirts_r1 ++ wsX7_shirts_r2) ++ wsX70 ++ wsX50 ++ wsX30 ++ wsX10 ++ wsX40)
def wsX7_ifMesh_r1 : List Cond := [Cond.fieldLink RX7 42 "ShirtButtons" "now" "LShirtButtons$State;", Cond.fieldLink RX7 49 "ShirtButtons" "trial" "LShirtButtons$State;", Cond.fieldLink RX7 113 "ShirtButtons$State" "settings" "[I", Cond.fieldLink RX7 79 "ShirtButtons$State" "places" "LShirtButtons$Places;", Cond.fieldLink RX7 83 "ShirtButtons$Places" "at" "[I", Cond.methodLink RX7 140 yX7_isValue, Cond.static yX7_isValue, Cond.initialized RX7, Cond.code yX7_isValue cX7_isValue 2 (some .boolean), Cond.fieldLink RX7 228 "ShirtButtons" "LOWEST" "[I", Cond.fieldLink RX7 231 "ShirtButtons" "HIGHEST" "[I", Cond.methodLink RX7 144 yX5_meshesAllow, Cond.instanceMethod yX5_meshesAllow, Cond.selects RX5 yX5_meshesAllow yX5_meshesAllow, Cond.initialized RX5, Cond.code yX5_meshesAllow cX5_meshesAllow 3 (some .boolean), Cond.fieldLink RX5 34 "ShirtButtons$State" "settings" "[I", Cond.methodLink RX7 159 yX5_copyFrom, Cond.instanceMethod yX5_copyFrom, Cond.selects RX5 yX5_copyFrom yX5_copyFrom, Cond.code yX5_copyFrom cX5_copyFrom 2 none, Cond.fieldLink RX5 12 "ShirtButtons$State" "buttons" "LShirtButtons$Buttons;", Cond.fieldLink RX5 21 "ShirtButtons$State" "places" "LShirtButtons$Places;", Cond.fieldLink RX5 53 "ShirtButtons$Buttons" "count" "I"]
def wsX7_ifMesh_r2 : List Cond := [Cond.methodLink RX5 151 arraycopyName, Cond.native arraycopyName, Cond.static arraycopyName, Cond.initialized "java/lang/System", Cond.fieldLink RX5 37 "ShirtButtons$State" "shirtsMade" "I", Cond.fieldLink RX5 41 "ShirtButtons$State" "worthMade" "I", Cond.fieldLink RX5 44 "ShirtButtons$State" "sortingsDone" "I", Cond.fieldLink RX5 47 "ShirtButtons$State" "goneBack" "I", Cond.fieldLink RX5 50 "ShirtButtons$State" "rubbed" "I", Cond.methodLink RX5 144 yX1_copyFrom, Cond.instanceMethod yX1_copyFrom, Cond.selects RX1 yX1_copyFrom yX1_copyFrom, Cond.initialized RX1, Cond.code yX1_copyFrom cX1_copyFrom 2 none, Cond.fieldLink RX1 30 "ShirtButtons$Buttons" "count" "I", Cond.fieldLink RX1 9 "ShirtButtons$Buttons" "holes" "[I", Cond.methodLink RX1 34 arraycopyName, Cond.fieldLink RX1 15 "ShirtButtons$Buttons" "size" "[I", Cond.fieldLink RX1 18 "ShirtButtons$Buttons" "iron" "[I", Cond.fieldLink RX1 21 "ShirtButtons$Buttons" "chips" "[I", Cond.fieldLink RX1 24 "ShirtButtons$Buttons" "shine" "[I", Cond.fieldLink RX1 27 "ShirtButtons$Buttons" "sortings" "[I", Cond.methodLink RX5 148 yX4_copyFrom, Cond.instanceMethod yX4_copyFrom]
def wsX7_ifMesh_r3 : List Cond := [Cond.selects RX4 yX4_copyFrom yX4_copyFrom, Cond.initialized RX4, Cond.code yX4_copyFrom cX4_copyFrom 3 none, Cond.fieldLink RX4 9 "ShirtButtons$Places" "place" "[I", Cond.methodLink RX4 34 arraycopyName, Cond.fieldLink RX4 15 "ShirtButtons$Places" "binOf" "[I", Cond.fieldLink RX4 18 "ShirtButtons$Places" "shirtOf" "[I", Cond.fieldLink RX4 21 "ShirtButtons$Places" "hopper" "[I", Cond.fieldLink RX4 24 "ShirtButtons$Places" "at" "[I", Cond.fieldLink RX4 27 "ShirtButtons$Places" "inBin" "[I", Cond.methodLink RX7 89 yX5_sortFirst, Cond.instanceMethod yX5_sortFirst, Cond.selects RX5 yX5_sortFirst yX5_sortFirst, Cond.code yX5_sortFirst cX5_sortFirst 3 none, Cond.fieldLink RX5 85 "ShirtButtons$Places" "at" "[I", Cond.fieldLink RX5 78 "ShirtButtons$Buttons" "sortings" "[I", Cond.methodLink RX5 98 yX4_takeFirst, Cond.instanceMethod yX4_takeFirst, Cond.selects RX4 yX4_takeFirst yX4_takeFirst, Cond.code yX4_takeFirst cX4_takeFirst 2 (some .int), Cond.methodLink RX4 30 yX4_leave, Cond.instanceMethod yX4_leave, Cond.selects RX4 yX4_leave yX4_leave, Cond.code yX4_leave cX4_leave 2 none]
def wsX7_ifMesh_r4 : List Cond := [Cond.methodLink RX5 102 yX5_placeFor, Cond.instanceMethod yX5_placeFor, Cond.selects RX5 yX5_placeFor yX5_placeFor, Cond.code yX5_placeFor cX5_placeFor 2 (some .int), Cond.fieldLink RX5 70 "ShirtButtons$Buttons" "chips" "[I", Cond.fieldLink RX5 66 "ShirtButtons$Buttons" "iron" "[I", Cond.fieldLink RX5 62 "ShirtButtons$Buttons" "size" "[I", Cond.fieldLink RX5 88 "ShirtButtons$Places" "inBin" "[I", Cond.methodLink RX5 91 yX5_binFor, Cond.instanceMethod yX5_binFor, Cond.selects RX5 yX5_binFor yX5_binFor, Cond.code yX5_binFor cX5_binFor 2 (some .int), Cond.fieldLink RX5 56 "ShirtButtons$Buttons" "holes" "[I", Cond.methodLink RX5 95 yX5_meshClass, Cond.instanceMethod yX5_meshClass, Cond.selects RX5 yX5_meshClass yX5_meshClass, Cond.code yX5_meshClass cX5_meshClass 3 (some .int), Cond.methodLink RX5 105 yX4_bring, Cond.instanceMethod yX4_bring, Cond.selects RX4 yX4_bring yX4_bring, Cond.code yX4_bring cX4_bring 3 none, Cond.methodLink RX5 109 yX5_emptyMagnet, Cond.instanceMethod yX5_emptyMagnet, Cond.selects RX5 yX5_emptyMagnet yX5_emptyMagnet]
def wsX7_ifMesh_r5 : List Cond := [Cond.code yX5_emptyMagnet cX5_emptyMagnet 2 none, Cond.fieldLink RX5 121 "ShirtButtons$Places" "place" "[I", Cond.methodLink RX5 124 yX4_leave, Cond.methodLink RX5 112 yX5_rub, Cond.instanceMethod yX5_rub, Cond.selects RX5 yX5_rub yX5_rub, Cond.code yX5_rub cX5_rub 2 none, Cond.methodLink RX5 118 yX1_chip, Cond.instanceMethod yX1_chip, Cond.selects RX1 yX1_chip yX1_chip, Cond.code yX1_chip cX1_chip 2 none, Cond.methodLink RX5 115 yX4_bringToBin, Cond.instanceMethod yX4_bringToBin, Cond.selects RX4 yX4_bringToBin yX4_bringToBin, Cond.code yX4_bringToBin cX4_bringToBin 3 none, Cond.methodLink RX4 40 yX4_bring, Cond.methodLink RX5 81 yX4_bringToHopper, Cond.instanceMethod yX4_bringToHopper, Cond.selects RX4 yX4_bringToHopper yX4_bringToHopper, Cond.code yX4_bringToHopper cX4_bringToHopper 2 none]
def wsX7_ifMesh : List Cond := .code yX7_ifMesh cX7_ifMesh 6 (some .int) :: ((wsX7_ifMesh_r1 ++ (wsX7_ifMesh_r2 ++ (wsX7_ifMesh_r3 ++ (wsX7_ifMesh_r4 ++ wsX7_ifMesh_r5)))) ++ wsX70 ++ wsX50 ++ wsX40 ++ wsX10)
def wsX8_init : List Cond := .code yX8_init cX8_init 1 none :: ([.methodLink RX8 1 objectInit, .instanceMethod objectInit, .code objectInit ⟨#[0xb1]⟩ 1 none, .arrayClass .int, .fieldLink RX8 7 "ShirtButtonsModel" "row" "[I", .fieldLink RX8 13 "ShirtButtonsModel" "history" "[I", .fieldLink RX8 16 "ShirtButtonsModel" "snapshot" "[I", .fieldLink RX8 19 "ShirtButtonsModel" "aside" "[I", .fieldLink RX8 22 "ShirtButtonsModel" "line" "[I", .fieldLink RX8 25 "ShirtButtonsModel" "text" "[I", .fieldLink RX8 28 "ShirtButtonsModel" "read" "[I"] ++ wsX80)
def wsX8_in : List Cond := .code yX8_in cX8_in 3 (some .boolean) :: ([])
def wsX8_isButton : List Cond := .code yX8_isButton cX8_isButton 2 (some .boolean) :: ([.fieldLink RX8 7 "ShirtButtonsModel" "row" "[I", .methodLink RX8 31 yX8_in, .static yX8_in, .initialized RX8, .code yX8_in cX8_in 3 (some .boolean)] ++ wsX80)
def wsX8_isBin : List Cond := .code yX8_isBin cX8_isBin 1 (some .boolean) :: ([.methodLink RX8 31 yX8_in, .static yX8_in, .initialized RX8, .code yX8_in cX8_in 3 (some .boolean)])
def wsX8_of : List Cond := .code yX8_of cX8_of 3 (some .int) :: ([.fieldLink RX8 7 "ShirtButtonsModel" "row" "[I"] ++ wsX80)
def wsX8_put : List Cond := .code yX8_put cX8_put 4 none :: ([.fieldLink RX8 7 "ShirtButtonsModel" "row" "[I"] ++ wsX80)
def wsX8_putAside : List Cond := .code yX8_putAside cX8_putAside 2 none :: ([.fieldLink RX8 19 "ShirtButtonsModel" "aside" "[I", .fieldLink RX8 7 "ShirtButtonsModel" "row" "[I"] ++ wsX80)
def wsX8_putBack : List Cond := .code yX8_putBack cX8_putBack 2 none :: ([.fieldLink RX8 7 "ShirtButtonsModel" "row" "[I", .fieldLink RX8 19 "ShirtButtonsModel" "aside" "[I"] ++ wsX80)
def wsX8_record : List Cond := .code yX8_record cX8_record 2 none :: ([.fieldLink RX8 35 "ShirtButtonsModel" "states" "I", .fieldLink RX8 13 "ShirtButtonsModel" "history" "[I", .fieldLink RX8 7 "ShirtButtonsModel" "row" "[I"] ++ wsX80)
def wsX8_undo : List Cond := .code yX8_undo cX8_undo 2 (some .int) :: ([.fieldLink RX8 35 "ShirtButtonsModel" "states" "I", .fieldLink RX8 7 "ShirtButtonsModel" "row" "[I", .fieldLink RX8 13 "ShirtButtonsModel" "history" "[I"] ++ wsX80)
def wsX8_keep : List Cond := .code yX8_keep cX8_keep 2 (some .int) :: ([.fieldLink RX8 16 "ShirtButtonsModel" "snapshot" "[I", .fieldLink RX8 7 "ShirtButtonsModel" "row" "[I", .fieldLink RX8 39 "ShirtButtonsModel" "isKept" "Z"] ++ wsX80)
def wsX8_restore : List Cond := .code yX8_restore cX8_restore 2 (some .int) :: ([.fieldLink RX8 39 "ShirtButtonsModel" "isKept" "Z", .fieldLink RX8 7 "ShirtButtonsModel" "row" "[I", .fieldLink RX8 16 "ShirtButtonsModel" "snapshot" "[I", .methodLink RX8 43 yX8_record, .instanceMethod yX8_record, .selects RX8 yX8_record yX8_record, .initialized RX8, .code yX8_record cX8_record 2 none, .fieldLink RX8 35 "ShirtButtonsModel" "states" "I", .fieldLink RX8 13 "ShirtButtonsModel" "history" "[I"] ++ wsX80)
def wsX8_at : List Cond := .code yX8_at cX8_at 4 (some .int) :: ([.fieldLink RX8 7 "ShirtButtonsModel" "row" "[I", .methodLink RX8 46 yX8_of, .instanceMethod yX8_of, .selects RX8 yX8_of yX8_of, .initialized RX8, .code yX8_of cX8_of 3 (some .int)] ++ wsX80)
def wsX8_isIn : List Cond := .code yX8_isIn cX8_isIn 3 (some .boolean) :: ([.methodLink RX8 46 yX8_of, .instanceMethod yX8_of, .selects RX8 yX8_of yX8_of, .initialized RX8, .code yX8_of cX8_of 3 (some .int), .fieldLink RX8 7 "ShirtButtonsModel" "row" "[I"] ++ wsX80)
def wsX8_manyIn : List Cond := .code yX8_manyIn cX8_manyIn 4 (some .int) :: ([.fieldLink RX8 7 "ShirtButtonsModel" "row" "[I", .methodLink RX8 50 yX8_isIn, .instanceMethod yX8_isIn, .selects RX8 yX8_isIn yX8_isIn, .initialized RX8, .code yX8_isIn cX8_isIn 3 (some .boolean), .methodLink RX8 46 yX8_of, .instanceMethod yX8_of, .selects RX8 yX8_of yX8_of, .code yX8_of cX8_of 3 (some .int)] ++ wsX80)
def wsX8_bring : List Cond := .code yX8_bring cX8_bring 3 none :: ([.methodLink RX8 54 yX8_put, .instanceMethod yX8_put, .selects RX8 yX8_put yX8_put, .initialized RX8, .code yX8_put cX8_put 4 none, .fieldLink RX8 7 "ShirtButtonsModel" "row" "[I"] ++ wsX80)
def wsX8_toHopper : List Cond := .code yX8_toHopper cX8_toHopper 2 none :: ([.fieldLink RX8 7 "ShirtButtonsModel" "row" "[I", .methodLink RX8 58 yX8_bring, .instanceMethod yX8_bring, .selects RX8 yX8_bring yX8_bring, .initialized RX8, .code yX8_bring cX8_bring 3 none, .methodLink RX8 54 yX8_put, .instanceMethod yX8_put, .selects RX8 yX8_put yX8_put, .code yX8_put cX8_put 4 none] ++ wsX80)
def wsX8_letGoNow : List Cond := .code yX8_letGoNow cX8_letGoNow 3 (some .int) :: ([.fieldLink RX8 7 "ShirtButtonsModel" "row" "[I", .methodLink RX8 46 yX8_of, .instanceMethod yX8_of, .selects RX8 yX8_of yX8_of, .initialized RX8, .code yX8_of cX8_of 3 (some .int), .methodLink RX8 58 yX8_bring, .instanceMethod yX8_bring, .selects RX8 yX8_bring yX8_bring, .code yX8_bring cX8_bring 3 none, .methodLink RX8 54 yX8_put, .instanceMethod yX8_put, .selects RX8 yX8_put yX8_put, .code yX8_put cX8_put 4 none] ++ wsX80)
def wsX8_classOf : List Cond := .code yX8_classOf cX8_classOf 3 (some .int) :: ([.fieldLink RX8 7 "ShirtButtonsModel" "row" "[I", .methodLink RX8 46 yX8_of, .instanceMethod yX8_of, .selects RX8 yX8_of yX8_of, .initialized RX8, .code yX8_of cX8_of 3 (some .int)] ++ wsX80)
def wsX8_binOf : List Cond := .code yX8_binOf cX8_binOf 2 (some .int) :: ([.methodLink RX8 62 yX8_classOf, .instanceMethod yX8_classOf, .selects RX8 yX8_classOf yX8_classOf, .initialized RX8, .code yX8_classOf cX8_classOf 3 (some .int), .fieldLink RX8 7 "ShirtButtonsModel" "row" "[I", .methodLink RX8 46 yX8_of, .instanceMethod yX8_of, .selects RX8 yX8_of yX8_of, .code yX8_of cX8_of 3 (some .int)] ++ wsX80)
def wsX8_placeFor : List Cond := .code yX8_placeFor cX8_placeFor 2 (some .int) :: ([.fieldLink RX8 7 "ShirtButtonsModel" "row" "[I", .methodLink RX8 46 yX8_of, .instanceMethod yX8_of, .selects RX8 yX8_of yX8_of, .initialized RX8, .code yX8_of cX8_of 3 (some .int)] ++ wsX80)
def wsX8_sortOne_r1 : List Cond := [Cond.fieldLink RX8 7 "ShirtButtonsModel" "row" "[I", Cond.methodLink RX8 46 yX8_of, Cond.instanceMethod yX8_of, Cond.selects RX8 yX8_of yX8_of, Cond.initialized RX8, Cond.code yX8_of cX8_of 3 (some .int), Cond.methodLink RX8 54 yX8_put, Cond.instanceMethod yX8_put, Cond.selects RX8 yX8_put yX8_put, Cond.code yX8_put cX8_put 4 none, Cond.methodLink RX8 66 yX8_placeFor, Cond.instanceMethod yX8_placeFor, Cond.selects RX8 yX8_placeFor yX8_placeFor, Cond.code yX8_placeFor cX8_placeFor 2 (some .int), Cond.methodLink RX8 58 yX8_bring, Cond.instanceMethod yX8_bring, Cond.selects RX8 yX8_bring yX8_bring, Cond.code yX8_bring cX8_bring 3 none, Cond.methodLink RX8 69 yX8_at, Cond.instanceMethod yX8_at, Cond.selects RX8 yX8_at yX8_at, Cond.code yX8_at cX8_at 4 (some .int), Cond.methodLink RX8 72 yX8_letGoNow, Cond.instanceMethod yX8_letGoNow]
def wsX8_sortOne_r2 : List Cond := [Cond.selects RX8 yX8_letGoNow yX8_letGoNow, Cond.code yX8_letGoNow cX8_letGoNow 3 (some .int), Cond.methodLink RX8 62 yX8_classOf, Cond.instanceMethod yX8_classOf, Cond.selects RX8 yX8_classOf yX8_classOf, Cond.code yX8_classOf cX8_classOf 3 (some .int), Cond.methodLink RX8 76 yX8_binOf, Cond.instanceMethod yX8_binOf, Cond.selects RX8 yX8_binOf yX8_binOf, Cond.code yX8_binOf cX8_binOf 2 (some .int), Cond.methodLink RX8 79 yX8_manyIn, Cond.instanceMethod yX8_manyIn, Cond.selects RX8 yX8_manyIn yX8_manyIn, Cond.code yX8_manyIn cX8_manyIn 4 (some .int), Cond.methodLink RX8 50 yX8_isIn, Cond.instanceMethod yX8_isIn, Cond.selects RX8 yX8_isIn yX8_isIn, Cond.code yX8_isIn cX8_isIn 3 (some .boolean), Cond.methodLink RX8 82 yX8_toHopper, Cond.instanceMethod yX8_toHopper, Cond.selects RX8 yX8_toHopper yX8_toHopper, Cond.code yX8_toHopper cX8_toHopper 2 none]
def wsX8_sortOne : List Cond := .code yX8_sortOne cX8_sortOne 4 none :: ((wsX8_sortOne_r1 ++ wsX8_sortOne_r2) ++ wsX80)
def wsX8_sort_r1 : List Cond := [Cond.fieldLink RX8 7 "ShirtButtonsModel" "row" "[I", Cond.methodLink RX8 31 yX8_in, Cond.static yX8_in, Cond.initialized RX8, Cond.code yX8_in cX8_in 3 (some .boolean), Cond.methodLink RX8 43 yX8_record, Cond.instanceMethod yX8_record, Cond.selects RX8 yX8_record yX8_record, Cond.code yX8_record cX8_record 2 none, Cond.fieldLink RX8 35 "ShirtButtonsModel" "states" "I", Cond.fieldLink RX8 13 "ShirtButtonsModel" "history" "[I", Cond.methodLink RX8 86 yX8_sortOne, Cond.instanceMethod yX8_sortOne, Cond.selects RX8 yX8_sortOne yX8_sortOne, Cond.code yX8_sortOne cX8_sortOne 4 none, Cond.methodLink RX8 46 yX8_of, Cond.instanceMethod yX8_of, Cond.selects RX8 yX8_of yX8_of, Cond.code yX8_of cX8_of 3 (some .int), Cond.methodLink RX8 54 yX8_put, Cond.instanceMethod yX8_put, Cond.selects RX8 yX8_put yX8_put, Cond.code yX8_put cX8_put 4 none, Cond.methodLink RX8 66 yX8_placeFor]
def wsX8_sort_r2 : List Cond := [Cond.instanceMethod yX8_placeFor, Cond.selects RX8 yX8_placeFor yX8_placeFor, Cond.code yX8_placeFor cX8_placeFor 2 (some .int), Cond.methodLink RX8 58 yX8_bring, Cond.instanceMethod yX8_bring, Cond.selects RX8 yX8_bring yX8_bring, Cond.code yX8_bring cX8_bring 3 none, Cond.methodLink RX8 69 yX8_at, Cond.instanceMethod yX8_at, Cond.selects RX8 yX8_at yX8_at, Cond.code yX8_at cX8_at 4 (some .int), Cond.methodLink RX8 72 yX8_letGoNow, Cond.instanceMethod yX8_letGoNow, Cond.selects RX8 yX8_letGoNow yX8_letGoNow, Cond.code yX8_letGoNow cX8_letGoNow 3 (some .int), Cond.methodLink RX8 62 yX8_classOf, Cond.instanceMethod yX8_classOf, Cond.selects RX8 yX8_classOf yX8_classOf, Cond.code yX8_classOf cX8_classOf 3 (some .int), Cond.methodLink RX8 76 yX8_binOf, Cond.instanceMethod yX8_binOf, Cond.selects RX8 yX8_binOf yX8_binOf, Cond.code yX8_binOf cX8_binOf 2 (some .int), Cond.methodLink RX8 79 yX8_manyIn]
def wsX8_sort_r3 : List Cond := [Cond.instanceMethod yX8_manyIn, Cond.selects RX8 yX8_manyIn yX8_manyIn, Cond.code yX8_manyIn cX8_manyIn 4 (some .int), Cond.methodLink RX8 50 yX8_isIn, Cond.instanceMethod yX8_isIn, Cond.selects RX8 yX8_isIn yX8_isIn, Cond.code yX8_isIn cX8_isIn 3 (some .boolean), Cond.methodLink RX8 82 yX8_toHopper, Cond.instanceMethod yX8_toHopper, Cond.selects RX8 yX8_toHopper yX8_toHopper, Cond.code yX8_toHopper cX8_toHopper 2 none]
def wsX8_sort : List Cond := .code yX8_sort cX8_sort 3 (some .int) :: ((wsX8_sort_r1 ++ (wsX8_sort_r2 ++ wsX8_sort_r3)) ++ wsX80)
def wsX8_letGo_r1 : List Cond := [Cond.methodLink RX8 69 yX8_at, Cond.instanceMethod yX8_at, Cond.selects RX8 yX8_at yX8_at, Cond.initialized RX8, Cond.code yX8_at cX8_at 4 (some .int), Cond.fieldLink RX8 7 "ShirtButtonsModel" "row" "[I", Cond.methodLink RX8 46 yX8_of, Cond.instanceMethod yX8_of, Cond.selects RX8 yX8_of yX8_of, Cond.code yX8_of cX8_of 3 (some .int), Cond.methodLink RX8 43 yX8_record, Cond.instanceMethod yX8_record, Cond.selects RX8 yX8_record yX8_record, Cond.code yX8_record cX8_record 2 none, Cond.fieldLink RX8 35 "ShirtButtonsModel" "states" "I", Cond.fieldLink RX8 13 "ShirtButtonsModel" "history" "[I", Cond.methodLink RX8 72 yX8_letGoNow, Cond.instanceMethod yX8_letGoNow, Cond.selects RX8 yX8_letGoNow yX8_letGoNow, Cond.code yX8_letGoNow cX8_letGoNow 3 (some .int), Cond.methodLink RX8 58 yX8_bring, Cond.instanceMethod yX8_bring, Cond.selects RX8 yX8_bring yX8_bring, Cond.code yX8_bring cX8_bring 3 none]
def wsX8_letGo_r2 : List Cond := [Cond.methodLink RX8 54 yX8_put, Cond.instanceMethod yX8_put, Cond.selects RX8 yX8_put yX8_put, Cond.code yX8_put cX8_put 4 none]
def wsX8_letGo : List Cond := .code yX8_letGo cX8_letGo 1 (some .int) :: ((wsX8_letGo_r1 ++ wsX8_letGo_r2) ++ wsX80)
def wsX8_pour_r1 : List Cond := [Cond.fieldLink RX8 7 "ShirtButtonsModel" "row" "[I", Cond.methodLink RX8 89 yX8_isBin, Cond.static yX8_isBin, Cond.initialized RX8, Cond.code yX8_isBin cX8_isBin 1 (some .boolean), Cond.methodLink RX8 31 yX8_in, Cond.static yX8_in, Cond.code yX8_in cX8_in 3 (some .boolean), Cond.methodLink RX8 79 yX8_manyIn, Cond.instanceMethod yX8_manyIn, Cond.selects RX8 yX8_manyIn yX8_manyIn, Cond.code yX8_manyIn cX8_manyIn 4 (some .int), Cond.methodLink RX8 50 yX8_isIn, Cond.instanceMethod yX8_isIn, Cond.selects RX8 yX8_isIn yX8_isIn, Cond.code yX8_isIn cX8_isIn 3 (some .boolean), Cond.methodLink RX8 46 yX8_of, Cond.instanceMethod yX8_of, Cond.selects RX8 yX8_of yX8_of, Cond.code yX8_of cX8_of 3 (some .int), Cond.methodLink RX8 43 yX8_record, Cond.instanceMethod yX8_record, Cond.selects RX8 yX8_record yX8_record, Cond.code yX8_record cX8_record 2 none]
def wsX8_pour_r2 : List Cond := [Cond.fieldLink RX8 35 "ShirtButtonsModel" "states" "I", Cond.fieldLink RX8 13 "ShirtButtonsModel" "history" "[I", Cond.methodLink RX8 82 yX8_toHopper, Cond.instanceMethod yX8_toHopper, Cond.selects RX8 yX8_toHopper yX8_toHopper, Cond.code yX8_toHopper cX8_toHopper 2 none, Cond.methodLink RX8 58 yX8_bring, Cond.instanceMethod yX8_bring, Cond.selects RX8 yX8_bring yX8_bring, Cond.code yX8_bring cX8_bring 3 none, Cond.methodLink RX8 54 yX8_put, Cond.instanceMethod yX8_put, Cond.selects RX8 yX8_put yX8_put, Cond.code yX8_put cX8_put 4 none]
def wsX8_pour : List Cond := .code yX8_pour cX8_pour 4 (some .int) :: ((wsX8_pour_r1 ++ wsX8_pour_r2) ++ wsX80)
def wsX8_order : List Cond := .code yX8_order cX8_order 4 none :: ([.fieldLink RX8 93 "ShirtButtonsModel" "lineMany" "I", .fieldLink RX8 7 "ShirtButtonsModel" "row" "[I", .fieldLink RX8 22 "ShirtButtonsModel" "line" "[I", .methodLink RX8 50 yX8_isIn, .instanceMethod yX8_isIn, .selects RX8 yX8_isIn yX8_isIn, .initialized RX8, .code yX8_isIn cX8_isIn 3 (some .boolean), .methodLink RX8 46 yX8_of, .instanceMethod yX8_of, .selects RX8 yX8_of yX8_of, .code yX8_of cX8_of 3 (some .int)] ++ wsX80)
def wsX8_spread : List Cond := .code yX8_spread cX8_spread 3 (some .int) :: ([.fieldLink RX8 22 "ShirtButtonsModel" "line" "[I", .methodLink RX8 46 yX8_of, .instanceMethod yX8_of, .selects RX8 yX8_of yX8_of, .initialized RX8, .code yX8_of cX8_of 3 (some .int), .fieldLink RX8 7 "ShirtButtonsModel" "row" "[I"] ++ wsX80)
def wsX8_firstAlike : List Cond := .code yX8_firstAlike cX8_firstAlike 4 (some .int) :: ([.fieldLink RX8 93 "ShirtButtonsModel" "lineMany" "I", .fieldLink RX8 7 "ShirtButtonsModel" "row" "[I", .methodLink RX8 96 yX8_order, .instanceMethod yX8_order, .selects RX8 yX8_order yX8_order, .initialized RX8, .code yX8_order cX8_order 4 none, .fieldLink RX8 22 "ShirtButtonsModel" "line" "[I", .methodLink RX8 50 yX8_isIn, .instanceMethod yX8_isIn, .selects RX8 yX8_isIn yX8_isIn, .code yX8_isIn cX8_isIn 3 (some .boolean), .methodLink RX8 46 yX8_of, .instanceMethod yX8_of, .selects RX8 yX8_of yX8_of, .code yX8_of cX8_of 3 (some .int), .methodLink RX8 99 yX8_spread, .instanceMethod yX8_spread, .selects RX8 yX8_spread yX8_spread, .code yX8_spread cX8_spread 3 (some .int)] ++ wsX80)
def wsX8_reasonFor_r1 : List Cond := [Cond.methodLink RX8 79 yX8_manyIn, Cond.instanceMethod yX8_manyIn, Cond.selects RX8 yX8_manyIn yX8_manyIn, Cond.initialized RX8, Cond.code yX8_manyIn cX8_manyIn 4 (some .int), Cond.fieldLink RX8 7 "ShirtButtonsModel" "row" "[I", Cond.methodLink RX8 50 yX8_isIn, Cond.instanceMethod yX8_isIn, Cond.selects RX8 yX8_isIn yX8_isIn, Cond.code yX8_isIn cX8_isIn 3 (some .boolean), Cond.methodLink RX8 46 yX8_of, Cond.instanceMethod yX8_of, Cond.selects RX8 yX8_of yX8_of, Cond.code yX8_of cX8_of 3 (some .int), Cond.methodLink RX8 102 yX8_firstAlike, Cond.instanceMethod yX8_firstAlike, Cond.selects RX8 yX8_firstAlike yX8_firstAlike, Cond.code yX8_firstAlike cX8_firstAlike 4 (some .int), Cond.fieldLink RX8 93 "ShirtButtonsModel" "lineMany" "I", Cond.methodLink RX8 96 yX8_order, Cond.instanceMethod yX8_order, Cond.selects RX8 yX8_order yX8_order, Cond.code yX8_order cX8_order 4 none, Cond.fieldLink RX8 22 "ShirtButtonsModel" "line" "[I"]
def wsX8_reasonFor_r2 : List Cond := [Cond.methodLink RX8 99 yX8_spread, Cond.instanceMethod yX8_spread, Cond.selects RX8 yX8_spread yX8_spread, Cond.code yX8_spread cX8_spread 3 (some .int)]
def wsX8_reasonFor : List Cond := .code yX8_reasonFor cX8_reasonFor 3 (some .int) :: ((wsX8_reasonFor_r1 ++ wsX8_reasonFor_r2) ++ wsX80)
def wsX8_shirtNow_r1 : List Cond := [Cond.fieldLink RX8 22 "ShirtButtonsModel" "line" "[I", Cond.fieldLink RX8 7 "ShirtButtonsModel" "row" "[I", Cond.methodLink RX8 102 yX8_firstAlike, Cond.instanceMethod yX8_firstAlike, Cond.selects RX8 yX8_firstAlike yX8_firstAlike, Cond.initialized RX8, Cond.code yX8_firstAlike cX8_firstAlike 4 (some .int), Cond.fieldLink RX8 93 "ShirtButtonsModel" "lineMany" "I", Cond.methodLink RX8 96 yX8_order, Cond.instanceMethod yX8_order, Cond.selects RX8 yX8_order yX8_order, Cond.code yX8_order cX8_order 4 none, Cond.methodLink RX8 50 yX8_isIn, Cond.instanceMethod yX8_isIn, Cond.selects RX8 yX8_isIn yX8_isIn, Cond.code yX8_isIn cX8_isIn 3 (some .boolean), Cond.methodLink RX8 46 yX8_of, Cond.instanceMethod yX8_of, Cond.selects RX8 yX8_of yX8_of, Cond.code yX8_of cX8_of 3 (some .int), Cond.methodLink RX8 99 yX8_spread, Cond.instanceMethod yX8_spread, Cond.selects RX8 yX8_spread yX8_spread, Cond.code yX8_spread cX8_spread 3 (some .int)]
def wsX8_shirtNow_r2 : List Cond := [Cond.methodLink RX8 58 yX8_bring, Cond.instanceMethod yX8_bring, Cond.selects RX8 yX8_bring yX8_bring, Cond.code yX8_bring cX8_bring 3 none, Cond.methodLink RX8 54 yX8_put, Cond.instanceMethod yX8_put, Cond.selects RX8 yX8_put yX8_put, Cond.code yX8_put cX8_put 4 none]
def wsX8_shirtNow : List Cond := .code yX8_shirtNow cX8_shirtNow 6 (some .int) :: ((wsX8_shirtNow_r1 ++ wsX8_shirtNow_r2) ++ wsX80)
def wsX8_shirt_r1 : List Cond := [Cond.methodLink RX8 89 yX8_isBin, Cond.static yX8_isBin, Cond.initialized RX8, Cond.code yX8_isBin cX8_isBin 1 (some .boolean), Cond.methodLink RX8 31 yX8_in, Cond.static yX8_in, Cond.code yX8_in cX8_in 3 (some .boolean), Cond.methodLink RX8 105 yX8_reasonFor, Cond.instanceMethod yX8_reasonFor, Cond.selects RX8 yX8_reasonFor yX8_reasonFor, Cond.code yX8_reasonFor cX8_reasonFor 3 (some .int), Cond.methodLink RX8 79 yX8_manyIn, Cond.instanceMethod yX8_manyIn, Cond.selects RX8 yX8_manyIn yX8_manyIn, Cond.code yX8_manyIn cX8_manyIn 4 (some .int), Cond.fieldLink RX8 7 "ShirtButtonsModel" "row" "[I", Cond.methodLink RX8 50 yX8_isIn, Cond.instanceMethod yX8_isIn, Cond.selects RX8 yX8_isIn yX8_isIn, Cond.code yX8_isIn cX8_isIn 3 (some .boolean), Cond.methodLink RX8 46 yX8_of, Cond.instanceMethod yX8_of, Cond.selects RX8 yX8_of yX8_of, Cond.code yX8_of cX8_of 3 (some .int)]
def wsX8_shirt_r2 : List Cond := [Cond.methodLink RX8 102 yX8_firstAlike, Cond.instanceMethod yX8_firstAlike, Cond.selects RX8 yX8_firstAlike yX8_firstAlike, Cond.code yX8_firstAlike cX8_firstAlike 4 (some .int), Cond.fieldLink RX8 93 "ShirtButtonsModel" "lineMany" "I", Cond.methodLink RX8 96 yX8_order, Cond.instanceMethod yX8_order, Cond.selects RX8 yX8_order yX8_order, Cond.code yX8_order cX8_order 4 none, Cond.fieldLink RX8 22 "ShirtButtonsModel" "line" "[I", Cond.methodLink RX8 99 yX8_spread, Cond.instanceMethod yX8_spread, Cond.selects RX8 yX8_spread yX8_spread, Cond.code yX8_spread cX8_spread 3 (some .int), Cond.methodLink RX8 43 yX8_record, Cond.instanceMethod yX8_record, Cond.selects RX8 yX8_record yX8_record, Cond.code yX8_record cX8_record 2 none, Cond.fieldLink RX8 35 "ShirtButtonsModel" "states" "I", Cond.fieldLink RX8 13 "ShirtButtonsModel" "history" "[I", Cond.methodLink RX8 108 yX8_shirtNow, Cond.instanceMethod yX8_shirtNow, Cond.selects RX8 yX8_shirtNow yX8_shirtNow, Cond.code yX8_shirtNow cX8_shirtNow 6 (some .int)]
def wsX8_shirt_r3 : List Cond := [Cond.methodLink RX8 58 yX8_bring, Cond.instanceMethod yX8_bring, Cond.selects RX8 yX8_bring yX8_bring, Cond.code yX8_bring cX8_bring 3 none, Cond.methodLink RX8 54 yX8_put, Cond.instanceMethod yX8_put, Cond.selects RX8 yX8_put yX8_put, Cond.code yX8_put cX8_put 4 none]
def wsX8_shirt : List Cond := .code yX8_shirt cX8_shirt 4 (some .int) :: ((wsX8_shirt_r1 ++ (wsX8_shirt_r2 ++ wsX8_shirt_r3)) ++ wsX80)
def wsX8_polish : List Cond := .code yX8_polish cX8_polish 2 (some .int) :: ([.methodLink RX8 111 yX8_isButton, .instanceMethod yX8_isButton, .selects RX8 yX8_isButton yX8_isButton, .initialized RX8, .code yX8_isButton cX8_isButton 2 (some .boolean), .fieldLink RX8 7 "ShirtButtonsModel" "row" "[I", .methodLink RX8 31 yX8_in, .static yX8_in, .code yX8_in cX8_in 3 (some .boolean), .methodLink RX8 46 yX8_of, .instanceMethod yX8_of, .selects RX8 yX8_of yX8_of, .code yX8_of cX8_of 3 (some .int), .methodLink RX8 43 yX8_record, .instanceMethod yX8_record, .selects RX8 yX8_record yX8_record, .code yX8_record cX8_record 2 none, .fieldLink RX8 35 "ShirtButtonsModel" "states" "I", .fieldLink RX8 13 "ShirtButtonsModel" "history" "[I", .methodLink RX8 54 yX8_put, .instanceMethod yX8_put, .selects RX8 yX8_put yX8_put, .code yX8_put cX8_put 4 none] ++ wsX80)
def wsX8_maySet : List Cond := .code yX8_maySet cX8_maySet 2 (some .boolean) :: ([.methodLink RX8 31 yX8_in, .static yX8_in, .initialized RX8, .code yX8_in cX8_in 3 (some .boolean)])
def wsX8_areMeshes : List Cond := .code yX8_areMeshes cX8_areMeshes 6 (some .boolean) :: ([.fieldLink RX8 7 "ShirtButtonsModel" "row" "[I"] ++ wsX80)
def wsX8_set : List Cond := .code yX8_set cX8_set 4 (some .int) :: ([.fieldLink RX8 7 "ShirtButtonsModel" "row" "[I", .methodLink RX8 31 yX8_in, .static yX8_in, .initialized RX8, .code yX8_in cX8_in 3 (some .boolean), .methodLink RX8 114 yX8_maySet, .static yX8_maySet, .code yX8_maySet cX8_maySet 2 (some .boolean), .methodLink RX8 117 yX8_areMeshes, .instanceMethod yX8_areMeshes, .selects RX8 yX8_areMeshes yX8_areMeshes, .code yX8_areMeshes cX8_areMeshes 6 (some .boolean), .methodLink RX8 43 yX8_record, .instanceMethod yX8_record, .selects RX8 yX8_record yX8_record, .code yX8_record cX8_record 2 none, .fieldLink RX8 35 "ShirtButtonsModel" "states" "I", .fieldLink RX8 13 "ShirtButtonsModel" "history" "[I"] ++ wsX80)
def wsX8_type : List Cond := .code yX8_type cX8_type 2 (some .int) :: ([.fieldLink RX8 120 "ShirtButtonsModel" "length" "I", .fieldLink RX8 25 "ShirtButtonsModel" "text" "[I"] ++ wsX80)
def wsX8_clearText : List Cond := .code yX8_clearText cX8_clearText 2 (some .int) :: ([.fieldLink RX8 120 "ShirtButtonsModel" "length" "I"] ++ wsX80)
def wsX8_takes : List Cond := .code yX8_takes cX8_takes 4 (some .boolean) :: ([.fieldLink RX8 123 "ShirtButtonsModel" "spot" "I", .fieldLink RX8 120 "ShirtButtonsModel" "length" "I", .fieldLink RX8 25 "ShirtButtonsModel" "text" "[I", .methodLink RX8 31 yX8_in, .static yX8_in, .initialized RX8, .code yX8_in cX8_in 3 (some .boolean)] ++ wsX80)
def wsX8_digit : List Cond := .code yX8_digit cX8_digit 1 (some .int) :: ([.fieldLink RX8 25 "ShirtButtonsModel" "text" "[I", .fieldLink RX8 123 "ShirtButtonsModel" "spot" "I"] ++ wsX80)
def wsX8_readsSize : List Cond := .code yX8_readsSize cX8_readsSize 2 (some .boolean) :: ([.fieldLink RX8 28 "ShirtButtonsModel" "read" "[I", .fieldLink RX8 132 "ShirtButtonsModel" "reads" "I", .methodLink RX8 126 yX8_takes, .instanceMethod yX8_takes, .selects RX8 yX8_takes yX8_takes, .initialized RX8, .code yX8_takes cX8_takes 4 (some .boolean), .fieldLink RX8 123 "ShirtButtonsModel" "spot" "I", .fieldLink RX8 120 "ShirtButtonsModel" "length" "I", .fieldLink RX8 25 "ShirtButtonsModel" "text" "[I", .methodLink RX8 31 yX8_in, .static yX8_in, .code yX8_in cX8_in 3 (some .boolean), .methodLink RX8 129 yX8_digit, .instanceMethod yX8_digit, .selects RX8 yX8_digit yX8_digit, .code yX8_digit cX8_digit 1 (some .int)] ++ wsX80)
def wsX8_readsDigit : List Cond := .code yX8_readsDigit cX8_readsDigit 4 (some .boolean) :: ([.fieldLink RX8 28 "ShirtButtonsModel" "read" "[I", .fieldLink RX8 132 "ShirtButtonsModel" "reads" "I", .methodLink RX8 126 yX8_takes, .instanceMethod yX8_takes, .selects RX8 yX8_takes yX8_takes, .initialized RX8, .code yX8_takes cX8_takes 4 (some .boolean), .fieldLink RX8 123 "ShirtButtonsModel" "spot" "I", .fieldLink RX8 120 "ShirtButtonsModel" "length" "I", .fieldLink RX8 25 "ShirtButtonsModel" "text" "[I", .methodLink RX8 31 yX8_in, .static yX8_in, .code yX8_in cX8_in 3 (some .boolean), .methodLink RX8 129 yX8_digit, .instanceMethod yX8_digit, .selects RX8 yX8_digit yX8_digit, .code yX8_digit cX8_digit 1 (some .int)] ++ wsX80)
def wsX8_readsButton_r1 : List Cond := [Cond.fieldLink RX8 28 "ShirtButtonsModel" "read" "[I", Cond.fieldLink RX8 132 "ShirtButtonsModel" "reads" "I", Cond.methodLink RX8 126 yX8_takes, Cond.instanceMethod yX8_takes, Cond.selects RX8 yX8_takes yX8_takes, Cond.initialized RX8, Cond.code yX8_takes cX8_takes 4 (some .boolean), Cond.fieldLink RX8 123 "ShirtButtonsModel" "spot" "I", Cond.fieldLink RX8 120 "ShirtButtonsModel" "length" "I", Cond.fieldLink RX8 25 "ShirtButtonsModel" "text" "[I", Cond.methodLink RX8 31 yX8_in, Cond.static yX8_in, Cond.code yX8_in cX8_in 3 (some .boolean), Cond.methodLink RX8 129 yX8_digit, Cond.instanceMethod yX8_digit, Cond.selects RX8 yX8_digit yX8_digit, Cond.code yX8_digit cX8_digit 1 (some .int), Cond.methodLink RX8 135 yX8_readsSize, Cond.instanceMethod yX8_readsSize, Cond.selects RX8 yX8_readsSize yX8_readsSize, Cond.code yX8_readsSize cX8_readsSize 2 (some .boolean), Cond.methodLink RX8 139 yX8_readsDigit, Cond.instanceMethod yX8_readsDigit, Cond.selects RX8 yX8_readsDigit yX8_readsDigit]
def wsX8_readsButton_r2 : List Cond := [Cond.code yX8_readsDigit cX8_readsDigit 4 (some .boolean)]
def wsX8_readsButton : List Cond := .code yX8_readsButton cX8_readsButton 2 (some .boolean) :: ((wsX8_readsButton_r1 ++ wsX8_readsButton_r2) ++ wsX80)
def wsX8_areButtons_r1 : List Cond := [Cond.fieldLink RX8 123 "ShirtButtonsModel" "spot" "I", Cond.fieldLink RX8 132 "ShirtButtonsModel" "reads" "I", Cond.fieldLink RX8 120 "ShirtButtonsModel" "length" "I", Cond.methodLink RX8 142 yX8_readsButton, Cond.instanceMethod yX8_readsButton, Cond.selects RX8 yX8_readsButton yX8_readsButton, Cond.initialized RX8, Cond.code yX8_readsButton cX8_readsButton 2 (some .boolean), Cond.fieldLink RX8 28 "ShirtButtonsModel" "read" "[I", Cond.methodLink RX8 126 yX8_takes, Cond.instanceMethod yX8_takes, Cond.selects RX8 yX8_takes yX8_takes, Cond.code yX8_takes cX8_takes 4 (some .boolean), Cond.fieldLink RX8 25 "ShirtButtonsModel" "text" "[I", Cond.methodLink RX8 31 yX8_in, Cond.static yX8_in, Cond.code yX8_in cX8_in 3 (some .boolean), Cond.methodLink RX8 129 yX8_digit, Cond.instanceMethod yX8_digit, Cond.selects RX8 yX8_digit yX8_digit, Cond.code yX8_digit cX8_digit 1 (some .int), Cond.methodLink RX8 135 yX8_readsSize, Cond.instanceMethod yX8_readsSize, Cond.selects RX8 yX8_readsSize yX8_readsSize]
def wsX8_areButtons_r2 : List Cond := [Cond.code yX8_readsSize cX8_readsSize 2 (some .boolean), Cond.methodLink RX8 139 yX8_readsDigit, Cond.instanceMethod yX8_readsDigit, Cond.selects RX8 yX8_readsDigit yX8_readsDigit, Cond.code yX8_readsDigit cX8_readsDigit 4 (some .boolean)]
def wsX8_areButtons : List Cond := .code yX8_areButtons cX8_areButtons 2 (some .boolean) :: ((wsX8_areButtons_r1 ++ wsX8_areButtons_r2) ++ wsX80)
def wsX8_come : List Cond := .code yX8_come cX8_come 4 none :: ([.fieldLink RX8 7 "ShirtButtonsModel" "row" "[I", .fieldLink RX8 28 "ShirtButtonsModel" "read" "[I", .methodLink RX8 54 yX8_put, .instanceMethod yX8_put, .selects RX8 yX8_put yX8_put, .initialized RX8, .code yX8_put cX8_put 4 none, .methodLink RX8 82 yX8_toHopper, .instanceMethod yX8_toHopper, .selects RX8 yX8_toHopper yX8_toHopper, .code yX8_toHopper cX8_toHopper 2 none, .methodLink RX8 58 yX8_bring, .instanceMethod yX8_bring, .selects RX8 yX8_bring yX8_bring, .code yX8_bring cX8_bring 3 none] ++ wsX80)
def wsX8_read_r1 : List Cond := [Cond.fieldLink RX8 123 "ShirtButtonsModel" "spot" "I", Cond.fieldLink RX8 7 "ShirtButtonsModel" "row" "[I", Cond.fieldLink RX8 132 "ShirtButtonsModel" "reads" "I", Cond.methodLink RX8 145 yX8_areButtons, Cond.instanceMethod yX8_areButtons, Cond.selects RX8 yX8_areButtons yX8_areButtons, Cond.initialized RX8, Cond.code yX8_areButtons cX8_areButtons 2 (some .boolean), Cond.fieldLink RX8 120 "ShirtButtonsModel" "length" "I", Cond.methodLink RX8 142 yX8_readsButton, Cond.instanceMethod yX8_readsButton, Cond.selects RX8 yX8_readsButton yX8_readsButton, Cond.code yX8_readsButton cX8_readsButton 2 (some .boolean), Cond.fieldLink RX8 28 "ShirtButtonsModel" "read" "[I", Cond.methodLink RX8 126 yX8_takes, Cond.instanceMethod yX8_takes, Cond.selects RX8 yX8_takes yX8_takes, Cond.code yX8_takes cX8_takes 4 (some .boolean), Cond.fieldLink RX8 25 "ShirtButtonsModel" "text" "[I", Cond.methodLink RX8 31 yX8_in, Cond.static yX8_in, Cond.code yX8_in cX8_in 3 (some .boolean), Cond.methodLink RX8 129 yX8_digit, Cond.instanceMethod yX8_digit]
def wsX8_read_r2 : List Cond := [Cond.selects RX8 yX8_digit yX8_digit, Cond.code yX8_digit cX8_digit 1 (some .int), Cond.methodLink RX8 135 yX8_readsSize, Cond.instanceMethod yX8_readsSize, Cond.selects RX8 yX8_readsSize yX8_readsSize, Cond.code yX8_readsSize cX8_readsSize 2 (some .boolean), Cond.methodLink RX8 139 yX8_readsDigit, Cond.instanceMethod yX8_readsDigit, Cond.selects RX8 yX8_readsDigit yX8_readsDigit, Cond.code yX8_readsDigit cX8_readsDigit 4 (some .boolean), Cond.methodLink RX8 43 yX8_record, Cond.instanceMethod yX8_record, Cond.selects RX8 yX8_record yX8_record, Cond.code yX8_record cX8_record 2 none, Cond.fieldLink RX8 35 "ShirtButtonsModel" "states" "I", Cond.fieldLink RX8 13 "ShirtButtonsModel" "history" "[I", Cond.methodLink RX8 148 yX8_come, Cond.instanceMethod yX8_come, Cond.selects RX8 yX8_come yX8_come, Cond.code yX8_come cX8_come 4 none, Cond.methodLink RX8 54 yX8_put, Cond.instanceMethod yX8_put, Cond.selects RX8 yX8_put yX8_put, Cond.code yX8_put cX8_put 4 none]
def wsX8_read_r3 : List Cond := [Cond.methodLink RX8 82 yX8_toHopper, Cond.instanceMethod yX8_toHopper, Cond.selects RX8 yX8_toHopper yX8_toHopper, Cond.code yX8_toHopper cX8_toHopper 2 none, Cond.methodLink RX8 58 yX8_bring, Cond.instanceMethod yX8_bring, Cond.selects RX8 yX8_bring yX8_bring, Cond.code yX8_bring cX8_bring 3 none]
def wsX8_read : List Cond := .code yX8_read cX8_read 2 (some .int) :: ((wsX8_read_r1 ++ (wsX8_read_r2 ++ wsX8_read_r3)) ++ wsX80)
def wsX8_rankInHopper : List Cond := .code yX8_rankInHopper cX8_rankInHopper 4 (some .int) :: ([.fieldLink RX8 7 "ShirtButtonsModel" "row" "[I"] ++ wsX80)
def wsX8_button : List Cond := .code yX8_button cX8_button 3 (some .int) :: ([.methodLink RX8 111 yX8_isButton, .instanceMethod yX8_isButton, .selects RX8 yX8_isButton yX8_isButton, .initialized RX8, .code yX8_isButton cX8_isButton 2 (some .boolean), .fieldLink RX8 7 "ShirtButtonsModel" "row" "[I", .methodLink RX8 31 yX8_in, .static yX8_in, .code yX8_in cX8_in 3 (some .boolean), .methodLink RX8 46 yX8_of, .instanceMethod yX8_of, .selects RX8 yX8_of yX8_of, .code yX8_of cX8_of 3 (some .int), .methodLink RX8 151 yX8_rankInHopper, .instanceMethod yX8_rankInHopper, .selects RX8 yX8_rankInHopper yX8_rankInHopper, .code yX8_rankInHopper cX8_rankInHopper 4 (some .int)] ++ wsX80)
def wsX8_inBin : List Cond := .code yX8_inBin cX8_inBin 3 (some .int) :: ([.fieldLink RX8 93 "ShirtButtonsModel" "lineMany" "I", .fieldLink RX8 22 "ShirtButtonsModel" "line" "[I", .methodLink RX8 89 yX8_isBin, .static yX8_isBin, .initialized RX8, .code yX8_isBin cX8_isBin 1 (some .boolean), .methodLink RX8 31 yX8_in, .static yX8_in, .code yX8_in cX8_in 3 (some .boolean), .methodLink RX8 96 yX8_order, .instanceMethod yX8_order, .selects RX8 yX8_order yX8_order, .code yX8_order cX8_order 4 none, .fieldLink RX8 7 "ShirtButtonsModel" "row" "[I", .methodLink RX8 50 yX8_isIn, .instanceMethod yX8_isIn, .selects RX8 yX8_isIn yX8_isIn, .code yX8_isIn cX8_isIn 3 (some .boolean), .methodLink RX8 46 yX8_of, .instanceMethod yX8_of, .selects RX8 yX8_of yX8_of, .code yX8_of cX8_of 3 (some .int)] ++ wsX80)
def wsX8_sumOf : List Cond := .code yX8_sumOf cX8_sumOf 4 (some .int) :: ([.fieldLink RX8 93 "ShirtButtonsModel" "lineMany" "I", .fieldLink RX8 22 "ShirtButtonsModel" "line" "[I", .methodLink RX8 96 yX8_order, .instanceMethod yX8_order, .selects RX8 yX8_order yX8_order, .initialized RX8, .code yX8_order cX8_order 4 none, .fieldLink RX8 7 "ShirtButtonsModel" "row" "[I", .methodLink RX8 50 yX8_isIn, .instanceMethod yX8_isIn, .selects RX8 yX8_isIn yX8_isIn, .code yX8_isIn cX8_isIn 3 (some .boolean), .methodLink RX8 46 yX8_of, .instanceMethod yX8_of, .selects RX8 yX8_of yX8_of, .code yX8_of cX8_of 3 (some .int)] ++ wsX80)
def wsX8_mostAlike : List Cond := .code yX8_mostAlike cX8_mostAlike 4 (some .int) :: ([.methodLink RX8 102 yX8_firstAlike, .instanceMethod yX8_firstAlike, .selects RX8 yX8_firstAlike yX8_firstAlike, .initialized RX8, .code yX8_firstAlike cX8_firstAlike 4 (some .int), .fieldLink RX8 93 "ShirtButtonsModel" "lineMany" "I", .fieldLink RX8 7 "ShirtButtonsModel" "row" "[I", .methodLink RX8 96 yX8_order, .instanceMethod yX8_order, .selects RX8 yX8_order yX8_order, .code yX8_order cX8_order 4 none, .fieldLink RX8 22 "ShirtButtonsModel" "line" "[I", .methodLink RX8 50 yX8_isIn, .instanceMethod yX8_isIn, .selects RX8 yX8_isIn yX8_isIn, .code yX8_isIn cX8_isIn 3 (some .boolean), .methodLink RX8 46 yX8_of, .instanceMethod yX8_of, .selects RX8 yX8_of yX8_of, .code yX8_of cX8_of 3 (some .int), .methodLink RX8 99 yX8_spread, .instanceMethod yX8_spread, .selects RX8 yX8_spread yX8_spread, .code yX8_spread cX8_spread 3 (some .int)] ++ wsX80)
def wsX8_spreadOf : List Cond := .code yX8_spreadOf cX8_spreadOf 2 (some .int) :: ([.fieldLink RX8 93 "ShirtButtonsModel" "lineMany" "I", .methodLink RX8 96 yX8_order, .instanceMethod yX8_order, .selects RX8 yX8_order yX8_order, .initialized RX8, .code yX8_order cX8_order 4 none, .fieldLink RX8 7 "ShirtButtonsModel" "row" "[I", .fieldLink RX8 22 "ShirtButtonsModel" "line" "[I", .methodLink RX8 50 yX8_isIn, .instanceMethod yX8_isIn, .selects RX8 yX8_isIn yX8_isIn, .code yX8_isIn cX8_isIn 3 (some .boolean), .methodLink RX8 46 yX8_of, .instanceMethod yX8_of, .selects RX8 yX8_of yX8_of, .code yX8_of cX8_of 3 (some .int), .methodLink RX8 99 yX8_spread, .instanceMethod yX8_spread, .selects RX8 yX8_spread yX8_spread, .code yX8_spread cX8_spread 3 (some .int)] ++ wsX80)
def wsX8_bin_r1 : List Cond := [Cond.fieldLink RX8 7 "ShirtButtonsModel" "row" "[I", Cond.methodLink RX8 89 yX8_isBin, Cond.static yX8_isBin, Cond.initialized RX8, Cond.code yX8_isBin cX8_isBin 1 (some .boolean), Cond.methodLink RX8 31 yX8_in, Cond.static yX8_in, Cond.code yX8_in cX8_in 3 (some .boolean), Cond.methodLink RX8 79 yX8_manyIn, Cond.instanceMethod yX8_manyIn, Cond.selects RX8 yX8_manyIn yX8_manyIn, Cond.code yX8_manyIn cX8_manyIn 4 (some .int), Cond.methodLink RX8 50 yX8_isIn, Cond.instanceMethod yX8_isIn, Cond.selects RX8 yX8_isIn yX8_isIn, Cond.code yX8_isIn cX8_isIn 3 (some .boolean), Cond.methodLink RX8 46 yX8_of, Cond.instanceMethod yX8_of, Cond.selects RX8 yX8_of yX8_of, Cond.code yX8_of cX8_of 3 (some .int), Cond.methodLink RX8 154 yX8_sumOf, Cond.instanceMethod yX8_sumOf, Cond.selects RX8 yX8_sumOf yX8_sumOf, Cond.code yX8_sumOf cX8_sumOf 4 (some .int)]
def wsX8_bin_r2 : List Cond := [Cond.fieldLink RX8 93 "ShirtButtonsModel" "lineMany" "I", Cond.fieldLink RX8 22 "ShirtButtonsModel" "line" "[I", Cond.methodLink RX8 96 yX8_order, Cond.instanceMethod yX8_order, Cond.selects RX8 yX8_order yX8_order, Cond.code yX8_order cX8_order 4 none, Cond.methodLink RX8 157 yX8_mostAlike, Cond.instanceMethod yX8_mostAlike, Cond.selects RX8 yX8_mostAlike yX8_mostAlike, Cond.code yX8_mostAlike cX8_mostAlike 4 (some .int), Cond.methodLink RX8 102 yX8_firstAlike, Cond.instanceMethod yX8_firstAlike, Cond.selects RX8 yX8_firstAlike yX8_firstAlike, Cond.code yX8_firstAlike cX8_firstAlike 4 (some .int), Cond.methodLink RX8 99 yX8_spread, Cond.instanceMethod yX8_spread, Cond.selects RX8 yX8_spread yX8_spread, Cond.code yX8_spread cX8_spread 3 (some .int), Cond.methodLink RX8 160 yX8_spreadOf, Cond.instanceMethod yX8_spreadOf, Cond.selects RX8 yX8_spreadOf yX8_spreadOf, Cond.code yX8_spreadOf cX8_spreadOf 2 (some .int)]
def wsX8_bin : List Cond := .code yX8_bin cX8_bin 4 (some .int) :: ((wsX8_bin_r1 ++ wsX8_bin_r2) ++ wsX80)
def wsX8_chips : List Cond := .code yX8_chips cX8_chips 3 (some .int) :: ([.fieldLink RX8 7 "ShirtButtonsModel" "row" "[I", .methodLink RX8 46 yX8_of, .instanceMethod yX8_of, .selects RX8 yX8_of yX8_of, .initialized RX8, .code yX8_of cX8_of 3 (some .int)] ++ wsX80)
def wsX8_total : List Cond := .code yX8_total cX8_total 2 (some .int) :: ([.fieldLink RX8 7 "ShirtButtonsModel" "row" "[I", .fieldLink RX8 35 "ShirtButtonsModel" "states" "I", .fieldLink RX8 120 "ShirtButtonsModel" "length" "I", .methodLink RX8 31 yX8_in, .static yX8_in, .initialized RX8, .code yX8_in cX8_in 3 (some .boolean), .methodLink RX8 69 yX8_at, .instanceMethod yX8_at, .selects RX8 yX8_at yX8_at, .code yX8_at cX8_at 4 (some .int), .methodLink RX8 46 yX8_of, .instanceMethod yX8_of, .selects RX8 yX8_of yX8_of, .code yX8_of cX8_of 3 (some .int), .methodLink RX8 163 yX8_chips, .instanceMethod yX8_chips, .selects RX8 yX8_chips yX8_chips, .code yX8_chips cX8_chips 3 (some .int)] ++ wsX80)
def wsX8_goesTo_r1 : List Cond := [Cond.fieldLink RX8 7 "ShirtButtonsModel" "row" "[I", Cond.methodLink RX8 111 yX8_isButton, Cond.instanceMethod yX8_isButton, Cond.selects RX8 yX8_isButton yX8_isButton, Cond.initialized RX8, Cond.code yX8_isButton cX8_isButton 2 (some .boolean), Cond.methodLink RX8 31 yX8_in, Cond.static yX8_in, Cond.code yX8_in cX8_in 3 (some .boolean), Cond.methodLink RX8 46 yX8_of, Cond.instanceMethod yX8_of, Cond.selects RX8 yX8_of yX8_of, Cond.code yX8_of cX8_of 3 (some .int), Cond.methodLink RX8 66 yX8_placeFor, Cond.instanceMethod yX8_placeFor, Cond.selects RX8 yX8_placeFor yX8_placeFor, Cond.code yX8_placeFor cX8_placeFor 2 (some .int), Cond.methodLink RX8 69 yX8_at, Cond.instanceMethod yX8_at, Cond.selects RX8 yX8_at yX8_at, Cond.code yX8_at cX8_at 4 (some .int), Cond.methodLink RX8 76 yX8_binOf, Cond.instanceMethod yX8_binOf, Cond.selects RX8 yX8_binOf yX8_binOf]
def wsX8_goesTo_r2 : List Cond := [Cond.code yX8_binOf cX8_binOf 2 (some .int), Cond.methodLink RX8 62 yX8_classOf, Cond.instanceMethod yX8_classOf, Cond.selects RX8 yX8_classOf yX8_classOf, Cond.code yX8_classOf cX8_classOf 3 (some .int), Cond.methodLink RX8 79 yX8_manyIn, Cond.instanceMethod yX8_manyIn, Cond.selects RX8 yX8_manyIn yX8_manyIn, Cond.code yX8_manyIn cX8_manyIn 4 (some .int), Cond.methodLink RX8 50 yX8_isIn, Cond.instanceMethod yX8_isIn, Cond.selects RX8 yX8_isIn yX8_isIn, Cond.code yX8_isIn cX8_isIn 3 (some .boolean)]
def wsX8_goesTo : List Cond := .code yX8_goesTo cX8_goesTo 3 (some .int) :: ((wsX8_goesTo_r1 ++ wsX8_goesTo_r2) ++ wsX80)
def wsX8_reason_r1 : List Cond := [Cond.methodLink RX8 89 yX8_isBin, Cond.static yX8_isBin, Cond.initialized RX8, Cond.code yX8_isBin cX8_isBin 1 (some .boolean), Cond.methodLink RX8 31 yX8_in, Cond.static yX8_in, Cond.code yX8_in cX8_in 3 (some .boolean), Cond.methodLink RX8 105 yX8_reasonFor, Cond.instanceMethod yX8_reasonFor, Cond.selects RX8 yX8_reasonFor yX8_reasonFor, Cond.code yX8_reasonFor cX8_reasonFor 3 (some .int), Cond.methodLink RX8 79 yX8_manyIn, Cond.instanceMethod yX8_manyIn, Cond.selects RX8 yX8_manyIn yX8_manyIn, Cond.code yX8_manyIn cX8_manyIn 4 (some .int), Cond.fieldLink RX8 7 "ShirtButtonsModel" "row" "[I", Cond.methodLink RX8 50 yX8_isIn, Cond.instanceMethod yX8_isIn, Cond.selects RX8 yX8_isIn yX8_isIn, Cond.code yX8_isIn cX8_isIn 3 (some .boolean), Cond.methodLink RX8 46 yX8_of, Cond.instanceMethod yX8_of, Cond.selects RX8 yX8_of yX8_of, Cond.code yX8_of cX8_of 3 (some .int)]
def wsX8_reason_r2 : List Cond := [Cond.methodLink RX8 102 yX8_firstAlike, Cond.instanceMethod yX8_firstAlike, Cond.selects RX8 yX8_firstAlike yX8_firstAlike, Cond.code yX8_firstAlike cX8_firstAlike 4 (some .int), Cond.fieldLink RX8 93 "ShirtButtonsModel" "lineMany" "I", Cond.methodLink RX8 96 yX8_order, Cond.instanceMethod yX8_order, Cond.selects RX8 yX8_order yX8_order, Cond.code yX8_order cX8_order 4 none, Cond.fieldLink RX8 22 "ShirtButtonsModel" "line" "[I", Cond.methodLink RX8 99 yX8_spread, Cond.instanceMethod yX8_spread, Cond.selects RX8 yX8_spread yX8_spread, Cond.code yX8_spread cX8_spread 3 (some .int)]
def wsX8_reason : List Cond := .code yX8_reason cX8_reason 3 (some .int) :: ((wsX8_reason_r1 ++ wsX8_reason_r2) ++ wsX80)
def wsX8_leastSpread_r1 : List Cond := [Cond.fieldLink RX8 93 "ShirtButtonsModel" "lineMany" "I", Cond.methodLink RX8 89 yX8_isBin, Cond.static yX8_isBin, Cond.initialized RX8, Cond.code yX8_isBin cX8_isBin 1 (some .boolean), Cond.methodLink RX8 31 yX8_in, Cond.static yX8_in, Cond.code yX8_in cX8_in 3 (some .boolean), Cond.methodLink RX8 96 yX8_order, Cond.instanceMethod yX8_order, Cond.selects RX8 yX8_order yX8_order, Cond.code yX8_order cX8_order 4 none, Cond.fieldLink RX8 7 "ShirtButtonsModel" "row" "[I", Cond.fieldLink RX8 22 "ShirtButtonsModel" "line" "[I", Cond.methodLink RX8 50 yX8_isIn, Cond.instanceMethod yX8_isIn, Cond.selects RX8 yX8_isIn yX8_isIn, Cond.code yX8_isIn cX8_isIn 3 (some .boolean), Cond.methodLink RX8 46 yX8_of, Cond.instanceMethod yX8_of, Cond.selects RX8 yX8_of yX8_of, Cond.code yX8_of cX8_of 3 (some .int), Cond.methodLink RX8 99 yX8_spread, Cond.instanceMethod yX8_spread]
def wsX8_leastSpread_r2 : List Cond := [Cond.selects RX8 yX8_spread yX8_spread, Cond.code yX8_spread cX8_spread 3 (some .int)]
def wsX8_leastSpread : List Cond := .code yX8_leastSpread cX8_leastSpread 5 (some .int) :: ((wsX8_leastSpread_r1 ++ wsX8_leastSpread_r2) ++ wsX80)
def wsX8_shirts_r1 : List Cond := [Cond.fieldLink RX8 7 "ShirtButtonsModel" "row" "[I", Cond.fieldLink RX8 19 "ShirtButtonsModel" "aside" "[I", Cond.methodLink RX8 31 yX8_in, Cond.static yX8_in, Cond.initialized RX8, Cond.code yX8_in cX8_in 3 (some .boolean), Cond.methodLink RX8 166 yX8_putAside, Cond.instanceMethod yX8_putAside, Cond.selects RX8 yX8_putAside yX8_putAside, Cond.code yX8_putAside cX8_putAside 2 none, Cond.methodLink RX8 102 yX8_firstAlike, Cond.instanceMethod yX8_firstAlike, Cond.selects RX8 yX8_firstAlike yX8_firstAlike, Cond.code yX8_firstAlike cX8_firstAlike 4 (some .int), Cond.fieldLink RX8 93 "ShirtButtonsModel" "lineMany" "I", Cond.methodLink RX8 96 yX8_order, Cond.instanceMethod yX8_order, Cond.selects RX8 yX8_order yX8_order, Cond.code yX8_order cX8_order 4 none, Cond.fieldLink RX8 22 "ShirtButtonsModel" "line" "[I", Cond.methodLink RX8 50 yX8_isIn, Cond.instanceMethod yX8_isIn, Cond.selects RX8 yX8_isIn yX8_isIn, Cond.code yX8_isIn cX8_isIn 3 (some .boolean)]
def wsX8_shirts_r2 : List Cond := [Cond.methodLink RX8 46 yX8_of, Cond.instanceMethod yX8_of, Cond.selects RX8 yX8_of yX8_of, Cond.code yX8_of cX8_of 3 (some .int), Cond.methodLink RX8 99 yX8_spread, Cond.instanceMethod yX8_spread, Cond.selects RX8 yX8_spread yX8_spread, Cond.code yX8_spread cX8_spread 3 (some .int), Cond.methodLink RX8 108 yX8_shirtNow, Cond.instanceMethod yX8_shirtNow, Cond.selects RX8 yX8_shirtNow yX8_shirtNow, Cond.code yX8_shirtNow cX8_shirtNow 6 (some .int), Cond.methodLink RX8 58 yX8_bring, Cond.instanceMethod yX8_bring, Cond.selects RX8 yX8_bring yX8_bring, Cond.code yX8_bring cX8_bring 3 none, Cond.methodLink RX8 54 yX8_put, Cond.instanceMethod yX8_put, Cond.selects RX8 yX8_put yX8_put, Cond.code yX8_put cX8_put 4 none, Cond.methodLink RX8 169 yX8_putBack, Cond.instanceMethod yX8_putBack, Cond.selects RX8 yX8_putBack yX8_putBack, Cond.code yX8_putBack cX8_putBack 2 none]
def wsX8_shirts : List Cond := .code yX8_shirts cX8_shirts 4 (some .int) :: ((wsX8_shirts_r1 ++ wsX8_shirts_r2) ++ wsX80)
def wsX8_ifMesh_r1 : List Cond := [Cond.fieldLink RX8 7 "ShirtButtonsModel" "row" "[I", Cond.methodLink RX8 31 yX8_in, Cond.static yX8_in, Cond.initialized RX8, Cond.code yX8_in cX8_in 3 (some .boolean), Cond.methodLink RX8 117 yX8_areMeshes, Cond.instanceMethod yX8_areMeshes, Cond.selects RX8 yX8_areMeshes yX8_areMeshes, Cond.code yX8_areMeshes cX8_areMeshes 6 (some .boolean), Cond.methodLink RX8 166 yX8_putAside, Cond.instanceMethod yX8_putAside, Cond.selects RX8 yX8_putAside yX8_putAside, Cond.code yX8_putAside cX8_putAside 2 none, Cond.fieldLink RX8 19 "ShirtButtonsModel" "aside" "[I", Cond.methodLink RX8 86 yX8_sortOne, Cond.instanceMethod yX8_sortOne, Cond.selects RX8 yX8_sortOne yX8_sortOne, Cond.code yX8_sortOne cX8_sortOne 4 none, Cond.methodLink RX8 46 yX8_of, Cond.instanceMethod yX8_of, Cond.selects RX8 yX8_of yX8_of, Cond.code yX8_of cX8_of 3 (some .int), Cond.methodLink RX8 54 yX8_put, Cond.instanceMethod yX8_put]
def wsX8_ifMesh_r2 : List Cond := [Cond.selects RX8 yX8_put yX8_put, Cond.code yX8_put cX8_put 4 none, Cond.methodLink RX8 66 yX8_placeFor, Cond.instanceMethod yX8_placeFor, Cond.selects RX8 yX8_placeFor yX8_placeFor, Cond.code yX8_placeFor cX8_placeFor 2 (some .int), Cond.methodLink RX8 58 yX8_bring, Cond.instanceMethod yX8_bring, Cond.selects RX8 yX8_bring yX8_bring, Cond.code yX8_bring cX8_bring 3 none, Cond.methodLink RX8 69 yX8_at, Cond.instanceMethod yX8_at, Cond.selects RX8 yX8_at yX8_at, Cond.code yX8_at cX8_at 4 (some .int), Cond.methodLink RX8 72 yX8_letGoNow, Cond.instanceMethod yX8_letGoNow, Cond.selects RX8 yX8_letGoNow yX8_letGoNow, Cond.code yX8_letGoNow cX8_letGoNow 3 (some .int), Cond.methodLink RX8 62 yX8_classOf, Cond.instanceMethod yX8_classOf, Cond.selects RX8 yX8_classOf yX8_classOf, Cond.code yX8_classOf cX8_classOf 3 (some .int), Cond.methodLink RX8 76 yX8_binOf, Cond.instanceMethod yX8_binOf]
def wsX8_ifMesh_r3 : List Cond := [Cond.selects RX8 yX8_binOf yX8_binOf, Cond.code yX8_binOf cX8_binOf 2 (some .int), Cond.methodLink RX8 79 yX8_manyIn, Cond.instanceMethod yX8_manyIn, Cond.selects RX8 yX8_manyIn yX8_manyIn, Cond.code yX8_manyIn cX8_manyIn 4 (some .int), Cond.methodLink RX8 50 yX8_isIn, Cond.instanceMethod yX8_isIn, Cond.selects RX8 yX8_isIn yX8_isIn, Cond.code yX8_isIn cX8_isIn 3 (some .boolean), Cond.methodLink RX8 82 yX8_toHopper, Cond.instanceMethod yX8_toHopper, Cond.selects RX8 yX8_toHopper yX8_toHopper, Cond.code yX8_toHopper cX8_toHopper 2 none, Cond.methodLink RX8 169 yX8_putBack, Cond.instanceMethod yX8_putBack, Cond.selects RX8 yX8_putBack yX8_putBack, Cond.code yX8_putBack cX8_putBack 2 none]
def wsX8_ifMesh : List Cond := .code yX8_ifMesh cX8_ifMesh 5 (some .int) :: ((wsX8_ifMesh_r1 ++ (wsX8_ifMesh_r2 ++ wsX8_ifMesh_r3)) ++ wsX80)
def wsJ9_max_7cf53 : List Cond := .code yJ9_max_7cf53 cJ9_max_7cf53 2 (some .int) :: ([])
def wsJ9_min_7cf53 : List Cond := .code yJ9_min_7cf53 cJ9_min_7cf53 2 (some .int) :: ([])
def wsL_law_r1 : List Cond := [Cond.classLink RL 7 RX7, Cond.instantiable RX7 8, Cond.initialized RX7, Cond.classLink RL 10 RX8, Cond.instantiable RX8 13, Cond.initialized RX8, Cond.methodLink RL 9 yX7_init, Cond.instanceMethod yX7_init, Cond.code yX7_init cX7_init 1 none, Cond.methodLink RX7 1 objectInit, Cond.instanceMethod objectInit, Cond.code objectInit ⟨#[0xb1]⟩ 1 none, Cond.classLink RX7 7 RX6, Cond.instantiable RX6 2, Cond.initialized RX6, Cond.fieldLink RX7 10 "ShirtButtons" "text" "LShirtButtons$Text;", Cond.classLink RX7 16 RX0, Cond.instantiable RX0 8, Cond.initialized RX0, Cond.fieldLink RX7 21 "ShirtButtons" "batch" "LShirtButtons$Batch;", Cond.classLink RX7 25 RX3, Cond.instantiable RX3 3, Cond.initialized RX3, Cond.fieldLink RX7 28 "ShirtButtons" "order" "LShirtButtons$Order;"]
def wsL_law_r2 : List Cond := [Cond.classLink RX7 32 RX2, Cond.instantiable RX2 2, Cond.initialized RX2, Cond.fieldLink RX7 35 "ShirtButtons" "history" "LShirtButtons$History;", Cond.classLink RX7 39 RX5, Cond.instantiable RX5 8, Cond.initialized RX5, Cond.fieldLink RX7 42 "ShirtButtons" "now" "LShirtButtons$State;", Cond.fieldLink RX7 46 "ShirtButtons" "snapshot" "LShirtButtons$State;", Cond.fieldLink RX7 49 "ShirtButtons" "trial" "LShirtButtons$State;", Cond.fieldLink RX7 52 "ShirtButtons" "hasSnapshot" "Z", Cond.instanceMethod yX6_init, Cond.code yX6_init cX6_init 1 none, Cond.methodLink RX6 3 objectInit, Cond.arrayClass .char, Cond.fieldLink RX6 9 "ShirtButtons$Text" "signs" "[C", Cond.fieldLink RX6 15 "ShirtButtons$Text" "length" "I", Cond.methodLink RX7 18 yX0_init, Cond.instanceMethod yX0_init, Cond.code yX0_init cX0_init 2 none, Cond.methodLink RX0 3 objectInit, Cond.arrayClass .int, Cond.fieldLink RX0 9 "ShirtButtons$Batch" "holes" "[I", Cond.fieldLink RX0 15 "ShirtButtons$Batch" "size" "[I"]
def wsL_law_r3 : List Cond := [Cond.fieldLink RX0 18 "ShirtButtons$Batch" "iron" "[I", Cond.fieldLink RX0 21 "ShirtButtons$Batch" "chips" "[I", Cond.fieldLink RX0 24 "ShirtButtons$Batch" "shine" "[I", Cond.fieldLink RX0 27 "ShirtButtons$Batch" "count" "I", Cond.fieldLink RX0 31 "ShirtButtons$Batch" "at" "I", Cond.fieldLink RX0 34 "ShirtButtons$Batch" "source" "LShirtButtons$Text;", Cond.instanceMethod yX3_init, Cond.code yX3_init cX3_init 1 none, Cond.methodLink RX3 3 objectInit, Cond.fieldLink RX3 9 "ShirtButtons$Order" "numbers" "[I", Cond.fieldLink RX3 15 "ShirtButtons$Order" "shine" "[I", Cond.fieldLink RX3 18 "ShirtButtons$Order" "count" "I", Cond.methodLink RX7 34 yX2_init, Cond.instanceMethod yX2_init, Cond.code yX2_init cX2_init 2 none, Cond.methodLink RX2 3 objectInit, Cond.classLink RX2 9 RX5, Cond.fieldLink RX2 11 "ShirtButtons$History" "states" "[LShirtButtons$State;", Cond.fieldLink RX2 17 "ShirtButtons$History" "count" "I", Cond.instanceMethod yX5_init, Cond.code yX5_init cX5_init 1 none, Cond.methodLink RX5 3 objectInit, Cond.classLink RX5 9 RX1, Cond.instantiable RX1 7]
def wsL_law_r4 : List Cond := [Cond.initialized RX1, Cond.fieldLink RX5 12 "ShirtButtons$State" "buttons" "LShirtButtons$Buttons;", Cond.classLink RX5 18 RX4, Cond.instantiable RX4 6, Cond.initialized RX4, Cond.fieldLink RX5 21 "ShirtButtons$State" "places" "LShirtButtons$Places;", Cond.methodLink RX5 29 ⟨"[I", "clone", "()Ljava/lang/Object;"⟩, Cond.sameMethod "[I" "java/lang/Object" "clone" "()Ljava/lang/Object;", Cond.native ⟨"java/lang/Object", "clone", "()Ljava/lang/Object;"⟩, Cond.instanceMethod ⟨"java/lang/Object", "clone", "()Ljava/lang/Object;"⟩, Cond.selects "[I" ⟨"[I", "clone", "()Ljava/lang/Object;"⟩ ⟨"java/lang/Object", "clone", "()Ljava/lang/Object;"⟩, Cond.classLink RX5 30 "[I", Cond.fieldLink RX5 34 "ShirtButtons$State" "settings" "[I", Cond.fieldLink RX5 37 "ShirtButtons$State" "shirtsMade" "I", Cond.fieldLink RX5 41 "ShirtButtons$State" "worthMade" "I", Cond.fieldLink RX5 44 "ShirtButtons$State" "sortingsDone" "I", Cond.fieldLink RX5 47 "ShirtButtons$State" "goneBack" "I", Cond.fieldLink RX5 50 "ShirtButtons$State" "rubbed" "I", Cond.instanceMethod yX1_init, Cond.code yX1_init cX1_init 1 none, Cond.methodLink RX1 3 objectInit, Cond.fieldLink RX1 9 "ShirtButtons$Buttons" "holes" "[I", Cond.fieldLink RX1 15 "ShirtButtons$Buttons" "size" "[I", Cond.fieldLink RX1 18 "ShirtButtons$Buttons" "iron" "[I"]
def wsL_law_r5 : List Cond := [Cond.fieldLink RX1 21 "ShirtButtons$Buttons" "chips" "[I", Cond.fieldLink RX1 24 "ShirtButtons$Buttons" "shine" "[I", Cond.fieldLink RX1 27 "ShirtButtons$Buttons" "sortings" "[I", Cond.fieldLink RX1 30 "ShirtButtons$Buttons" "count" "I", Cond.instanceMethod yX4_init, Cond.code yX4_init cX4_init 1 none, Cond.methodLink RX4 3 objectInit, Cond.fieldLink RX4 9 "ShirtButtons$Places" "place" "[I", Cond.fieldLink RX4 15 "ShirtButtons$Places" "binOf" "[I", Cond.fieldLink RX4 18 "ShirtButtons$Places" "shirtOf" "[I", Cond.fieldLink RX4 21 "ShirtButtons$Places" "hopper" "[I", Cond.fieldLink RX4 24 "ShirtButtons$Places" "at" "[I", Cond.fieldLink RX4 27 "ShirtButtons$Places" "inBin" "[I", Cond.methodLink RL 12 yX8_init, Cond.instanceMethod yX8_init, Cond.code yX8_init cX8_init 1 none, Cond.methodLink RX8 1 objectInit, Cond.fieldLink RX8 7 "ShirtButtonsModel" "row" "[I", Cond.fieldLink RX8 13 "ShirtButtonsModel" "history" "[I", Cond.fieldLink RX8 16 "ShirtButtonsModel" "snapshot" "[I", Cond.fieldLink RX8 19 "ShirtButtonsModel" "aside" "[I", Cond.fieldLink RX8 22 "ShirtButtonsModel" "line" "[I", Cond.fieldLink RX8 25 "ShirtButtonsModel" "text" "[I", Cond.fieldLink RX8 28 "ShirtButtonsModel" "read" "[I"]
def wsL_law_r6 : List Cond := [Cond.methodLink RL 13 yX7_read, Cond.instanceMethod yX7_read, Cond.selects RX7 yX7_read yX7_read, Cond.code yX7_read cX7_read 3 (some .int), Cond.fieldLink RX7 60 "ShirtButtons$State" "buttons" "LShirtButtons$Buttons;", Cond.fieldLink RX7 64 "ShirtButtons$Buttons" "count" "I", Cond.fieldLink RX7 70 "ShirtButtons$Batch" "count" "I", Cond.methodLink RX7 56 yX0_parse, Cond.instanceMethod yX0_parse, Cond.selects RX0 yX0_parse yX0_parse, Cond.code yX0_parse cX0_parse 2 (some .int), Cond.fieldLink RX0 42 "ShirtButtons$Text" "length" "I", Cond.methodLink RX0 38 yX0_takeButton, Cond.instanceMethod yX0_takeButton, Cond.selects RX0 yX0_takeButton yX0_takeButton, Cond.code yX0_takeButton cX0_takeButton 2 (some .boolean), Cond.methodLink RX0 51 yX0_takeDigit, Cond.instanceMethod yX0_takeDigit, Cond.selects RX0 yX0_takeDigit yX0_takeDigit, Cond.code yX0_takeDigit cX0_takeDigit 4 (some .int), Cond.fieldLink RX0 63 "ShirtButtons$Text" "signs" "[C", Cond.methodLink RX0 47 yX0_takeSign, Cond.instanceMethod yX0_takeSign, Cond.selects RX0 yX0_takeSign yX0_takeSign]
def wsL_law_r7 : List Cond := [Cond.code yX0_takeSign cX0_takeSign 2 (some .boolean), Cond.methodLink RX0 55 yX0_takeSize, Cond.instanceMethod yX0_takeSize, Cond.selects RX0 yX0_takeSize yX0_takeSize, Cond.code yX0_takeSize cX0_takeSize 3 (some .int), Cond.methodLink RX0 59 yX0_takePart, Cond.instanceMethod yX0_takePart, Cond.selects RX0 yX0_takePart yX0_takePart, Cond.code yX0_takePart cX0_takePart 2 (some .int), Cond.methodLink RX7 71 yX2_remember, Cond.instanceMethod yX2_remember, Cond.selects RX2 yX2_remember yX2_remember, Cond.code yX2_remember cX2_remember 2 none, Cond.methodLink RX2 22 yX2_dropOldest, Cond.instanceMethod yX2_dropOldest, Cond.selects RX2 yX2_dropOldest yX2_dropOldest, Cond.code yX2_dropOldest cX2_dropOldest 3 none, Cond.methodLink RX2 25 yX5_copyFrom, Cond.instanceMethod yX5_copyFrom, Cond.selects RX5 yX5_copyFrom yX5_copyFrom, Cond.code yX5_copyFrom cX5_copyFrom 2 none, Cond.fieldLink RX5 53 "ShirtButtons$Buttons" "count" "I", Cond.methodLink RX5 151 arraycopyName, Cond.native arraycopyName]
def wsL_law_r8 : List Cond := [Cond.static arraycopyName, Cond.initialized "java/lang/System", Cond.methodLink RX5 144 yX1_copyFrom, Cond.instanceMethod yX1_copyFrom, Cond.selects RX1 yX1_copyFrom yX1_copyFrom, Cond.code yX1_copyFrom cX1_copyFrom 2 none, Cond.methodLink RX1 34 arraycopyName, Cond.methodLink RX5 148 yX4_copyFrom, Cond.instanceMethod yX4_copyFrom, Cond.selects RX4 yX4_copyFrom yX4_copyFrom, Cond.code yX4_copyFrom cX4_copyFrom 3 none, Cond.methodLink RX4 34 arraycopyName, Cond.methodLink RX7 75 yX5_takeIn, Cond.instanceMethod yX5_takeIn, Cond.selects RX5 yX5_takeIn yX5_takeIn, Cond.code yX5_takeIn cX5_takeIn 4 none, Cond.fieldLink RX5 56 "ShirtButtons$Buttons" "holes" "[I", Cond.fieldLink RX5 59 "ShirtButtons$Batch" "holes" "[I", Cond.fieldLink RX5 62 "ShirtButtons$Buttons" "size" "[I", Cond.fieldLink RX5 65 "ShirtButtons$Batch" "size" "[I", Cond.fieldLink RX5 66 "ShirtButtons$Buttons" "iron" "[I", Cond.fieldLink RX5 69 "ShirtButtons$Batch" "iron" "[I", Cond.fieldLink RX5 70 "ShirtButtons$Buttons" "chips" "[I", Cond.fieldLink RX5 73 "ShirtButtons$Batch" "chips" "[I"]
def wsL_law_r9 : List Cond := [Cond.fieldLink RX5 74 "ShirtButtons$Buttons" "shine" "[I", Cond.fieldLink RX5 77 "ShirtButtons$Batch" "shine" "[I", Cond.fieldLink RX5 78 "ShirtButtons$Buttons" "sortings" "[I", Cond.methodLink RX5 81 yX4_bringToHopper, Cond.instanceMethod yX4_bringToHopper, Cond.selects RX4 yX4_bringToHopper yX4_bringToHopper, Cond.code yX4_bringToHopper cX4_bringToHopper 2 none, Cond.methodLink RX4 40 yX4_bring, Cond.instanceMethod yX4_bring, Cond.selects RX4 yX4_bring yX4_bring, Cond.code yX4_bring cX4_bring 3 none, Cond.methodLink RL 17 yX8_read, Cond.instanceMethod yX8_read, Cond.selects RX8 yX8_read yX8_read, Cond.code yX8_read cX8_read 2 (some .int), Cond.fieldLink RX8 123 "ShirtButtonsModel" "spot" "I", Cond.fieldLink RX8 132 "ShirtButtonsModel" "reads" "I", Cond.methodLink RX8 145 yX8_areButtons, Cond.instanceMethod yX8_areButtons, Cond.selects RX8 yX8_areButtons yX8_areButtons, Cond.code yX8_areButtons cX8_areButtons 2 (some .boolean), Cond.fieldLink RX8 120 "ShirtButtonsModel" "length" "I", Cond.methodLink RX8 142 yX8_readsButton, Cond.instanceMethod yX8_readsButton]
def wsL_law_r10 : List Cond := [Cond.selects RX8 yX8_readsButton yX8_readsButton, Cond.code yX8_readsButton cX8_readsButton 2 (some .boolean), Cond.methodLink RX8 126 yX8_takes, Cond.instanceMethod yX8_takes, Cond.selects RX8 yX8_takes yX8_takes, Cond.code yX8_takes cX8_takes 4 (some .boolean), Cond.methodLink RX8 31 yX8_in, Cond.static yX8_in, Cond.code yX8_in cX8_in 3 (some .boolean), Cond.methodLink RX8 129 yX8_digit, Cond.instanceMethod yX8_digit, Cond.selects RX8 yX8_digit yX8_digit, Cond.code yX8_digit cX8_digit 1 (some .int), Cond.methodLink RX8 135 yX8_readsSize, Cond.instanceMethod yX8_readsSize, Cond.selects RX8 yX8_readsSize yX8_readsSize, Cond.code yX8_readsSize cX8_readsSize 2 (some .boolean), Cond.methodLink RX8 139 yX8_readsDigit, Cond.instanceMethod yX8_readsDigit, Cond.selects RX8 yX8_readsDigit yX8_readsDigit, Cond.code yX8_readsDigit cX8_readsDigit 4 (some .boolean), Cond.methodLink RX8 43 yX8_record, Cond.instanceMethod yX8_record, Cond.selects RX8 yX8_record yX8_record]
def wsL_law_r11 : List Cond := [Cond.code yX8_record cX8_record 2 none, Cond.fieldLink RX8 35 "ShirtButtonsModel" "states" "I", Cond.methodLink RX8 148 yX8_come, Cond.instanceMethod yX8_come, Cond.selects RX8 yX8_come yX8_come, Cond.code yX8_come cX8_come 4 none, Cond.methodLink RX8 54 yX8_put, Cond.instanceMethod yX8_put, Cond.selects RX8 yX8_put yX8_put, Cond.code yX8_put cX8_put 4 none, Cond.methodLink RX8 82 yX8_toHopper, Cond.instanceMethod yX8_toHopper, Cond.selects RX8 yX8_toHopper yX8_toHopper, Cond.code yX8_toHopper cX8_toHopper 2 none, Cond.methodLink RX8 58 yX8_bring, Cond.instanceMethod yX8_bring, Cond.selects RX8 yX8_bring yX8_bring, Cond.code yX8_bring cX8_bring 3 none, Cond.methodLink RL 18 yX7_sort, Cond.instanceMethod yX7_sort, Cond.selects RX7 yX7_sort yX7_sort, Cond.code yX7_sort cX7_sort 3 (some .int), Cond.fieldLink RX7 79 "ShirtButtons$State" "places" "LShirtButtons$Places;", Cond.fieldLink RX7 83 "ShirtButtons$Places" "at" "[I"]
def wsL_law_r12 : List Cond := [Cond.methodLink RX7 89 yX5_sortFirst, Cond.instanceMethod yX5_sortFirst, Cond.selects RX5 yX5_sortFirst yX5_sortFirst, Cond.code yX5_sortFirst cX5_sortFirst 3 none, Cond.fieldLink RX5 85 "ShirtButtons$Places" "at" "[I", Cond.methodLink RX5 98 yX4_takeFirst, Cond.instanceMethod yX4_takeFirst, Cond.selects RX4 yX4_takeFirst yX4_takeFirst, Cond.code yX4_takeFirst cX4_takeFirst 2 (some .int), Cond.methodLink RX4 30 yX4_leave, Cond.instanceMethod yX4_leave, Cond.selects RX4 yX4_leave yX4_leave, Cond.code yX4_leave cX4_leave 2 none, Cond.methodLink RX5 102 yX5_placeFor, Cond.instanceMethod yX5_placeFor, Cond.selects RX5 yX5_placeFor yX5_placeFor, Cond.code yX5_placeFor cX5_placeFor 2 (some .int), Cond.fieldLink RX5 88 "ShirtButtons$Places" "inBin" "[I", Cond.methodLink RX5 91 yX5_binFor, Cond.instanceMethod yX5_binFor, Cond.selects RX5 yX5_binFor yX5_binFor, Cond.code yX5_binFor cX5_binFor 2 (some .int), Cond.methodLink RX5 95 yX5_meshClass, Cond.instanceMethod yX5_meshClass]
def wsL_law_r13 : List Cond := [Cond.selects RX5 yX5_meshClass yX5_meshClass, Cond.code yX5_meshClass cX5_meshClass 3 (some .int), Cond.methodLink RX5 105 yX4_bring, Cond.methodLink RX5 109 yX5_emptyMagnet, Cond.instanceMethod yX5_emptyMagnet, Cond.selects RX5 yX5_emptyMagnet yX5_emptyMagnet, Cond.code yX5_emptyMagnet cX5_emptyMagnet 2 none, Cond.fieldLink RX5 121 "ShirtButtons$Places" "place" "[I", Cond.methodLink RX5 124 yX4_leave, Cond.methodLink RX5 112 yX5_rub, Cond.instanceMethod yX5_rub, Cond.selects RX5 yX5_rub yX5_rub, Cond.code yX5_rub cX5_rub 2 none, Cond.methodLink RX5 118 yX1_chip, Cond.instanceMethod yX1_chip, Cond.selects RX1 yX1_chip yX1_chip, Cond.code yX1_chip cX1_chip 2 none, Cond.methodLink RX5 115 yX4_bringToBin, Cond.instanceMethod yX4_bringToBin, Cond.selects RX4 yX4_bringToBin yX4_bringToBin, Cond.code yX4_bringToBin cX4_bringToBin 3 none, Cond.methodLink RL 22 yX8_sort, Cond.instanceMethod yX8_sort, Cond.selects RX8 yX8_sort yX8_sort]
def wsL_law_r14 : List Cond := [Cond.code yX8_sort cX8_sort 3 (some .int), Cond.methodLink RX8 86 yX8_sortOne, Cond.instanceMethod yX8_sortOne, Cond.selects RX8 yX8_sortOne yX8_sortOne, Cond.code yX8_sortOne cX8_sortOne 4 none, Cond.methodLink RX8 46 yX8_of, Cond.instanceMethod yX8_of, Cond.selects RX8 yX8_of yX8_of, Cond.code yX8_of cX8_of 3 (some .int), Cond.methodLink RX8 66 yX8_placeFor, Cond.instanceMethod yX8_placeFor, Cond.selects RX8 yX8_placeFor yX8_placeFor, Cond.code yX8_placeFor cX8_placeFor 2 (some .int), Cond.methodLink RX8 69 yX8_at, Cond.instanceMethod yX8_at, Cond.selects RX8 yX8_at yX8_at, Cond.code yX8_at cX8_at 4 (some .int), Cond.methodLink RX8 72 yX8_letGoNow, Cond.instanceMethod yX8_letGoNow, Cond.selects RX8 yX8_letGoNow yX8_letGoNow, Cond.code yX8_letGoNow cX8_letGoNow 3 (some .int), Cond.methodLink RX8 62 yX8_classOf, Cond.instanceMethod yX8_classOf, Cond.selects RX8 yX8_classOf yX8_classOf]
def wsL_law_r15 : List Cond := [Cond.code yX8_classOf cX8_classOf 3 (some .int), Cond.methodLink RX8 76 yX8_binOf, Cond.instanceMethod yX8_binOf, Cond.selects RX8 yX8_binOf yX8_binOf, Cond.code yX8_binOf cX8_binOf 2 (some .int), Cond.methodLink RX8 79 yX8_manyIn, Cond.instanceMethod yX8_manyIn, Cond.selects RX8 yX8_manyIn yX8_manyIn, Cond.code yX8_manyIn cX8_manyIn 4 (some .int), Cond.methodLink RX8 50 yX8_isIn, Cond.instanceMethod yX8_isIn, Cond.selects RX8 yX8_isIn yX8_isIn, Cond.code yX8_isIn cX8_isIn 3 (some .boolean), Cond.methodLink RL 23 yX7_letGo, Cond.instanceMethod yX7_letGo, Cond.selects RX7 yX7_letGo yX7_letGo, Cond.code yX7_letGo cX7_letGo 2 (some .int), Cond.methodLink RX7 92 yX5_emptyMagnet, Cond.methodLink RL 26 yX8_letGo, Cond.instanceMethod yX8_letGo, Cond.selects RX8 yX8_letGo yX8_letGo, Cond.code yX8_letGo cX8_letGo 1 (some .int), Cond.methodLink RL 27 yX7_pour, Cond.instanceMethod yX7_pour]
def wsL_law_r16 : List Cond := [Cond.selects RX7 yX7_pour yX7_pour, Cond.code yX7_pour cX7_pour 3 (some .int), Cond.fieldLink RX7 99 "ShirtButtons$Places" "inBin" "[I", Cond.methodLink RX7 95 yX7_isBin, Cond.static yX7_isBin, Cond.code yX7_isBin cX7_isBin 1 (some .boolean), Cond.methodLink RX7 102 yX5_emptyBin, Cond.instanceMethod yX5_emptyBin, Cond.selects RX5 yX5_emptyBin yX5_emptyBin, Cond.code yX5_emptyBin cX5_emptyBin 3 none, Cond.fieldLink RX5 127 "ShirtButtons$Places" "binOf" "[I", Cond.methodLink RL 30 yX8_pour, Cond.instanceMethod yX8_pour, Cond.selects RX8 yX8_pour yX8_pour, Cond.code yX8_pour cX8_pour 4 (some .int), Cond.methodLink RX8 89 yX8_isBin, Cond.static yX8_isBin, Cond.code yX8_isBin cX8_isBin 1 (some .boolean), Cond.methodLink RL 31 yX7_shirt, Cond.instanceMethod yX7_shirt, Cond.selects RX7 yX7_shirt yX7_shirt, Cond.code yX7_shirt cX7_shirt 4 (some .int), Cond.fieldLink RX7 113 "ShirtButtons$State" "settings" "[I", Cond.methodLink RX7 106 yX7_isWanted]
def wsL_law_r17 : List Cond := [Cond.static yX7_isWanted, Cond.code yX7_isWanted cX7_isWanted 1 (some .boolean), Cond.methodLink RX7 109 yX3_fill, Cond.instanceMethod yX3_fill, Cond.selects RX3 yX3_fill yX3_fill, Cond.code yX3_fill cX3_fill 4 none, Cond.fieldLink RX3 22 "ShirtButtons$State" "buttons" "LShirtButtons$Buttons;", Cond.fieldLink RX3 28 "ShirtButtons$Buttons" "count" "I", Cond.fieldLink RX3 31 "ShirtButtons$State" "places" "LShirtButtons$Places;", Cond.fieldLink RX3 35 "ShirtButtons$Places" "binOf" "[I", Cond.fieldLink RX3 40 "ShirtButtons$Buttons" "shine" "[I", Cond.methodLink RX3 41 yX3_insert, Cond.instanceMethod yX3_insert, Cond.selects RX3 yX3_insert yX3_insert, Cond.code yX3_insert cX3_insert 4 none, Cond.methodLink RX7 116 yX3_firstAlike, Cond.instanceMethod yX3_firstAlike, Cond.selects RX3 yX3_firstAlike yX3_firstAlike, Cond.code yX3_firstAlike cX3_firstAlike 4 (some .int), Cond.methodLink RX3 45 yX3_spreadFrom, Cond.instanceMethod yX3_spreadFrom, Cond.selects RX3 yX3_spreadFrom yX3_spreadFrom, Cond.code yX3_spreadFrom cX3_spreadFrom 3 (some .int), Cond.methodLink RX7 120 yX7_refusalOf]
def wsL_law_r18 : List Cond := [Cond.instanceMethod yX7_refusalOf, Cond.selects RX7 yX7_refusalOf yX7_refusalOf, Cond.code yX7_refusalOf cX7_refusalOf 2 (some .int), Cond.fieldLink RX7 186 "ShirtButtons$Order" "count" "I", Cond.methodLink RX7 124 yX5_makeShirt, Cond.instanceMethod yX5_makeShirt, Cond.selects RX5 yX5_makeShirt yX5_makeShirt, Cond.code yX5_makeShirt cX5_makeShirt 7 (some .int), Cond.fieldLink RX5 130 "ShirtButtons$Order" "numbers" "[I", Cond.methodLink RX5 138 Lib.Math.max.name, Cond.static Lib.Math.max.name, Cond.initialized "java/lang/Math", Cond.code Lib.Math.max.name Lib.Math.max.code 2 (some .int), Cond.methodLink RX5 135 yX4_bringToShirt, Cond.instanceMethod yX4_bringToShirt, Cond.selects RX4 yX4_bringToShirt yX4_bringToShirt, Cond.code yX4_bringToShirt cX4_bringToShirt 3 none, Cond.methodLink RL 35 yX8_shirt, Cond.instanceMethod yX8_shirt, Cond.selects RX8 yX8_shirt yX8_shirt, Cond.code yX8_shirt cX8_shirt 4 (some .int), Cond.methodLink RX8 105 yX8_reasonFor, Cond.instanceMethod yX8_reasonFor, Cond.selects RX8 yX8_reasonFor yX8_reasonFor]
def wsL_law_r19 : List Cond := [Cond.code yX8_reasonFor cX8_reasonFor 3 (some .int), Cond.methodLink RX8 102 yX8_firstAlike, Cond.instanceMethod yX8_firstAlike, Cond.selects RX8 yX8_firstAlike yX8_firstAlike, Cond.code yX8_firstAlike cX8_firstAlike 4 (some .int), Cond.fieldLink RX8 93 "ShirtButtonsModel" "lineMany" "I", Cond.methodLink RX8 96 yX8_order, Cond.instanceMethod yX8_order, Cond.selects RX8 yX8_order yX8_order, Cond.code yX8_order cX8_order 4 none, Cond.methodLink RX8 99 yX8_spread, Cond.instanceMethod yX8_spread, Cond.selects RX8 yX8_spread yX8_spread, Cond.code yX8_spread cX8_spread 3 (some .int), Cond.methodLink RX8 108 yX8_shirtNow, Cond.instanceMethod yX8_shirtNow, Cond.selects RX8 yX8_shirtNow yX8_shirtNow, Cond.code yX8_shirtNow cX8_shirtNow 6 (some .int), Cond.methodLink RL 36 yX7_polish, Cond.instanceMethod yX7_polish, Cond.selects RX7 yX7_polish yX7_polish, Cond.code yX7_polish cX7_polish 2 (some .int), Cond.fieldLink RX7 131 "ShirtButtons$Places" "place" "[I", Cond.fieldLink RX7 134 "ShirtButtons$Buttons" "shine" "[I"]
def wsL_law_r20 : List Cond := [Cond.methodLink RX7 128 yX1_has, Cond.instanceMethod yX1_has, Cond.selects RX1 yX1_has yX1_has, Cond.code yX1_has cX1_has 2 (some .boolean), Cond.methodLink RX7 137 yX1_brighten, Cond.instanceMethod yX1_brighten, Cond.selects RX1 yX1_brighten yX1_brighten, Cond.code yX1_brighten cX1_brighten 2 none, Cond.methodLink RL 39 yX8_polish, Cond.instanceMethod yX8_polish, Cond.selects RX8 yX8_polish yX8_polish, Cond.code yX8_polish cX8_polish 2 (some .int), Cond.methodLink RX8 111 yX8_isButton, Cond.instanceMethod yX8_isButton, Cond.selects RX8 yX8_isButton yX8_isButton, Cond.code yX8_isButton cX8_isButton 2 (some .boolean), Cond.methodLink RL 40 yX7_set, Cond.instanceMethod yX7_set, Cond.selects RX7 yX7_set yX7_set, Cond.code yX7_set cX7_set 4 (some .int), Cond.methodLink RX7 140 yX7_isValue, Cond.static yX7_isValue, Cond.code yX7_isValue cX7_isValue 2 (some .boolean), Cond.fieldLink RX7 228 "ShirtButtons" "LOWEST" "[I"]
def wsL_law_r21 : List Cond := [Cond.fieldLink RX7 231 "ShirtButtons" "HIGHEST" "[I", Cond.methodLink RX7 144 yX5_meshesAllow, Cond.instanceMethod yX5_meshesAllow, Cond.selects RX5 yX5_meshesAllow yX5_meshesAllow, Cond.code yX5_meshesAllow cX5_meshesAllow 3 (some .boolean), Cond.methodLink RL 43 yX8_set, Cond.instanceMethod yX8_set, Cond.selects RX8 yX8_set yX8_set, Cond.code yX8_set cX8_set 4 (some .int), Cond.methodLink RX8 114 yX8_maySet, Cond.static yX8_maySet, Cond.code yX8_maySet cX8_maySet 2 (some .boolean), Cond.methodLink RX8 117 yX8_areMeshes, Cond.instanceMethod yX8_areMeshes, Cond.selects RX8 yX8_areMeshes yX8_areMeshes, Cond.code yX8_areMeshes cX8_areMeshes 6 (some .boolean), Cond.methodLink RL 44 yX7_type, Cond.instanceMethod yX7_type, Cond.selects RX7 yX7_type yX7_type, Cond.code yX7_type cX7_type 2 (some .int), Cond.fieldLink RX7 151 "ShirtButtons$Text" "length" "I", Cond.methodLink RX7 147 yX6_append, Cond.instanceMethod yX6_append, Cond.selects RX6 yX6_append yX6_append]
def wsL_law_r22 : List Cond := [Cond.code yX6_append cX6_append 2 (some .boolean), Cond.methodLink RL 48 yX8_type, Cond.instanceMethod yX8_type, Cond.selects RX8 yX8_type yX8_type, Cond.code yX8_type cX8_type 2 (some .int), Cond.methodLink RL 49 yX7_clearText, Cond.instanceMethod yX7_clearText, Cond.selects RX7 yX7_clearText yX7_clearText, Cond.code yX7_clearText cX7_clearText 2 (some .int), Cond.methodLink RL 52 yX8_clearText, Cond.instanceMethod yX8_clearText, Cond.selects RX8 yX8_clearText yX8_clearText, Cond.code yX8_clearText cX8_clearText 2 (some .int), Cond.methodLink RL 53 yX7_undo, Cond.instanceMethod yX7_undo, Cond.selects RX7 yX7_undo yX7_undo, Cond.code yX7_undo cX7_undo 1 (some .int), Cond.fieldLink RX7 158 "ShirtButtons$History" "count" "I", Cond.methodLink RX7 154 yX2_takeBack, Cond.instanceMethod yX2_takeBack, Cond.selects RX2 yX2_takeBack yX2_takeBack, Cond.code yX2_takeBack cX2_takeBack 2 (some .boolean), Cond.methodLink RL 56 yX8_undo, Cond.instanceMethod yX8_undo]
def wsL_law_r23 : List Cond := [Cond.selects RX8 yX8_undo yX8_undo, Cond.code yX8_undo cX8_undo 2 (some .int), Cond.methodLink RL 57 yX7_keep, Cond.instanceMethod yX7_keep, Cond.selects RX7 yX7_keep yX7_keep, Cond.code yX7_keep cX7_keep 1 (some .int), Cond.methodLink RX7 159 yX5_copyFrom, Cond.methodLink RL 60 yX8_keep, Cond.instanceMethod yX8_keep, Cond.selects RX8 yX8_keep yX8_keep, Cond.code yX8_keep cX8_keep 2 (some .int), Cond.fieldLink RX8 39 "ShirtButtonsModel" "isKept" "Z", Cond.methodLink RL 61 yX7_restore, Cond.instanceMethod yX7_restore, Cond.selects RX7 yX7_restore yX7_restore, Cond.code yX7_restore cX7_restore 1 (some .int), Cond.methodLink RL 64 yX8_restore, Cond.instanceMethod yX8_restore, Cond.selects RX8 yX8_restore yX8_restore, Cond.code yX8_restore cX8_restore 2 (some .int), Cond.methodLink RL 65 yX7_button, Cond.instanceMethod yX7_button, Cond.selects RX7 yX7_button yX7_button, Cond.code yX7_button cX7_button 3 (some .int)]
def wsL_law_r24 : List Cond := [Cond.fieldLink RX7 162 "ShirtButtons$Buttons" "holes" "[I", Cond.fieldLink RX7 165 "ShirtButtons$Buttons" "size" "[I", Cond.fieldLink RX7 168 "ShirtButtons$Buttons" "iron" "[I", Cond.fieldLink RX7 171 "ShirtButtons$Buttons" "chips" "[I", Cond.fieldLink RX7 174 "ShirtButtons$Places" "binOf" "[I", Cond.fieldLink RX7 180 "ShirtButtons$Places" "shirtOf" "[I", Cond.fieldLink RX7 183 "ShirtButtons$Buttons" "sortings" "[I", Cond.methodLink RX7 177 yX4_rankInHopper, Cond.instanceMethod yX4_rankInHopper, Cond.selects RX4 yX4_rankInHopper yX4_rankInHopper, Cond.code yX4_rankInHopper cX4_rankInHopper 3 (some .int), Cond.methodLink RL 68 yX8_button, Cond.instanceMethod yX8_button, Cond.selects RX8 yX8_button yX8_button, Cond.code yX8_button cX8_button 3 (some .int), Cond.methodLink RX8 151 yX8_rankInHopper, Cond.instanceMethod yX8_rankInHopper, Cond.selects RX8 yX8_rankInHopper yX8_rankInHopper, Cond.code yX8_rankInHopper cX8_rankInHopper 4 (some .int), Cond.methodLink RL 69 yX7_inBin, Cond.instanceMethod yX7_inBin, Cond.selects RX7 yX7_inBin yX7_inBin, Cond.code yX7_inBin cX7_inBin 3 (some .int), Cond.fieldLink RX7 187 "ShirtButtons$Order" "numbers" "[I"]
def wsL_law_r25 : List Cond := [Cond.methodLink RL 72 yX8_inBin, Cond.instanceMethod yX8_inBin, Cond.selects RX8 yX8_inBin yX8_inBin, Cond.code yX8_inBin cX8_inBin 3 (some .int), Cond.methodLink RL 73 yX7_bin, Cond.instanceMethod yX7_bin, Cond.selects RX7 yX7_bin yX7_bin, Cond.code yX7_bin cX7_bin 3 (some .int), Cond.methodLink RX7 190 Lib.Math.max.name, Cond.methodLink RX7 195 yX3_shineSum, Cond.instanceMethod yX3_shineSum, Cond.selects RX3 yX3_shineSum yX3_shineSum, Cond.code yX3_shineSum cX3_shineSum 3 (some .int), Cond.methodLink RX7 198 yX3_mostAlike, Cond.instanceMethod yX3_mostAlike, Cond.selects RX3 yX3_mostAlike yX3_mostAlike, Cond.code yX3_mostAlike cX3_mostAlike 3 (some .int), Cond.methodLink RX3 54 yX3_firstAlike, Cond.methodLink RX7 201 yX3_narrowest, Cond.instanceMethod yX3_narrowest, Cond.selects RX3 yX3_narrowest yX3_narrowest, Cond.code yX3_narrowest cX3_narrowest 4 (some .int), Cond.methodLink RX3 49 Lib.Math.min.name, Cond.static Lib.Math.min.name]
def wsL_law_r26 : List Cond := [Cond.code Lib.Math.min.name Lib.Math.min.code 2 (some .int), Cond.methodLink RL 76 yX8_bin, Cond.instanceMethod yX8_bin, Cond.selects RX8 yX8_bin yX8_bin, Cond.code yX8_bin cX8_bin 4 (some .int), Cond.methodLink RX8 154 yX8_sumOf, Cond.instanceMethod yX8_sumOf, Cond.selects RX8 yX8_sumOf yX8_sumOf, Cond.code yX8_sumOf cX8_sumOf 4 (some .int), Cond.methodLink RX8 157 yX8_mostAlike, Cond.instanceMethod yX8_mostAlike, Cond.selects RX8 yX8_mostAlike yX8_mostAlike, Cond.code yX8_mostAlike cX8_mostAlike 4 (some .int), Cond.methodLink RX8 160 yX8_spreadOf, Cond.instanceMethod yX8_spreadOf, Cond.selects RX8 yX8_spreadOf yX8_spreadOf, Cond.code yX8_spreadOf cX8_spreadOf 2 (some .int), Cond.methodLink RL 77 yX7_total, Cond.instanceMethod yX7_total, Cond.selects RX7 yX7_total yX7_total, Cond.code yX7_total cX7_total 2 (some .int), Cond.fieldLink RX7 204 "ShirtButtons$State" "shirtsMade" "I", Cond.fieldLink RX7 207 "ShirtButtons$State" "worthMade" "I", Cond.fieldLink RX7 210 "ShirtButtons$State" "sortingsDone" "I"]
def wsL_law_r27 : List Cond := [Cond.fieldLink RX7 213 "ShirtButtons$State" "goneBack" "I", Cond.fieldLink RX7 216 "ShirtButtons$State" "rubbed" "I", Cond.methodLink RX7 219 yX1_chipSum, Cond.instanceMethod yX1_chipSum, Cond.selects RX1 yX1_chipSum yX1_chipSum, Cond.code yX1_chipSum cX1_chipSum 3 (some .int), Cond.methodLink RL 80 yX8_total, Cond.instanceMethod yX8_total, Cond.selects RX8 yX8_total yX8_total, Cond.code yX8_total cX8_total 2 (some .int), Cond.methodLink RX8 163 yX8_chips, Cond.instanceMethod yX8_chips, Cond.selects RX8 yX8_chips yX8_chips, Cond.code yX8_chips cX8_chips 3 (some .int), Cond.methodLink RL 81 yX7_goesTo, Cond.instanceMethod yX7_goesTo, Cond.selects RX7 yX7_goesTo yX7_goesTo, Cond.code yX7_goesTo cX7_goesTo 2 (some .int), Cond.methodLink RX7 222 yX5_placeFor, Cond.methodLink RL 84 yX8_goesTo, Cond.instanceMethod yX8_goesTo, Cond.selects RX8 yX8_goesTo yX8_goesTo, Cond.code yX8_goesTo cX8_goesTo 3 (some .int), Cond.methodLink RL 85 yX7_reason]
def wsL_law_r28 : List Cond := [Cond.instanceMethod yX7_reason, Cond.selects RX7 yX7_reason yX7_reason, Cond.code yX7_reason cX7_reason 3 (some .int), Cond.methodLink RL 88 yX8_reason, Cond.instanceMethod yX8_reason, Cond.selects RX8 yX8_reason yX8_reason, Cond.code yX8_reason cX8_reason 3 (some .int), Cond.methodLink RL 89 yX7_leastSpread, Cond.instanceMethod yX7_leastSpread, Cond.selects RX7 yX7_leastSpread yX7_leastSpread, Cond.code yX7_leastSpread cX7_leastSpread 3 (some .int), Cond.methodLink RL 92 yX8_leastSpread, Cond.instanceMethod yX8_leastSpread, Cond.selects RX8 yX8_leastSpread yX8_leastSpread, Cond.code yX8_leastSpread cX8_leastSpread 5 (some .int), Cond.methodLink RL 93 yX7_shirts, Cond.instanceMethod yX7_shirts, Cond.selects RX7 yX7_shirts yX7_shirts, Cond.code yX7_shirts cX7_shirts 4 (some .int), Cond.methodLink RX7 225 yX3_groups, Cond.instanceMethod yX3_groups, Cond.selects RX3 yX3_groups yX3_groups, Cond.code yX3_groups cX3_groups 5 (some .int), Cond.methodLink RL 96 yX8_shirts]
def wsL_law_r29 : List Cond := [Cond.instanceMethod yX8_shirts, Cond.selects RX8 yX8_shirts yX8_shirts, Cond.code yX8_shirts cX8_shirts 4 (some .int), Cond.methodLink RX8 166 yX8_putAside, Cond.instanceMethod yX8_putAside, Cond.selects RX8 yX8_putAside yX8_putAside, Cond.code yX8_putAside cX8_putAside 2 none, Cond.methodLink RX8 169 yX8_putBack, Cond.instanceMethod yX8_putBack, Cond.selects RX8 yX8_putBack yX8_putBack, Cond.code yX8_putBack cX8_putBack 2 none, Cond.methodLink RL 97 yX7_ifMesh, Cond.instanceMethod yX7_ifMesh, Cond.selects RX7 yX7_ifMesh yX7_ifMesh, Cond.code yX7_ifMesh cX7_ifMesh 6 (some .int), Cond.methodLink RL 101 yX8_ifMesh, Cond.instanceMethod yX8_ifMesh, Cond.selects RX8 yX8_ifMesh yX8_ifMesh, Cond.code yX8_ifMesh cX8_ifMesh 5 (some .int)]
def wsL_law : List Cond := (wsL_law_r1 ++ (wsL_law_r2 ++ (wsL_law_r3 ++ (wsL_law_r4 ++ (wsL_law_r5 ++ (wsL_law_r6 ++ (wsL_law_r7 ++ (wsL_law_r8 ++ (wsL_law_r9 ++ (wsL_law_r10 ++ (wsL_law_r11 ++ (wsL_law_r12 ++ (wsL_law_r13 ++ (wsL_law_r14 ++ (wsL_law_r15 ++ (wsL_law_r16 ++ (wsL_law_r17 ++ (wsL_law_r18 ++ (wsL_law_r19 ++ (wsL_law_r20 ++ (wsL_law_r21 ++ (wsL_law_r22 ++ (wsL_law_r23 ++ (wsL_law_r24 ++ (wsL_law_r25 ++ (wsL_law_r26 ++ (wsL_law_r27 ++ (wsL_law_r28 ++ wsL_law_r29)))))))))))))))))))))))))))) ++ wsX70 ++ wsX80 ++ wsX60 ++ wsX00 ++ wsX30 ++ wsX20 ++ wsX50 ++ wsX10 ++ wsX40 ++ ([] : List Cond)
abbrev vwCl : List vw_C := [(RX0, TX0, 8), (RX1, TX1, 7), (RX2, TX2, 2), (RX3, TX3, 3), (RX4, TX4, 6), (RX5, TX5, 8), (RX6, TX6, 2), (RX7, TX7, 8), (RX8, TX8, 13)]
end
section
theorem dX0_init_0 : decode cX0_init 0 = .ok (.aload_n 0, 1) := by decide +kernel
theorem dX0_init_1 : decode cX0_init 1 = .ok (.invokespecial 3, 3) := by decide +kernel
theorem dX0_init_4 : decode cX0_init 4 = .ok (.aload_n 0, 1) := by decide +kernel
theorem dX0_init_5 : decode cX0_init 5 = .ok (.bipush 15, 2) := by decide +kernel
theorem dX0_init_7 : decode cX0_init 7 = .ok (.newarray .int, 2) := by decide +kernel
theorem dX0_init_9 : decode cX0_init 9 = .ok (.putfield 9, 3) := by decide +kernel
theorem dX0_init_12 : decode cX0_init 12 = .ok (.aload_n 0, 1) := by decide +kernel
theorem dX0_init_13 : decode cX0_init 13 = .ok (.bipush 15, 2) := by decide +kernel
theorem dX0_init_15 : decode cX0_init 15 = .ok (.newarray .int, 2) := by decide +kernel
theorem dX0_init_17 : decode cX0_init 17 = .ok (.putfield 15, 3) := by decide +kernel
theorem dX0_init_20 : decode cX0_init 20 = .ok (.aload_n 0, 1) := by decide +kernel
theorem dX0_init_21 : decode cX0_init 21 = .ok (.bipush 15, 2) := by decide +kernel
theorem dX0_init_23 : decode cX0_init 23 = .ok (.newarray .int, 2) := by decide +kernel
theorem dX0_init_25 : decode cX0_init 25 = .ok (.putfield 18, 3) := by decide +kernel
theorem dX0_init_28 : decode cX0_init 28 = .ok (.aload_n 0, 1) := by decide +kernel
theorem dX0_init_29 : decode cX0_init 29 = .ok (.bipush 15, 2) := by decide +kernel
theorem dX0_init_31 : decode cX0_init 31 = .ok (.newarray .int, 2) := by decide +kernel
theorem dX0_init_33 : decode cX0_init 33 = .ok (.putfield 21, 3) := by decide +kernel
theorem dX0_init_36 : decode cX0_init 36 = .ok (.aload_n 0, 1) := by decide +kernel
theorem dX0_init_37 : decode cX0_init 37 = .ok (.bipush 15, 2) := by decide +kernel
theorem dX0_init_39 : decode cX0_init 39 = .ok (.newarray .int, 2) := by decide +kernel
theorem dX0_init_41 : decode cX0_init 41 = .ok (.putfield 24, 3) := by decide +kernel
theorem dX0_init_44 : decode cX0_init 44 = .ok (.aload_n 0, 1) := by decide +kernel
theorem dX0_init_45 : decode cX0_init 45 = .ok (.iconst 0, 1) := by decide +kernel
theorem dX0_init_46 : decode cX0_init 46 = .ok (.putfield 27, 3) := by decide +kernel
theorem dX0_init_49 : decode cX0_init 49 = .ok (.aload_n 0, 1) := by decide +kernel
theorem dX0_init_50 : decode cX0_init 50 = .ok (.iconst 0, 1) := by decide +kernel
theorem dX0_init_51 : decode cX0_init 51 = .ok (.putfield 31, 3) := by decide +kernel
theorem dX0_init_54 : decode cX0_init 54 = .ok (.aload_n 0, 1) := by decide +kernel
theorem dX0_init_55 : decode cX0_init 55 = .ok (.aload_n 1, 1) := by decide +kernel
theorem dX0_init_56 : decode cX0_init 56 = .ok (.putfield 34, 3) := by decide +kernel
theorem dX0_init_59 : decode cX0_init 59 = .ok (.return_, 1) := by decide +kernel
set_option maxRecDepth 20000 in
theorem ggX0_parse_X0_takeButton : GoodIn wsX0_parse wsX0_takeButton := goodIn_r _ [9, 10, 11, 12, 13, 14, 15, 16, 17, 8, 18, 1, 3, 4, 19, 20, 21, 22, 23, 24, 25, 26, 27, 28, 29, 30, 31, 32, 33, 34, 35, 36, 37, 38, 39, 40, 41] (by decide +kernel) (by decide +kernel)
set_option maxRecDepth 20000 in
theorem gX0_parse_X0_takeButton : GoodIn wsX0_parse (wsV RX0 38 RX0 yX0_takeButton wsX0_takeButton) := goodIn_app (goodIn_of _ (by decide +kernel)) ggX0_parse_X0_takeButton
set_option maxRecDepth 20000 in
theorem ggX0_parse_X0_takeSign : GoodIn wsX0_parse wsX0_takeSign := goodIn_r _ [23, 1, 3, 4, 19, 32, 33, 34, 35, 36, 37, 38, 39, 40, 41] (by decide +kernel) (by decide +kernel)
set_option maxRecDepth 20000 in
theorem gX0_parse_X0_takeSign : GoodIn wsX0_parse (wsV RX0 47 RX0 yX0_takeSign wsX0_takeSign) := goodIn_app (goodIn_of _ (by decide +kernel)) ggX0_parse_X0_takeSign
theorem dX0_parse_0 : decode cX0_parse 0 = .ok (.aload_n 0, 1) := by decide +kernel
theorem dX0_parse_1 : decode cX0_parse 1 = .ok (.iconst 0, 1) := by decide +kernel
theorem dX0_parse_2 : decode cX0_parse 2 = .ok (.putfield 31, 3) := by decide +kernel
theorem dX0_parse_5 : decode cX0_parse 5 = .ok (.aload_n 0, 1) := by decide +kernel
theorem dX0_parse_6 : decode cX0_parse 6 = .ok (.iconst 0, 1) := by decide +kernel
theorem dX0_parse_7 : decode cX0_parse 7 = .ok (.putfield 27, 3) := by decide +kernel
theorem dX0_parse_10 : decode cX0_parse 10 = .ok (.iconst 0, 1) := by decide +kernel
theorem dX0_parse_11 : decode cX0_parse 11 = .ok (.istore_n 1, 1) := by decide +kernel
theorem dX0_parse_12 : decode cX0_parse 12 = .ok (.iload_n 1, 1) := by decide +kernel
theorem dX0_parse_13 : decode cX0_parse 13 = .ok (.bipush 15, 2) := by decide +kernel
theorem dX0_parse_15 : decode cX0_parse 15 = .ok (.if_icmp .ge 62, 3) := by decide +kernel
theorem dX0_parse_18 : decode cX0_parse 18 = .ok (.aload_n 0, 1) := by decide +kernel
theorem dX0_parse_19 : decode cX0_parse 19 = .ok (.iload_n 1, 1) := by decide +kernel
theorem dX0_parse_20 : decode cX0_parse 20 = .ok (.invokevirtual 38, 3) := by decide +kernel
theorem dX0_parse_23 : decode cX0_parse 23 = .ok (.ifCond .ne 8, 3) := by decide +kernel
theorem dX0_parse_26 : decode cX0_parse 26 = .ok (.aload_n 0, 1) := by decide +kernel
theorem dX0_parse_27 : decode cX0_parse 27 = .ok (.getfield 31, 3) := by decide +kernel
theorem dX0_parse_30 : decode cX0_parse 30 = .ok (.ireturn, 1) := by decide +kernel
theorem dX0_parse_31 : decode cX0_parse 31 = .ok (.aload_n 0, 1) := by decide +kernel
theorem dX0_parse_32 : decode cX0_parse 32 = .ok (.dup, 1) := by decide +kernel
theorem dX0_parse_33 : decode cX0_parse 33 = .ok (.getfield 27, 3) := by decide +kernel
theorem dX0_parse_36 : decode cX0_parse 36 = .ok (.iconst 1, 1) := by decide +kernel
theorem dX0_parse_37 : decode cX0_parse 37 = .ok (.iadd, 1) := by decide +kernel
theorem dX0_parse_38 : decode cX0_parse 38 = .ok (.putfield 27, 3) := by decide +kernel
theorem dX0_parse_41 : decode cX0_parse 41 = .ok (.aload_n 0, 1) := by decide +kernel
theorem dX0_parse_42 : decode cX0_parse 42 = .ok (.getfield 31, 3) := by decide +kernel
theorem dX0_parse_45 : decode cX0_parse 45 = .ok (.aload_n 0, 1) := by decide +kernel
theorem dX0_parse_46 : decode cX0_parse 46 = .ok (.getfield 34, 3) := by decide +kernel
theorem dX0_parse_49 : decode cX0_parse 49 = .ok (.getfield 42, 3) := by decide +kernel
theorem dX0_parse_52 : decode cX0_parse 52 = .ok (.if_icmp .lt 5, 3) := by decide +kernel
theorem dX0_parse_55 : decode cX0_parse 55 = .ok (.iconst (-1), 1) := by decide +kernel
theorem dX0_parse_56 : decode cX0_parse 56 = .ok (.ireturn, 1) := by decide +kernel
theorem dX0_parse_57 : decode cX0_parse 57 = .ok (.aload_n 0, 1) := by decide +kernel
theorem dX0_parse_58 : decode cX0_parse 58 = .ok (.bipush 44, 2) := by decide +kernel
theorem dX0_parse_60 : decode cX0_parse 60 = .ok (.invokevirtual 47, 3) := by decide +kernel
theorem dX0_parse_63 : decode cX0_parse 63 = .ok (.ifCond .ne 8, 3) := by decide +kernel
theorem dX0_parse_66 : decode cX0_parse 66 = .ok (.aload_n 0, 1) := by decide +kernel
theorem dX0_parse_67 : decode cX0_parse 67 = .ok (.getfield 31, 3) := by decide +kernel
theorem dX0_parse_70 : decode cX0_parse 70 = .ok (.ireturn, 1) := by decide +kernel
theorem dX0_parse_71 : decode cX0_parse 71 = .ok (.iinc 1 1, 3) := by decide +kernel
theorem dX0_parse_74 : decode cX0_parse 74 = .ok (.goto (-62), 3) := by decide +kernel
theorem dX0_parse_77 : decode cX0_parse 77 = .ok (.aload_n 0, 1) := by decide +kernel
theorem dX0_parse_78 : decode cX0_parse 78 = .ok (.getfield 31, 3) := by decide +kernel
theorem dX0_parse_81 : decode cX0_parse 81 = .ok (.ireturn, 1) := by decide +kernel
set_option maxRecDepth 20000 in
theorem ggX0_takeButton_X0_takeDigit : GoodIn wsX0_takeButton wsX0_takeDigit := goodIn_r _ [10, 11, 12, 13, 14, 27, 28, 29, 30, 31, 32, 33, 34, 35, 36] (by decide +kernel) (by decide +kernel)
set_option maxRecDepth 20000 in
theorem gX0_takeButton_X0_takeDigit : GoodIn wsX0_takeButton (wsV RX0 51 RX0 yX0_takeDigit wsX0_takeDigit) := goodIn_app (goodIn_of _ (by decide +kernel)) ggX0_takeButton_X0_takeDigit
set_option maxRecDepth 20000 in
theorem ggX0_takeButton_X0_takeSign : GoodIn wsX0_takeButton wsX0_takeSign := goodIn_r _ [18, 11, 12, 13, 14, 27, 28, 29, 30, 31, 32, 33, 34, 35, 36] (by decide +kernel) (by decide +kernel)
set_option maxRecDepth 20000 in
theorem gX0_takeButton_X0_takeSign : GoodIn wsX0_takeButton (wsV RX0 47 RX0 yX0_takeSign wsX0_takeSign) := goodIn_app (goodIn_of _ (by decide +kernel)) ggX0_takeButton_X0_takeSign
set_option maxRecDepth 20000 in
theorem ggX0_takeButton_X0_takeSize : GoodIn wsX0_takeButton wsX0_takeSize := goodIn_r _ [22, 6, 7, 8, 9, 10, 11, 12, 13, 14, 27, 28, 29, 30, 31, 32, 33, 34, 35, 36] (by decide +kernel) (by decide +kernel)
set_option maxRecDepth 20000 in
theorem gX0_takeButton_X0_takeSize : GoodIn wsX0_takeButton (wsV RX0 55 RX0 yX0_takeSize wsX0_takeSize) := goodIn_app (goodIn_of _ (by decide +kernel)) ggX0_takeButton_X0_takeSize
set_option maxRecDepth 20000 in
theorem ggX0_takeButton_X0_takePart : GoodIn wsX0_takeButton wsX0_takePart := goodIn_r _ [26, 15, 16, 17, 9, 18, 11, 12, 13, 14, 6, 7, 8, 10, 27, 28, 29, 30, 31, 32, 33, 34, 35, 36] (by decide +kernel) (by decide +kernel)
set_option maxRecDepth 20000 in
theorem gX0_takeButton_X0_takePart : GoodIn wsX0_takeButton (wsV RX0 59 RX0 yX0_takePart wsX0_takePart) := goodIn_app (goodIn_of _ (by decide +kernel)) ggX0_takeButton_X0_takePart
theorem dX0_takeButton_0 : decode cX0_takeButton 0 = .ok (.aload_n 0, 1) := by decide +kernel
theorem dX0_takeButton_1 : decode cX0_takeButton 1 = .ok (.getfield 9, 3) := by decide +kernel
theorem dX0_takeButton_4 : decode cX0_takeButton 4 = .ok (.iload_n 1, 1) := by decide +kernel
theorem dX0_takeButton_5 : decode cX0_takeButton 5 = .ok (.aload_n 0, 1) := by decide +kernel
theorem dX0_takeButton_6 : decode cX0_takeButton 6 = .ok (.iconst 1, 1) := by decide +kernel
theorem dX0_takeButton_7 : decode cX0_takeButton 7 = .ok (.iconst 4, 1) := by decide +kernel
theorem dX0_takeButton_8 : decode cX0_takeButton 8 = .ok (.invokevirtual 51, 3) := by decide +kernel
theorem dX0_takeButton_11 : decode cX0_takeButton 11 = .ok (.iastore, 1) := by decide +kernel
theorem dX0_takeButton_12 : decode cX0_takeButton 12 = .ok (.aload_n 0, 1) := by decide +kernel
theorem dX0_takeButton_13 : decode cX0_takeButton 13 = .ok (.getfield 9, 3) := by decide +kernel
theorem dX0_takeButton_16 : decode cX0_takeButton 16 = .ok (.iload_n 1, 1) := by decide +kernel
theorem dX0_takeButton_17 : decode cX0_takeButton 17 = .ok (.iaload, 1) := by decide +kernel
theorem dX0_takeButton_18 : decode cX0_takeButton 18 = .ok (.ifCond .lt 12, 3) := by decide +kernel
theorem dX0_takeButton_21 : decode cX0_takeButton 21 = .ok (.aload_n 0, 1) := by decide +kernel
theorem dX0_takeButton_22 : decode cX0_takeButton 22 = .ok (.bipush 104, 2) := by decide +kernel
theorem dX0_takeButton_24 : decode cX0_takeButton 24 = .ok (.invokevirtual 47, 3) := by decide +kernel
theorem dX0_takeButton_27 : decode cX0_takeButton 27 = .ok (.ifCond .ne 5, 3) := by decide +kernel
theorem dX0_takeButton_30 : decode cX0_takeButton 30 = .ok (.iconst 0, 1) := by decide +kernel
theorem dX0_takeButton_31 : decode cX0_takeButton 31 = .ok (.ireturn, 1) := by decide +kernel
theorem dX0_takeButton_32 : decode cX0_takeButton 32 = .ok (.aload_n 0, 1) := by decide +kernel
theorem dX0_takeButton_33 : decode cX0_takeButton 33 = .ok (.getfield 15, 3) := by decide +kernel
theorem dX0_takeButton_36 : decode cX0_takeButton 36 = .ok (.iload_n 1, 1) := by decide +kernel
theorem dX0_takeButton_37 : decode cX0_takeButton 37 = .ok (.aload_n 0, 1) := by decide +kernel
theorem dX0_takeButton_38 : decode cX0_takeButton 38 = .ok (.invokevirtual 55, 3) := by decide +kernel
theorem dX0_takeButton_41 : decode cX0_takeButton 41 = .ok (.iastore, 1) := by decide +kernel
theorem dX0_takeButton_42 : decode cX0_takeButton 42 = .ok (.aload_n 0, 1) := by decide +kernel
theorem dX0_takeButton_43 : decode cX0_takeButton 43 = .ok (.getfield 15, 3) := by decide +kernel
theorem dX0_takeButton_46 : decode cX0_takeButton 46 = .ok (.iload_n 1, 1) := by decide +kernel
theorem dX0_takeButton_47 : decode cX0_takeButton 47 = .ok (.iaload, 1) := by decide +kernel
theorem dX0_takeButton_48 : decode cX0_takeButton 48 = .ok (.ifCond .ge 5, 3) := by decide +kernel
theorem dX0_takeButton_51 : decode cX0_takeButton 51 = .ok (.iconst 0, 1) := by decide +kernel
theorem dX0_takeButton_52 : decode cX0_takeButton 52 = .ok (.ireturn, 1) := by decide +kernel
theorem dX0_takeButton_53 : decode cX0_takeButton 53 = .ok (.aload_n 0, 1) := by decide +kernel
theorem dX0_takeButton_54 : decode cX0_takeButton 54 = .ok (.getfield 18, 3) := by decide +kernel
theorem dX0_takeButton_57 : decode cX0_takeButton 57 = .ok (.iload_n 1, 1) := by decide +kernel
theorem dX0_takeButton_58 : decode cX0_takeButton 58 = .ok (.aload_n 0, 1) := by decide +kernel
theorem dX0_takeButton_59 : decode cX0_takeButton 59 = .ok (.bipush 105, 2) := by decide +kernel
theorem dX0_takeButton_61 : decode cX0_takeButton 61 = .ok (.invokevirtual 59, 3) := by decide +kernel
theorem dX0_takeButton_64 : decode cX0_takeButton 64 = .ok (.iastore, 1) := by decide +kernel
theorem dX0_takeButton_65 : decode cX0_takeButton 65 = .ok (.aload_n 0, 1) := by decide +kernel
theorem dX0_takeButton_66 : decode cX0_takeButton 66 = .ok (.getfield 18, 3) := by decide +kernel
theorem dX0_takeButton_69 : decode cX0_takeButton 69 = .ok (.iload_n 1, 1) := by decide +kernel
theorem dX0_takeButton_70 : decode cX0_takeButton 70 = .ok (.iaload, 1) := by decide +kernel
theorem dX0_takeButton_71 : decode cX0_takeButton 71 = .ok (.ifCond .ge 5, 3) := by decide +kernel
theorem dX0_takeButton_74 : decode cX0_takeButton 74 = .ok (.iconst 0, 1) := by decide +kernel
theorem dX0_takeButton_75 : decode cX0_takeButton 75 = .ok (.ireturn, 1) := by decide +kernel
theorem dX0_takeButton_76 : decode cX0_takeButton 76 = .ok (.aload_n 0, 1) := by decide +kernel
theorem dX0_takeButton_77 : decode cX0_takeButton 77 = .ok (.getfield 21, 3) := by decide +kernel
theorem dX0_takeButton_80 : decode cX0_takeButton 80 = .ok (.iload_n 1, 1) := by decide +kernel
theorem dX0_takeButton_81 : decode cX0_takeButton 81 = .ok (.aload_n 0, 1) := by decide +kernel
theorem dX0_takeButton_82 : decode cX0_takeButton 82 = .ok (.bipush 99, 2) := by decide +kernel
theorem dX0_takeButton_84 : decode cX0_takeButton 84 = .ok (.invokevirtual 59, 3) := by decide +kernel
theorem dX0_takeButton_87 : decode cX0_takeButton 87 = .ok (.iastore, 1) := by decide +kernel
theorem dX0_takeButton_88 : decode cX0_takeButton 88 = .ok (.aload_n 0, 1) := by decide +kernel
theorem dX0_takeButton_89 : decode cX0_takeButton 89 = .ok (.getfield 21, 3) := by decide +kernel
theorem dX0_takeButton_92 : decode cX0_takeButton 92 = .ok (.iload_n 1, 1) := by decide +kernel
theorem dX0_takeButton_93 : decode cX0_takeButton 93 = .ok (.iaload, 1) := by decide +kernel
theorem dX0_takeButton_94 : decode cX0_takeButton 94 = .ok (.ifCond .ge 5, 3) := by decide +kernel
theorem dX0_takeButton_97 : decode cX0_takeButton 97 = .ok (.iconst 0, 1) := by decide +kernel
theorem dX0_takeButton_98 : decode cX0_takeButton 98 = .ok (.ireturn, 1) := by decide +kernel
theorem dX0_takeButton_99 : decode cX0_takeButton 99 = .ok (.aload_n 0, 1) := by decide +kernel
theorem dX0_takeButton_100 : decode cX0_takeButton 100 = .ok (.getfield 24, 3) := by decide +kernel
theorem dX0_takeButton_103 : decode cX0_takeButton 103 = .ok (.iload_n 1, 1) := by decide +kernel
theorem dX0_takeButton_104 : decode cX0_takeButton 104 = .ok (.aload_n 0, 1) := by decide +kernel
theorem dX0_takeButton_105 : decode cX0_takeButton 105 = .ok (.bipush 115, 2) := by decide +kernel
theorem dX0_takeButton_107 : decode cX0_takeButton 107 = .ok (.invokevirtual 59, 3) := by decide +kernel
theorem dX0_takeButton_110 : decode cX0_takeButton 110 = .ok (.iastore, 1) := by decide +kernel
theorem dX0_takeButton_111 : decode cX0_takeButton 111 = .ok (.aload_n 0, 1) := by decide +kernel
theorem dX0_takeButton_112 : decode cX0_takeButton 112 = .ok (.getfield 24, 3) := by decide +kernel
theorem dX0_takeButton_115 : decode cX0_takeButton 115 = .ok (.iload_n 1, 1) := by decide +kernel
theorem dX0_takeButton_116 : decode cX0_takeButton 116 = .ok (.iaload, 1) := by decide +kernel
theorem dX0_takeButton_117 : decode cX0_takeButton 117 = .ok (.ifCond .lt 7, 3) := by decide +kernel
theorem dX0_takeButton_120 : decode cX0_takeButton 120 = .ok (.iconst 1, 1) := by decide +kernel
theorem dX0_takeButton_121 : decode cX0_takeButton 121 = .ok (.goto 4, 3) := by decide +kernel
theorem dX0_takeButton_124 : decode cX0_takeButton 124 = .ok (.iconst 0, 1) := by decide +kernel
theorem dX0_takeButton_125 : decode cX0_takeButton 125 = .ok (.ireturn, 1) := by decide +kernel
set_option maxRecDepth 20000 in
theorem ggX0_takePart_X0_takeSign : GoodIn wsX0_takePart wsX0_takeSign := goodIn_r _ [5, 6, 7, 8, 9, 14, 15, 16, 17, 18, 19, 20, 21, 22, 23] (by decide +kernel) (by decide +kernel)
set_option maxRecDepth 20000 in
theorem gX0_takePart_X0_takeSign : GoodIn wsX0_takePart (wsV RX0 47 RX0 yX0_takeSign wsX0_takeSign) := goodIn_app (goodIn_of _ (by decide +kernel)) ggX0_takePart_X0_takeSign
set_option maxRecDepth 20000 in
theorem ggX0_takePart_X0_takeDigit : GoodIn wsX0_takePart wsX0_takeDigit := goodIn_r _ [13, 6, 7, 8, 9, 14, 15, 16, 17, 18, 19, 20, 21, 22, 23] (by decide +kernel) (by decide +kernel)
set_option maxRecDepth 20000 in
theorem gX0_takePart_X0_takeDigit : GoodIn wsX0_takePart (wsV RX0 51 RX0 yX0_takeDigit wsX0_takeDigit) := goodIn_app (goodIn_of _ (by decide +kernel)) ggX0_takePart_X0_takeDigit
theorem dX0_takePart_0 : decode cX0_takePart 0 = .ok (.aload_n 0, 1) := by decide +kernel
theorem dX0_takePart_1 : decode cX0_takePart 1 = .ok (.iload_n 1, 1) := by decide +kernel
theorem dX0_takePart_2 : decode cX0_takePart 2 = .ok (.invokevirtual 47, 3) := by decide +kernel
theorem dX0_takePart_5 : decode cX0_takePart 5 = .ok (.ifCond .eq 13, 3) := by decide +kernel
theorem dX0_takePart_8 : decode cX0_takePart 8 = .ok (.aload_n 0, 1) := by decide +kernel
theorem dX0_takePart_9 : decode cX0_takePart 9 = .ok (.iconst 0, 1) := by decide +kernel
theorem dX0_takePart_10 : decode cX0_takePart 10 = .ok (.bipush 9, 2) := by decide +kernel
theorem dX0_takePart_12 : decode cX0_takePart 12 = .ok (.invokevirtual 51, 3) := by decide +kernel
theorem dX0_takePart_15 : decode cX0_takePart 15 = .ok (.goto 4, 3) := by decide +kernel
theorem dX0_takePart_18 : decode cX0_takePart 18 = .ok (.iconst 0, 1) := by decide +kernel
theorem dX0_takePart_19 : decode cX0_takePart 19 = .ok (.ireturn, 1) := by decide +kernel
set_option maxRecDepth 20000 in
theorem ggX0_takeSize_X0_takeDigit : GoodIn wsX0_takeSize wsX0_takeDigit := goodIn_r _ [5, 6, 7, 8, 9, 10, 11, 12, 13, 14, 15, 16, 17, 18, 19] (by decide +kernel) (by decide +kernel)
set_option maxRecDepth 20000 in
theorem gX0_takeSize_X0_takeDigit : GoodIn wsX0_takeSize (wsV RX0 51 RX0 yX0_takeDigit wsX0_takeDigit) := goodIn_app (goodIn_of _ (by decide +kernel)) ggX0_takeSize_X0_takeDigit
theorem dX0_takeSize_0 : decode cX0_takeSize 0 = .ok (.aload_n 0, 1) := by decide +kernel
theorem dX0_takeSize_1 : decode cX0_takeSize 1 = .ok (.iconst 1, 1) := by decide +kernel
theorem dX0_takeSize_2 : decode cX0_takeSize 2 = .ok (.bipush 9, 2) := by decide +kernel
theorem dX0_takeSize_4 : decode cX0_takeSize 4 = .ok (.invokevirtual 51, 3) := by decide +kernel
theorem dX0_takeSize_7 : decode cX0_takeSize 7 = .ok (.istore_n 1, 1) := by decide +kernel
theorem dX0_takeSize_8 : decode cX0_takeSize 8 = .ok (.iload_n 1, 1) := by decide +kernel
theorem dX0_takeSize_9 : decode cX0_takeSize 9 = .ok (.ifCond .lt 8, 3) := by decide +kernel
theorem dX0_takeSize_12 : decode cX0_takeSize 12 = .ok (.iload_n 1, 1) := by decide +kernel
theorem dX0_takeSize_13 : decode cX0_takeSize 13 = .ok (.iconst 3, 1) := by decide +kernel
theorem dX0_takeSize_14 : decode cX0_takeSize 14 = .ok (.if_icmp .le 5, 3) := by decide +kernel
theorem dX0_takeSize_17 : decode cX0_takeSize 17 = .ok (.iload_n 1, 1) := by decide +kernel
theorem dX0_takeSize_18 : decode cX0_takeSize 18 = .ok (.ireturn, 1) := by decide +kernel
theorem dX0_takeSize_19 : decode cX0_takeSize 19 = .ok (.aload_n 0, 1) := by decide +kernel
theorem dX0_takeSize_20 : decode cX0_takeSize 20 = .ok (.iconst 0, 1) := by decide +kernel
theorem dX0_takeSize_21 : decode cX0_takeSize 21 = .ok (.iload_n 1, 1) := by decide +kernel
theorem dX0_takeSize_22 : decode cX0_takeSize 22 = .ok (.iconst 3, 1) := by decide +kernel
theorem dX0_takeSize_23 : decode cX0_takeSize 23 = .ok (.if_icmp .ne 7, 3) := by decide +kernel
theorem dX0_takeSize_26 : decode cX0_takeSize 26 = .ok (.iconst 0, 1) := by decide +kernel
theorem dX0_takeSize_27 : decode cX0_takeSize 27 = .ok (.goto 5, 3) := by decide +kernel
theorem dX0_takeSize_30 : decode cX0_takeSize 30 = .ok (.bipush 9, 2) := by decide +kernel
theorem dX0_takeSize_32 : decode cX0_takeSize 32 = .ok (.invokevirtual 51, 3) := by decide +kernel
theorem dX0_takeSize_35 : decode cX0_takeSize 35 = .ok (.istore_n 2, 1) := by decide +kernel
theorem dX0_takeSize_36 : decode cX0_takeSize 36 = .ok (.iload_n 2, 1) := by decide +kernel
theorem dX0_takeSize_37 : decode cX0_takeSize 37 = .ok (.ifCond .ge 7, 3) := by decide +kernel
theorem dX0_takeSize_40 : decode cX0_takeSize 40 = .ok (.iload_n 1, 1) := by decide +kernel
theorem dX0_takeSize_41 : decode cX0_takeSize 41 = .ok (.goto 9, 3) := by decide +kernel
theorem dX0_takeSize_44 : decode cX0_takeSize 44 = .ok (.bipush 10, 2) := by decide +kernel
theorem dX0_takeSize_46 : decode cX0_takeSize 46 = .ok (.iload_n 1, 1) := by decide +kernel
theorem dX0_takeSize_47 : decode cX0_takeSize 47 = .ok (.imul, 1) := by decide +kernel
theorem dX0_takeSize_48 : decode cX0_takeSize 48 = .ok (.iload_n 2, 1) := by decide +kernel
theorem dX0_takeSize_49 : decode cX0_takeSize 49 = .ok (.iadd, 1) := by decide +kernel
theorem dX0_takeSize_50 : decode cX0_takeSize 50 = .ok (.ireturn, 1) := by decide +kernel
theorem dX0_takeSign_0 : decode cX0_takeSign 0 = .ok (.aload_n 0, 1) := by decide +kernel
theorem dX0_takeSign_1 : decode cX0_takeSign 1 = .ok (.getfield 31, 3) := by decide +kernel
theorem dX0_takeSign_4 : decode cX0_takeSign 4 = .ok (.aload_n 0, 1) := by decide +kernel
theorem dX0_takeSign_5 : decode cX0_takeSign 5 = .ok (.getfield 34, 3) := by decide +kernel
theorem dX0_takeSign_8 : decode cX0_takeSign 8 = .ok (.getfield 42, 3) := by decide +kernel
theorem dX0_takeSign_11 : decode cX0_takeSign 11 = .ok (.if_icmp .ge 19, 3) := by decide +kernel
theorem dX0_takeSign_14 : decode cX0_takeSign 14 = .ok (.aload_n 0, 1) := by decide +kernel
theorem dX0_takeSign_15 : decode cX0_takeSign 15 = .ok (.getfield 34, 3) := by decide +kernel
theorem dX0_takeSign_18 : decode cX0_takeSign 18 = .ok (.getfield 63, 3) := by decide +kernel
theorem dX0_takeSign_21 : decode cX0_takeSign 21 = .ok (.aload_n 0, 1) := by decide +kernel
theorem dX0_takeSign_22 : decode cX0_takeSign 22 = .ok (.getfield 31, 3) := by decide +kernel
theorem dX0_takeSign_25 : decode cX0_takeSign 25 = .ok (.caload, 1) := by decide +kernel
theorem dX0_takeSign_26 : decode cX0_takeSign 26 = .ok (.iload_n 1, 1) := by decide +kernel
theorem dX0_takeSign_27 : decode cX0_takeSign 27 = .ok (.if_icmp .eq 5, 3) := by decide +kernel
theorem dX0_takeSign_30 : decode cX0_takeSign 30 = .ok (.iconst 0, 1) := by decide +kernel
theorem dX0_takeSign_31 : decode cX0_takeSign 31 = .ok (.ireturn, 1) := by decide +kernel
theorem dX0_takeSign_32 : decode cX0_takeSign 32 = .ok (.aload_n 0, 1) := by decide +kernel
theorem dX0_takeSign_33 : decode cX0_takeSign 33 = .ok (.dup, 1) := by decide +kernel
theorem dX0_takeSign_34 : decode cX0_takeSign 34 = .ok (.getfield 31, 3) := by decide +kernel
theorem dX0_takeSign_37 : decode cX0_takeSign 37 = .ok (.iconst 1, 1) := by decide +kernel
theorem dX0_takeSign_38 : decode cX0_takeSign 38 = .ok (.iadd, 1) := by decide +kernel
theorem dX0_takeSign_39 : decode cX0_takeSign 39 = .ok (.putfield 31, 3) := by decide +kernel
theorem dX0_takeSign_42 : decode cX0_takeSign 42 = .ok (.iconst 1, 1) := by decide +kernel
theorem dX0_takeSign_43 : decode cX0_takeSign 43 = .ok (.ireturn, 1) := by decide +kernel
theorem dX0_takeDigit_0 : decode cX0_takeDigit 0 = .ok (.aload_n 0, 1) := by decide +kernel
theorem dX0_takeDigit_1 : decode cX0_takeDigit 1 = .ok (.getfield 31, 3) := by decide +kernel
theorem dX0_takeDigit_4 : decode cX0_takeDigit 4 = .ok (.aload_n 0, 1) := by decide +kernel
theorem dX0_takeDigit_5 : decode cX0_takeDigit 5 = .ok (.getfield 34, 3) := by decide +kernel
theorem dX0_takeDigit_8 : decode cX0_takeDigit 8 = .ok (.getfield 42, 3) := by decide +kernel
theorem dX0_takeDigit_11 : decode cX0_takeDigit 11 = .ok (.if_icmp .lt 5, 3) := by decide +kernel
theorem dX0_takeDigit_14 : decode cX0_takeDigit 14 = .ok (.iconst (-1), 1) := by decide +kernel
theorem dX0_takeDigit_15 : decode cX0_takeDigit 15 = .ok (.ireturn, 1) := by decide +kernel
theorem dX0_takeDigit_16 : decode cX0_takeDigit 16 = .ok (.aload_n 0, 1) := by decide +kernel
theorem dX0_takeDigit_17 : decode cX0_takeDigit 17 = .ok (.getfield 34, 3) := by decide +kernel
theorem dX0_takeDigit_20 : decode cX0_takeDigit 20 = .ok (.getfield 63, 3) := by decide +kernel
theorem dX0_takeDigit_23 : decode cX0_takeDigit 23 = .ok (.aload_n 0, 1) := by decide +kernel
theorem dX0_takeDigit_24 : decode cX0_takeDigit 24 = .ok (.getfield 31, 3) := by decide +kernel
theorem dX0_takeDigit_27 : decode cX0_takeDigit 27 = .ok (.caload, 1) := by decide +kernel
theorem dX0_takeDigit_28 : decode cX0_takeDigit 28 = .ok (.bipush 48, 2) := by decide +kernel
theorem dX0_takeDigit_30 : decode cX0_takeDigit 30 = .ok (.isub, 1) := by decide +kernel
theorem dX0_takeDigit_31 : decode cX0_takeDigit 31 = .ok (.istore_n 3, 1) := by decide +kernel
theorem dX0_takeDigit_32 : decode cX0_takeDigit 32 = .ok (.iload_n 3, 1) := by decide +kernel
theorem dX0_takeDigit_33 : decode cX0_takeDigit 33 = .ok (.iload_n 1, 1) := by decide +kernel
theorem dX0_takeDigit_34 : decode cX0_takeDigit 34 = .ok (.if_icmp .lt 8, 3) := by decide +kernel
theorem dX0_takeDigit_37 : decode cX0_takeDigit 37 = .ok (.iload_n 3, 1) := by decide +kernel
theorem dX0_takeDigit_38 : decode cX0_takeDigit 38 = .ok (.iload_n 2, 1) := by decide +kernel
theorem dX0_takeDigit_39 : decode cX0_takeDigit 39 = .ok (.if_icmp .le 5, 3) := by decide +kernel
theorem dX0_takeDigit_42 : decode cX0_takeDigit 42 = .ok (.iconst (-1), 1) := by decide +kernel
theorem dX0_takeDigit_43 : decode cX0_takeDigit 43 = .ok (.ireturn, 1) := by decide +kernel
theorem dX0_takeDigit_44 : decode cX0_takeDigit 44 = .ok (.aload_n 0, 1) := by decide +kernel
theorem dX0_takeDigit_45 : decode cX0_takeDigit 45 = .ok (.dup, 1) := by decide +kernel
theorem dX0_takeDigit_46 : decode cX0_takeDigit 46 = .ok (.getfield 31, 3) := by decide +kernel
theorem dX0_takeDigit_49 : decode cX0_takeDigit 49 = .ok (.iconst 1, 1) := by decide +kernel
theorem dX0_takeDigit_50 : decode cX0_takeDigit 50 = .ok (.iadd, 1) := by decide +kernel
theorem dX0_takeDigit_51 : decode cX0_takeDigit 51 = .ok (.putfield 31, 3) := by decide +kernel
theorem dX0_takeDigit_54 : decode cX0_takeDigit 54 = .ok (.iload_n 3, 1) := by decide +kernel
theorem dX0_takeDigit_55 : decode cX0_takeDigit 55 = .ok (.ireturn, 1) := by decide +kernel
theorem dX1_init_0 : decode cX1_init 0 = .ok (.aload_n 0, 1) := by decide +kernel
theorem dX1_init_1 : decode cX1_init 1 = .ok (.invokespecial 3, 3) := by decide +kernel
theorem dX1_init_4 : decode cX1_init 4 = .ok (.aload_n 0, 1) := by decide +kernel
theorem dX1_init_5 : decode cX1_init 5 = .ok (.bipush 40, 2) := by decide +kernel
theorem dX1_init_7 : decode cX1_init 7 = .ok (.newarray .int, 2) := by decide +kernel
theorem dX1_init_9 : decode cX1_init 9 = .ok (.putfield 9, 3) := by decide +kernel
theorem dX1_init_12 : decode cX1_init 12 = .ok (.aload_n 0, 1) := by decide +kernel
theorem dX1_init_13 : decode cX1_init 13 = .ok (.bipush 40, 2) := by decide +kernel
theorem dX1_init_15 : decode cX1_init 15 = .ok (.newarray .int, 2) := by decide +kernel
theorem dX1_init_17 : decode cX1_init 17 = .ok (.putfield 15, 3) := by decide +kernel
theorem dX1_init_20 : decode cX1_init 20 = .ok (.aload_n 0, 1) := by decide +kernel
theorem dX1_init_21 : decode cX1_init 21 = .ok (.bipush 40, 2) := by decide +kernel
theorem dX1_init_23 : decode cX1_init 23 = .ok (.newarray .int, 2) := by decide +kernel
theorem dX1_init_25 : decode cX1_init 25 = .ok (.putfield 18, 3) := by decide +kernel
theorem dX1_init_28 : decode cX1_init 28 = .ok (.aload_n 0, 1) := by decide +kernel
theorem dX1_init_29 : decode cX1_init 29 = .ok (.bipush 40, 2) := by decide +kernel
theorem dX1_init_31 : decode cX1_init 31 = .ok (.newarray .int, 2) := by decide +kernel
theorem dX1_init_33 : decode cX1_init 33 = .ok (.putfield 21, 3) := by decide +kernel
theorem dX1_init_36 : decode cX1_init 36 = .ok (.aload_n 0, 1) := by decide +kernel
theorem dX1_init_37 : decode cX1_init 37 = .ok (.bipush 40, 2) := by decide +kernel
theorem dX1_init_39 : decode cX1_init 39 = .ok (.newarray .int, 2) := by decide +kernel
theorem dX1_init_41 : decode cX1_init 41 = .ok (.putfield 24, 3) := by decide +kernel
theorem dX1_init_44 : decode cX1_init 44 = .ok (.aload_n 0, 1) := by decide +kernel
theorem dX1_init_45 : decode cX1_init 45 = .ok (.bipush 40, 2) := by decide +kernel
theorem dX1_init_47 : decode cX1_init 47 = .ok (.newarray .int, 2) := by decide +kernel
theorem dX1_init_49 : decode cX1_init 49 = .ok (.putfield 27, 3) := by decide +kernel
theorem dX1_init_52 : decode cX1_init 52 = .ok (.aload_n 0, 1) := by decide +kernel
theorem dX1_init_53 : decode cX1_init 53 = .ok (.iconst 0, 1) := by decide +kernel
theorem dX1_init_54 : decode cX1_init 54 = .ok (.putfield 30, 3) := by decide +kernel
theorem dX1_init_57 : decode cX1_init 57 = .ok (.return_, 1) := by decide +kernel
theorem dX1_has_0 : decode cX1_has 0 = .ok (.iload_n 1, 1) := by decide +kernel
theorem dX1_has_1 : decode cX1_has 1 = .ok (.ifCond .lt 15, 3) := by decide +kernel
theorem dX1_has_4 : decode cX1_has 4 = .ok (.iload_n 1, 1) := by decide +kernel
theorem dX1_has_5 : decode cX1_has 5 = .ok (.aload_n 0, 1) := by decide +kernel
theorem dX1_has_6 : decode cX1_has 6 = .ok (.getfield 30, 3) := by decide +kernel
theorem dX1_has_9 : decode cX1_has 9 = .ok (.if_icmp .ge 7, 3) := by decide +kernel
theorem dX1_has_12 : decode cX1_has 12 = .ok (.iconst 1, 1) := by decide +kernel
theorem dX1_has_13 : decode cX1_has 13 = .ok (.goto 4, 3) := by decide +kernel
theorem dX1_has_16 : decode cX1_has 16 = .ok (.iconst 0, 1) := by decide +kernel
theorem dX1_has_17 : decode cX1_has 17 = .ok (.ireturn, 1) := by decide +kernel
theorem dX1_brighten_0 : decode cX1_brighten 0 = .ok (.aload_n 0, 1) := by decide +kernel
theorem dX1_brighten_1 : decode cX1_brighten 1 = .ok (.getfield 24, 3) := by decide +kernel
theorem dX1_brighten_4 : decode cX1_brighten 4 = .ok (.iload_n 1, 1) := by decide +kernel
theorem dX1_brighten_5 : decode cX1_brighten 5 = .ok (.dup2, 1) := by decide +kernel
theorem dX1_brighten_6 : decode cX1_brighten 6 = .ok (.iaload, 1) := by decide +kernel
theorem dX1_brighten_7 : decode cX1_brighten 7 = .ok (.iconst 1, 1) := by decide +kernel
theorem dX1_brighten_8 : decode cX1_brighten 8 = .ok (.iadd, 1) := by decide +kernel
theorem dX1_brighten_9 : decode cX1_brighten 9 = .ok (.iastore, 1) := by decide +kernel
theorem dX1_brighten_10 : decode cX1_brighten 10 = .ok (.aload_n 0, 1) := by decide +kernel
theorem dX1_brighten_11 : decode cX1_brighten 11 = .ok (.getfield 21, 3) := by decide +kernel
theorem dX1_brighten_14 : decode cX1_brighten 14 = .ok (.iload_n 1, 1) := by decide +kernel
theorem dX1_brighten_15 : decode cX1_brighten 15 = .ok (.iaload, 1) := by decide +kernel
theorem dX1_brighten_16 : decode cX1_brighten 16 = .ok (.ifCond .le 13, 3) := by decide +kernel
theorem dX1_brighten_19 : decode cX1_brighten 19 = .ok (.aload_n 0, 1) := by decide +kernel
theorem dX1_brighten_20 : decode cX1_brighten 20 = .ok (.getfield 21, 3) := by decide +kernel
theorem dX1_brighten_23 : decode cX1_brighten 23 = .ok (.iload_n 1, 1) := by decide +kernel
theorem dX1_brighten_24 : decode cX1_brighten 24 = .ok (.dup2, 1) := by decide +kernel
theorem dX1_brighten_25 : decode cX1_brighten 25 = .ok (.iaload, 1) := by decide +kernel
theorem dX1_brighten_26 : decode cX1_brighten 26 = .ok (.iconst 1, 1) := by decide +kernel
theorem dX1_brighten_27 : decode cX1_brighten 27 = .ok (.isub, 1) := by decide +kernel
theorem dX1_brighten_28 : decode cX1_brighten 28 = .ok (.iastore, 1) := by decide +kernel
theorem dX1_brighten_29 : decode cX1_brighten 29 = .ok (.return_, 1) := by decide +kernel
theorem dX1_chip_0 : decode cX1_chip 0 = .ok (.aload_n 0, 1) := by decide +kernel
theorem dX1_chip_1 : decode cX1_chip 1 = .ok (.getfield 21, 3) := by decide +kernel
theorem dX1_chip_4 : decode cX1_chip 4 = .ok (.iload_n 1, 1) := by decide +kernel
theorem dX1_chip_5 : decode cX1_chip 5 = .ok (.iaload, 1) := by decide +kernel
theorem dX1_chip_6 : decode cX1_chip 6 = .ok (.bipush 9, 2) := by decide +kernel
theorem dX1_chip_8 : decode cX1_chip 8 = .ok (.if_icmp .ge 13, 3) := by decide +kernel
theorem dX1_chip_11 : decode cX1_chip 11 = .ok (.aload_n 0, 1) := by decide +kernel
theorem dX1_chip_12 : decode cX1_chip 12 = .ok (.getfield 21, 3) := by decide +kernel
theorem dX1_chip_15 : decode cX1_chip 15 = .ok (.iload_n 1, 1) := by decide +kernel
theorem dX1_chip_16 : decode cX1_chip 16 = .ok (.dup2, 1) := by decide +kernel
theorem dX1_chip_17 : decode cX1_chip 17 = .ok (.iaload, 1) := by decide +kernel
theorem dX1_chip_18 : decode cX1_chip 18 = .ok (.iconst 1, 1) := by decide +kernel
theorem dX1_chip_19 : decode cX1_chip 19 = .ok (.iadd, 1) := by decide +kernel
theorem dX1_chip_20 : decode cX1_chip 20 = .ok (.iastore, 1) := by decide +kernel
theorem dX1_chip_21 : decode cX1_chip 21 = .ok (.return_, 1) := by decide +kernel
theorem dX1_chipSum_0 : decode cX1_chipSum 0 = .ok (.iconst 0, 1) := by decide +kernel
theorem dX1_chipSum_1 : decode cX1_chipSum 1 = .ok (.istore_n 1, 1) := by decide +kernel
theorem dX1_chipSum_2 : decode cX1_chipSum 2 = .ok (.iconst 0, 1) := by decide +kernel
theorem dX1_chipSum_3 : decode cX1_chipSum 3 = .ok (.istore_n 2, 1) := by decide +kernel
theorem dX1_chipSum_4 : decode cX1_chipSum 4 = .ok (.iload_n 2, 1) := by decide +kernel
theorem dX1_chipSum_5 : decode cX1_chipSum 5 = .ok (.aload_n 0, 1) := by decide +kernel
theorem dX1_chipSum_6 : decode cX1_chipSum 6 = .ok (.getfield 30, 3) := by decide +kernel
theorem dX1_chipSum_9 : decode cX1_chipSum 9 = .ok (.if_icmp .ge 18, 3) := by decide +kernel
theorem dX1_chipSum_12 : decode cX1_chipSum 12 = .ok (.iload_n 1, 1) := by decide +kernel
theorem dX1_chipSum_13 : decode cX1_chipSum 13 = .ok (.aload_n 0, 1) := by decide +kernel
theorem dX1_chipSum_14 : decode cX1_chipSum 14 = .ok (.getfield 21, 3) := by decide +kernel
theorem dX1_chipSum_17 : decode cX1_chipSum 17 = .ok (.iload_n 2, 1) := by decide +kernel
theorem dX1_chipSum_18 : decode cX1_chipSum 18 = .ok (.iaload, 1) := by decide +kernel
theorem dX1_chipSum_19 : decode cX1_chipSum 19 = .ok (.iadd, 1) := by decide +kernel
theorem dX1_chipSum_20 : decode cX1_chipSum 20 = .ok (.istore_n 1, 1) := by decide +kernel
theorem dX1_chipSum_21 : decode cX1_chipSum 21 = .ok (.iinc 2 1, 3) := by decide +kernel
theorem dX1_chipSum_24 : decode cX1_chipSum 24 = .ok (.goto (-20), 3) := by decide +kernel
theorem dX1_chipSum_27 : decode cX1_chipSum 27 = .ok (.iload_n 1, 1) := by decide +kernel
theorem dX1_chipSum_28 : decode cX1_chipSum 28 = .ok (.ireturn, 1) := by decide +kernel
theorem dX1_copyFrom_0 : decode cX1_copyFrom 0 = .ok (.aload_n 0, 1) := by decide +kernel
theorem dX1_copyFrom_1 : decode cX1_copyFrom 1 = .ok (.aload_n 1, 1) := by decide +kernel
theorem dX1_copyFrom_2 : decode cX1_copyFrom 2 = .ok (.getfield 30, 3) := by decide +kernel
theorem dX1_copyFrom_5 : decode cX1_copyFrom 5 = .ok (.putfield 30, 3) := by decide +kernel
theorem dX1_copyFrom_8 : decode cX1_copyFrom 8 = .ok (.aload_n 1, 1) := by decide +kernel
theorem dX1_copyFrom_9 : decode cX1_copyFrom 9 = .ok (.getfield 9, 3) := by decide +kernel
theorem dX1_copyFrom_12 : decode cX1_copyFrom 12 = .ok (.iconst 0, 1) := by decide +kernel
theorem dX1_copyFrom_13 : decode cX1_copyFrom 13 = .ok (.aload_n 0, 1) := by decide +kernel
theorem dX1_copyFrom_14 : decode cX1_copyFrom 14 = .ok (.getfield 9, 3) := by decide +kernel
theorem dX1_copyFrom_17 : decode cX1_copyFrom 17 = .ok (.iconst 0, 1) := by decide +kernel
theorem dX1_copyFrom_18 : decode cX1_copyFrom 18 = .ok (.aload_n 0, 1) := by decide +kernel
theorem dX1_copyFrom_19 : decode cX1_copyFrom 19 = .ok (.getfield 30, 3) := by decide +kernel
theorem dX1_copyFrom_22 : decode cX1_copyFrom 22 = .ok (.invokestatic 34, 3) := by decide +kernel
theorem dX1_copyFrom_25 : decode cX1_copyFrom 25 = .ok (.aload_n 1, 1) := by decide +kernel
theorem dX1_copyFrom_26 : decode cX1_copyFrom 26 = .ok (.getfield 15, 3) := by decide +kernel
theorem dX1_copyFrom_29 : decode cX1_copyFrom 29 = .ok (.iconst 0, 1) := by decide +kernel
theorem dX1_copyFrom_30 : decode cX1_copyFrom 30 = .ok (.aload_n 0, 1) := by decide +kernel
theorem dX1_copyFrom_31 : decode cX1_copyFrom 31 = .ok (.getfield 15, 3) := by decide +kernel
theorem dX1_copyFrom_34 : decode cX1_copyFrom 34 = .ok (.iconst 0, 1) := by decide +kernel
theorem dX1_copyFrom_35 : decode cX1_copyFrom 35 = .ok (.aload_n 0, 1) := by decide +kernel
theorem dX1_copyFrom_36 : decode cX1_copyFrom 36 = .ok (.getfield 30, 3) := by decide +kernel
theorem dX1_copyFrom_39 : decode cX1_copyFrom 39 = .ok (.invokestatic 34, 3) := by decide +kernel
theorem dX1_copyFrom_42 : decode cX1_copyFrom 42 = .ok (.aload_n 1, 1) := by decide +kernel
theorem dX1_copyFrom_43 : decode cX1_copyFrom 43 = .ok (.getfield 18, 3) := by decide +kernel
theorem dX1_copyFrom_46 : decode cX1_copyFrom 46 = .ok (.iconst 0, 1) := by decide +kernel
theorem dX1_copyFrom_47 : decode cX1_copyFrom 47 = .ok (.aload_n 0, 1) := by decide +kernel
theorem dX1_copyFrom_48 : decode cX1_copyFrom 48 = .ok (.getfield 18, 3) := by decide +kernel
theorem dX1_copyFrom_51 : decode cX1_copyFrom 51 = .ok (.iconst 0, 1) := by decide +kernel
theorem dX1_copyFrom_52 : decode cX1_copyFrom 52 = .ok (.aload_n 0, 1) := by decide +kernel
theorem dX1_copyFrom_53 : decode cX1_copyFrom 53 = .ok (.getfield 30, 3) := by decide +kernel
theorem dX1_copyFrom_56 : decode cX1_copyFrom 56 = .ok (.invokestatic 34, 3) := by decide +kernel
theorem dX1_copyFrom_59 : decode cX1_copyFrom 59 = .ok (.aload_n 1, 1) := by decide +kernel
theorem dX1_copyFrom_60 : decode cX1_copyFrom 60 = .ok (.getfield 21, 3) := by decide +kernel
theorem dX1_copyFrom_63 : decode cX1_copyFrom 63 = .ok (.iconst 0, 1) := by decide +kernel
theorem dX1_copyFrom_64 : decode cX1_copyFrom 64 = .ok (.aload_n 0, 1) := by decide +kernel
theorem dX1_copyFrom_65 : decode cX1_copyFrom 65 = .ok (.getfield 21, 3) := by decide +kernel
theorem dX1_copyFrom_68 : decode cX1_copyFrom 68 = .ok (.iconst 0, 1) := by decide +kernel
theorem dX1_copyFrom_69 : decode cX1_copyFrom 69 = .ok (.aload_n 0, 1) := by decide +kernel
theorem dX1_copyFrom_70 : decode cX1_copyFrom 70 = .ok (.getfield 30, 3) := by decide +kernel
theorem dX1_copyFrom_73 : decode cX1_copyFrom 73 = .ok (.invokestatic 34, 3) := by decide +kernel
theorem dX1_copyFrom_76 : decode cX1_copyFrom 76 = .ok (.aload_n 1, 1) := by decide +kernel
theorem dX1_copyFrom_77 : decode cX1_copyFrom 77 = .ok (.getfield 24, 3) := by decide +kernel
theorem dX1_copyFrom_80 : decode cX1_copyFrom 80 = .ok (.iconst 0, 1) := by decide +kernel
theorem dX1_copyFrom_81 : decode cX1_copyFrom 81 = .ok (.aload_n 0, 1) := by decide +kernel
theorem dX1_copyFrom_82 : decode cX1_copyFrom 82 = .ok (.getfield 24, 3) := by decide +kernel
theorem dX1_copyFrom_85 : decode cX1_copyFrom 85 = .ok (.iconst 0, 1) := by decide +kernel
theorem dX1_copyFrom_86 : decode cX1_copyFrom 86 = .ok (.aload_n 0, 1) := by decide +kernel
theorem dX1_copyFrom_87 : decode cX1_copyFrom 87 = .ok (.getfield 30, 3) := by decide +kernel
theorem dX1_copyFrom_90 : decode cX1_copyFrom 90 = .ok (.invokestatic 34, 3) := by decide +kernel
theorem dX1_copyFrom_93 : decode cX1_copyFrom 93 = .ok (.aload_n 1, 1) := by decide +kernel
theorem dX1_copyFrom_94 : decode cX1_copyFrom 94 = .ok (.getfield 27, 3) := by decide +kernel
theorem dX1_copyFrom_97 : decode cX1_copyFrom 97 = .ok (.iconst 0, 1) := by decide +kernel
theorem dX1_copyFrom_98 : decode cX1_copyFrom 98 = .ok (.aload_n 0, 1) := by decide +kernel
theorem dX1_copyFrom_99 : decode cX1_copyFrom 99 = .ok (.getfield 27, 3) := by decide +kernel
theorem dX1_copyFrom_102 : decode cX1_copyFrom 102 = .ok (.iconst 0, 1) := by decide +kernel
theorem dX1_copyFrom_103 : decode cX1_copyFrom 103 = .ok (.aload_n 0, 1) := by decide +kernel
theorem dX1_copyFrom_104 : decode cX1_copyFrom 104 = .ok (.getfield 30, 3) := by decide +kernel
theorem dX1_copyFrom_107 : decode cX1_copyFrom 107 = .ok (.invokestatic 34, 3) := by decide +kernel
theorem dX1_copyFrom_110 : decode cX1_copyFrom 110 = .ok (.return_, 1) := by decide +kernel
set_option maxRecDepth 20000 in
theorem ggX2_init_X5_init : GoodIn wsX2_init wsX5_init := goodIn_r _ [10, 11, 2, 3, 12, 13, 14, 15, 16, 17, 18, 19, 20, 21, 22, 23, 24, 25, 26, 27, 28, 29, 30, 31, 32, 33, 34, 35, 36, 37, 38, 39, 40, 41, 42, 43, 44, 45, 46, 47, 48, 49, 50, 51, 62, 63, 64, 65, 66, 67, 68, 54, 55, 56, 57, 58, 59, 60, 61, 69, 70, 71, 72, 73, 74] (by decide +kernel) (by decide +kernel)
set_option maxRecDepth 20000 in
theorem gX2_init_X5_init_n21 : GoodIn wsX2_init (wsX5_init) := ggX2_init_X5_init
theorem dX2_init_0 : decode cX2_init 0 = .ok (.aload_n 0, 1) := by decide +kernel
theorem dX2_init_1 : decode cX2_init 1 = .ok (.invokespecial 3, 3) := by decide +kernel
theorem dX2_init_4 : decode cX2_init 4 = .ok (.aload_n 0, 1) := by decide +kernel
theorem dX2_init_5 : decode cX2_init 5 = .ok (.iconst 4, 1) := by decide +kernel
theorem dX2_init_6 : decode cX2_init 6 = .ok (.anewarray 9, 3) := by decide +kernel
theorem dX2_init_9 : decode cX2_init 9 = .ok (.putfield 11, 3) := by decide +kernel
theorem dX2_init_12 : decode cX2_init 12 = .ok (.aload_n 0, 1) := by decide +kernel
theorem dX2_init_13 : decode cX2_init 13 = .ok (.iconst 0, 1) := by decide +kernel
theorem dX2_init_14 : decode cX2_init 14 = .ok (.putfield 17, 3) := by decide +kernel
theorem dX2_init_17 : decode cX2_init 17 = .ok (.iconst 0, 1) := by decide +kernel
theorem dX2_init_18 : decode cX2_init 18 = .ok (.istore_n 1, 1) := by decide +kernel
theorem dX2_init_19 : decode cX2_init 19 = .ok (.iload_n 1, 1) := by decide +kernel
theorem dX2_init_20 : decode cX2_init 20 = .ok (.iconst 4, 1) := by decide +kernel
theorem dX2_init_21 : decode cX2_init 21 = .ok (.if_icmp .ge 22, 3) := by decide +kernel
theorem dX2_init_24 : decode cX2_init 24 = .ok (.aload_n 0, 1) := by decide +kernel
theorem dX2_init_25 : decode cX2_init 25 = .ok (.getfield 11, 3) := by decide +kernel
theorem dX2_init_28 : decode cX2_init 28 = .ok (.iload_n 1, 1) := by decide +kernel
theorem dX2_init_29 : decode cX2_init 29 = .ok (.new 9, 3) := by decide +kernel
theorem dX2_init_32 : decode cX2_init 32 = .ok (.dup, 1) := by decide +kernel
theorem dX2_init_33 : decode cX2_init 33 = .ok (.invokespecial 21, 3) := by decide +kernel
theorem dX2_init_36 : decode cX2_init 36 = .ok (.aastore, 1) := by decide +kernel
theorem dX2_init_37 : decode cX2_init 37 = .ok (.iinc 1 1, 3) := by decide +kernel
theorem dX2_init_40 : decode cX2_init 40 = .ok (.goto (-21), 3) := by decide +kernel
theorem dX2_init_43 : decode cX2_init 43 = .ok (.return_, 1) := by decide +kernel
set_option maxRecDepth 20000 in
theorem ggX2_remember_X2_dropOldest : GoodIn wsX2_remember wsX2_dropOldest := goodIn_r _ [7, 2, 1, 51, 52] (by decide +kernel) (by decide +kernel)
set_option maxRecDepth 20000 in
theorem gX2_remember_X2_dropOldest : GoodIn wsX2_remember (wsV RX2 22 RX2 yX2_dropOldest wsX2_dropOldest) := goodIn_app (goodIn_of _ (by decide +kernel)) ggX2_remember_X2_dropOldest
set_option maxRecDepth 20000 in
theorem ggX2_remember_X5_copyFrom : GoodIn wsX2_remember wsX5_copyFrom := goodIn_r _ [12, 13, 14, 15, 16, 17, 18, 19, 20, 21, 22, 23, 24, 25, 26, 27, 28, 29, 30, 31, 32, 33, 34, 35, 36, 37, 38, 39, 40, 41, 42, 43, 44, 45, 46, 47, 48, 49, 50, 53, 54, 55, 56, 57, 58, 59, 60, 61, 62, 63, 64, 65, 66, 67, 68, 69, 70, 71, 72, 73] (by decide +kernel) (by decide +kernel)
set_option maxRecDepth 20000 in
theorem gX2_remember_X5_copyFrom : GoodIn wsX2_remember (wsV RX2 25 RX5 yX5_copyFrom wsX5_copyFrom) := goodIn_app (goodIn_of _ (by decide +kernel)) ggX2_remember_X5_copyFrom
theorem dX2_remember_0 : decode cX2_remember 0 = .ok (.aload_n 0, 1) := by decide +kernel
theorem dX2_remember_1 : decode cX2_remember 1 = .ok (.getfield 17, 3) := by decide +kernel
theorem dX2_remember_4 : decode cX2_remember 4 = .ok (.iconst 4, 1) := by decide +kernel
theorem dX2_remember_5 : decode cX2_remember 5 = .ok (.if_icmp .lt 7, 3) := by decide +kernel
theorem dX2_remember_8 : decode cX2_remember 8 = .ok (.aload_n 0, 1) := by decide +kernel
theorem dX2_remember_9 : decode cX2_remember 9 = .ok (.invokevirtual 22, 3) := by decide +kernel
theorem dX2_remember_12 : decode cX2_remember 12 = .ok (.aload_n 0, 1) := by decide +kernel
theorem dX2_remember_13 : decode cX2_remember 13 = .ok (.getfield 11, 3) := by decide +kernel
theorem dX2_remember_16 : decode cX2_remember 16 = .ok (.aload_n 0, 1) := by decide +kernel
theorem dX2_remember_17 : decode cX2_remember 17 = .ok (.getfield 17, 3) := by decide +kernel
theorem dX2_remember_20 : decode cX2_remember 20 = .ok (.aaload, 1) := by decide +kernel
theorem dX2_remember_21 : decode cX2_remember 21 = .ok (.aload_n 1, 1) := by decide +kernel
theorem dX2_remember_22 : decode cX2_remember 22 = .ok (.invokevirtual 25, 3) := by decide +kernel
theorem dX2_remember_25 : decode cX2_remember 25 = .ok (.aload_n 0, 1) := by decide +kernel
theorem dX2_remember_26 : decode cX2_remember 26 = .ok (.dup, 1) := by decide +kernel
theorem dX2_remember_27 : decode cX2_remember 27 = .ok (.getfield 17, 3) := by decide +kernel
theorem dX2_remember_30 : decode cX2_remember 30 = .ok (.iconst 1, 1) := by decide +kernel
theorem dX2_remember_31 : decode cX2_remember 31 = .ok (.iadd, 1) := by decide +kernel
theorem dX2_remember_32 : decode cX2_remember 32 = .ok (.putfield 17, 3) := by decide +kernel
theorem dX2_remember_35 : decode cX2_remember 35 = .ok (.return_, 1) := by decide +kernel
theorem dX2_dropOldest_0 : decode cX2_dropOldest 0 = .ok (.aload_n 0, 1) := by decide +kernel
theorem dX2_dropOldest_1 : decode cX2_dropOldest 1 = .ok (.getfield 11, 3) := by decide +kernel
theorem dX2_dropOldest_4 : decode cX2_dropOldest 4 = .ok (.iconst 0, 1) := by decide +kernel
theorem dX2_dropOldest_5 : decode cX2_dropOldest 5 = .ok (.aaload, 1) := by decide +kernel
theorem dX2_dropOldest_6 : decode cX2_dropOldest 6 = .ok (.astore_n 1, 1) := by decide +kernel
theorem dX2_dropOldest_7 : decode cX2_dropOldest 7 = .ok (.iconst 1, 1) := by decide +kernel
theorem dX2_dropOldest_8 : decode cX2_dropOldest 8 = .ok (.istore_n 2, 1) := by decide +kernel
theorem dX2_dropOldest_9 : decode cX2_dropOldest 9 = .ok (.iload_n 2, 1) := by decide +kernel
theorem dX2_dropOldest_10 : decode cX2_dropOldest 10 = .ok (.iconst 4, 1) := by decide +kernel
theorem dX2_dropOldest_11 : decode cX2_dropOldest 11 = .ok (.if_icmp .ge 23, 3) := by decide +kernel
theorem dX2_dropOldest_14 : decode cX2_dropOldest 14 = .ok (.aload_n 0, 1) := by decide +kernel
theorem dX2_dropOldest_15 : decode cX2_dropOldest 15 = .ok (.getfield 11, 3) := by decide +kernel
theorem dX2_dropOldest_18 : decode cX2_dropOldest 18 = .ok (.iload_n 2, 1) := by decide +kernel
theorem dX2_dropOldest_19 : decode cX2_dropOldest 19 = .ok (.iconst 1, 1) := by decide +kernel
theorem dX2_dropOldest_20 : decode cX2_dropOldest 20 = .ok (.isub, 1) := by decide +kernel
theorem dX2_dropOldest_21 : decode cX2_dropOldest 21 = .ok (.aload_n 0, 1) := by decide +kernel
theorem dX2_dropOldest_22 : decode cX2_dropOldest 22 = .ok (.getfield 11, 3) := by decide +kernel
theorem dX2_dropOldest_25 : decode cX2_dropOldest 25 = .ok (.iload_n 2, 1) := by decide +kernel
theorem dX2_dropOldest_26 : decode cX2_dropOldest 26 = .ok (.aaload, 1) := by decide +kernel
theorem dX2_dropOldest_27 : decode cX2_dropOldest 27 = .ok (.aastore, 1) := by decide +kernel
theorem dX2_dropOldest_28 : decode cX2_dropOldest 28 = .ok (.iinc 2 1, 3) := by decide +kernel
theorem dX2_dropOldest_31 : decode cX2_dropOldest 31 = .ok (.goto (-22), 3) := by decide +kernel
theorem dX2_dropOldest_34 : decode cX2_dropOldest 34 = .ok (.aload_n 0, 1) := by decide +kernel
theorem dX2_dropOldest_35 : decode cX2_dropOldest 35 = .ok (.getfield 11, 3) := by decide +kernel
theorem dX2_dropOldest_38 : decode cX2_dropOldest 38 = .ok (.iconst 3, 1) := by decide +kernel
theorem dX2_dropOldest_39 : decode cX2_dropOldest 39 = .ok (.aload_n 1, 1) := by decide +kernel
theorem dX2_dropOldest_40 : decode cX2_dropOldest 40 = .ok (.aastore, 1) := by decide +kernel
theorem dX2_dropOldest_41 : decode cX2_dropOldest 41 = .ok (.aload_n 0, 1) := by decide +kernel
theorem dX2_dropOldest_42 : decode cX2_dropOldest 42 = .ok (.dup, 1) := by decide +kernel
theorem dX2_dropOldest_43 : decode cX2_dropOldest 43 = .ok (.getfield 17, 3) := by decide +kernel
theorem dX2_dropOldest_46 : decode cX2_dropOldest 46 = .ok (.iconst 1, 1) := by decide +kernel
theorem dX2_dropOldest_47 : decode cX2_dropOldest 47 = .ok (.isub, 1) := by decide +kernel
theorem dX2_dropOldest_48 : decode cX2_dropOldest 48 = .ok (.putfield 17, 3) := by decide +kernel
theorem dX2_dropOldest_51 : decode cX2_dropOldest 51 = .ok (.return_, 1) := by decide +kernel
set_option maxRecDepth 20000 in
theorem ggX2_takeBack_X5_copyFrom : GoodIn wsX2_takeBack wsX5_copyFrom := goodIn_r _ [7, 8, 9, 10, 11, 12, 13, 14, 15, 16, 17, 18, 19, 20, 21, 22, 23, 24, 25, 26, 27, 28, 29, 30, 31, 32, 33, 34, 35, 36, 37, 38, 39, 40, 41, 42, 43, 44, 45, 48, 49, 50, 51, 52, 53, 54, 55, 56, 57, 58, 59, 60, 61, 62, 63, 64, 65, 66, 67, 68] (by decide +kernel) (by decide +kernel)
set_option maxRecDepth 20000 in
theorem gX2_takeBack_X5_copyFrom : GoodIn wsX2_takeBack (wsV RX2 25 RX5 yX5_copyFrom wsX5_copyFrom) := goodIn_app (goodIn_of _ (by decide +kernel)) ggX2_takeBack_X5_copyFrom
theorem dX2_takeBack_0 : decode cX2_takeBack 0 = .ok (.aload_n 0, 1) := by decide +kernel
theorem dX2_takeBack_1 : decode cX2_takeBack 1 = .ok (.getfield 17, 3) := by decide +kernel
theorem dX2_takeBack_4 : decode cX2_takeBack 4 = .ok (.ifCond .gt 5, 3) := by decide +kernel
theorem dX2_takeBack_7 : decode cX2_takeBack 7 = .ok (.iconst 0, 1) := by decide +kernel
theorem dX2_takeBack_8 : decode cX2_takeBack 8 = .ok (.ireturn, 1) := by decide +kernel
theorem dX2_takeBack_9 : decode cX2_takeBack 9 = .ok (.aload_n 0, 1) := by decide +kernel
theorem dX2_takeBack_10 : decode cX2_takeBack 10 = .ok (.dup, 1) := by decide +kernel
theorem dX2_takeBack_11 : decode cX2_takeBack 11 = .ok (.getfield 17, 3) := by decide +kernel
theorem dX2_takeBack_14 : decode cX2_takeBack 14 = .ok (.iconst 1, 1) := by decide +kernel
theorem dX2_takeBack_15 : decode cX2_takeBack 15 = .ok (.isub, 1) := by decide +kernel
theorem dX2_takeBack_16 : decode cX2_takeBack 16 = .ok (.putfield 17, 3) := by decide +kernel
theorem dX2_takeBack_19 : decode cX2_takeBack 19 = .ok (.aload_n 1, 1) := by decide +kernel
theorem dX2_takeBack_20 : decode cX2_takeBack 20 = .ok (.aload_n 0, 1) := by decide +kernel
theorem dX2_takeBack_21 : decode cX2_takeBack 21 = .ok (.getfield 11, 3) := by decide +kernel
theorem dX2_takeBack_24 : decode cX2_takeBack 24 = .ok (.aload_n 0, 1) := by decide +kernel
theorem dX2_takeBack_25 : decode cX2_takeBack 25 = .ok (.getfield 17, 3) := by decide +kernel
theorem dX2_takeBack_28 : decode cX2_takeBack 28 = .ok (.aaload, 1) := by decide +kernel
theorem dX2_takeBack_29 : decode cX2_takeBack 29 = .ok (.invokevirtual 25, 3) := by decide +kernel
theorem dX2_takeBack_32 : decode cX2_takeBack 32 = .ok (.iconst 1, 1) := by decide +kernel
theorem dX2_takeBack_33 : decode cX2_takeBack 33 = .ok (.ireturn, 1) := by decide +kernel
theorem dX3_init_0 : decode cX3_init 0 = .ok (.aload_n 0, 1) := by decide +kernel
theorem dX3_init_1 : decode cX3_init 1 = .ok (.invokespecial 3, 3) := by decide +kernel
theorem dX3_init_4 : decode cX3_init 4 = .ok (.aload_n 0, 1) := by decide +kernel
theorem dX3_init_5 : decode cX3_init 5 = .ok (.bipush 40, 2) := by decide +kernel
theorem dX3_init_7 : decode cX3_init 7 = .ok (.newarray .int, 2) := by decide +kernel
theorem dX3_init_9 : decode cX3_init 9 = .ok (.putfield 9, 3) := by decide +kernel
theorem dX3_init_12 : decode cX3_init 12 = .ok (.aload_n 0, 1) := by decide +kernel
theorem dX3_init_13 : decode cX3_init 13 = .ok (.bipush 40, 2) := by decide +kernel
theorem dX3_init_15 : decode cX3_init 15 = .ok (.newarray .int, 2) := by decide +kernel
theorem dX3_init_17 : decode cX3_init 17 = .ok (.putfield 15, 3) := by decide +kernel
theorem dX3_init_20 : decode cX3_init 20 = .ok (.aload_n 0, 1) := by decide +kernel
theorem dX3_init_21 : decode cX3_init 21 = .ok (.iconst 0, 1) := by decide +kernel
theorem dX3_init_22 : decode cX3_init 22 = .ok (.putfield 18, 3) := by decide +kernel
theorem dX3_init_25 : decode cX3_init 25 = .ok (.return_, 1) := by decide +kernel
set_option maxRecDepth 20000 in
theorem ggX3_fill_X3_insert : GoodIn wsX3_fill wsX3_insert := goodIn_r _ [11, 1, 12, 13, 14, 15, 16] (by decide +kernel) (by decide +kernel)
set_option maxRecDepth 20000 in
theorem gX3_fill_X3_insert : GoodIn wsX3_fill (wsV RX3 41 RX3 yX3_insert wsX3_insert) := goodIn_app (goodIn_of _ (by decide +kernel)) ggX3_fill_X3_insert
theorem dX3_fill_0 : decode cX3_fill 0 = .ok (.aload_n 0, 1) := by decide +kernel
theorem dX3_fill_1 : decode cX3_fill 1 = .ok (.iconst 0, 1) := by decide +kernel
theorem dX3_fill_2 : decode cX3_fill 2 = .ok (.putfield 18, 3) := by decide +kernel
theorem dX3_fill_5 : decode cX3_fill 5 = .ok (.iconst 0, 1) := by decide +kernel
theorem dX3_fill_6 : decode cX3_fill 6 = .ok (.istore_n 3, 1) := by decide +kernel
theorem dX3_fill_7 : decode cX3_fill 7 = .ok (.iload_n 3, 1) := by decide +kernel
theorem dX3_fill_8 : decode cX3_fill 8 = .ok (.aload_n 1, 1) := by decide +kernel
theorem dX3_fill_9 : decode cX3_fill 9 = .ok (.getfield 22, 3) := by decide +kernel
theorem dX3_fill_12 : decode cX3_fill 12 = .ok (.getfield 28, 3) := by decide +kernel
theorem dX3_fill_15 : decode cX3_fill 15 = .ok (.if_icmp .ge 36, 3) := by decide +kernel
theorem dX3_fill_18 : decode cX3_fill 18 = .ok (.aload_n 1, 1) := by decide +kernel
theorem dX3_fill_19 : decode cX3_fill 19 = .ok (.getfield 31, 3) := by decide +kernel
theorem dX3_fill_22 : decode cX3_fill 22 = .ok (.getfield 35, 3) := by decide +kernel
theorem dX3_fill_25 : decode cX3_fill 25 = .ok (.iload_n 3, 1) := by decide +kernel
theorem dX3_fill_26 : decode cX3_fill 26 = .ok (.iaload, 1) := by decide +kernel
theorem dX3_fill_27 : decode cX3_fill 27 = .ok (.iload_n 2, 1) := by decide +kernel
theorem dX3_fill_28 : decode cX3_fill 28 = .ok (.if_icmp .ne 17, 3) := by decide +kernel
theorem dX3_fill_31 : decode cX3_fill 31 = .ok (.aload_n 0, 1) := by decide +kernel
theorem dX3_fill_32 : decode cX3_fill 32 = .ok (.iload_n 3, 1) := by decide +kernel
theorem dX3_fill_33 : decode cX3_fill 33 = .ok (.aload_n 1, 1) := by decide +kernel
theorem dX3_fill_34 : decode cX3_fill 34 = .ok (.getfield 22, 3) := by decide +kernel
theorem dX3_fill_37 : decode cX3_fill 37 = .ok (.getfield 40, 3) := by decide +kernel
theorem dX3_fill_40 : decode cX3_fill 40 = .ok (.iload_n 3, 1) := by decide +kernel
theorem dX3_fill_41 : decode cX3_fill 41 = .ok (.iaload, 1) := by decide +kernel
theorem dX3_fill_42 : decode cX3_fill 42 = .ok (.invokevirtual 41, 3) := by decide +kernel
theorem dX3_fill_45 : decode cX3_fill 45 = .ok (.iinc 3 1, 3) := by decide +kernel
theorem dX3_fill_48 : decode cX3_fill 48 = .ok (.goto (-41), 3) := by decide +kernel
theorem dX3_fill_51 : decode cX3_fill 51 = .ok (.return_, 1) := by decide +kernel
theorem dX3_insert_0 : decode cX3_insert 0 = .ok (.aload_n 0, 1) := by decide +kernel
theorem dX3_insert_1 : decode cX3_insert 1 = .ok (.getfield 18, 3) := by decide +kernel
theorem dX3_insert_4 : decode cX3_insert 4 = .ok (.istore_n 3, 1) := by decide +kernel
theorem dX3_insert_5 : decode cX3_insert 5 = .ok (.iload_n 3, 1) := by decide +kernel
theorem dX3_insert_6 : decode cX3_insert 6 = .ok (.ifCond .le 49, 3) := by decide +kernel
theorem dX3_insert_9 : decode cX3_insert 9 = .ok (.aload_n 0, 1) := by decide +kernel
theorem dX3_insert_10 : decode cX3_insert 10 = .ok (.getfield 15, 3) := by decide +kernel
theorem dX3_insert_13 : decode cX3_insert 13 = .ok (.iload_n 3, 1) := by decide +kernel
theorem dX3_insert_14 : decode cX3_insert 14 = .ok (.iconst 1, 1) := by decide +kernel
theorem dX3_insert_15 : decode cX3_insert 15 = .ok (.isub, 1) := by decide +kernel
theorem dX3_insert_16 : decode cX3_insert 16 = .ok (.iaload, 1) := by decide +kernel
theorem dX3_insert_17 : decode cX3_insert 17 = .ok (.iload_n 2, 1) := by decide +kernel
theorem dX3_insert_18 : decode cX3_insert 18 = .ok (.if_icmp .le 37, 3) := by decide +kernel
theorem dX3_insert_21 : decode cX3_insert 21 = .ok (.aload_n 0, 1) := by decide +kernel
theorem dX3_insert_22 : decode cX3_insert 22 = .ok (.getfield 9, 3) := by decide +kernel
theorem dX3_insert_25 : decode cX3_insert 25 = .ok (.iload_n 3, 1) := by decide +kernel
theorem dX3_insert_26 : decode cX3_insert 26 = .ok (.aload_n 0, 1) := by decide +kernel
theorem dX3_insert_27 : decode cX3_insert 27 = .ok (.getfield 9, 3) := by decide +kernel
theorem dX3_insert_30 : decode cX3_insert 30 = .ok (.iload_n 3, 1) := by decide +kernel
theorem dX3_insert_31 : decode cX3_insert 31 = .ok (.iconst 1, 1) := by decide +kernel
theorem dX3_insert_32 : decode cX3_insert 32 = .ok (.isub, 1) := by decide +kernel
theorem dX3_insert_33 : decode cX3_insert 33 = .ok (.iaload, 1) := by decide +kernel
theorem dX3_insert_34 : decode cX3_insert 34 = .ok (.iastore, 1) := by decide +kernel
theorem dX3_insert_35 : decode cX3_insert 35 = .ok (.aload_n 0, 1) := by decide +kernel
theorem dX3_insert_36 : decode cX3_insert 36 = .ok (.getfield 15, 3) := by decide +kernel
theorem dX3_insert_39 : decode cX3_insert 39 = .ok (.iload_n 3, 1) := by decide +kernel
theorem dX3_insert_40 : decode cX3_insert 40 = .ok (.aload_n 0, 1) := by decide +kernel
theorem dX3_insert_41 : decode cX3_insert 41 = .ok (.getfield 15, 3) := by decide +kernel
theorem dX3_insert_44 : decode cX3_insert 44 = .ok (.iload_n 3, 1) := by decide +kernel
theorem dX3_insert_45 : decode cX3_insert 45 = .ok (.iconst 1, 1) := by decide +kernel
theorem dX3_insert_46 : decode cX3_insert 46 = .ok (.isub, 1) := by decide +kernel
theorem dX3_insert_47 : decode cX3_insert 47 = .ok (.iaload, 1) := by decide +kernel
theorem dX3_insert_48 : decode cX3_insert 48 = .ok (.iastore, 1) := by decide +kernel
theorem dX3_insert_49 : decode cX3_insert 49 = .ok (.iinc 3 (-1), 3) := by decide +kernel
theorem dX3_insert_52 : decode cX3_insert 52 = .ok (.goto (-47), 3) := by decide +kernel
theorem dX3_insert_55 : decode cX3_insert 55 = .ok (.aload_n 0, 1) := by decide +kernel
theorem dX3_insert_56 : decode cX3_insert 56 = .ok (.getfield 9, 3) := by decide +kernel
theorem dX3_insert_59 : decode cX3_insert 59 = .ok (.iload_n 3, 1) := by decide +kernel
theorem dX3_insert_60 : decode cX3_insert 60 = .ok (.iload_n 1, 1) := by decide +kernel
theorem dX3_insert_61 : decode cX3_insert 61 = .ok (.iastore, 1) := by decide +kernel
theorem dX3_insert_62 : decode cX3_insert 62 = .ok (.aload_n 0, 1) := by decide +kernel
theorem dX3_insert_63 : decode cX3_insert 63 = .ok (.getfield 15, 3) := by decide +kernel
theorem dX3_insert_66 : decode cX3_insert 66 = .ok (.iload_n 3, 1) := by decide +kernel
theorem dX3_insert_67 : decode cX3_insert 67 = .ok (.iload_n 2, 1) := by decide +kernel
theorem dX3_insert_68 : decode cX3_insert 68 = .ok (.iastore, 1) := by decide +kernel
theorem dX3_insert_69 : decode cX3_insert 69 = .ok (.aload_n 0, 1) := by decide +kernel
theorem dX3_insert_70 : decode cX3_insert 70 = .ok (.dup, 1) := by decide +kernel
theorem dX3_insert_71 : decode cX3_insert 71 = .ok (.getfield 18, 3) := by decide +kernel
theorem dX3_insert_74 : decode cX3_insert 74 = .ok (.iconst 1, 1) := by decide +kernel
theorem dX3_insert_75 : decode cX3_insert 75 = .ok (.iadd, 1) := by decide +kernel
theorem dX3_insert_76 : decode cX3_insert 76 = .ok (.putfield 18, 3) := by decide +kernel
theorem dX3_insert_79 : decode cX3_insert 79 = .ok (.return_, 1) := by decide +kernel
theorem dX3_spreadFrom_0 : decode cX3_spreadFrom 0 = .ok (.aload_n 0, 1) := by decide +kernel
theorem dX3_spreadFrom_1 : decode cX3_spreadFrom 1 = .ok (.getfield 15, 3) := by decide +kernel
theorem dX3_spreadFrom_4 : decode cX3_spreadFrom 4 = .ok (.iload_n 1, 1) := by decide +kernel
theorem dX3_spreadFrom_5 : decode cX3_spreadFrom 5 = .ok (.iload_n 2, 1) := by decide +kernel
theorem dX3_spreadFrom_6 : decode cX3_spreadFrom 6 = .ok (.iadd, 1) := by decide +kernel
theorem dX3_spreadFrom_7 : decode cX3_spreadFrom 7 = .ok (.iconst 1, 1) := by decide +kernel
theorem dX3_spreadFrom_8 : decode cX3_spreadFrom 8 = .ok (.isub, 1) := by decide +kernel
theorem dX3_spreadFrom_9 : decode cX3_spreadFrom 9 = .ok (.iaload, 1) := by decide +kernel
theorem dX3_spreadFrom_10 : decode cX3_spreadFrom 10 = .ok (.aload_n 0, 1) := by decide +kernel
theorem dX3_spreadFrom_11 : decode cX3_spreadFrom 11 = .ok (.getfield 15, 3) := by decide +kernel
theorem dX3_spreadFrom_14 : decode cX3_spreadFrom 14 = .ok (.iload_n 1, 1) := by decide +kernel
theorem dX3_spreadFrom_15 : decode cX3_spreadFrom 15 = .ok (.iaload, 1) := by decide +kernel
theorem dX3_spreadFrom_16 : decode cX3_spreadFrom 16 = .ok (.isub, 1) := by decide +kernel
theorem dX3_spreadFrom_17 : decode cX3_spreadFrom 17 = .ok (.ireturn, 1) := by decide +kernel
set_option maxRecDepth 20000 in
theorem ggX3_firstAlike_X3_spreadFrom : GoodIn wsX3_firstAlike wsX3_spreadFrom := goodIn_r _ [6, 7, 8, 9, 10] (by decide +kernel) (by decide +kernel)
set_option maxRecDepth 20000 in
theorem gX3_firstAlike_X3_spreadFrom : GoodIn wsX3_firstAlike (wsV RX3 45 RX3 yX3_spreadFrom wsX3_spreadFrom) := goodIn_app (goodIn_of _ (by decide +kernel)) ggX3_firstAlike_X3_spreadFrom
theorem dX3_firstAlike_0 : decode cX3_firstAlike 0 = .ok (.iconst 0, 1) := by decide +kernel
theorem dX3_firstAlike_1 : decode cX3_firstAlike 1 = .ok (.istore_n 3, 1) := by decide +kernel
theorem dX3_firstAlike_2 : decode cX3_firstAlike 2 = .ok (.iload_n 3, 1) := by decide +kernel
theorem dX3_firstAlike_3 : decode cX3_firstAlike 3 = .ok (.iload_n 1, 1) := by decide +kernel
theorem dX3_firstAlike_4 : decode cX3_firstAlike 4 = .ok (.iadd, 1) := by decide +kernel
theorem dX3_firstAlike_5 : decode cX3_firstAlike 5 = .ok (.aload_n 0, 1) := by decide +kernel
theorem dX3_firstAlike_6 : decode cX3_firstAlike 6 = .ok (.getfield 18, 3) := by decide +kernel
theorem dX3_firstAlike_9 : decode cX3_firstAlike 9 = .ok (.if_icmp .gt 21, 3) := by decide +kernel
theorem dX3_firstAlike_12 : decode cX3_firstAlike 12 = .ok (.aload_n 0, 1) := by decide +kernel
theorem dX3_firstAlike_13 : decode cX3_firstAlike 13 = .ok (.iload_n 3, 1) := by decide +kernel
theorem dX3_firstAlike_14 : decode cX3_firstAlike 14 = .ok (.iload_n 1, 1) := by decide +kernel
theorem dX3_firstAlike_15 : decode cX3_firstAlike 15 = .ok (.invokevirtual 45, 3) := by decide +kernel
theorem dX3_firstAlike_18 : decode cX3_firstAlike 18 = .ok (.iload_n 2, 1) := by decide +kernel
theorem dX3_firstAlike_19 : decode cX3_firstAlike 19 = .ok (.if_icmp .gt 5, 3) := by decide +kernel
theorem dX3_firstAlike_22 : decode cX3_firstAlike 22 = .ok (.iload_n 3, 1) := by decide +kernel
theorem dX3_firstAlike_23 : decode cX3_firstAlike 23 = .ok (.ireturn, 1) := by decide +kernel
theorem dX3_firstAlike_24 : decode cX3_firstAlike 24 = .ok (.iinc 3 1, 3) := by decide +kernel
theorem dX3_firstAlike_27 : decode cX3_firstAlike 27 = .ok (.goto (-25), 3) := by decide +kernel
theorem dX3_firstAlike_30 : decode cX3_firstAlike 30 = .ok (.iconst (-1), 1) := by decide +kernel
theorem dX3_firstAlike_31 : decode cX3_firstAlike 31 = .ok (.ireturn, 1) := by decide +kernel
set_option maxRecDepth 20000 in
theorem ggX3_narrowest_X3_spreadFrom : GoodIn wsX3_narrowest wsX3_spreadFrom := goodIn_r _ [10, 11, 12, 13, 14] (by decide +kernel) (by decide +kernel)
set_option maxRecDepth 20000 in
theorem gX3_narrowest_X3_spreadFrom : GoodIn wsX3_narrowest (wsV RX3 45 RX3 yX3_spreadFrom wsX3_spreadFrom) := goodIn_app (goodIn_of _ (by decide +kernel)) ggX3_narrowest_X3_spreadFrom
theorem dX3_narrowest_0 : decode cX3_narrowest 0 = .ok (.bipush 9, 2) := by decide +kernel
theorem dX3_narrowest_2 : decode cX3_narrowest 2 = .ok (.istore_n 2, 1) := by decide +kernel
theorem dX3_narrowest_3 : decode cX3_narrowest 3 = .ok (.iconst 0, 1) := by decide +kernel
theorem dX3_narrowest_4 : decode cX3_narrowest 4 = .ok (.istore_n 3, 1) := by decide +kernel
theorem dX3_narrowest_5 : decode cX3_narrowest 5 = .ok (.iload_n 3, 1) := by decide +kernel
theorem dX3_narrowest_6 : decode cX3_narrowest 6 = .ok (.iload_n 1, 1) := by decide +kernel
theorem dX3_narrowest_7 : decode cX3_narrowest 7 = .ok (.iadd, 1) := by decide +kernel
theorem dX3_narrowest_8 : decode cX3_narrowest 8 = .ok (.aload_n 0, 1) := by decide +kernel
theorem dX3_narrowest_9 : decode cX3_narrowest 9 = .ok (.getfield 18, 3) := by decide +kernel
theorem dX3_narrowest_12 : decode cX3_narrowest 12 = .ok (.if_icmp .gt 20, 3) := by decide +kernel
theorem dX3_narrowest_15 : decode cX3_narrowest 15 = .ok (.iload_n 2, 1) := by decide +kernel
theorem dX3_narrowest_16 : decode cX3_narrowest 16 = .ok (.aload_n 0, 1) := by decide +kernel
theorem dX3_narrowest_17 : decode cX3_narrowest 17 = .ok (.iload_n 3, 1) := by decide +kernel
theorem dX3_narrowest_18 : decode cX3_narrowest 18 = .ok (.iload_n 1, 1) := by decide +kernel
theorem dX3_narrowest_19 : decode cX3_narrowest 19 = .ok (.invokevirtual 45, 3) := by decide +kernel
theorem dX3_narrowest_22 : decode cX3_narrowest 22 = .ok (.invokestatic 49, 3) := by decide +kernel
theorem dX3_narrowest_25 : decode cX3_narrowest 25 = .ok (.istore_n 2, 1) := by decide +kernel
theorem dX3_narrowest_26 : decode cX3_narrowest 26 = .ok (.iinc 3 1, 3) := by decide +kernel
theorem dX3_narrowest_29 : decode cX3_narrowest 29 = .ok (.goto (-24), 3) := by decide +kernel
theorem dX3_narrowest_32 : decode cX3_narrowest 32 = .ok (.iload_n 2, 1) := by decide +kernel
theorem dX3_narrowest_33 : decode cX3_narrowest 33 = .ok (.ireturn, 1) := by decide +kernel
set_option maxRecDepth 20000 in
theorem ggX3_mostAlike_X3_firstAlike : GoodIn wsX3_mostAlike wsX3_firstAlike := goodIn_r _ [5, 6, 7, 8, 9, 4, 10, 11, 12, 13, 14] (by decide +kernel) (by decide +kernel)
set_option maxRecDepth 20000 in
theorem gX3_mostAlike_X3_firstAlike : GoodIn wsX3_mostAlike (wsV RX3 54 RX3 yX3_firstAlike wsX3_firstAlike) := goodIn_app (goodIn_of _ (by decide +kernel)) ggX3_mostAlike_X3_firstAlike
theorem dX3_mostAlike_0 : decode cX3_mostAlike 0 = .ok (.bipush 9, 2) := by decide +kernel
theorem dX3_mostAlike_2 : decode cX3_mostAlike 2 = .ok (.istore_n 2, 1) := by decide +kernel
theorem dX3_mostAlike_3 : decode cX3_mostAlike 3 = .ok (.iload_n 2, 1) := by decide +kernel
theorem dX3_mostAlike_4 : decode cX3_mostAlike 4 = .ok (.ifCond .le 20, 3) := by decide +kernel
theorem dX3_mostAlike_7 : decode cX3_mostAlike 7 = .ok (.aload_n 0, 1) := by decide +kernel
theorem dX3_mostAlike_8 : decode cX3_mostAlike 8 = .ok (.iload_n 2, 1) := by decide +kernel
theorem dX3_mostAlike_9 : decode cX3_mostAlike 9 = .ok (.iload_n 1, 1) := by decide +kernel
theorem dX3_mostAlike_10 : decode cX3_mostAlike 10 = .ok (.invokevirtual 54, 3) := by decide +kernel
theorem dX3_mostAlike_13 : decode cX3_mostAlike 13 = .ok (.ifCond .lt 5, 3) := by decide +kernel
theorem dX3_mostAlike_16 : decode cX3_mostAlike 16 = .ok (.iload_n 2, 1) := by decide +kernel
theorem dX3_mostAlike_17 : decode cX3_mostAlike 17 = .ok (.ireturn, 1) := by decide +kernel
theorem dX3_mostAlike_18 : decode cX3_mostAlike 18 = .ok (.iinc 2 (-1), 3) := by decide +kernel
theorem dX3_mostAlike_21 : decode cX3_mostAlike 21 = .ok (.goto (-18), 3) := by decide +kernel
theorem dX3_mostAlike_24 : decode cX3_mostAlike 24 = .ok (.iconst 0, 1) := by decide +kernel
theorem dX3_mostAlike_25 : decode cX3_mostAlike 25 = .ok (.ireturn, 1) := by decide +kernel
set_option maxRecDepth 20000 in
theorem ggX3_groups_X3_spreadFrom : GoodIn wsX3_groups wsX3_spreadFrom := goodIn_r _ [6, 7, 8, 9, 10] (by decide +kernel) (by decide +kernel)
set_option maxRecDepth 20000 in
theorem gX3_groups_X3_spreadFrom : GoodIn wsX3_groups (wsV RX3 45 RX3 yX3_spreadFrom wsX3_spreadFrom) := goodIn_app (goodIn_of _ (by decide +kernel)) ggX3_groups_X3_spreadFrom
theorem dX3_groups_0 : decode cX3_groups 0 = .ok (.iconst 0, 1) := by decide +kernel
theorem dX3_groups_1 : decode cX3_groups 1 = .ok (.istore_n 3, 1) := by decide +kernel
theorem dX3_groups_2 : decode cX3_groups 2 = .ok (.iconst 0, 1) := by decide +kernel
theorem dX3_groups_3 : decode cX3_groups 3 = .ok (.istore 4, 2) := by decide +kernel
theorem dX3_groups_5 : decode cX3_groups 5 = .ok (.iload 4, 2) := by decide +kernel
theorem dX3_groups_7 : decode cX3_groups 7 = .ok (.iload_n 1, 1) := by decide +kernel
theorem dX3_groups_8 : decode cX3_groups 8 = .ok (.iadd, 1) := by decide +kernel
theorem dX3_groups_9 : decode cX3_groups 9 = .ok (.aload_n 0, 1) := by decide +kernel
theorem dX3_groups_10 : decode cX3_groups 10 = .ok (.getfield 18, 3) := by decide +kernel
theorem dX3_groups_13 : decode cX3_groups 13 = .ok (.if_icmp .gt 32, 3) := by decide +kernel
theorem dX3_groups_16 : decode cX3_groups 16 = .ok (.aload_n 0, 1) := by decide +kernel
theorem dX3_groups_17 : decode cX3_groups 17 = .ok (.iload 4, 2) := by decide +kernel
theorem dX3_groups_19 : decode cX3_groups 19 = .ok (.iload_n 1, 1) := by decide +kernel
theorem dX3_groups_20 : decode cX3_groups 20 = .ok (.invokevirtual 45, 3) := by decide +kernel
theorem dX3_groups_23 : decode cX3_groups 23 = .ok (.iload_n 2, 1) := by decide +kernel
theorem dX3_groups_24 : decode cX3_groups 24 = .ok (.if_icmp .gt 15, 3) := by decide +kernel
theorem dX3_groups_27 : decode cX3_groups 27 = .ok (.iinc 3 1, 3) := by decide +kernel
theorem dX3_groups_30 : decode cX3_groups 30 = .ok (.iload 4, 2) := by decide +kernel
theorem dX3_groups_32 : decode cX3_groups 32 = .ok (.iload_n 1, 1) := by decide +kernel
theorem dX3_groups_33 : decode cX3_groups 33 = .ok (.iadd, 1) := by decide +kernel
theorem dX3_groups_34 : decode cX3_groups 34 = .ok (.istore 4, 2) := by decide +kernel
theorem dX3_groups_36 : decode cX3_groups 36 = .ok (.goto (-31), 3) := by decide +kernel
theorem dX3_groups_39 : decode cX3_groups 39 = .ok (.iinc 4 1, 3) := by decide +kernel
theorem dX3_groups_42 : decode cX3_groups 42 = .ok (.goto (-37), 3) := by decide +kernel
theorem dX3_groups_45 : decode cX3_groups 45 = .ok (.iload_n 3, 1) := by decide +kernel
theorem dX3_groups_46 : decode cX3_groups 46 = .ok (.ireturn, 1) := by decide +kernel
theorem dX3_shineSum_0 : decode cX3_shineSum 0 = .ok (.iconst 0, 1) := by decide +kernel
theorem dX3_shineSum_1 : decode cX3_shineSum 1 = .ok (.istore_n 1, 1) := by decide +kernel
theorem dX3_shineSum_2 : decode cX3_shineSum 2 = .ok (.iconst 0, 1) := by decide +kernel
theorem dX3_shineSum_3 : decode cX3_shineSum 3 = .ok (.istore_n 2, 1) := by decide +kernel
theorem dX3_shineSum_4 : decode cX3_shineSum 4 = .ok (.iload_n 2, 1) := by decide +kernel
theorem dX3_shineSum_5 : decode cX3_shineSum 5 = .ok (.aload_n 0, 1) := by decide +kernel
theorem dX3_shineSum_6 : decode cX3_shineSum 6 = .ok (.getfield 18, 3) := by decide +kernel
theorem dX3_shineSum_9 : decode cX3_shineSum 9 = .ok (.if_icmp .ge 18, 3) := by decide +kernel
theorem dX3_shineSum_12 : decode cX3_shineSum 12 = .ok (.iload_n 1, 1) := by decide +kernel
theorem dX3_shineSum_13 : decode cX3_shineSum 13 = .ok (.aload_n 0, 1) := by decide +kernel
theorem dX3_shineSum_14 : decode cX3_shineSum 14 = .ok (.getfield 15, 3) := by decide +kernel
theorem dX3_shineSum_17 : decode cX3_shineSum 17 = .ok (.iload_n 2, 1) := by decide +kernel
theorem dX3_shineSum_18 : decode cX3_shineSum 18 = .ok (.iaload, 1) := by decide +kernel
theorem dX3_shineSum_19 : decode cX3_shineSum 19 = .ok (.iadd, 1) := by decide +kernel
theorem dX3_shineSum_20 : decode cX3_shineSum 20 = .ok (.istore_n 1, 1) := by decide +kernel
theorem dX3_shineSum_21 : decode cX3_shineSum 21 = .ok (.iinc 2 1, 3) := by decide +kernel
theorem dX3_shineSum_24 : decode cX3_shineSum 24 = .ok (.goto (-20), 3) := by decide +kernel
theorem dX3_shineSum_27 : decode cX3_shineSum 27 = .ok (.iload_n 1, 1) := by decide +kernel
theorem dX3_shineSum_28 : decode cX3_shineSum 28 = .ok (.ireturn, 1) := by decide +kernel
theorem dX4_init_0 : decode cX4_init 0 = .ok (.aload_n 0, 1) := by decide +kernel
theorem dX4_init_1 : decode cX4_init 1 = .ok (.invokespecial 3, 3) := by decide +kernel
theorem dX4_init_4 : decode cX4_init 4 = .ok (.aload_n 0, 1) := by decide +kernel
theorem dX4_init_5 : decode cX4_init 5 = .ok (.bipush 40, 2) := by decide +kernel
theorem dX4_init_7 : decode cX4_init 7 = .ok (.newarray .int, 2) := by decide +kernel
theorem dX4_init_9 : decode cX4_init 9 = .ok (.putfield 9, 3) := by decide +kernel
theorem dX4_init_12 : decode cX4_init 12 = .ok (.aload_n 0, 1) := by decide +kernel
theorem dX4_init_13 : decode cX4_init 13 = .ok (.bipush 40, 2) := by decide +kernel
theorem dX4_init_15 : decode cX4_init 15 = .ok (.newarray .int, 2) := by decide +kernel
theorem dX4_init_17 : decode cX4_init 17 = .ok (.putfield 15, 3) := by decide +kernel
theorem dX4_init_20 : decode cX4_init 20 = .ok (.aload_n 0, 1) := by decide +kernel
theorem dX4_init_21 : decode cX4_init 21 = .ok (.bipush 40, 2) := by decide +kernel
theorem dX4_init_23 : decode cX4_init 23 = .ok (.newarray .int, 2) := by decide +kernel
theorem dX4_init_25 : decode cX4_init 25 = .ok (.putfield 18, 3) := by decide +kernel
theorem dX4_init_28 : decode cX4_init 28 = .ok (.aload_n 0, 1) := by decide +kernel
theorem dX4_init_29 : decode cX4_init 29 = .ok (.bipush 40, 2) := by decide +kernel
theorem dX4_init_31 : decode cX4_init 31 = .ok (.newarray .int, 2) := by decide +kernel
theorem dX4_init_33 : decode cX4_init 33 = .ok (.putfield 21, 3) := by decide +kernel
theorem dX4_init_36 : decode cX4_init 36 = .ok (.aload_n 0, 1) := by decide +kernel
theorem dX4_init_37 : decode cX4_init 37 = .ok (.bipush 7, 2) := by decide +kernel
theorem dX4_init_39 : decode cX4_init 39 = .ok (.newarray .int, 2) := by decide +kernel
theorem dX4_init_41 : decode cX4_init 41 = .ok (.putfield 24, 3) := by decide +kernel
theorem dX4_init_44 : decode cX4_init 44 = .ok (.aload_n 0, 1) := by decide +kernel
theorem dX4_init_45 : decode cX4_init 45 = .ok (.bipush 12, 2) := by decide +kernel
theorem dX4_init_47 : decode cX4_init 47 = .ok (.newarray .int, 2) := by decide +kernel
theorem dX4_init_49 : decode cX4_init 49 = .ok (.putfield 27, 3) := by decide +kernel
theorem dX4_init_52 : decode cX4_init 52 = .ok (.return_, 1) := by decide +kernel
set_option maxRecDepth 20000 in
theorem ggX4_takeFirst_X4_leave : GoodIn wsX4_takeFirst wsX4_leave := goodIn_r _ [11, 2, 12, 13, 14, 15, 16, 17, 18, 19, 20] (by decide +kernel) (by decide +kernel)
set_option maxRecDepth 20000 in
theorem gX4_takeFirst_X4_leave : GoodIn wsX4_takeFirst (wsV RX4 30 RX4 yX4_leave wsX4_leave) := goodIn_app (goodIn_of _ (by decide +kernel)) ggX4_takeFirst_X4_leave
theorem dX4_takeFirst_0 : decode cX4_takeFirst 0 = .ok (.aload_n 0, 1) := by decide +kernel
theorem dX4_takeFirst_1 : decode cX4_takeFirst 1 = .ok (.getfield 21, 3) := by decide +kernel
theorem dX4_takeFirst_4 : decode cX4_takeFirst 4 = .ok (.iconst 0, 1) := by decide +kernel
theorem dX4_takeFirst_5 : decode cX4_takeFirst 5 = .ok (.iaload, 1) := by decide +kernel
theorem dX4_takeFirst_6 : decode cX4_takeFirst 6 = .ok (.istore_n 1, 1) := by decide +kernel
theorem dX4_takeFirst_7 : decode cX4_takeFirst 7 = .ok (.aload_n 0, 1) := by decide +kernel
theorem dX4_takeFirst_8 : decode cX4_takeFirst 8 = .ok (.iload_n 1, 1) := by decide +kernel
theorem dX4_takeFirst_9 : decode cX4_takeFirst 9 = .ok (.invokevirtual 30, 3) := by decide +kernel
theorem dX4_takeFirst_12 : decode cX4_takeFirst 12 = .ok (.aload_n 0, 1) := by decide +kernel
theorem dX4_takeFirst_13 : decode cX4_takeFirst 13 = .ok (.getfield 21, 3) := by decide +kernel
theorem dX4_takeFirst_16 : decode cX4_takeFirst 16 = .ok (.iconst 1, 1) := by decide +kernel
theorem dX4_takeFirst_17 : decode cX4_takeFirst 17 = .ok (.aload_n 0, 1) := by decide +kernel
theorem dX4_takeFirst_18 : decode cX4_takeFirst 18 = .ok (.getfield 21, 3) := by decide +kernel
theorem dX4_takeFirst_21 : decode cX4_takeFirst 21 = .ok (.iconst 0, 1) := by decide +kernel
theorem dX4_takeFirst_22 : decode cX4_takeFirst 22 = .ok (.aload_n 0, 1) := by decide +kernel
theorem dX4_takeFirst_23 : decode cX4_takeFirst 23 = .ok (.getfield 24, 3) := by decide +kernel
theorem dX4_takeFirst_26 : decode cX4_takeFirst 26 = .ok (.iconst 0, 1) := by decide +kernel
theorem dX4_takeFirst_27 : decode cX4_takeFirst 27 = .ok (.iaload, 1) := by decide +kernel
theorem dX4_takeFirst_28 : decode cX4_takeFirst 28 = .ok (.invokestatic 34, 3) := by decide +kernel
theorem dX4_takeFirst_31 : decode cX4_takeFirst 31 = .ok (.iload_n 1, 1) := by decide +kernel
theorem dX4_takeFirst_32 : decode cX4_takeFirst 32 = .ok (.ireturn, 1) := by decide +kernel
theorem dX4_leave_0 : decode cX4_leave 0 = .ok (.aload_n 0, 1) := by decide +kernel
theorem dX4_leave_1 : decode cX4_leave 1 = .ok (.getfield 24, 3) := by decide +kernel
theorem dX4_leave_4 : decode cX4_leave 4 = .ok (.aload_n 0, 1) := by decide +kernel
theorem dX4_leave_5 : decode cX4_leave 5 = .ok (.getfield 9, 3) := by decide +kernel
theorem dX4_leave_8 : decode cX4_leave 8 = .ok (.iload_n 1, 1) := by decide +kernel
theorem dX4_leave_9 : decode cX4_leave 9 = .ok (.iaload, 1) := by decide +kernel
theorem dX4_leave_10 : decode cX4_leave 10 = .ok (.dup2, 1) := by decide +kernel
theorem dX4_leave_11 : decode cX4_leave 11 = .ok (.iaload, 1) := by decide +kernel
theorem dX4_leave_12 : decode cX4_leave 12 = .ok (.iconst 1, 1) := by decide +kernel
theorem dX4_leave_13 : decode cX4_leave 13 = .ok (.isub, 1) := by decide +kernel
theorem dX4_leave_14 : decode cX4_leave 14 = .ok (.iastore, 1) := by decide +kernel
theorem dX4_leave_15 : decode cX4_leave 15 = .ok (.aload_n 0, 1) := by decide +kernel
theorem dX4_leave_16 : decode cX4_leave 16 = .ok (.getfield 15, 3) := by decide +kernel
theorem dX4_leave_19 : decode cX4_leave 19 = .ok (.iload_n 1, 1) := by decide +kernel
theorem dX4_leave_20 : decode cX4_leave 20 = .ok (.iaload, 1) := by decide +kernel
theorem dX4_leave_21 : decode cX4_leave 21 = .ok (.ifCond .lt 18, 3) := by decide +kernel
theorem dX4_leave_24 : decode cX4_leave 24 = .ok (.aload_n 0, 1) := by decide +kernel
theorem dX4_leave_25 : decode cX4_leave 25 = .ok (.getfield 27, 3) := by decide +kernel
theorem dX4_leave_28 : decode cX4_leave 28 = .ok (.aload_n 0, 1) := by decide +kernel
theorem dX4_leave_29 : decode cX4_leave 29 = .ok (.getfield 15, 3) := by decide +kernel
theorem dX4_leave_32 : decode cX4_leave 32 = .ok (.iload_n 1, 1) := by decide +kernel
theorem dX4_leave_33 : decode cX4_leave 33 = .ok (.iaload, 1) := by decide +kernel
theorem dX4_leave_34 : decode cX4_leave 34 = .ok (.dup2, 1) := by decide +kernel
theorem dX4_leave_35 : decode cX4_leave 35 = .ok (.iaload, 1) := by decide +kernel
theorem dX4_leave_36 : decode cX4_leave 36 = .ok (.iconst 1, 1) := by decide +kernel
theorem dX4_leave_37 : decode cX4_leave 37 = .ok (.isub, 1) := by decide +kernel
theorem dX4_leave_38 : decode cX4_leave 38 = .ok (.iastore, 1) := by decide +kernel
theorem dX4_leave_39 : decode cX4_leave 39 = .ok (.return_, 1) := by decide +kernel
set_option maxRecDepth 20000 in
theorem ggX4_bringToHopper_X4_bring : GoodIn wsX4_bringToHopper wsX4_bring := goodIn_r _ [7, 8, 9, 10, 2, 11, 12, 13, 14, 15, 16] (by decide +kernel) (by decide +kernel)
set_option maxRecDepth 20000 in
theorem gX4_bringToHopper_X4_bring : GoodIn wsX4_bringToHopper (wsV RX4 40 RX4 yX4_bring wsX4_bring) := goodIn_app (goodIn_of _ (by decide +kernel)) ggX4_bringToHopper_X4_bring
theorem dX4_bringToHopper_0 : decode cX4_bringToHopper 0 = .ok (.aload_n 0, 1) := by decide +kernel
theorem dX4_bringToHopper_1 : decode cX4_bringToHopper 1 = .ok (.getfield 21, 3) := by decide +kernel
theorem dX4_bringToHopper_4 : decode cX4_bringToHopper 4 = .ok (.aload_n 0, 1) := by decide +kernel
theorem dX4_bringToHopper_5 : decode cX4_bringToHopper 5 = .ok (.getfield 24, 3) := by decide +kernel
theorem dX4_bringToHopper_8 : decode cX4_bringToHopper 8 = .ok (.iconst 0, 1) := by decide +kernel
theorem dX4_bringToHopper_9 : decode cX4_bringToHopper 9 = .ok (.iaload, 1) := by decide +kernel
theorem dX4_bringToHopper_10 : decode cX4_bringToHopper 10 = .ok (.iload_n 1, 1) := by decide +kernel
theorem dX4_bringToHopper_11 : decode cX4_bringToHopper 11 = .ok (.iastore, 1) := by decide +kernel
theorem dX4_bringToHopper_12 : decode cX4_bringToHopper 12 = .ok (.aload_n 0, 1) := by decide +kernel
theorem dX4_bringToHopper_13 : decode cX4_bringToHopper 13 = .ok (.iload_n 1, 1) := by decide +kernel
theorem dX4_bringToHopper_14 : decode cX4_bringToHopper 14 = .ok (.iconst 0, 1) := by decide +kernel
theorem dX4_bringToHopper_15 : decode cX4_bringToHopper 15 = .ok (.invokevirtual 40, 3) := by decide +kernel
theorem dX4_bringToHopper_18 : decode cX4_bringToHopper 18 = .ok (.return_, 1) := by decide +kernel
set_option maxRecDepth 20000 in
theorem ggX4_bringToBin_X4_bring : GoodIn wsX4_bringToBin wsX4_bring := goodIn_r _ [7, 8, 1, 9, 10, 11, 12, 13, 14, 15, 16] (by decide +kernel) (by decide +kernel)
set_option maxRecDepth 20000 in
theorem gX4_bringToBin_X4_bring : GoodIn wsX4_bringToBin (wsV RX4 40 RX4 yX4_bring wsX4_bring) := goodIn_app (goodIn_of _ (by decide +kernel)) ggX4_bringToBin_X4_bring
theorem dX4_bringToBin_0 : decode cX4_bringToBin 0 = .ok (.aload_n 0, 1) := by decide +kernel
theorem dX4_bringToBin_1 : decode cX4_bringToBin 1 = .ok (.iload_n 1, 1) := by decide +kernel
theorem dX4_bringToBin_2 : decode cX4_bringToBin 2 = .ok (.iconst 5, 1) := by decide +kernel
theorem dX4_bringToBin_3 : decode cX4_bringToBin 3 = .ok (.invokevirtual 40, 3) := by decide +kernel
theorem dX4_bringToBin_6 : decode cX4_bringToBin 6 = .ok (.aload_n 0, 1) := by decide +kernel
theorem dX4_bringToBin_7 : decode cX4_bringToBin 7 = .ok (.getfield 15, 3) := by decide +kernel
theorem dX4_bringToBin_10 : decode cX4_bringToBin 10 = .ok (.iload_n 1, 1) := by decide +kernel
theorem dX4_bringToBin_11 : decode cX4_bringToBin 11 = .ok (.iload_n 2, 1) := by decide +kernel
theorem dX4_bringToBin_12 : decode cX4_bringToBin 12 = .ok (.iastore, 1) := by decide +kernel
theorem dX4_bringToBin_13 : decode cX4_bringToBin 13 = .ok (.aload_n 0, 1) := by decide +kernel
theorem dX4_bringToBin_14 : decode cX4_bringToBin 14 = .ok (.getfield 27, 3) := by decide +kernel
theorem dX4_bringToBin_17 : decode cX4_bringToBin 17 = .ok (.iload_n 2, 1) := by decide +kernel
theorem dX4_bringToBin_18 : decode cX4_bringToBin 18 = .ok (.dup2, 1) := by decide +kernel
theorem dX4_bringToBin_19 : decode cX4_bringToBin 19 = .ok (.iaload, 1) := by decide +kernel
theorem dX4_bringToBin_20 : decode cX4_bringToBin 20 = .ok (.iconst 1, 1) := by decide +kernel
theorem dX4_bringToBin_21 : decode cX4_bringToBin 21 = .ok (.iadd, 1) := by decide +kernel
theorem dX4_bringToBin_22 : decode cX4_bringToBin 22 = .ok (.iastore, 1) := by decide +kernel
theorem dX4_bringToBin_23 : decode cX4_bringToBin 23 = .ok (.return_, 1) := by decide +kernel
set_option maxRecDepth 20000 in
theorem ggX4_bringToShirt_X4_bring : GoodIn wsX4_bringToShirt wsX4_bring := goodIn_r _ [6, 7, 8, 1, 9, 10, 11, 12, 13, 14, 15] (by decide +kernel) (by decide +kernel)
set_option maxRecDepth 20000 in
theorem gX4_bringToShirt_X4_bring : GoodIn wsX4_bringToShirt (wsV RX4 40 RX4 yX4_bring wsX4_bring) := goodIn_app (goodIn_of _ (by decide +kernel)) ggX4_bringToShirt_X4_bring
theorem dX4_bringToShirt_0 : decode cX4_bringToShirt 0 = .ok (.aload_n 0, 1) := by decide +kernel
theorem dX4_bringToShirt_1 : decode cX4_bringToShirt 1 = .ok (.iload_n 1, 1) := by decide +kernel
theorem dX4_bringToShirt_2 : decode cX4_bringToShirt 2 = .ok (.bipush 6, 2) := by decide +kernel
theorem dX4_bringToShirt_4 : decode cX4_bringToShirt 4 = .ok (.invokevirtual 40, 3) := by decide +kernel
theorem dX4_bringToShirt_7 : decode cX4_bringToShirt 7 = .ok (.aload_n 0, 1) := by decide +kernel
theorem dX4_bringToShirt_8 : decode cX4_bringToShirt 8 = .ok (.getfield 18, 3) := by decide +kernel
theorem dX4_bringToShirt_11 : decode cX4_bringToShirt 11 = .ok (.iload_n 1, 1) := by decide +kernel
theorem dX4_bringToShirt_12 : decode cX4_bringToShirt 12 = .ok (.iload_n 2, 1) := by decide +kernel
theorem dX4_bringToShirt_13 : decode cX4_bringToShirt 13 = .ok (.iastore, 1) := by decide +kernel
theorem dX4_bringToShirt_14 : decode cX4_bringToShirt 14 = .ok (.return_, 1) := by decide +kernel
theorem dX4_bring_0 : decode cX4_bring 0 = .ok (.aload_n 0, 1) := by decide +kernel
theorem dX4_bring_1 : decode cX4_bring 1 = .ok (.getfield 9, 3) := by decide +kernel
theorem dX4_bring_4 : decode cX4_bring 4 = .ok (.iload_n 1, 1) := by decide +kernel
theorem dX4_bring_5 : decode cX4_bring 5 = .ok (.iload_n 2, 1) := by decide +kernel
theorem dX4_bring_6 : decode cX4_bring 6 = .ok (.iastore, 1) := by decide +kernel
theorem dX4_bring_7 : decode cX4_bring 7 = .ok (.aload_n 0, 1) := by decide +kernel
theorem dX4_bring_8 : decode cX4_bring 8 = .ok (.getfield 15, 3) := by decide +kernel
theorem dX4_bring_11 : decode cX4_bring 11 = .ok (.iload_n 1, 1) := by decide +kernel
theorem dX4_bring_12 : decode cX4_bring 12 = .ok (.bipush (-5), 2) := by decide +kernel
theorem dX4_bring_14 : decode cX4_bring 14 = .ok (.iastore, 1) := by decide +kernel
theorem dX4_bring_15 : decode cX4_bring 15 = .ok (.aload_n 0, 1) := by decide +kernel
theorem dX4_bring_16 : decode cX4_bring 16 = .ok (.getfield 18, 3) := by decide +kernel
theorem dX4_bring_19 : decode cX4_bring 19 = .ok (.iload_n 1, 1) := by decide +kernel
theorem dX4_bring_20 : decode cX4_bring 20 = .ok (.bipush (-5), 2) := by decide +kernel
theorem dX4_bring_22 : decode cX4_bring 22 = .ok (.iastore, 1) := by decide +kernel
theorem dX4_bring_23 : decode cX4_bring 23 = .ok (.aload_n 0, 1) := by decide +kernel
theorem dX4_bring_24 : decode cX4_bring 24 = .ok (.getfield 24, 3) := by decide +kernel
theorem dX4_bring_27 : decode cX4_bring 27 = .ok (.iload_n 2, 1) := by decide +kernel
theorem dX4_bring_28 : decode cX4_bring 28 = .ok (.dup2, 1) := by decide +kernel
theorem dX4_bring_29 : decode cX4_bring 29 = .ok (.iaload, 1) := by decide +kernel
theorem dX4_bring_30 : decode cX4_bring 30 = .ok (.iconst 1, 1) := by decide +kernel
theorem dX4_bring_31 : decode cX4_bring 31 = .ok (.iadd, 1) := by decide +kernel
theorem dX4_bring_32 : decode cX4_bring 32 = .ok (.iastore, 1) := by decide +kernel
theorem dX4_bring_33 : decode cX4_bring 33 = .ok (.return_, 1) := by decide +kernel
theorem dX4_rankInHopper_0 : decode cX4_rankInHopper 0 = .ok (.iconst 0, 1) := by decide +kernel
theorem dX4_rankInHopper_1 : decode cX4_rankInHopper 1 = .ok (.istore_n 2, 1) := by decide +kernel
theorem dX4_rankInHopper_2 : decode cX4_rankInHopper 2 = .ok (.iload_n 2, 1) := by decide +kernel
theorem dX4_rankInHopper_3 : decode cX4_rankInHopper 3 = .ok (.aload_n 0, 1) := by decide +kernel
theorem dX4_rankInHopper_4 : decode cX4_rankInHopper 4 = .ok (.getfield 24, 3) := by decide +kernel
theorem dX4_rankInHopper_7 : decode cX4_rankInHopper 7 = .ok (.iconst 0, 1) := by decide +kernel
theorem dX4_rankInHopper_8 : decode cX4_rankInHopper 8 = .ok (.iaload, 1) := by decide +kernel
theorem dX4_rankInHopper_9 : decode cX4_rankInHopper 9 = .ok (.if_icmp .ge 21, 3) := by decide +kernel
theorem dX4_rankInHopper_12 : decode cX4_rankInHopper 12 = .ok (.aload_n 0, 1) := by decide +kernel
theorem dX4_rankInHopper_13 : decode cX4_rankInHopper 13 = .ok (.getfield 21, 3) := by decide +kernel
theorem dX4_rankInHopper_16 : decode cX4_rankInHopper 16 = .ok (.iload_n 2, 1) := by decide +kernel
theorem dX4_rankInHopper_17 : decode cX4_rankInHopper 17 = .ok (.iaload, 1) := by decide +kernel
theorem dX4_rankInHopper_18 : decode cX4_rankInHopper 18 = .ok (.iload_n 1, 1) := by decide +kernel
theorem dX4_rankInHopper_19 : decode cX4_rankInHopper 19 = .ok (.if_icmp .ne 5, 3) := by decide +kernel
theorem dX4_rankInHopper_22 : decode cX4_rankInHopper 22 = .ok (.iload_n 2, 1) := by decide +kernel
theorem dX4_rankInHopper_23 : decode cX4_rankInHopper 23 = .ok (.ireturn, 1) := by decide +kernel
theorem dX4_rankInHopper_24 : decode cX4_rankInHopper 24 = .ok (.iinc 2 1, 3) := by decide +kernel
theorem dX4_rankInHopper_27 : decode cX4_rankInHopper 27 = .ok (.goto (-25), 3) := by decide +kernel
theorem dX4_rankInHopper_30 : decode cX4_rankInHopper 30 = .ok (.bipush (-5), 2) := by decide +kernel
theorem dX4_rankInHopper_32 : decode cX4_rankInHopper 32 = .ok (.ireturn, 1) := by decide +kernel
theorem dX4_copyFrom_0 : decode cX4_copyFrom 0 = .ok (.aload_n 1, 1) := by decide +kernel
theorem dX4_copyFrom_1 : decode cX4_copyFrom 1 = .ok (.getfield 9, 3) := by decide +kernel
theorem dX4_copyFrom_4 : decode cX4_copyFrom 4 = .ok (.iconst 0, 1) := by decide +kernel
theorem dX4_copyFrom_5 : decode cX4_copyFrom 5 = .ok (.aload_n 0, 1) := by decide +kernel
theorem dX4_copyFrom_6 : decode cX4_copyFrom 6 = .ok (.getfield 9, 3) := by decide +kernel
theorem dX4_copyFrom_9 : decode cX4_copyFrom 9 = .ok (.iconst 0, 1) := by decide +kernel
theorem dX4_copyFrom_10 : decode cX4_copyFrom 10 = .ok (.iload_n 2, 1) := by decide +kernel
theorem dX4_copyFrom_11 : decode cX4_copyFrom 11 = .ok (.invokestatic 34, 3) := by decide +kernel
theorem dX4_copyFrom_14 : decode cX4_copyFrom 14 = .ok (.aload_n 1, 1) := by decide +kernel
theorem dX4_copyFrom_15 : decode cX4_copyFrom 15 = .ok (.getfield 15, 3) := by decide +kernel
theorem dX4_copyFrom_18 : decode cX4_copyFrom 18 = .ok (.iconst 0, 1) := by decide +kernel
theorem dX4_copyFrom_19 : decode cX4_copyFrom 19 = .ok (.aload_n 0, 1) := by decide +kernel
theorem dX4_copyFrom_20 : decode cX4_copyFrom 20 = .ok (.getfield 15, 3) := by decide +kernel
theorem dX4_copyFrom_23 : decode cX4_copyFrom 23 = .ok (.iconst 0, 1) := by decide +kernel
theorem dX4_copyFrom_24 : decode cX4_copyFrom 24 = .ok (.iload_n 2, 1) := by decide +kernel
theorem dX4_copyFrom_25 : decode cX4_copyFrom 25 = .ok (.invokestatic 34, 3) := by decide +kernel
theorem dX4_copyFrom_28 : decode cX4_copyFrom 28 = .ok (.aload_n 1, 1) := by decide +kernel
theorem dX4_copyFrom_29 : decode cX4_copyFrom 29 = .ok (.getfield 18, 3) := by decide +kernel
theorem dX4_copyFrom_32 : decode cX4_copyFrom 32 = .ok (.iconst 0, 1) := by decide +kernel
theorem dX4_copyFrom_33 : decode cX4_copyFrom 33 = .ok (.aload_n 0, 1) := by decide +kernel
theorem dX4_copyFrom_34 : decode cX4_copyFrom 34 = .ok (.getfield 18, 3) := by decide +kernel
theorem dX4_copyFrom_37 : decode cX4_copyFrom 37 = .ok (.iconst 0, 1) := by decide +kernel
theorem dX4_copyFrom_38 : decode cX4_copyFrom 38 = .ok (.iload_n 2, 1) := by decide +kernel
theorem dX4_copyFrom_39 : decode cX4_copyFrom 39 = .ok (.invokestatic 34, 3) := by decide +kernel
theorem dX4_copyFrom_42 : decode cX4_copyFrom 42 = .ok (.aload_n 1, 1) := by decide +kernel
theorem dX4_copyFrom_43 : decode cX4_copyFrom 43 = .ok (.getfield 21, 3) := by decide +kernel
theorem dX4_copyFrom_46 : decode cX4_copyFrom 46 = .ok (.iconst 0, 1) := by decide +kernel
theorem dX4_copyFrom_47 : decode cX4_copyFrom 47 = .ok (.aload_n 0, 1) := by decide +kernel
theorem dX4_copyFrom_48 : decode cX4_copyFrom 48 = .ok (.getfield 21, 3) := by decide +kernel
theorem dX4_copyFrom_51 : decode cX4_copyFrom 51 = .ok (.iconst 0, 1) := by decide +kernel
theorem dX4_copyFrom_52 : decode cX4_copyFrom 52 = .ok (.aload_n 1, 1) := by decide +kernel
theorem dX4_copyFrom_53 : decode cX4_copyFrom 53 = .ok (.getfield 24, 3) := by decide +kernel
theorem dX4_copyFrom_56 : decode cX4_copyFrom 56 = .ok (.iconst 0, 1) := by decide +kernel
theorem dX4_copyFrom_57 : decode cX4_copyFrom 57 = .ok (.iaload, 1) := by decide +kernel
theorem dX4_copyFrom_58 : decode cX4_copyFrom 58 = .ok (.invokestatic 34, 3) := by decide +kernel
theorem dX4_copyFrom_61 : decode cX4_copyFrom 61 = .ok (.aload_n 1, 1) := by decide +kernel
theorem dX4_copyFrom_62 : decode cX4_copyFrom 62 = .ok (.getfield 24, 3) := by decide +kernel
theorem dX4_copyFrom_65 : decode cX4_copyFrom 65 = .ok (.iconst 0, 1) := by decide +kernel
theorem dX4_copyFrom_66 : decode cX4_copyFrom 66 = .ok (.aload_n 0, 1) := by decide +kernel
theorem dX4_copyFrom_67 : decode cX4_copyFrom 67 = .ok (.getfield 24, 3) := by decide +kernel
theorem dX4_copyFrom_70 : decode cX4_copyFrom 70 = .ok (.iconst 0, 1) := by decide +kernel
theorem dX4_copyFrom_71 : decode cX4_copyFrom 71 = .ok (.bipush 7, 2) := by decide +kernel
theorem dX4_copyFrom_73 : decode cX4_copyFrom 73 = .ok (.invokestatic 34, 3) := by decide +kernel
theorem dX4_copyFrom_76 : decode cX4_copyFrom 76 = .ok (.aload_n 1, 1) := by decide +kernel
theorem dX4_copyFrom_77 : decode cX4_copyFrom 77 = .ok (.getfield 27, 3) := by decide +kernel
theorem dX4_copyFrom_80 : decode cX4_copyFrom 80 = .ok (.iconst 0, 1) := by decide +kernel
theorem dX4_copyFrom_81 : decode cX4_copyFrom 81 = .ok (.aload_n 0, 1) := by decide +kernel
theorem dX4_copyFrom_82 : decode cX4_copyFrom 82 = .ok (.getfield 27, 3) := by decide +kernel
theorem dX4_copyFrom_85 : decode cX4_copyFrom 85 = .ok (.iconst 0, 1) := by decide +kernel
theorem dX4_copyFrom_86 : decode cX4_copyFrom 86 = .ok (.bipush 12, 2) := by decide +kernel
theorem dX4_copyFrom_88 : decode cX4_copyFrom 88 = .ok (.invokestatic 34, 3) := by decide +kernel
theorem dX4_copyFrom_91 : decode cX4_copyFrom 91 = .ok (.return_, 1) := by decide +kernel
set_option maxRecDepth 20000 in
theorem ggX5_init_X1_init : GoodIn wsX5_init wsX1_init := goodIn_r _ [25, 26, 2, 3, 27, 28, 29, 30, 31, 32, 33, 34, 44, 45, 46, 47, 48, 49, 50] (by decide +kernel) (by decide +kernel)
set_option maxRecDepth 20000 in
theorem gX5_init_X1_init_n11 : GoodIn wsX5_init (wsX1_init) := ggX5_init_X1_init
set_option maxRecDepth 20000 in
theorem ggX5_init_X4_init : GoodIn wsX5_init wsX4_init := goodIn_r _ [36, 37, 2, 3, 27, 38, 39, 40, 41, 42, 43, 59, 60, 61, 62, 63, 64] (by decide +kernel) (by decide +kernel)
set_option maxRecDepth 20000 in
theorem gX5_init_X4_init_n20 : GoodIn wsX5_init (wsX4_init) := ggX5_init_X4_init
theorem dX5_init_0 : decode cX5_init 0 = .ok (.aload_n 0, 1) := by decide +kernel
theorem dX5_init_1 : decode cX5_init 1 = .ok (.invokespecial 3, 3) := by decide +kernel
theorem dX5_init_4 : decode cX5_init 4 = .ok (.aload_n 0, 1) := by decide +kernel
theorem dX5_init_5 : decode cX5_init 5 = .ok (.new 9, 3) := by decide +kernel
theorem dX5_init_8 : decode cX5_init 8 = .ok (.dup, 1) := by decide +kernel
theorem dX5_init_9 : decode cX5_init 9 = .ok (.invokespecial 11, 3) := by decide +kernel
theorem dX5_init_12 : decode cX5_init 12 = .ok (.putfield 12, 3) := by decide +kernel
theorem dX5_init_15 : decode cX5_init 15 = .ok (.aload_n 0, 1) := by decide +kernel
theorem dX5_init_16 : decode cX5_init 16 = .ok (.new 18, 3) := by decide +kernel
theorem dX5_init_19 : decode cX5_init 19 = .ok (.dup, 1) := by decide +kernel
theorem dX5_init_20 : decode cX5_init 20 = .ok (.invokespecial 20, 3) := by decide +kernel
theorem dX5_init_23 : decode cX5_init 23 = .ok (.putfield 21, 3) := by decide +kernel
theorem dX5_init_26 : decode cX5_init 26 = .ok (.aload_n 0, 1) := by decide +kernel
theorem dX5_init_27 : decode cX5_init 27 = .ok (.getstatic 25, 3) := by decide +kernel
theorem dX5_init_30 : decode cX5_init 30 = .ok (.invokevirtual 29, 3) := by decide +kernel
theorem dX5_init_33 : decode cX5_init 33 = .ok (.checkcast 30, 3) := by decide +kernel
theorem dX5_init_36 : decode cX5_init 36 = .ok (.putfield 34, 3) := by decide +kernel
theorem dX5_init_39 : decode cX5_init 39 = .ok (.aload_n 0, 1) := by decide +kernel
theorem dX5_init_40 : decode cX5_init 40 = .ok (.iconst 0, 1) := by decide +kernel
theorem dX5_init_41 : decode cX5_init 41 = .ok (.putfield 37, 3) := by decide +kernel
theorem dX5_init_44 : decode cX5_init 44 = .ok (.aload_n 0, 1) := by decide +kernel
theorem dX5_init_45 : decode cX5_init 45 = .ok (.iconst 0, 1) := by decide +kernel
theorem dX5_init_46 : decode cX5_init 46 = .ok (.putfield 41, 3) := by decide +kernel
theorem dX5_init_49 : decode cX5_init 49 = .ok (.aload_n 0, 1) := by decide +kernel
theorem dX5_init_50 : decode cX5_init 50 = .ok (.iconst 0, 1) := by decide +kernel
theorem dX5_init_51 : decode cX5_init 51 = .ok (.putfield 44, 3) := by decide +kernel
theorem dX5_init_54 : decode cX5_init 54 = .ok (.aload_n 0, 1) := by decide +kernel
theorem dX5_init_55 : decode cX5_init 55 = .ok (.iconst 0, 1) := by decide +kernel
theorem dX5_init_56 : decode cX5_init 56 = .ok (.putfield 47, 3) := by decide +kernel
theorem dX5_init_59 : decode cX5_init 59 = .ok (.aload_n 0, 1) := by decide +kernel
theorem dX5_init_60 : decode cX5_init 60 = .ok (.iconst 0, 1) := by decide +kernel
theorem dX5_init_61 : decode cX5_init 61 = .ok (.putfield 50, 3) := by decide +kernel
theorem dX5_init_64 : decode cX5_init 64 = .ok (.return_, 1) := by decide +kernel
set_option maxRecDepth 20000 in
theorem ggX5_takeIn_X4_bringToHopper : GoodIn wsX5_takeIn wsX4_bringToHopper := goodIn_r _ [19, 20, 21, 22, 23, 24, 18, 25, 26, 27, 28, 52, 53, 54, 55, 56, 57] (by decide +kernel) (by decide +kernel)
set_option maxRecDepth 20000 in
theorem gX5_takeIn_X4_bringToHopper : GoodIn wsX5_takeIn (wsV RX5 81 RX4 yX4_bringToHopper wsX4_bringToHopper) := goodIn_app (goodIn_of _ (by decide +kernel)) ggX5_takeIn_X4_bringToHopper
theorem dX5_takeIn_0 : decode cX5_takeIn 0 = .ok (.aload_n 0, 1) := by decide +kernel
theorem dX5_takeIn_1 : decode cX5_takeIn 1 = .ok (.getfield 12, 3) := by decide +kernel
theorem dX5_takeIn_4 : decode cX5_takeIn 4 = .ok (.getfield 53, 3) := by decide +kernel
theorem dX5_takeIn_7 : decode cX5_takeIn 7 = .ok (.istore_n 3, 1) := by decide +kernel
theorem dX5_takeIn_8 : decode cX5_takeIn 8 = .ok (.iload_n 3, 1) := by decide +kernel
theorem dX5_takeIn_9 : decode cX5_takeIn 9 = .ok (.bipush 40, 2) := by decide +kernel
theorem dX5_takeIn_11 : decode cX5_takeIn 11 = .ok (.if_icmp .lt 4, 3) := by decide +kernel
theorem dX5_takeIn_14 : decode cX5_takeIn 14 = .ok (.return_, 1) := by decide +kernel
theorem dX5_takeIn_15 : decode cX5_takeIn 15 = .ok (.aload_n 0, 1) := by decide +kernel
theorem dX5_takeIn_16 : decode cX5_takeIn 16 = .ok (.getfield 12, 3) := by decide +kernel
theorem dX5_takeIn_19 : decode cX5_takeIn 19 = .ok (.getfield 56, 3) := by decide +kernel
theorem dX5_takeIn_22 : decode cX5_takeIn 22 = .ok (.iload_n 3, 1) := by decide +kernel
theorem dX5_takeIn_23 : decode cX5_takeIn 23 = .ok (.aload_n 1, 1) := by decide +kernel
theorem dX5_takeIn_24 : decode cX5_takeIn 24 = .ok (.getfield 59, 3) := by decide +kernel
theorem dX5_takeIn_27 : decode cX5_takeIn 27 = .ok (.iload_n 2, 1) := by decide +kernel
theorem dX5_takeIn_28 : decode cX5_takeIn 28 = .ok (.iaload, 1) := by decide +kernel
theorem dX5_takeIn_29 : decode cX5_takeIn 29 = .ok (.iastore, 1) := by decide +kernel
theorem dX5_takeIn_30 : decode cX5_takeIn 30 = .ok (.aload_n 0, 1) := by decide +kernel
theorem dX5_takeIn_31 : decode cX5_takeIn 31 = .ok (.getfield 12, 3) := by decide +kernel
theorem dX5_takeIn_34 : decode cX5_takeIn 34 = .ok (.getfield 62, 3) := by decide +kernel
theorem dX5_takeIn_37 : decode cX5_takeIn 37 = .ok (.iload_n 3, 1) := by decide +kernel
theorem dX5_takeIn_38 : decode cX5_takeIn 38 = .ok (.aload_n 1, 1) := by decide +kernel
theorem dX5_takeIn_39 : decode cX5_takeIn 39 = .ok (.getfield 65, 3) := by decide +kernel
theorem dX5_takeIn_42 : decode cX5_takeIn 42 = .ok (.iload_n 2, 1) := by decide +kernel
theorem dX5_takeIn_43 : decode cX5_takeIn 43 = .ok (.iaload, 1) := by decide +kernel
theorem dX5_takeIn_44 : decode cX5_takeIn 44 = .ok (.iastore, 1) := by decide +kernel
theorem dX5_takeIn_45 : decode cX5_takeIn 45 = .ok (.aload_n 0, 1) := by decide +kernel
theorem dX5_takeIn_46 : decode cX5_takeIn 46 = .ok (.getfield 12, 3) := by decide +kernel
theorem dX5_takeIn_49 : decode cX5_takeIn 49 = .ok (.getfield 66, 3) := by decide +kernel
theorem dX5_takeIn_52 : decode cX5_takeIn 52 = .ok (.iload_n 3, 1) := by decide +kernel
theorem dX5_takeIn_53 : decode cX5_takeIn 53 = .ok (.aload_n 1, 1) := by decide +kernel
theorem dX5_takeIn_54 : decode cX5_takeIn 54 = .ok (.getfield 69, 3) := by decide +kernel
theorem dX5_takeIn_57 : decode cX5_takeIn 57 = .ok (.iload_n 2, 1) := by decide +kernel
theorem dX5_takeIn_58 : decode cX5_takeIn 58 = .ok (.iaload, 1) := by decide +kernel
theorem dX5_takeIn_59 : decode cX5_takeIn 59 = .ok (.iastore, 1) := by decide +kernel
theorem dX5_takeIn_60 : decode cX5_takeIn 60 = .ok (.aload_n 0, 1) := by decide +kernel
theorem dX5_takeIn_61 : decode cX5_takeIn 61 = .ok (.getfield 12, 3) := by decide +kernel
theorem dX5_takeIn_64 : decode cX5_takeIn 64 = .ok (.getfield 70, 3) := by decide +kernel
theorem dX5_takeIn_67 : decode cX5_takeIn 67 = .ok (.iload_n 3, 1) := by decide +kernel
theorem dX5_takeIn_68 : decode cX5_takeIn 68 = .ok (.aload_n 1, 1) := by decide +kernel
theorem dX5_takeIn_69 : decode cX5_takeIn 69 = .ok (.getfield 73, 3) := by decide +kernel
theorem dX5_takeIn_72 : decode cX5_takeIn 72 = .ok (.iload_n 2, 1) := by decide +kernel
theorem dX5_takeIn_73 : decode cX5_takeIn 73 = .ok (.iaload, 1) := by decide +kernel
theorem dX5_takeIn_74 : decode cX5_takeIn 74 = .ok (.iastore, 1) := by decide +kernel
theorem dX5_takeIn_75 : decode cX5_takeIn 75 = .ok (.aload_n 0, 1) := by decide +kernel
theorem dX5_takeIn_76 : decode cX5_takeIn 76 = .ok (.getfield 12, 3) := by decide +kernel
theorem dX5_takeIn_79 : decode cX5_takeIn 79 = .ok (.getfield 74, 3) := by decide +kernel
theorem dX5_takeIn_82 : decode cX5_takeIn 82 = .ok (.iload_n 3, 1) := by decide +kernel
theorem dX5_takeIn_83 : decode cX5_takeIn 83 = .ok (.aload_n 1, 1) := by decide +kernel
theorem dX5_takeIn_84 : decode cX5_takeIn 84 = .ok (.getfield 77, 3) := by decide +kernel
theorem dX5_takeIn_87 : decode cX5_takeIn 87 = .ok (.iload_n 2, 1) := by decide +kernel
theorem dX5_takeIn_88 : decode cX5_takeIn 88 = .ok (.iaload, 1) := by decide +kernel
theorem dX5_takeIn_89 : decode cX5_takeIn 89 = .ok (.iastore, 1) := by decide +kernel
theorem dX5_takeIn_90 : decode cX5_takeIn 90 = .ok (.aload_n 0, 1) := by decide +kernel
theorem dX5_takeIn_91 : decode cX5_takeIn 91 = .ok (.getfield 12, 3) := by decide +kernel
theorem dX5_takeIn_94 : decode cX5_takeIn 94 = .ok (.getfield 78, 3) := by decide +kernel
theorem dX5_takeIn_97 : decode cX5_takeIn 97 = .ok (.iload_n 3, 1) := by decide +kernel
theorem dX5_takeIn_98 : decode cX5_takeIn 98 = .ok (.iconst 0, 1) := by decide +kernel
theorem dX5_takeIn_99 : decode cX5_takeIn 99 = .ok (.iastore, 1) := by decide +kernel
theorem dX5_takeIn_100 : decode cX5_takeIn 100 = .ok (.aload_n 0, 1) := by decide +kernel
theorem dX5_takeIn_101 : decode cX5_takeIn 101 = .ok (.getfield 12, 3) := by decide +kernel
theorem dX5_takeIn_104 : decode cX5_takeIn 104 = .ok (.dup, 1) := by decide +kernel
theorem dX5_takeIn_105 : decode cX5_takeIn 105 = .ok (.getfield 53, 3) := by decide +kernel
theorem dX5_takeIn_108 : decode cX5_takeIn 108 = .ok (.iconst 1, 1) := by decide +kernel
theorem dX5_takeIn_109 : decode cX5_takeIn 109 = .ok (.iadd, 1) := by decide +kernel
theorem dX5_takeIn_110 : decode cX5_takeIn 110 = .ok (.putfield 53, 3) := by decide +kernel
theorem dX5_takeIn_113 : decode cX5_takeIn 113 = .ok (.aload_n 0, 1) := by decide +kernel
theorem dX5_takeIn_114 : decode cX5_takeIn 114 = .ok (.getfield 21, 3) := by decide +kernel
theorem dX5_takeIn_117 : decode cX5_takeIn 117 = .ok (.iload_n 3, 1) := by decide +kernel
theorem dX5_takeIn_118 : decode cX5_takeIn 118 = .ok (.invokevirtual 81, 3) := by decide +kernel
theorem dX5_takeIn_121 : decode cX5_takeIn 121 = .ok (.return_, 1) := by decide +kernel
set_option maxRecDepth 20000 in
theorem ggX5_placeFor_X5_binFor : GoodIn wsX5_placeFor wsX5_binFor := goodIn_r _ [13, 1, 14, 15, 16, 17, 12, 18, 3, 7, 19, 20, 21, 22, 23, 24, 25, 26, 27, 28, 29, 30, 31, 32, 33] (by decide +kernel) (by decide +kernel)
set_option maxRecDepth 20000 in
theorem gX5_placeFor_X5_binFor : GoodIn wsX5_placeFor (wsV RX5 91 RX5 yX5_binFor wsX5_binFor) := goodIn_app (goodIn_of _ (by decide +kernel)) ggX5_placeFor_X5_binFor
theorem dX5_placeFor_0 : decode cX5_placeFor 0 = .ok (.aload_n 0, 1) := by decide +kernel
theorem dX5_placeFor_1 : decode cX5_placeFor 1 = .ok (.getfield 12, 3) := by decide +kernel
theorem dX5_placeFor_4 : decode cX5_placeFor 4 = .ok (.getfield 70, 3) := by decide +kernel
theorem dX5_placeFor_7 : decode cX5_placeFor 7 = .ok (.iload_n 1, 1) := by decide +kernel
theorem dX5_placeFor_8 : decode cX5_placeFor 8 = .ok (.iaload, 1) := by decide +kernel
theorem dX5_placeFor_9 : decode cX5_placeFor 9 = .ok (.aload_n 0, 1) := by decide +kernel
theorem dX5_placeFor_10 : decode cX5_placeFor 10 = .ok (.getfield 34, 3) := by decide +kernel
theorem dX5_placeFor_13 : decode cX5_placeFor 13 = .ok (.iconst 3, 1) := by decide +kernel
theorem dX5_placeFor_14 : decode cX5_placeFor 14 = .ok (.iaload, 1) := by decide +kernel
theorem dX5_placeFor_15 : decode cX5_placeFor 15 = .ok (.if_icmp .le 5, 3) := by decide +kernel
theorem dX5_placeFor_18 : decode cX5_placeFor 18 = .ok (.iconst 1, 1) := by decide +kernel
theorem dX5_placeFor_19 : decode cX5_placeFor 19 = .ok (.ireturn, 1) := by decide +kernel
theorem dX5_placeFor_20 : decode cX5_placeFor 20 = .ok (.aload_n 0, 1) := by decide +kernel
theorem dX5_placeFor_21 : decode cX5_placeFor 21 = .ok (.getfield 12, 3) := by decide +kernel
theorem dX5_placeFor_24 : decode cX5_placeFor 24 = .ok (.getfield 66, 3) := by decide +kernel
theorem dX5_placeFor_27 : decode cX5_placeFor 27 = .ok (.iload_n 1, 1) := by decide +kernel
theorem dX5_placeFor_28 : decode cX5_placeFor 28 = .ok (.iaload, 1) := by decide +kernel
theorem dX5_placeFor_29 : decode cX5_placeFor 29 = .ok (.aload_n 0, 1) := by decide +kernel
theorem dX5_placeFor_30 : decode cX5_placeFor 30 = .ok (.getfield 34, 3) := by decide +kernel
theorem dX5_placeFor_33 : decode cX5_placeFor 33 = .ok (.iconst 4, 1) := by decide +kernel
theorem dX5_placeFor_34 : decode cX5_placeFor 34 = .ok (.iaload, 1) := by decide +kernel
theorem dX5_placeFor_35 : decode cX5_placeFor 35 = .ok (.if_icmp .lt 29, 3) := by decide +kernel
theorem dX5_placeFor_38 : decode cX5_placeFor 38 = .ok (.aload_n 0, 1) := by decide +kernel
theorem dX5_placeFor_39 : decode cX5_placeFor 39 = .ok (.getfield 21, 3) := by decide +kernel
theorem dX5_placeFor_42 : decode cX5_placeFor 42 = .ok (.getfield 85, 3) := by decide +kernel
theorem dX5_placeFor_45 : decode cX5_placeFor 45 = .ok (.iconst 2, 1) := by decide +kernel
theorem dX5_placeFor_46 : decode cX5_placeFor 46 = .ok (.iaload, 1) := by decide +kernel
theorem dX5_placeFor_47 : decode cX5_placeFor 47 = .ok (.iconst 1, 1) := by decide +kernel
theorem dX5_placeFor_48 : decode cX5_placeFor 48 = .ok (.iadd, 1) := by decide +kernel
theorem dX5_placeFor_49 : decode cX5_placeFor 49 = .ok (.aload_n 0, 1) := by decide +kernel
theorem dX5_placeFor_50 : decode cX5_placeFor 50 = .ok (.getfield 34, 3) := by decide +kernel
theorem dX5_placeFor_53 : decode cX5_placeFor 53 = .ok (.iconst 5, 1) := by decide +kernel
theorem dX5_placeFor_54 : decode cX5_placeFor 54 = .ok (.iaload, 1) := by decide +kernel
theorem dX5_placeFor_55 : decode cX5_placeFor 55 = .ok (.if_icmp .lt 7, 3) := by decide +kernel
theorem dX5_placeFor_58 : decode cX5_placeFor 58 = .ok (.iconst 3, 1) := by decide +kernel
theorem dX5_placeFor_59 : decode cX5_placeFor 59 = .ok (.goto 4, 3) := by decide +kernel
theorem dX5_placeFor_62 : decode cX5_placeFor 62 = .ok (.iconst 2, 1) := by decide +kernel
theorem dX5_placeFor_63 : decode cX5_placeFor 63 = .ok (.ireturn, 1) := by decide +kernel
theorem dX5_placeFor_64 : decode cX5_placeFor 64 = .ok (.aload_n 0, 1) := by decide +kernel
theorem dX5_placeFor_65 : decode cX5_placeFor 65 = .ok (.getfield 12, 3) := by decide +kernel
theorem dX5_placeFor_68 : decode cX5_placeFor 68 = .ok (.getfield 62, 3) := by decide +kernel
theorem dX5_placeFor_71 : decode cX5_placeFor 71 = .ok (.iload_n 1, 1) := by decide +kernel
theorem dX5_placeFor_72 : decode cX5_placeFor 72 = .ok (.iaload, 1) := by decide +kernel
theorem dX5_placeFor_73 : decode cX5_placeFor 73 = .ok (.aload_n 0, 1) := by decide +kernel
theorem dX5_placeFor_74 : decode cX5_placeFor 74 = .ok (.getfield 34, 3) := by decide +kernel
theorem dX5_placeFor_77 : decode cX5_placeFor 77 = .ok (.iconst 2, 1) := by decide +kernel
theorem dX5_placeFor_78 : decode cX5_placeFor 78 = .ok (.iaload, 1) := by decide +kernel
theorem dX5_placeFor_79 : decode cX5_placeFor 79 = .ok (.if_icmp .le 5, 3) := by decide +kernel
theorem dX5_placeFor_82 : decode cX5_placeFor 82 = .ok (.iconst 4, 1) := by decide +kernel
theorem dX5_placeFor_83 : decode cX5_placeFor 83 = .ok (.ireturn, 1) := by decide +kernel
theorem dX5_placeFor_84 : decode cX5_placeFor 84 = .ok (.aload_n 0, 1) := by decide +kernel
theorem dX5_placeFor_85 : decode cX5_placeFor 85 = .ok (.getfield 21, 3) := by decide +kernel
theorem dX5_placeFor_88 : decode cX5_placeFor 88 = .ok (.getfield 88, 3) := by decide +kernel
theorem dX5_placeFor_91 : decode cX5_placeFor 91 = .ok (.aload_n 0, 1) := by decide +kernel
theorem dX5_placeFor_92 : decode cX5_placeFor 92 = .ok (.iload_n 1, 1) := by decide +kernel
theorem dX5_placeFor_93 : decode cX5_placeFor 93 = .ok (.invokevirtual 91, 3) := by decide +kernel
theorem dX5_placeFor_96 : decode cX5_placeFor 96 = .ok (.iaload, 1) := by decide +kernel
theorem dX5_placeFor_97 : decode cX5_placeFor 97 = .ok (.aload_n 0, 1) := by decide +kernel
theorem dX5_placeFor_98 : decode cX5_placeFor 98 = .ok (.getfield 34, 3) := by decide +kernel
theorem dX5_placeFor_101 : decode cX5_placeFor 101 = .ok (.bipush 6, 2) := by decide +kernel
theorem dX5_placeFor_103 : decode cX5_placeFor 103 = .ok (.iaload, 1) := by decide +kernel
theorem dX5_placeFor_104 : decode cX5_placeFor 104 = .ok (.if_icmp .ge 7, 3) := by decide +kernel
theorem dX5_placeFor_107 : decode cX5_placeFor 107 = .ok (.iconst 5, 1) := by decide +kernel
theorem dX5_placeFor_108 : decode cX5_placeFor 108 = .ok (.goto 4, 3) := by decide +kernel
theorem dX5_placeFor_111 : decode cX5_placeFor 111 = .ok (.iconst 0, 1) := by decide +kernel
theorem dX5_placeFor_112 : decode cX5_placeFor 112 = .ok (.ireturn, 1) := by decide +kernel
theorem dX5_meshClass_0 : decode cX5_meshClass 0 = .ok (.iconst 0, 1) := by decide +kernel
theorem dX5_meshClass_1 : decode cX5_meshClass 1 = .ok (.istore_n 2, 1) := by decide +kernel
theorem dX5_meshClass_2 : decode cX5_meshClass 2 = .ok (.iload_n 2, 1) := by decide +kernel
theorem dX5_meshClass_3 : decode cX5_meshClass 3 = .ok (.iconst 2, 1) := by decide +kernel
theorem dX5_meshClass_4 : decode cX5_meshClass 4 = .ok (.if_icmp .ge 27, 3) := by decide +kernel
theorem dX5_meshClass_7 : decode cX5_meshClass 7 = .ok (.aload_n 0, 1) := by decide +kernel
theorem dX5_meshClass_8 : decode cX5_meshClass 8 = .ok (.getfield 34, 3) := by decide +kernel
theorem dX5_meshClass_11 : decode cX5_meshClass 11 = .ok (.iload_n 2, 1) := by decide +kernel
theorem dX5_meshClass_12 : decode cX5_meshClass 12 = .ok (.iaload, 1) := by decide +kernel
theorem dX5_meshClass_13 : decode cX5_meshClass 13 = .ok (.aload_n 0, 1) := by decide +kernel
theorem dX5_meshClass_14 : decode cX5_meshClass 14 = .ok (.getfield 12, 3) := by decide +kernel
theorem dX5_meshClass_17 : decode cX5_meshClass 17 = .ok (.getfield 62, 3) := by decide +kernel
theorem dX5_meshClass_20 : decode cX5_meshClass 20 = .ok (.iload_n 1, 1) := by decide +kernel
theorem dX5_meshClass_21 : decode cX5_meshClass 21 = .ok (.iaload, 1) := by decide +kernel
theorem dX5_meshClass_22 : decode cX5_meshClass 22 = .ok (.if_icmp .ge 9, 3) := by decide +kernel
theorem dX5_meshClass_25 : decode cX5_meshClass 25 = .ok (.iinc 2 1, 3) := by decide +kernel
theorem dX5_meshClass_28 : decode cX5_meshClass 28 = .ok (.goto (-26), 3) := by decide +kernel
theorem dX5_meshClass_31 : decode cX5_meshClass 31 = .ok (.iload_n 2, 1) := by decide +kernel
theorem dX5_meshClass_32 : decode cX5_meshClass 32 = .ok (.ireturn, 1) := by decide +kernel
set_option maxRecDepth 20000 in
theorem ggX5_binFor_X5_meshClass : GoodIn wsX5_binFor wsX5_meshClass := goodIn_r _ [7, 8, 1, 9, 10, 11, 12, 13, 14, 15, 16, 17, 18, 19, 20, 21, 22, 23, 24] (by decide +kernel) (by decide +kernel)
set_option maxRecDepth 20000 in
theorem gX5_binFor_X5_meshClass : GoodIn wsX5_binFor (wsV RX5 95 RX5 yX5_meshClass wsX5_meshClass) := goodIn_app (goodIn_of _ (by decide +kernel)) ggX5_binFor_X5_meshClass
theorem dX5_binFor_0 : decode cX5_binFor 0 = .ok (.iconst 4, 1) := by decide +kernel
theorem dX5_binFor_1 : decode cX5_binFor 1 = .ok (.aload_n 0, 1) := by decide +kernel
theorem dX5_binFor_2 : decode cX5_binFor 2 = .ok (.iload_n 1, 1) := by decide +kernel
theorem dX5_binFor_3 : decode cX5_binFor 3 = .ok (.invokevirtual 95, 3) := by decide +kernel
theorem dX5_binFor_6 : decode cX5_binFor 6 = .ok (.imul, 1) := by decide +kernel
theorem dX5_binFor_7 : decode cX5_binFor 7 = .ok (.aload_n 0, 1) := by decide +kernel
theorem dX5_binFor_8 : decode cX5_binFor 8 = .ok (.getfield 12, 3) := by decide +kernel
theorem dX5_binFor_11 : decode cX5_binFor 11 = .ok (.getfield 56, 3) := by decide +kernel
theorem dX5_binFor_14 : decode cX5_binFor 14 = .ok (.iload_n 1, 1) := by decide +kernel
theorem dX5_binFor_15 : decode cX5_binFor 15 = .ok (.iaload, 1) := by decide +kernel
theorem dX5_binFor_16 : decode cX5_binFor 16 = .ok (.iadd, 1) := by decide +kernel
theorem dX5_binFor_17 : decode cX5_binFor 17 = .ok (.iconst 1, 1) := by decide +kernel
theorem dX5_binFor_18 : decode cX5_binFor 18 = .ok (.isub, 1) := by decide +kernel
theorem dX5_binFor_19 : decode cX5_binFor 19 = .ok (.ireturn, 1) := by decide +kernel
set_option maxRecDepth 20000 in
theorem ggX5_sortFirst_X4_takeFirst : GoodIn wsX5_sortFirst wsX4_takeFirst := goodIn_r _ [11, 12, 13, 14, 15, 16, 17, 18, 19, 20, 10, 21, 22, 23, 24, 84, 85, 86, 87, 88, 89] (by decide +kernel) (by decide +kernel)
set_option maxRecDepth 20000 in
theorem gX5_sortFirst_X4_takeFirst : GoodIn wsX5_sortFirst (wsV RX5 98 RX4 yX4_takeFirst wsX4_takeFirst) := goodIn_app (goodIn_of _ (by decide +kernel)) ggX5_sortFirst_X4_takeFirst
set_option maxRecDepth 20000 in
theorem ggX5_sortFirst_X5_placeFor : GoodIn wsX5_sortFirst wsX5_placeFor := goodIn_r _ [29, 3, 30, 31, 32, 1, 2, 33, 34, 35, 36, 37, 28, 38, 39, 40, 41, 42, 43, 76, 77, 78, 79, 80, 81, 82, 83, 90, 91, 92, 93, 94, 95, 96, 84, 85, 86, 87, 88, 89] (by decide +kernel) (by decide +kernel)
set_option maxRecDepth 20000 in
theorem gX5_sortFirst_X5_placeFor : GoodIn wsX5_sortFirst (wsV RX5 102 RX5 yX5_placeFor wsX5_placeFor) := goodIn_app (goodIn_of _ (by decide +kernel)) ggX5_sortFirst_X5_placeFor
set_option maxRecDepth 20000 in
theorem ggX5_sortFirst_X4_bring : GoodIn wsX5_sortFirst wsX4_bring := goodIn_r _ [47, 22, 23, 48, 13, 84, 85, 86, 87, 88, 89] (by decide +kernel) (by decide +kernel)
set_option maxRecDepth 20000 in
theorem gX5_sortFirst_X4_bring : GoodIn wsX5_sortFirst (wsV RX5 105 RX4 yX4_bring wsX4_bring) := goodIn_app (goodIn_of _ (by decide +kernel)) ggX5_sortFirst_X4_bring
set_option maxRecDepth 20000 in
theorem ggX5_sortFirst_X5_emptyMagnet : GoodIn wsX5_sortFirst wsX5_emptyMagnet := goodIn_r _ [52, 3, 53, 1, 54, 55, 19, 20, 10, 21, 13, 22, 23, 24, 44, 45, 46, 47, 48, 76, 77, 78, 79, 80, 81, 82, 83, 90, 91, 92, 93, 94, 95, 96, 84, 85, 86, 87, 88, 89] (by decide +kernel) (by decide +kernel)
set_option maxRecDepth 20000 in
theorem gX5_sortFirst_X5_emptyMagnet : GoodIn wsX5_sortFirst (wsV RX5 109 RX5 yX5_emptyMagnet wsX5_emptyMagnet) := goodIn_app (goodIn_of _ (by decide +kernel)) ggX5_sortFirst_X5_emptyMagnet
set_option maxRecDepth 20000 in
theorem ggX5_sortFirst_X5_rub : GoodIn wsX5_sortFirst wsX5_rub := goodIn_r _ [59, 3, 33, 31, 60, 40, 41, 42, 28, 43, 61, 62, 63, 64, 65, 66, 76, 77, 78, 79, 80, 81, 82, 83, 90, 91, 92, 93, 94, 95, 96] (by decide +kernel) (by decide +kernel)
set_option maxRecDepth 20000 in
theorem gX5_sortFirst_X5_rub : GoodIn wsX5_sortFirst (wsV RX5 112 RX5 yX5_rub wsX5_rub) := goodIn_app (goodIn_of _ (by decide +kernel)) ggX5_sortFirst_X5_rub
set_option maxRecDepth 20000 in
theorem ggX5_sortFirst_X5_binFor : GoodIn wsX5_sortFirst wsX5_binFor := goodIn_r _ [38, 3, 39, 40, 41, 42, 28, 43, 31, 33, 76, 77, 78, 79, 80, 81, 82, 83, 90, 91, 92, 93, 94, 95, 96] (by decide +kernel) (by decide +kernel)
set_option maxRecDepth 20000 in
theorem gX5_sortFirst_X5_binFor : GoodIn wsX5_sortFirst (wsV RX5 91 RX5 yX5_binFor wsX5_binFor) := goodIn_app (goodIn_of _ (by decide +kernel)) ggX5_sortFirst_X5_binFor
set_option maxRecDepth 20000 in
theorem ggX5_sortFirst_X4_bringToBin : GoodIn wsX5_sortFirst wsX4_bringToBin := goodIn_r _ [70, 23, 24, 71, 45, 46, 10, 47, 22, 48, 13, 84, 85, 86, 87, 88, 89] (by decide +kernel) (by decide +kernel)
set_option maxRecDepth 20000 in
theorem gX5_sortFirst_X4_bringToBin : GoodIn wsX5_sortFirst (wsV RX5 115 RX4 yX4_bringToBin wsX4_bringToBin) := goodIn_app (goodIn_of _ (by decide +kernel)) ggX5_sortFirst_X4_bringToBin
set_option maxRecDepth 20000 in
theorem ggX5_sortFirst_X4_bringToHopper : GoodIn wsX5_sortFirst wsX4_bringToHopper := goodIn_r _ [75, 12, 13, 71, 45, 46, 10, 47, 22, 23, 48, 84, 85, 86, 87, 88, 89] (by decide +kernel) (by decide +kernel)
set_option maxRecDepth 20000 in
theorem gX5_sortFirst_X4_bringToHopper : GoodIn wsX5_sortFirst (wsV RX5 81 RX4 yX4_bringToHopper wsX4_bringToHopper) := goodIn_app (goodIn_of _ (by decide +kernel)) ggX5_sortFirst_X4_bringToHopper
theorem dX5_sortFirst_0 : decode cX5_sortFirst 0 = .ok (.aload_n 0, 1) := by decide +kernel
theorem dX5_sortFirst_1 : decode cX5_sortFirst 1 = .ok (.getfield 21, 3) := by decide +kernel
theorem dX5_sortFirst_4 : decode cX5_sortFirst 4 = .ok (.getfield 85, 3) := by decide +kernel
theorem dX5_sortFirst_7 : decode cX5_sortFirst 7 = .ok (.iconst 0, 1) := by decide +kernel
theorem dX5_sortFirst_8 : decode cX5_sortFirst 8 = .ok (.iaload, 1) := by decide +kernel
theorem dX5_sortFirst_9 : decode cX5_sortFirst 9 = .ok (.iconst 1, 1) := by decide +kernel
theorem dX5_sortFirst_10 : decode cX5_sortFirst 10 = .ok (.if_icmp .ge 4, 3) := by decide +kernel
theorem dX5_sortFirst_13 : decode cX5_sortFirst 13 = .ok (.return_, 1) := by decide +kernel
theorem dX5_sortFirst_14 : decode cX5_sortFirst 14 = .ok (.aload_n 0, 1) := by decide +kernel
theorem dX5_sortFirst_15 : decode cX5_sortFirst 15 = .ok (.getfield 21, 3) := by decide +kernel
theorem dX5_sortFirst_18 : decode cX5_sortFirst 18 = .ok (.invokevirtual 98, 3) := by decide +kernel
theorem dX5_sortFirst_21 : decode cX5_sortFirst 21 = .ok (.istore_n 1, 1) := by decide +kernel
theorem dX5_sortFirst_22 : decode cX5_sortFirst 22 = .ok (.aload_n 0, 1) := by decide +kernel
theorem dX5_sortFirst_23 : decode cX5_sortFirst 23 = .ok (.getfield 12, 3) := by decide +kernel
theorem dX5_sortFirst_26 : decode cX5_sortFirst 26 = .ok (.getfield 78, 3) := by decide +kernel
theorem dX5_sortFirst_29 : decode cX5_sortFirst 29 = .ok (.iload_n 1, 1) := by decide +kernel
theorem dX5_sortFirst_30 : decode cX5_sortFirst 30 = .ok (.dup2, 1) := by decide +kernel
theorem dX5_sortFirst_31 : decode cX5_sortFirst 31 = .ok (.iaload, 1) := by decide +kernel
theorem dX5_sortFirst_32 : decode cX5_sortFirst 32 = .ok (.iconst 1, 1) := by decide +kernel
theorem dX5_sortFirst_33 : decode cX5_sortFirst 33 = .ok (.iadd, 1) := by decide +kernel
theorem dX5_sortFirst_34 : decode cX5_sortFirst 34 = .ok (.iastore, 1) := by decide +kernel
theorem dX5_sortFirst_35 : decode cX5_sortFirst 35 = .ok (.aload_n 0, 1) := by decide +kernel
theorem dX5_sortFirst_36 : decode cX5_sortFirst 36 = .ok (.dup, 1) := by decide +kernel
theorem dX5_sortFirst_37 : decode cX5_sortFirst 37 = .ok (.getfield 44, 3) := by decide +kernel
theorem dX5_sortFirst_40 : decode cX5_sortFirst 40 = .ok (.iconst 1, 1) := by decide +kernel
theorem dX5_sortFirst_41 : decode cX5_sortFirst 41 = .ok (.iadd, 1) := by decide +kernel
theorem dX5_sortFirst_42 : decode cX5_sortFirst 42 = .ok (.putfield 44, 3) := by decide +kernel
theorem dX5_sortFirst_45 : decode cX5_sortFirst 45 = .ok (.aload_n 0, 1) := by decide +kernel
theorem dX5_sortFirst_46 : decode cX5_sortFirst 46 = .ok (.iload_n 1, 1) := by decide +kernel
theorem dX5_sortFirst_47 : decode cX5_sortFirst 47 = .ok (.invokevirtual 102, 3) := by decide +kernel
theorem dX5_sortFirst_50 : decode cX5_sortFirst 50 = .ok (.istore_n 2, 1) := by decide +kernel
theorem dX5_sortFirst_51 : decode cX5_sortFirst 51 = .ok (.iload_n 2, 1) := by decide +kernel
theorem dX5_sortFirst_52 : decode cX5_sortFirst 52 = .ok (.lookupswitch 99 #[(0, 73), (3, 36), (5, 52)], 36) := by decide +kernel
theorem dX5_sortFirst_88 : decode cX5_sortFirst 88 = .ok (.aload_n 0, 1) := by decide +kernel
theorem dX5_sortFirst_89 : decode cX5_sortFirst 89 = .ok (.getfield 21, 3) := by decide +kernel
theorem dX5_sortFirst_92 : decode cX5_sortFirst 92 = .ok (.iload_n 1, 1) := by decide +kernel
theorem dX5_sortFirst_93 : decode cX5_sortFirst 93 = .ok (.iconst 2, 1) := by decide +kernel
theorem dX5_sortFirst_94 : decode cX5_sortFirst 94 = .ok (.invokevirtual 105, 3) := by decide +kernel
theorem dX5_sortFirst_97 : decode cX5_sortFirst 97 = .ok (.aload_n 0, 1) := by decide +kernel
theorem dX5_sortFirst_98 : decode cX5_sortFirst 98 = .ok (.invokevirtual 109, 3) := by decide +kernel
theorem dX5_sortFirst_101 : decode cX5_sortFirst 101 = .ok (.goto 59, 3) := by decide +kernel
theorem dX5_sortFirst_104 : decode cX5_sortFirst 104 = .ok (.aload_n 0, 1) := by decide +kernel
theorem dX5_sortFirst_105 : decode cX5_sortFirst 105 = .ok (.iload_n 1, 1) := by decide +kernel
theorem dX5_sortFirst_106 : decode cX5_sortFirst 106 = .ok (.invokevirtual 112, 3) := by decide +kernel
theorem dX5_sortFirst_109 : decode cX5_sortFirst 109 = .ok (.aload_n 0, 1) := by decide +kernel
theorem dX5_sortFirst_110 : decode cX5_sortFirst 110 = .ok (.getfield 21, 3) := by decide +kernel
theorem dX5_sortFirst_113 : decode cX5_sortFirst 113 = .ok (.iload_n 1, 1) := by decide +kernel
theorem dX5_sortFirst_114 : decode cX5_sortFirst 114 = .ok (.aload_n 0, 1) := by decide +kernel
theorem dX5_sortFirst_115 : decode cX5_sortFirst 115 = .ok (.iload_n 1, 1) := by decide +kernel
theorem dX5_sortFirst_116 : decode cX5_sortFirst 116 = .ok (.invokevirtual 91, 3) := by decide +kernel
theorem dX5_sortFirst_119 : decode cX5_sortFirst 119 = .ok (.invokevirtual 115, 3) := by decide +kernel
theorem dX5_sortFirst_122 : decode cX5_sortFirst 122 = .ok (.goto 38, 3) := by decide +kernel
theorem dX5_sortFirst_125 : decode cX5_sortFirst 125 = .ok (.aload_n 0, 1) := by decide +kernel
theorem dX5_sortFirst_126 : decode cX5_sortFirst 126 = .ok (.iload_n 1, 1) := by decide +kernel
theorem dX5_sortFirst_127 : decode cX5_sortFirst 127 = .ok (.invokevirtual 112, 3) := by decide +kernel
theorem dX5_sortFirst_130 : decode cX5_sortFirst 130 = .ok (.aload_n 0, 1) := by decide +kernel
theorem dX5_sortFirst_131 : decode cX5_sortFirst 131 = .ok (.dup, 1) := by decide +kernel
theorem dX5_sortFirst_132 : decode cX5_sortFirst 132 = .ok (.getfield 47, 3) := by decide +kernel
theorem dX5_sortFirst_135 : decode cX5_sortFirst 135 = .ok (.iconst 1, 1) := by decide +kernel
theorem dX5_sortFirst_136 : decode cX5_sortFirst 136 = .ok (.iadd, 1) := by decide +kernel
theorem dX5_sortFirst_137 : decode cX5_sortFirst 137 = .ok (.putfield 47, 3) := by decide +kernel
theorem dX5_sortFirst_140 : decode cX5_sortFirst 140 = .ok (.aload_n 0, 1) := by decide +kernel
theorem dX5_sortFirst_141 : decode cX5_sortFirst 141 = .ok (.getfield 21, 3) := by decide +kernel
theorem dX5_sortFirst_144 : decode cX5_sortFirst 144 = .ok (.iload_n 1, 1) := by decide +kernel
theorem dX5_sortFirst_145 : decode cX5_sortFirst 145 = .ok (.invokevirtual 81, 3) := by decide +kernel
theorem dX5_sortFirst_148 : decode cX5_sortFirst 148 = .ok (.goto 12, 3) := by decide +kernel
theorem dX5_sortFirst_151 : decode cX5_sortFirst 151 = .ok (.aload_n 0, 1) := by decide +kernel
theorem dX5_sortFirst_152 : decode cX5_sortFirst 152 = .ok (.getfield 21, 3) := by decide +kernel
theorem dX5_sortFirst_155 : decode cX5_sortFirst 155 = .ok (.iload_n 1, 1) := by decide +kernel
theorem dX5_sortFirst_156 : decode cX5_sortFirst 156 = .ok (.iload_n 2, 1) := by decide +kernel
theorem dX5_sortFirst_157 : decode cX5_sortFirst 157 = .ok (.invokevirtual 105, 3) := by decide +kernel
theorem dX5_sortFirst_160 : decode cX5_sortFirst 160 = .ok (.return_, 1) := by decide +kernel
set_option maxRecDepth 20000 in
theorem ggX5_rub_X5_meshClass : GoodIn wsX5_rub wsX5_meshClass := goodIn_r _ [9, 3, 1, 2, 16, 17, 18, 19, 20, 21, 22, 23, 24, 25, 26, 27, 28, 29, 30] (by decide +kernel) (by decide +kernel)
set_option maxRecDepth 20000 in
theorem gX5_rub_X5_meshClass : GoodIn wsX5_rub (wsV RX5 95 RX5 yX5_meshClass wsX5_meshClass) := goodIn_app (goodIn_of _ (by decide +kernel)) ggX5_rub_X5_meshClass
set_option maxRecDepth 20000 in
theorem ggX5_rub_X1_chip : GoodIn wsX5_rub wsX1_chip := goodIn_r _ [14, 15, 24, 25, 26, 27, 28, 29, 30] (by decide +kernel) (by decide +kernel)
set_option maxRecDepth 20000 in
theorem gX5_rub_X1_chip : GoodIn wsX5_rub (wsV RX5 118 RX1 yX1_chip wsX1_chip) := goodIn_app (goodIn_of _ (by decide +kernel)) ggX5_rub_X1_chip
theorem dX5_rub_0 : decode cX5_rub 0 = .ok (.aload_n 0, 1) := by decide +kernel
theorem dX5_rub_1 : decode cX5_rub 1 = .ok (.getfield 12, 3) := by decide +kernel
theorem dX5_rub_4 : decode cX5_rub 4 = .ok (.getfield 62, 3) := by decide +kernel
theorem dX5_rub_7 : decode cX5_rub 7 = .ok (.iload_n 1, 1) := by decide +kernel
theorem dX5_rub_8 : decode cX5_rub 8 = .ok (.iaload, 1) := by decide +kernel
theorem dX5_rub_9 : decode cX5_rub 9 = .ok (.aload_n 0, 1) := by decide +kernel
theorem dX5_rub_10 : decode cX5_rub 10 = .ok (.getfield 34, 3) := by decide +kernel
theorem dX5_rub_13 : decode cX5_rub 13 = .ok (.aload_n 0, 1) := by decide +kernel
theorem dX5_rub_14 : decode cX5_rub 14 = .ok (.iload_n 1, 1) := by decide +kernel
theorem dX5_rub_15 : decode cX5_rub 15 = .ok (.invokevirtual 95, 3) := by decide +kernel
theorem dX5_rub_18 : decode cX5_rub 18 = .ok (.iaload, 1) := by decide +kernel
theorem dX5_rub_19 : decode cX5_rub 19 = .ok (.if_icmp .ne 21, 3) := by decide +kernel
theorem dX5_rub_22 : decode cX5_rub 22 = .ok (.aload_n 0, 1) := by decide +kernel
theorem dX5_rub_23 : decode cX5_rub 23 = .ok (.dup, 1) := by decide +kernel
theorem dX5_rub_24 : decode cX5_rub 24 = .ok (.getfield 50, 3) := by decide +kernel
theorem dX5_rub_27 : decode cX5_rub 27 = .ok (.iconst 1, 1) := by decide +kernel
theorem dX5_rub_28 : decode cX5_rub 28 = .ok (.iadd, 1) := by decide +kernel
theorem dX5_rub_29 : decode cX5_rub 29 = .ok (.putfield 50, 3) := by decide +kernel
theorem dX5_rub_32 : decode cX5_rub 32 = .ok (.aload_n 0, 1) := by decide +kernel
theorem dX5_rub_33 : decode cX5_rub 33 = .ok (.getfield 12, 3) := by decide +kernel
theorem dX5_rub_36 : decode cX5_rub 36 = .ok (.iload_n 1, 1) := by decide +kernel
theorem dX5_rub_37 : decode cX5_rub 37 = .ok (.invokevirtual 118, 3) := by decide +kernel
theorem dX5_rub_40 : decode cX5_rub 40 = .ok (.return_, 1) := by decide +kernel
set_option maxRecDepth 20000 in
theorem ggX5_emptyMagnet_X4_leave : GoodIn wsX5_emptyMagnet wsX4_leave := goodIn_r _ [9, 10, 11, 12, 13, 34, 35, 36, 37, 38, 39] (by decide +kernel) (by decide +kernel)
set_option maxRecDepth 20000 in
theorem gX5_emptyMagnet_X4_leave : GoodIn wsX5_emptyMagnet (wsV RX5 124 RX4 yX4_leave wsX4_leave) := goodIn_app (goodIn_of _ (by decide +kernel)) ggX5_emptyMagnet_X4_leave
set_option maxRecDepth 20000 in
theorem ggX5_emptyMagnet_X4_bring : GoodIn wsX5_emptyMagnet wsX4_bring := goodIn_r _ [17, 11, 12, 18, 10, 34, 35, 36, 37, 38, 39] (by decide +kernel) (by decide +kernel)
set_option maxRecDepth 20000 in
theorem gX5_emptyMagnet_X4_bring : GoodIn wsX5_emptyMagnet (wsV RX5 105 RX4 yX4_bring wsX4_bring) := goodIn_app (goodIn_of _ (by decide +kernel)) ggX5_emptyMagnet_X4_bring
theorem dX5_emptyMagnet_0 : decode cX5_emptyMagnet 0 = .ok (.iconst 0, 1) := by decide +kernel
theorem dX5_emptyMagnet_1 : decode cX5_emptyMagnet 1 = .ok (.istore_n 1, 1) := by decide +kernel
theorem dX5_emptyMagnet_2 : decode cX5_emptyMagnet 2 = .ok (.iload_n 1, 1) := by decide +kernel
theorem dX5_emptyMagnet_3 : decode cX5_emptyMagnet 3 = .ok (.aload_n 0, 1) := by decide +kernel
theorem dX5_emptyMagnet_4 : decode cX5_emptyMagnet 4 = .ok (.getfield 12, 3) := by decide +kernel
theorem dX5_emptyMagnet_7 : decode cX5_emptyMagnet 7 = .ok (.getfield 53, 3) := by decide +kernel
theorem dX5_emptyMagnet_10 : decode cX5_emptyMagnet 10 = .ok (.if_icmp .ge 39, 3) := by decide +kernel
theorem dX5_emptyMagnet_13 : decode cX5_emptyMagnet 13 = .ok (.aload_n 0, 1) := by decide +kernel
theorem dX5_emptyMagnet_14 : decode cX5_emptyMagnet 14 = .ok (.getfield 21, 3) := by decide +kernel
theorem dX5_emptyMagnet_17 : decode cX5_emptyMagnet 17 = .ok (.getfield 121, 3) := by decide +kernel
theorem dX5_emptyMagnet_20 : decode cX5_emptyMagnet 20 = .ok (.iload_n 1, 1) := by decide +kernel
theorem dX5_emptyMagnet_21 : decode cX5_emptyMagnet 21 = .ok (.iaload, 1) := by decide +kernel
theorem dX5_emptyMagnet_22 : decode cX5_emptyMagnet 22 = .ok (.iconst 2, 1) := by decide +kernel
theorem dX5_emptyMagnet_23 : decode cX5_emptyMagnet 23 = .ok (.if_icmp .ne 20, 3) := by decide +kernel
theorem dX5_emptyMagnet_26 : decode cX5_emptyMagnet 26 = .ok (.aload_n 0, 1) := by decide +kernel
theorem dX5_emptyMagnet_27 : decode cX5_emptyMagnet 27 = .ok (.getfield 21, 3) := by decide +kernel
theorem dX5_emptyMagnet_30 : decode cX5_emptyMagnet 30 = .ok (.iload_n 1, 1) := by decide +kernel
theorem dX5_emptyMagnet_31 : decode cX5_emptyMagnet 31 = .ok (.invokevirtual 124, 3) := by decide +kernel
theorem dX5_emptyMagnet_34 : decode cX5_emptyMagnet 34 = .ok (.aload_n 0, 1) := by decide +kernel
theorem dX5_emptyMagnet_35 : decode cX5_emptyMagnet 35 = .ok (.getfield 21, 3) := by decide +kernel
theorem dX5_emptyMagnet_38 : decode cX5_emptyMagnet 38 = .ok (.iload_n 1, 1) := by decide +kernel
theorem dX5_emptyMagnet_39 : decode cX5_emptyMagnet 39 = .ok (.iconst 3, 1) := by decide +kernel
theorem dX5_emptyMagnet_40 : decode cX5_emptyMagnet 40 = .ok (.invokevirtual 105, 3) := by decide +kernel
theorem dX5_emptyMagnet_43 : decode cX5_emptyMagnet 43 = .ok (.iinc 1 1, 3) := by decide +kernel
theorem dX5_emptyMagnet_46 : decode cX5_emptyMagnet 46 = .ok (.goto (-44), 3) := by decide +kernel
theorem dX5_emptyMagnet_49 : decode cX5_emptyMagnet 49 = .ok (.return_, 1) := by decide +kernel
set_option maxRecDepth 20000 in
theorem ggX5_emptyBin_X4_leave : GoodIn wsX5_emptyBin wsX4_leave := goodIn_r _ [9, 10, 11, 12, 13, 39, 40, 41, 42, 43, 44] (by decide +kernel) (by decide +kernel)
set_option maxRecDepth 20000 in
theorem gX5_emptyBin_X4_leave : GoodIn wsX5_emptyBin (wsV RX5 124 RX4 yX4_leave wsX4_leave) := goodIn_app (goodIn_of _ (by decide +kernel)) ggX5_emptyBin_X4_leave
set_option maxRecDepth 20000 in
theorem ggX5_emptyBin_X4_bringToHopper : GoodIn wsX5_emptyBin wsX4_bringToHopper := goodIn_r _ [17, 18, 10, 19, 20, 21, 8, 22, 11, 12, 23, 39, 40, 41, 42, 43, 44] (by decide +kernel) (by decide +kernel)
set_option maxRecDepth 20000 in
theorem gX5_emptyBin_X4_bringToHopper : GoodIn wsX5_emptyBin (wsV RX5 81 RX4 yX4_bringToHopper wsX4_bringToHopper) := goodIn_app (goodIn_of _ (by decide +kernel)) ggX5_emptyBin_X4_bringToHopper
theorem dX5_emptyBin_0 : decode cX5_emptyBin 0 = .ok (.iconst 0, 1) := by decide +kernel
theorem dX5_emptyBin_1 : decode cX5_emptyBin 1 = .ok (.istore_n 2, 1) := by decide +kernel
theorem dX5_emptyBin_2 : decode cX5_emptyBin 2 = .ok (.iload_n 2, 1) := by decide +kernel
theorem dX5_emptyBin_3 : decode cX5_emptyBin 3 = .ok (.aload_n 0, 1) := by decide +kernel
theorem dX5_emptyBin_4 : decode cX5_emptyBin 4 = .ok (.getfield 12, 3) := by decide +kernel
theorem dX5_emptyBin_7 : decode cX5_emptyBin 7 = .ok (.getfield 53, 3) := by decide +kernel
theorem dX5_emptyBin_10 : decode cX5_emptyBin 10 = .ok (.if_icmp .ge 38, 3) := by decide +kernel
theorem dX5_emptyBin_13 : decode cX5_emptyBin 13 = .ok (.aload_n 0, 1) := by decide +kernel
theorem dX5_emptyBin_14 : decode cX5_emptyBin 14 = .ok (.getfield 21, 3) := by decide +kernel
theorem dX5_emptyBin_17 : decode cX5_emptyBin 17 = .ok (.getfield 127, 3) := by decide +kernel
theorem dX5_emptyBin_20 : decode cX5_emptyBin 20 = .ok (.iload_n 2, 1) := by decide +kernel
theorem dX5_emptyBin_21 : decode cX5_emptyBin 21 = .ok (.iaload, 1) := by decide +kernel
theorem dX5_emptyBin_22 : decode cX5_emptyBin 22 = .ok (.iload_n 1, 1) := by decide +kernel
theorem dX5_emptyBin_23 : decode cX5_emptyBin 23 = .ok (.if_icmp .ne 19, 3) := by decide +kernel
theorem dX5_emptyBin_26 : decode cX5_emptyBin 26 = .ok (.aload_n 0, 1) := by decide +kernel
theorem dX5_emptyBin_27 : decode cX5_emptyBin 27 = .ok (.getfield 21, 3) := by decide +kernel
theorem dX5_emptyBin_30 : decode cX5_emptyBin 30 = .ok (.iload_n 2, 1) := by decide +kernel
theorem dX5_emptyBin_31 : decode cX5_emptyBin 31 = .ok (.invokevirtual 124, 3) := by decide +kernel
theorem dX5_emptyBin_34 : decode cX5_emptyBin 34 = .ok (.aload_n 0, 1) := by decide +kernel
theorem dX5_emptyBin_35 : decode cX5_emptyBin 35 = .ok (.getfield 21, 3) := by decide +kernel
theorem dX5_emptyBin_38 : decode cX5_emptyBin 38 = .ok (.iload_n 2, 1) := by decide +kernel
theorem dX5_emptyBin_39 : decode cX5_emptyBin 39 = .ok (.invokevirtual 81, 3) := by decide +kernel
theorem dX5_emptyBin_42 : decode cX5_emptyBin 42 = .ok (.iinc 2 1, 3) := by decide +kernel
theorem dX5_emptyBin_45 : decode cX5_emptyBin 45 = .ok (.goto (-43), 3) := by decide +kernel
theorem dX5_emptyBin_48 : decode cX5_emptyBin 48 = .ok (.return_, 1) := by decide +kernel
set_option maxRecDepth 20000 in
theorem ggX5_makeShirt_X4_leave : GoodIn wsX5_makeShirt wsX4_leave := goodIn_r _ [16, 17, 18, 19, 20, 48, 49, 50, 51, 52, 53] (by decide +kernel) (by decide +kernel)
set_option maxRecDepth 20000 in
theorem gX5_makeShirt_X4_leave : GoodIn wsX5_makeShirt (wsV RX5 124 RX4 yX4_leave wsX4_leave) := goodIn_app (goodIn_of _ (by decide +kernel)) ggX5_makeShirt_X4_leave
set_option maxRecDepth 20000 in
theorem ggX5_makeShirt_X4_bringToShirt : GoodIn wsX5_makeShirt wsX4_bringToShirt := goodIn_r _ [24, 25, 26, 27, 28, 15, 29, 18, 19, 17, 48, 49, 50, 51, 52, 53] (by decide +kernel) (by decide +kernel)
set_option maxRecDepth 20000 in
theorem gX5_makeShirt_X4_bringToShirt : GoodIn wsX5_makeShirt (wsV RX5 135 RX4 yX4_bringToShirt wsX4_bringToShirt) := goodIn_app (goodIn_of _ (by decide +kernel)) ggX5_makeShirt_X4_bringToShirt
theorem dX5_makeShirt_0 : decode cX5_makeShirt 0 = .ok (.iconst 0, 1) := by decide +kernel
theorem dX5_makeShirt_1 : decode cX5_makeShirt 1 = .ok (.istore 4, 2) := by decide +kernel
theorem dX5_makeShirt_3 : decode cX5_makeShirt 3 = .ok (.iconst 0, 1) := by decide +kernel
theorem dX5_makeShirt_4 : decode cX5_makeShirt 4 = .ok (.istore 5, 2) := by decide +kernel
theorem dX5_makeShirt_6 : decode cX5_makeShirt 6 = .ok (.iload 5, 2) := by decide +kernel
theorem dX5_makeShirt_8 : decode cX5_makeShirt 8 = .ok (.iload_n 3, 1) := by decide +kernel
theorem dX5_makeShirt_9 : decode cX5_makeShirt 9 = .ok (.if_icmp .ge 68, 3) := by decide +kernel
theorem dX5_makeShirt_12 : decode cX5_makeShirt 12 = .ok (.aload_n 1, 1) := by decide +kernel
theorem dX5_makeShirt_13 : decode cX5_makeShirt 13 = .ok (.getfield 130, 3) := by decide +kernel
theorem dX5_makeShirt_16 : decode cX5_makeShirt 16 = .ok (.iload_n 2, 1) := by decide +kernel
theorem dX5_makeShirt_17 : decode cX5_makeShirt 17 = .ok (.iload 5, 2) := by decide +kernel
theorem dX5_makeShirt_19 : decode cX5_makeShirt 19 = .ok (.iadd, 1) := by decide +kernel
theorem dX5_makeShirt_20 : decode cX5_makeShirt 20 = .ok (.iaload, 1) := by decide +kernel
theorem dX5_makeShirt_21 : decode cX5_makeShirt 21 = .ok (.istore 6, 2) := by decide +kernel
theorem dX5_makeShirt_23 : decode cX5_makeShirt 23 = .ok (.iload 4, 2) := by decide +kernel
theorem dX5_makeShirt_25 : decode cX5_makeShirt 25 = .ok (.aload_n 0, 1) := by decide +kernel
theorem dX5_makeShirt_26 : decode cX5_makeShirt 26 = .ok (.getfield 12, 3) := by decide +kernel
theorem dX5_makeShirt_29 : decode cX5_makeShirt 29 = .ok (.getfield 74, 3) := by decide +kernel
theorem dX5_makeShirt_32 : decode cX5_makeShirt 32 = .ok (.iload 6, 2) := by decide +kernel
theorem dX5_makeShirt_34 : decode cX5_makeShirt 34 = .ok (.iaload, 1) := by decide +kernel
theorem dX5_makeShirt_35 : decode cX5_makeShirt 35 = .ok (.aload_n 0, 1) := by decide +kernel
theorem dX5_makeShirt_36 : decode cX5_makeShirt 36 = .ok (.getfield 12, 3) := by decide +kernel
theorem dX5_makeShirt_39 : decode cX5_makeShirt 39 = .ok (.getfield 70, 3) := by decide +kernel
theorem dX5_makeShirt_42 : decode cX5_makeShirt 42 = .ok (.iload 6, 2) := by decide +kernel
theorem dX5_makeShirt_44 : decode cX5_makeShirt 44 = .ok (.iaload, 1) := by decide +kernel
theorem dX5_makeShirt_45 : decode cX5_makeShirt 45 = .ok (.isub, 1) := by decide +kernel
theorem dX5_makeShirt_46 : decode cX5_makeShirt 46 = .ok (.iadd, 1) := by decide +kernel
theorem dX5_makeShirt_47 : decode cX5_makeShirt 47 = .ok (.istore 4, 2) := by decide +kernel
theorem dX5_makeShirt_49 : decode cX5_makeShirt 49 = .ok (.aload_n 0, 1) := by decide +kernel
theorem dX5_makeShirt_50 : decode cX5_makeShirt 50 = .ok (.getfield 21, 3) := by decide +kernel
theorem dX5_makeShirt_53 : decode cX5_makeShirt 53 = .ok (.iload 6, 2) := by decide +kernel
theorem dX5_makeShirt_55 : decode cX5_makeShirt 55 = .ok (.invokevirtual 124, 3) := by decide +kernel
theorem dX5_makeShirt_58 : decode cX5_makeShirt 58 = .ok (.aload_n 0, 1) := by decide +kernel
theorem dX5_makeShirt_59 : decode cX5_makeShirt 59 = .ok (.getfield 21, 3) := by decide +kernel
theorem dX5_makeShirt_62 : decode cX5_makeShirt 62 = .ok (.iload 6, 2) := by decide +kernel
theorem dX5_makeShirt_64 : decode cX5_makeShirt 64 = .ok (.aload_n 0, 1) := by decide +kernel
theorem dX5_makeShirt_65 : decode cX5_makeShirt 65 = .ok (.getfield 37, 3) := by decide +kernel
theorem dX5_makeShirt_68 : decode cX5_makeShirt 68 = .ok (.invokevirtual 135, 3) := by decide +kernel
theorem dX5_makeShirt_71 : decode cX5_makeShirt 71 = .ok (.iinc 5 1, 3) := by decide +kernel
theorem dX5_makeShirt_74 : decode cX5_makeShirt 74 = .ok (.goto (-68), 3) := by decide +kernel
theorem dX5_makeShirt_77 : decode cX5_makeShirt 77 = .ok (.iload 4, 2) := by decide +kernel
theorem dX5_makeShirt_79 : decode cX5_makeShirt 79 = .ok (.iconst 0, 1) := by decide +kernel
theorem dX5_makeShirt_80 : decode cX5_makeShirt 80 = .ok (.invokestatic 138, 3) := by decide +kernel
theorem dX5_makeShirt_83 : decode cX5_makeShirt 83 = .ok (.istore 4, 2) := by decide +kernel
theorem dX5_makeShirt_85 : decode cX5_makeShirt 85 = .ok (.aload_n 0, 1) := by decide +kernel
theorem dX5_makeShirt_86 : decode cX5_makeShirt 86 = .ok (.dup, 1) := by decide +kernel
theorem dX5_makeShirt_87 : decode cX5_makeShirt 87 = .ok (.getfield 37, 3) := by decide +kernel
theorem dX5_makeShirt_90 : decode cX5_makeShirt 90 = .ok (.iconst 1, 1) := by decide +kernel
theorem dX5_makeShirt_91 : decode cX5_makeShirt 91 = .ok (.iadd, 1) := by decide +kernel
theorem dX5_makeShirt_92 : decode cX5_makeShirt 92 = .ok (.putfield 37, 3) := by decide +kernel
theorem dX5_makeShirt_95 : decode cX5_makeShirt 95 = .ok (.aload_n 0, 1) := by decide +kernel
theorem dX5_makeShirt_96 : decode cX5_makeShirt 96 = .ok (.dup, 1) := by decide +kernel
theorem dX5_makeShirt_97 : decode cX5_makeShirt 97 = .ok (.getfield 41, 3) := by decide +kernel
theorem dX5_makeShirt_100 : decode cX5_makeShirt 100 = .ok (.iload 4, 2) := by decide +kernel
theorem dX5_makeShirt_102 : decode cX5_makeShirt 102 = .ok (.iadd, 1) := by decide +kernel
theorem dX5_makeShirt_103 : decode cX5_makeShirt 103 = .ok (.putfield 41, 3) := by decide +kernel
theorem dX5_makeShirt_106 : decode cX5_makeShirt 106 = .ok (.iload 4, 2) := by decide +kernel
theorem dX5_makeShirt_108 : decode cX5_makeShirt 108 = .ok (.ireturn, 1) := by decide +kernel
theorem dX5_meshesAllow_0 : decode cX5_meshesAllow 0 = .ok (.iload_n 1, 1) := by decide +kernel
theorem dX5_meshesAllow_1 : decode cX5_meshesAllow 1 = .ok (.iconst 3, 1) := by decide +kernel
theorem dX5_meshesAllow_2 : decode cX5_meshesAllow 2 = .ok (.if_icmp .lt 5, 3) := by decide +kernel
theorem dX5_meshesAllow_5 : decode cX5_meshesAllow 5 = .ok (.iconst 1, 1) := by decide +kernel
theorem dX5_meshesAllow_6 : decode cX5_meshesAllow 6 = .ok (.ireturn, 1) := by decide +kernel
theorem dX5_meshesAllow_7 : decode cX5_meshesAllow 7 = .ok (.iload_n 1, 1) := by decide +kernel
theorem dX5_meshesAllow_8 : decode cX5_meshesAllow 8 = .ok (.ifCond .le 17, 3) := by decide +kernel
theorem dX5_meshesAllow_11 : decode cX5_meshesAllow 11 = .ok (.aload_n 0, 1) := by decide +kernel
theorem dX5_meshesAllow_12 : decode cX5_meshesAllow 12 = .ok (.getfield 34, 3) := by decide +kernel
theorem dX5_meshesAllow_15 : decode cX5_meshesAllow 15 = .ok (.iload_n 1, 1) := by decide +kernel
theorem dX5_meshesAllow_16 : decode cX5_meshesAllow 16 = .ok (.iconst 1, 1) := by decide +kernel
theorem dX5_meshesAllow_17 : decode cX5_meshesAllow 17 = .ok (.isub, 1) := by decide +kernel
theorem dX5_meshesAllow_18 : decode cX5_meshesAllow 18 = .ok (.iaload, 1) := by decide +kernel
theorem dX5_meshesAllow_19 : decode cX5_meshesAllow 19 = .ok (.iload_n 2, 1) := by decide +kernel
theorem dX5_meshesAllow_20 : decode cX5_meshesAllow 20 = .ok (.if_icmp .le 5, 3) := by decide +kernel
theorem dX5_meshesAllow_23 : decode cX5_meshesAllow 23 = .ok (.iconst 0, 1) := by decide +kernel
theorem dX5_meshesAllow_24 : decode cX5_meshesAllow 24 = .ok (.ireturn, 1) := by decide +kernel
theorem dX5_meshesAllow_25 : decode cX5_meshesAllow 25 = .ok (.iload_n 1, 1) := by decide +kernel
theorem dX5_meshesAllow_26 : decode cX5_meshesAllow 26 = .ok (.iconst 2, 1) := by decide +kernel
theorem dX5_meshesAllow_27 : decode cX5_meshesAllow 27 = .ok (.if_icmp .eq 15, 3) := by decide +kernel
theorem dX5_meshesAllow_30 : decode cX5_meshesAllow 30 = .ok (.iload_n 2, 1) := by decide +kernel
theorem dX5_meshesAllow_31 : decode cX5_meshesAllow 31 = .ok (.aload_n 0, 1) := by decide +kernel
theorem dX5_meshesAllow_32 : decode cX5_meshesAllow 32 = .ok (.getfield 34, 3) := by decide +kernel
theorem dX5_meshesAllow_35 : decode cX5_meshesAllow 35 = .ok (.iload_n 1, 1) := by decide +kernel
theorem dX5_meshesAllow_36 : decode cX5_meshesAllow 36 = .ok (.iconst 1, 1) := by decide +kernel
theorem dX5_meshesAllow_37 : decode cX5_meshesAllow 37 = .ok (.iadd, 1) := by decide +kernel
theorem dX5_meshesAllow_38 : decode cX5_meshesAllow 38 = .ok (.iaload, 1) := by decide +kernel
theorem dX5_meshesAllow_39 : decode cX5_meshesAllow 39 = .ok (.if_icmp .gt 7, 3) := by decide +kernel
theorem dX5_meshesAllow_42 : decode cX5_meshesAllow 42 = .ok (.iconst 1, 1) := by decide +kernel
theorem dX5_meshesAllow_43 : decode cX5_meshesAllow 43 = .ok (.goto 4, 3) := by decide +kernel
theorem dX5_meshesAllow_46 : decode cX5_meshesAllow 46 = .ok (.iconst 0, 1) := by decide +kernel
theorem dX5_meshesAllow_47 : decode cX5_meshesAllow 47 = .ok (.ireturn, 1) := by decide +kernel
set_option maxRecDepth 20000 in
theorem ggX5_copyFrom_X1_copyFrom : GoodIn wsX5_copyFrom wsX1_copyFrom := goodIn_r _ [18, 19, 20, 21, 6, 7, 8, 22, 23, 24, 25, 26, 47, 48, 49, 50, 51, 52, 53] (by decide +kernel) (by decide +kernel)
set_option maxRecDepth 20000 in
theorem gX5_copyFrom_X1_copyFrom : GoodIn wsX5_copyFrom (wsV RX5 144 RX1 yX1_copyFrom wsX1_copyFrom) := goodIn_app (goodIn_of _ (by decide +kernel)) ggX5_copyFrom_X1_copyFrom
set_option maxRecDepth 20000 in
theorem ggX5_copyFrom_X4_copyFrom : GoodIn wsX5_copyFrom wsX4_copyFrom := goodIn_r _ [31, 32, 33, 6, 7, 8, 34, 35, 36, 37, 38, 54, 55, 56, 57, 58, 59] (by decide +kernel) (by decide +kernel)
set_option maxRecDepth 20000 in
theorem gX5_copyFrom_X4_copyFrom : GoodIn wsX5_copyFrom (wsV RX5 148 RX4 yX4_copyFrom wsX4_copyFrom) := goodIn_app (goodIn_of _ (by decide +kernel)) ggX5_copyFrom_X4_copyFrom
theorem dX5_copyFrom_0 : decode cX5_copyFrom 0 = .ok (.aload_n 0, 1) := by decide +kernel
theorem dX5_copyFrom_1 : decode cX5_copyFrom 1 = .ok (.getfield 12, 3) := by decide +kernel
theorem dX5_copyFrom_4 : decode cX5_copyFrom 4 = .ok (.aload_n 1, 1) := by decide +kernel
theorem dX5_copyFrom_5 : decode cX5_copyFrom 5 = .ok (.getfield 12, 3) := by decide +kernel
theorem dX5_copyFrom_8 : decode cX5_copyFrom 8 = .ok (.invokevirtual 144, 3) := by decide +kernel
theorem dX5_copyFrom_11 : decode cX5_copyFrom 11 = .ok (.aload_n 0, 1) := by decide +kernel
theorem dX5_copyFrom_12 : decode cX5_copyFrom 12 = .ok (.getfield 21, 3) := by decide +kernel
theorem dX5_copyFrom_15 : decode cX5_copyFrom 15 = .ok (.aload_n 1, 1) := by decide +kernel
theorem dX5_copyFrom_16 : decode cX5_copyFrom 16 = .ok (.getfield 21, 3) := by decide +kernel
theorem dX5_copyFrom_19 : decode cX5_copyFrom 19 = .ok (.aload_n 1, 1) := by decide +kernel
theorem dX5_copyFrom_20 : decode cX5_copyFrom 20 = .ok (.getfield 12, 3) := by decide +kernel
theorem dX5_copyFrom_23 : decode cX5_copyFrom 23 = .ok (.getfield 53, 3) := by decide +kernel
theorem dX5_copyFrom_26 : decode cX5_copyFrom 26 = .ok (.invokevirtual 148, 3) := by decide +kernel
theorem dX5_copyFrom_29 : decode cX5_copyFrom 29 = .ok (.aload_n 1, 1) := by decide +kernel
theorem dX5_copyFrom_30 : decode cX5_copyFrom 30 = .ok (.getfield 34, 3) := by decide +kernel
theorem dX5_copyFrom_33 : decode cX5_copyFrom 33 = .ok (.iconst 0, 1) := by decide +kernel
theorem dX5_copyFrom_34 : decode cX5_copyFrom 34 = .ok (.aload_n 0, 1) := by decide +kernel
theorem dX5_copyFrom_35 : decode cX5_copyFrom 35 = .ok (.getfield 34, 3) := by decide +kernel
theorem dX5_copyFrom_38 : decode cX5_copyFrom 38 = .ok (.iconst 0, 1) := by decide +kernel
theorem dX5_copyFrom_39 : decode cX5_copyFrom 39 = .ok (.bipush 8, 2) := by decide +kernel
theorem dX5_copyFrom_41 : decode cX5_copyFrom 41 = .ok (.invokestatic 151, 3) := by decide +kernel
theorem dX5_copyFrom_44 : decode cX5_copyFrom 44 = .ok (.aload_n 0, 1) := by decide +kernel
theorem dX5_copyFrom_45 : decode cX5_copyFrom 45 = .ok (.aload_n 1, 1) := by decide +kernel
theorem dX5_copyFrom_46 : decode cX5_copyFrom 46 = .ok (.getfield 37, 3) := by decide +kernel
theorem dX5_copyFrom_49 : decode cX5_copyFrom 49 = .ok (.putfield 37, 3) := by decide +kernel
theorem dX5_copyFrom_52 : decode cX5_copyFrom 52 = .ok (.aload_n 0, 1) := by decide +kernel
theorem dX5_copyFrom_53 : decode cX5_copyFrom 53 = .ok (.aload_n 1, 1) := by decide +kernel
theorem dX5_copyFrom_54 : decode cX5_copyFrom 54 = .ok (.getfield 41, 3) := by decide +kernel
theorem dX5_copyFrom_57 : decode cX5_copyFrom 57 = .ok (.putfield 41, 3) := by decide +kernel
theorem dX5_copyFrom_60 : decode cX5_copyFrom 60 = .ok (.aload_n 0, 1) := by decide +kernel
theorem dX5_copyFrom_61 : decode cX5_copyFrom 61 = .ok (.aload_n 1, 1) := by decide +kernel
theorem dX5_copyFrom_62 : decode cX5_copyFrom 62 = .ok (.getfield 44, 3) := by decide +kernel
theorem dX5_copyFrom_65 : decode cX5_copyFrom 65 = .ok (.putfield 44, 3) := by decide +kernel
theorem dX5_copyFrom_68 : decode cX5_copyFrom 68 = .ok (.aload_n 0, 1) := by decide +kernel
theorem dX5_copyFrom_69 : decode cX5_copyFrom 69 = .ok (.aload_n 1, 1) := by decide +kernel
theorem dX5_copyFrom_70 : decode cX5_copyFrom 70 = .ok (.getfield 47, 3) := by decide +kernel
theorem dX5_copyFrom_73 : decode cX5_copyFrom 73 = .ok (.putfield 47, 3) := by decide +kernel
theorem dX5_copyFrom_76 : decode cX5_copyFrom 76 = .ok (.aload_n 0, 1) := by decide +kernel
theorem dX5_copyFrom_77 : decode cX5_copyFrom 77 = .ok (.aload_n 1, 1) := by decide +kernel
theorem dX5_copyFrom_78 : decode cX5_copyFrom 78 = .ok (.getfield 50, 3) := by decide +kernel
theorem dX5_copyFrom_81 : decode cX5_copyFrom 81 = .ok (.putfield 50, 3) := by decide +kernel
theorem dX5_copyFrom_84 : decode cX5_copyFrom 84 = .ok (.return_, 1) := by decide +kernel
theorem dX6_init_0 : decode cX6_init 0 = .ok (.aload_n 0, 1) := by decide +kernel
theorem dX6_init_1 : decode cX6_init 1 = .ok (.invokespecial 3, 3) := by decide +kernel
theorem dX6_init_4 : decode cX6_init 4 = .ok (.aload_n 0, 1) := by decide +kernel
theorem dX6_init_5 : decode cX6_init 5 = .ok (.bipush 60, 2) := by decide +kernel
theorem dX6_init_7 : decode cX6_init 7 = .ok (.newarray .char, 2) := by decide +kernel
theorem dX6_init_9 : decode cX6_init 9 = .ok (.putfield 9, 3) := by decide +kernel
theorem dX6_init_12 : decode cX6_init 12 = .ok (.aload_n 0, 1) := by decide +kernel
theorem dX6_init_13 : decode cX6_init 13 = .ok (.iconst 0, 1) := by decide +kernel
theorem dX6_init_14 : decode cX6_init 14 = .ok (.putfield 15, 3) := by decide +kernel
theorem dX6_init_17 : decode cX6_init 17 = .ok (.return_, 1) := by decide +kernel
theorem dX6_append_0 : decode cX6_append 0 = .ok (.aload_n 0, 1) := by decide +kernel
theorem dX6_append_1 : decode cX6_append 1 = .ok (.getfield 15, 3) := by decide +kernel
theorem dX6_append_4 : decode cX6_append 4 = .ok (.bipush 60, 2) := by decide +kernel
theorem dX6_append_6 : decode cX6_append 6 = .ok (.if_icmp .lt 5, 3) := by decide +kernel
theorem dX6_append_9 : decode cX6_append 9 = .ok (.iconst 0, 1) := by decide +kernel
theorem dX6_append_10 : decode cX6_append 10 = .ok (.ireturn, 1) := by decide +kernel
theorem dX6_append_11 : decode cX6_append 11 = .ok (.aload_n 0, 1) := by decide +kernel
theorem dX6_append_12 : decode cX6_append 12 = .ok (.getfield 9, 3) := by decide +kernel
theorem dX6_append_15 : decode cX6_append 15 = .ok (.aload_n 0, 1) := by decide +kernel
theorem dX6_append_16 : decode cX6_append 16 = .ok (.getfield 15, 3) := by decide +kernel
theorem dX6_append_19 : decode cX6_append 19 = .ok (.iload_n 1, 1) := by decide +kernel
theorem dX6_append_20 : decode cX6_append 20 = .ok (.castore, 1) := by decide +kernel
theorem dX6_append_21 : decode cX6_append 21 = .ok (.aload_n 0, 1) := by decide +kernel
theorem dX6_append_22 : decode cX6_append 22 = .ok (.dup, 1) := by decide +kernel
theorem dX6_append_23 : decode cX6_append 23 = .ok (.getfield 15, 3) := by decide +kernel
theorem dX6_append_26 : decode cX6_append 26 = .ok (.iconst 1, 1) := by decide +kernel
theorem dX6_append_27 : decode cX6_append 27 = .ok (.iadd, 1) := by decide +kernel
theorem dX6_append_28 : decode cX6_append 28 = .ok (.putfield 15, 3) := by decide +kernel
theorem dX6_append_31 : decode cX6_append 31 = .ok (.iconst 1, 1) := by decide +kernel
theorem dX6_append_32 : decode cX6_append 32 = .ok (.ireturn, 1) := by decide +kernel
end
section
/-! Words of my own: ints of the machine as whole numbers, guards of pure functions, one row an instruction over whole numbers. -/
def zi (x : Int) : Int32 := Int32.ofInt x
def rg (x : Int) : Bool := decide (-2147483648 ≤ x) && decide (x < 2147483648)
def inb (i : Int) (n : Nat) : Bool := decide (0 ≤ i) && decide (i < (n : Int))
def up (f : Nat → Int) (k : Nat) (v : Int) : Nat → Int := fun j => if j = k then v else f j
def gd {α : Type} (b : Bool) (k : Option α) : Option α := bif b then k else none
def bd {α β : Type} (o : Option α) (k : α → Option β) : Option β := match o with
  | some a => k a
  | none => none
def nm {α β : Type} (a : α) (k : α → Option β) : Option β := k a
theorem gd_t {α : Type} {b : Bool} {k : Option α} {r : α} (h : gd b k = some r) : b = true ∧ k = some r := by
  cases b
  · simp [gd] at h
  · exact ⟨rfl, h⟩
theorem bd_t {α β : Type} {o : Option α} {k : α → Option β} {r : β} (h : bd o k = some r) : ∃ a, o = some a ∧ k a = some r := by
  cases o with
  | none => simp [bd] at h
  | some a => exact ⟨a, rfl, h⟩
theorem nm_t {α β : Type} {a : α} {k : α → Option β} {r : β} (h : nm a k = some r) : ∃ y, y = a ∧ k y = some r := ⟨a, rfl, h⟩
theorem it_t {α : Type} {c : Prop} {d : Decidable c} {a b r : α} (hc : c) (h : @ite α c d a b = r) : a = r := by rw [if_pos hc] at h; exact h
theorem it_f {α : Type} {c : Prop} {d : Decidable c} {a b r : α} (hc : ¬ c) (h : @ite α c d a b = r) : b = r := by rw [if_neg hc] at h; exact h
theorem rg_i {x : Int} (h : rg x = true) : -2147483648 ≤ x ∧ x < 2147483648 := by
  simp only [rg, Bool.and_eq_true, decide_eq_true_eq] at h
  exact h
theorem rg_of {x : Int} (h : -2147483648 ≤ x ∧ x < 2147483648) : rg x = true := by
  simp only [rg, Bool.and_eq_true, decide_eq_true_eq]
  exact h
theorem inb_i {i : Int} {n : Nat} (h : inb i n = true) : 0 ≤ i ∧ i < (n : Int) := by
  simp only [inb, Bool.and_eq_true, decide_eq_true_eq] at h
  exact h
theorem inb_of {i : Int} {n : Nat} (h : 0 ≤ i ∧ i < (n : Int)) : inb i n = true := by
  simp only [inb, Bool.and_eq_true, decide_eq_true_eq]
  exact h
theorem zi_toInt {x : Int} (h : rg x = true) : (zi x).toInt = x := by
  have := rg_i h
  exact Int32.toInt_ofInt_of_le (by omega) (by omega)
theorem zi_add (x y : Int) : zi (x + y) = zi x + zi y := Int32.ofInt_add x y
theorem zi_sub (x y : Int) : zi (x - y) = zi x - zi y := Int32.ofInt_sub x y
theorem zi_mul (x y : Int) : zi (x * y) = zi x * zi y := Int32.ofInt_mul x y
theorem zi_lt {x y : Int} (gx : rg x = true) (gy : rg y = true) : zi x < zi y ↔ x < y := by
  rw [Int32.lt_iff_toInt_lt, zi_toInt gx, zi_toInt gy]
theorem zi_le {x y : Int} (gx : rg x = true) (gy : rg y = true) : zi x ≤ zi y ↔ x ≤ y := by
  rw [Int32.le_iff_toInt_le, zi_toInt gx, zi_toInt gy]
theorem zi_eq {x y : Int} (gx : rg x = true) (gy : rg y = true) : zi x = zi y ↔ x = y := by
  rw [← Int32.toInt_inj, zi_toInt gx, zi_toInt gy]
theorem zi_0 : zi 0 = 0 := by decide +kernel
theorem rg_0 : rg 0 = true := by decide +kernel
theorem inb_rg {i : Int} {n : Nat} (h : inb i n = true) (hn : n < 2147483648) : rg i = true := by
  have := inb_i h
  exact rg_of (by omega)
theorem inb_vp {i : Int} {n : Nat} (h : inb i n = true) (hn : n < 2147483648) : vp_in (zi i) n := by
  have h1 := inb_i h
  exact vp_in_iff.mpr (by rw [zi_toInt (inb_rg h hn)]; exact h1)
theorem inb_cl {i : Int} {n : Nat} (h : inb i n = true) (hn : n < 2147483648) : (zi i).toNatClampNeg = i.toNat := by
  show (zi i).toInt.toNat = i.toNat
  rw [zi_toInt (inb_rg h hn)]
theorem up_zi (f : Nat → Int) (k : Nat) (v : Int) : upd (fun j => zi (f j)) k (zi v) = fun j => zi (up f k v j) := by
  funext j
  by_cases h : j = k
  · simp [upd, up, h]
  · simp [upd, up, h]
theorem cpy_zi (f g : Nat → Int) (sp dp n : Nat) : va_cpy (fun j => zi (f j)) (fun j => zi (g j)) sp dp n = fun k => zi (va_cpy f g sp dp n k) := by
  funext k
  by_cases h : dp ≤ k ∧ k < dp + n
  · simp [va_cpy, h]
  · simp only [va_cpy, if_neg h]
theorem zi_01 {r : Int} (h : inb r 2 = true) : narrow .boolean (.int (zi r)) = .int (zi r) := by
  have h1 := inb_i h
  have h2 : r = 0 ∨ r = 1 := by omega
  rcases h2 with rfl | rfl
  · rfl
  · rfl
section IV
variable {p : Program} {l : Launch} {e : Env} {R : Room} {s : State} {m : MethodId} {args : Array Value} {below : List Frame} {meth : Method} {c : Code} {H : Heap} {locs : List Loc} {cells slots : Nat} {Q : State → Prop}
variable {cc : ByteArray} {pc : Nat} {ls : Array Slot} {rest : List Value}
theorem iv_iconst (hx : p.tables.exec = Jvm.exec) (hb : c.code = cc) {n : Int} (hdg : decode cc pc = .ok (.iconst n, 1)) (k : W p l e R s m args below meth c H locs cells slots Q (F0 m (pc + 1) ls (.int (zi n) :: rest))) : W p l e R s m args below meth c H locs cells slots Q (F0 m pc ls rest) := lv_iconst hx hb hdg rfl k
theorem iv_bipush (hx : p.tables.exec = Jvm.exec) (hb : c.code = cc) {n : Int} (hdg : decode cc pc = .ok (.bipush n, 2)) (hv : (Int8.ofInt n).toInt32 = zi n) (k : W p l e R s m args below meth c H locs cells slots Q (F0 m (pc + 2) ls (.int (zi n) :: rest))) : W p l e R s m args below meth c H locs cells slots Q (F0 m pc ls rest) := lv_bipush hx hb hdg hv k
theorem iv_sipush (hx : p.tables.exec = Jvm.exec) (hb : c.code = cc) {n : Int} (hdg : decode cc pc = .ok (.sipush n, 3)) (hv : (Int16.ofInt n).toInt32 = zi n) (k : W p l e R s m args below meth c H locs cells slots Q (F0 m (pc + 3) ls (.int (zi n) :: rest))) : W p l e R s m args below meth c H locs cells slots Q (F0 m pc ls rest) := lv_sipush hx hb hdg hv k
theorem iv_iadd (hx : p.tables.exec = Jvm.exec) (hb : c.code = cc) {x y : Int} (hdg : decode cc pc = .ok (.iadd, 1)) (k : W p l e R s m args below meth c H locs cells slots Q (F0 m (pc + 1) ls (.int (zi (x + y)) :: rest))) : W p l e R s m args below meth c H locs cells slots Q (F0 m pc ls (.int (zi y) :: .int (zi x) :: rest)) := lv_iadd hx hb hdg (by rw [zi_add] at k; exact k)
theorem iv_isub (hx : p.tables.exec = Jvm.exec) (hb : c.code = cc) {x y : Int} (hdg : decode cc pc = .ok (.isub, 1)) (k : W p l e R s m args below meth c H locs cells slots Q (F0 m (pc + 1) ls (.int (zi (x - y)) :: rest))) : W p l e R s m args below meth c H locs cells slots Q (F0 m pc ls (.int (zi y) :: .int (zi x) :: rest)) := lv_isub hx hb hdg (by rw [zi_sub] at k; exact k)
theorem iv_imul (hx : p.tables.exec = Jvm.exec) (hb : c.code = cc) {x y : Int} (hdg : decode cc pc = .ok (.imul, 1)) (k : W p l e R s m args below meth c H locs cells slots Q (F0 m (pc + 1) ls (.int (zi (x * y)) :: rest))) : W p l e R s m args below meth c H locs cells slots Q (F0 m pc ls (.int (zi y) :: .int (zi x) :: rest)) := lv_imul hx hb hdg (by rw [zi_mul] at k; exact k)
theorem iv_nm {x y : Int} (h : y = x) (k : W p l e R s m args below meth c H locs cells slots Q (F0 m pc ls (.int (zi y) :: rest))) : W p l e R s m args below meth c H locs cells slots Q (F0 m pc ls (.int (zi x) :: rest)) := by rw [← h]; exact k
theorem iv_eq (hx : p.tables.exec = Jvm.exec) (hb : c.code = cc) {x : Int} {off : Int} {tgt : Nat} (gx : rg x = true) (hdg : decode cc pc = .ok (.ifCond .eq off, 3)) (ht : (pc : Int) + off = (tgt : Int)) (kt : x = 0 → W p l e R s m args below meth c H locs cells slots Q (F0 m tgt ls rest)) (kf : ¬ x = 0 → W p l e R s m args below meth c H locs cells slots Q (F0 m (pc + 3) ls rest)) : W p l e R s m args below meth c H locs cells slots Q (F0 m pc ls (.int (zi x) :: rest)) :=
  lv_if_eq hx hb hdg ht (fun h => kt ((zi_eq gx rg_0).mp (by rw [zi_0]; exact h))) (fun h => kf (fun z => h (by rw [← zi_0]; exact (zi_eq gx rg_0).mpr z)))
theorem iv_ne (hx : p.tables.exec = Jvm.exec) (hb : c.code = cc) {x : Int} {off : Int} {tgt : Nat} (gx : rg x = true) (hdg : decode cc pc = .ok (.ifCond .ne off, 3)) (ht : (pc : Int) + off = (tgt : Int)) (kt : ¬ x = 0 → W p l e R s m args below meth c H locs cells slots Q (F0 m tgt ls rest)) (kf : x = 0 → W p l e R s m args below meth c H locs cells slots Q (F0 m (pc + 3) ls rest)) : W p l e R s m args below meth c H locs cells slots Q (F0 m pc ls (.int (zi x) :: rest)) :=
  lv_if_ne hx hb hdg ht (fun h => kt (fun z => h (by rw [← zi_0]; exact (zi_eq gx rg_0).mpr z))) (fun h => kf ((zi_eq gx rg_0).mp (by rw [zi_0]; exact h)))
theorem iv_lt (hx : p.tables.exec = Jvm.exec) (hb : c.code = cc) {x : Int} {off : Int} {tgt : Nat} (gx : rg x = true) (hdg : decode cc pc = .ok (.ifCond .lt off, 3)) (ht : (pc : Int) + off = (tgt : Int)) (kt : x < 0 → W p l e R s m args below meth c H locs cells slots Q (F0 m tgt ls rest)) (kf : ¬ x < 0 → W p l e R s m args below meth c H locs cells slots Q (F0 m (pc + 3) ls rest)) : W p l e R s m args below meth c H locs cells slots Q (F0 m pc ls (.int (zi x) :: rest)) :=
  lv_if_lt hx hb hdg ht (fun h => kt ((zi_lt gx rg_0).mp (by rw [zi_0]; exact h))) (fun h => kf (fun z => h (by rw [← zi_0]; exact (zi_lt gx rg_0).mpr z)))
theorem iv_ge (hx : p.tables.exec = Jvm.exec) (hb : c.code = cc) {x : Int} {off : Int} {tgt : Nat} (gx : rg x = true) (hdg : decode cc pc = .ok (.ifCond .ge off, 3)) (ht : (pc : Int) + off = (tgt : Int)) (kt : 0 ≤ x → W p l e R s m args below meth c H locs cells slots Q (F0 m tgt ls rest)) (kf : ¬ 0 ≤ x → W p l e R s m args below meth c H locs cells slots Q (F0 m (pc + 3) ls rest)) : W p l e R s m args below meth c H locs cells slots Q (F0 m pc ls (.int (zi x) :: rest)) :=
  lv_if_ge hx hb hdg ht (fun h => kt ((zi_le rg_0 gx).mp (by rw [zi_0]; exact h))) (fun h => kf (fun z => h (by rw [← zi_0]; exact (zi_le rg_0 gx).mpr z)))
theorem iv_gt (hx : p.tables.exec = Jvm.exec) (hb : c.code = cc) {x : Int} {off : Int} {tgt : Nat} (gx : rg x = true) (hdg : decode cc pc = .ok (.ifCond .gt off, 3)) (ht : (pc : Int) + off = (tgt : Int)) (kt : 0 < x → W p l e R s m args below meth c H locs cells slots Q (F0 m tgt ls rest)) (kf : ¬ 0 < x → W p l e R s m args below meth c H locs cells slots Q (F0 m (pc + 3) ls rest)) : W p l e R s m args below meth c H locs cells slots Q (F0 m pc ls (.int (zi x) :: rest)) :=
  lv_if_gt hx hb hdg ht (fun h => kt ((zi_lt rg_0 gx).mp (by rw [zi_0]; exact h))) (fun h => kf (fun z => h (by rw [← zi_0]; exact (zi_lt rg_0 gx).mpr z)))
theorem iv_le (hx : p.tables.exec = Jvm.exec) (hb : c.code = cc) {x : Int} {off : Int} {tgt : Nat} (gx : rg x = true) (hdg : decode cc pc = .ok (.ifCond .le off, 3)) (ht : (pc : Int) + off = (tgt : Int)) (kt : x ≤ 0 → W p l e R s m args below meth c H locs cells slots Q (F0 m tgt ls rest)) (kf : ¬ x ≤ 0 → W p l e R s m args below meth c H locs cells slots Q (F0 m (pc + 3) ls rest)) : W p l e R s m args below meth c H locs cells slots Q (F0 m pc ls (.int (zi x) :: rest)) :=
  lv_if_le hx hb hdg ht (fun h => kt ((zi_le gx rg_0).mp (by rw [zi_0]; exact h))) (fun h => kf (fun z => h (by rw [← zi_0]; exact (zi_le gx rg_0).mpr z)))
theorem iv_ieq (hx : p.tables.exec = Jvm.exec) (hb : c.code = cc) {x y : Int} {off : Int} {tgt : Nat} (gx : rg x = true) (gy : rg y = true) (hdg : decode cc pc = .ok (.if_icmp .eq off, 3)) (ht : (pc : Int) + off = (tgt : Int)) (kt : x = y → W p l e R s m args below meth c H locs cells slots Q (F0 m tgt ls rest)) (kf : ¬ x = y → W p l e R s m args below meth c H locs cells slots Q (F0 m (pc + 3) ls rest)) : W p l e R s m args below meth c H locs cells slots Q (F0 m pc ls (.int (zi y) :: .int (zi x) :: rest)) :=
  lv_icmp_eq hx hb hdg ht (fun h => kt ((zi_eq gx gy).mp h)) (fun h => kf (fun z => h ((zi_eq gx gy).mpr z)))
theorem iv_ine (hx : p.tables.exec = Jvm.exec) (hb : c.code = cc) {x y : Int} {off : Int} {tgt : Nat} (gx : rg x = true) (gy : rg y = true) (hdg : decode cc pc = .ok (.if_icmp .ne off, 3)) (ht : (pc : Int) + off = (tgt : Int)) (kt : ¬ x = y → W p l e R s m args below meth c H locs cells slots Q (F0 m tgt ls rest)) (kf : x = y → W p l e R s m args below meth c H locs cells slots Q (F0 m (pc + 3) ls rest)) : W p l e R s m args below meth c H locs cells slots Q (F0 m pc ls (.int (zi y) :: .int (zi x) :: rest)) :=
  lv_icmp_ne hx hb hdg ht (fun h => kt (fun z => h ((zi_eq gx gy).mpr z))) (fun h => kf ((zi_eq gx gy).mp h))
theorem iv_ilt (hx : p.tables.exec = Jvm.exec) (hb : c.code = cc) {x y : Int} {off : Int} {tgt : Nat} (gx : rg x = true) (gy : rg y = true) (hdg : decode cc pc = .ok (.if_icmp .lt off, 3)) (ht : (pc : Int) + off = (tgt : Int)) (kt : x < y → W p l e R s m args below meth c H locs cells slots Q (F0 m tgt ls rest)) (kf : ¬ x < y → W p l e R s m args below meth c H locs cells slots Q (F0 m (pc + 3) ls rest)) : W p l e R s m args below meth c H locs cells slots Q (F0 m pc ls (.int (zi y) :: .int (zi x) :: rest)) :=
  lv_icmp_lt hx hb hdg ht (fun h => kt ((zi_lt gx gy).mp h)) (fun h => kf (fun z => h ((zi_lt gx gy).mpr z)))
theorem iv_ige (hx : p.tables.exec = Jvm.exec) (hb : c.code = cc) {x y : Int} {off : Int} {tgt : Nat} (gx : rg x = true) (gy : rg y = true) (hdg : decode cc pc = .ok (.if_icmp .ge off, 3)) (ht : (pc : Int) + off = (tgt : Int)) (kt : y ≤ x → W p l e R s m args below meth c H locs cells slots Q (F0 m tgt ls rest)) (kf : ¬ y ≤ x → W p l e R s m args below meth c H locs cells slots Q (F0 m (pc + 3) ls rest)) : W p l e R s m args below meth c H locs cells slots Q (F0 m pc ls (.int (zi y) :: .int (zi x) :: rest)) :=
  lv_icmp_ge hx hb hdg ht (fun h => kt ((zi_le gy gx).mp h)) (fun h => kf (fun z => h ((zi_le gy gx).mpr z)))
theorem iv_igt (hx : p.tables.exec = Jvm.exec) (hb : c.code = cc) {x y : Int} {off : Int} {tgt : Nat} (gx : rg x = true) (gy : rg y = true) (hdg : decode cc pc = .ok (.if_icmp .gt off, 3)) (ht : (pc : Int) + off = (tgt : Int)) (kt : y < x → W p l e R s m args below meth c H locs cells slots Q (F0 m tgt ls rest)) (kf : ¬ y < x → W p l e R s m args below meth c H locs cells slots Q (F0 m (pc + 3) ls rest)) : W p l e R s m args below meth c H locs cells slots Q (F0 m pc ls (.int (zi y) :: .int (zi x) :: rest)) :=
  lv_icmp_gt hx hb hdg ht (fun h => kt ((zi_lt gy gx).mp h)) (fun h => kf (fun z => h ((zi_lt gy gx).mpr z)))
theorem iv_ile (hx : p.tables.exec = Jvm.exec) (hb : c.code = cc) {x y : Int} {off : Int} {tgt : Nat} (gx : rg x = true) (gy : rg y = true) (hdg : decode cc pc = .ok (.if_icmp .le off, 3)) (ht : (pc : Int) + off = (tgt : Int)) (kt : x ≤ y → W p l e R s m args below meth c H locs cells slots Q (F0 m tgt ls rest)) (kf : ¬ x ≤ y → W p l e R s m args below meth c H locs cells slots Q (F0 m (pc + 3) ls rest)) : W p l e R s m args below meth c H locs cells slots Q (F0 m pc ls (.int (zi y) :: .int (zi x) :: rest)) :=
  lv_icmp_le hx hb hdg ht (fun h => kt ((zi_le gx gy).mp h)) (fun h => kf (fun z => h ((zi_le gx gy).mpr z)))
theorem iv_max (hx : p.tables.exec = Jvm.exec) (hb : c.code = cc) (hml : c.maxLocals = ls.size) {own : String} {index : Nat} (hown : s.vm.findClass own = some m.cls) (hlink : (Cond.methodLink own index Lib.Math.max.name).before args s = true) (hstat : (Cond.static Lib.Math.max.name).before args s = true) (hini : (Cond.initialized "java/lang/Math").before args s = true) (hcode : (Cond.code Lib.Math.max.name Lib.Math.max.code 2 (some .int)).before args s = true)
    (hframes : 1 ≤ R.frames) (hlocals : (rest.map fun v => v.category).sum + 13 ≤ R.locals) (hc : cells ≤ R.cells) (hs : slots ≤ R.slots) {x y : Int} (gx : rg x = true) (gy : rg y = true) (hdg : decode cc pc = .ok (.invokestatic index, 3))
    (kk : W p l e R s m args below meth c H locs cells slots Q (F0 m (pc + 3) ls (.int (zi (if x < y then y else x)) :: rest))) : W p l e R s m args below meth c H locs cells slots Q (F0 m pc ls (.int (zi y) :: .int (zi x) :: rest)) := by
  refine va_mmax hx hb hml hown hlink hstat hini hcode hframes hlocals hc hs hdg ?_
  by_cases h : x < y
  · rw [if_pos h] at kk
    rw [if_pos ((zi_lt gx gy).mpr h)]
    exact kk
  · rw [if_neg h] at kk
    rw [if_neg (fun z => h ((zi_lt gx gy).mp z))]
    exact kk
theorem iv_min (hx : p.tables.exec = Jvm.exec) (hb : c.code = cc) (hml : c.maxLocals = ls.size) {own : String} {index : Nat} (hown : s.vm.findClass own = some m.cls) (hlink : (Cond.methodLink own index Lib.Math.min.name).before args s = true) (hstat : (Cond.static Lib.Math.min.name).before args s = true) (hini : (Cond.initialized "java/lang/Math").before args s = true) (hcode : (Cond.code Lib.Math.min.name Lib.Math.min.code 2 (some .int)).before args s = true)
    (hframes : 1 ≤ R.frames) (hlocals : (rest.map fun v => v.category).sum + 13 ≤ R.locals) (hc : cells ≤ R.cells) (hs : slots ≤ R.slots) {x y : Int} (gx : rg x = true) (gy : rg y = true) (hdg : decode cc pc = .ok (.invokestatic index, 3))
    (kk : W p l e R s m args below meth c H locs cells slots Q (F0 m (pc + 3) ls (.int (zi (if y < x then y else x)) :: rest))) : W p l e R s m args below meth c H locs cells slots Q (F0 m pc ls (.int (zi y) :: .int (zi x) :: rest)) := by
  refine va_mmin hx hb hml hown hlink hstat hini hcode hframes hlocals hc hs hdg ?_
  by_cases h : y < x
  · rw [if_pos h] at kk
    rw [if_pos ((zi_lt gy gx).mpr h)]
    exact kk
  · rw [if_neg h] at kk
    rw [if_neg (fun z => h ((zi_lt gy gx).mp z))]
    exact kk
end IV
section IA
variable {p : Program} {l : Launch} {e : Env} {R : Room} {s : State} {m : MethodId} {args : Array Value} {below : List Frame} {meth : Method} {c : Code} {H : Heap} {locs : List Loc} {cells slots : Nat} {Q : State → Prop}
variable {cc : ByteArray} {pc : Nat} {ls : Array Slot} {rest : List Value} {D : va_G} {cl : List vw_C} {A : Nat → Prop} {a : Nat} {tys : List (ClassId × FieldType)} {ws ws1 : va_W} {H0 : Heap}
theorem iv_iald (hx : p.tables.exec = Jvm.exec) (hb : c.code = cc) (hK : va_K D cl tys s) (hP : va_P D cl ws H) (q0 t0 : Nat) {cA : ClassId} {n : Nat} {f : Nat → Int} (ha : ws[q0]? = some (a, .inl (cA, n, .inl (fun j => zi (f j))))) (ht : tys[t0]? = some (cA, .int)) {i : Int} {j : Nat} (hn : n < 2147483648) (g : inb i n = true) (hj : i.toNat = j) (hdg : decode cc pc = .ok (.iaload, 1))
    (kk : W p l e R s m args below meth c H locs cells slots Q (F0 m (pc + 1) ls (.int (zi (f j)) :: rest))) : W p l e R s m args below meth c H locs cells slots Q (F0 m pc ls (.int (zi i) :: .ref a :: rest)) := by
  refine va_iald hx hb hK hP q0 t0 ha ht (inb_vp g hn) hdg ?_
  rw [inb_cl g hn, hj]
  exact kk
theorem iv_cald (hx : p.tables.exec = Jvm.exec) (hb : c.code = cc) (hK : va_K D cl tys s) (hP : va_P D cl ws H) (q0 t0 : Nat) {cA : ClassId} {n : Nat} {f : Nat → Int} (ha : ws[q0]? = some (a, .inl (cA, n, .inl (fun j => zi (f j))))) (ht : tys[t0]? = some (cA, .char)) {i : Int} {j : Nat} (hn : n < 2147483648) (g : inb i n = true) (hj : i.toNat = j) (hdg : decode cc pc = .ok (.caload, 1))
    (kk : W p l e R s m args below meth c H locs cells slots Q (F0 m (pc + 1) ls (.int (zi (f j)) :: rest))) : W p l e R s m args below meth c H locs cells slots Q (F0 m pc ls (.int (zi i) :: .ref a :: rest)) := by
  refine va_cald hx hb hK hP q0 t0 ha ht (inb_vp g hn) hdg ?_
  rw [inb_cl g hn, hj]
  exact kk
theorem iv_iast (hx : p.tables.exec = Jvm.exec) (hb : c.code = cc) (hK : va_K D cl tys s) (hP : va_P D cl ws H) (hD : va_D A ws) (hS : va_S A H0 H locs) (q0 t0 : Nat) {cA : ClassId} {n : Nat} {f : Nat → Int} (ha : ws[q0]? = some (a, .inl (cA, n, .inl (fun j => zi (f j))))) (ht : tys[t0]? = some (cA, .int)) {i x : Int} {j : Nat} (hn : n < 2147483648) (g : inb i n = true) (hj : i.toNat = j) (hw : ws.set q0 (a, .inl (cA, n, .inl (fun k => zi (up f j x k)))) = ws1) (hdg : decode cc pc = .ok (.iastore, 1))
    (kk : ∀ (H1 : Heap) (locs1 : List Loc), va_P D cl ws1 H1 → va_D A ws1 → va_S A H0 H1 locs1 → W p l e R s m args below meth c H1 locs1 cells slots Q (F0 m (pc + 1) ls rest)) : W p l e R s m args below meth c H locs cells slots Q (F0 m pc ls (.int (zi x) :: .int (zi i) :: .ref a :: rest)) := by
  refine va_iast hx hb hK hP hD hS q0 t0 ha ht (inb_vp g hn) hdg (fun H1 locs1 h1 h2 h3 => kk H1 locs1 ?_ ?_ h3)
  · rw [inb_cl g hn, hj, up_zi, hw] at h1
    exact h1
  · rw [inb_cl g hn, hj, up_zi, hw] at h2
    exact h2
theorem iv_copy (hx : p.tables.exec = Jvm.exec) (hb : c.code = cc) (hml : c.maxLocals = ls.size) {own : String} {index : Nat} (hown : s.vm.findClass own = some m.cls) (hlink : (Cond.methodLink own index arraycopyName).before args s = true) (hnat : (Cond.native arraycopyName).before args s = true) (hstat : (Cond.static arraycopyName).before args s = true) (hini : (Cond.initialized "java/lang/System").before args s = true)
    (hK : va_K D cl tys s) (hP : va_P D cl ws H) (hD : va_D A ws) (hS : va_S A H0 H locs) (q0 q1 t0 t1 : Nat) {a0 : Nat} {c0 c1 : ClassId} {n0 n1 : Nat} {f g : Nat → Int} (ha0 : ws[q0]? = some (a0, .inl (c0, n0, .inl (fun j => zi (f j))))) (ha1 : ws[q1]? = some (a, .inl (c1, n1, .inl (fun j => zi (g j))))) (ht0 : tys[t0]? = some (c0, .int)) (ht1 : tys[t1]? = some (c1, .int))
    {sp dp n : Int} {sp' dp' K : Nat} (e1 : inb sp 1000 = true) (e2 : inb dp 1000 = true) (hs' : sp.toNat = sp') (hd' : dp.toNat = dp') (gn : inb n K = true) (hK1 : K < 2147483648) (h4 : sp' + K ≤ n0 + 1) (h5 : dp' + K ≤ n1 + 1)
    (hframes : 1 ≤ R.frames) (hlocals : (rest.map fun v => v.category).sum + (nativeFrameWords "java/lang/System" "arraycopy" 5 + 11) ≤ R.locals) (hw : ws.set q1 (a, .inl (c1, n1, .inl (fun k => zi (va_cpy f g sp' dp' n.toNat k)))) = ws1) (hdg : decode cc pc = .ok (.invokestatic index, 3))
    (kk : ∀ (H1 : Heap) (locs1 : List Loc), va_P D cl ws1 H1 → va_D A ws1 → va_S A H0 H1 locs1 → W p l e R s m args below meth c H1 locs1 cells slots Q (F0 m (pc + 3) ls rest)) : W p l e R s m args below meth c H locs cells slots Q (F0 m pc ls (.int (zi n) :: .int (zi dp) :: .ref a :: .int (zi sp) :: .ref a0 :: rest)) := by
  have c1 := inb_cl e1 (by decide)
  have c2 := inb_cl e2 (by decide)
  have c3 := inb_cl gn hK1
  have neg : ∀ {z : Int} {k : Nat}, inb z k = true → k < 2147483648 → ¬ zi z < 0 := fun h hk q => (inb_vp h hk) (Or.inl q)
  have gn' := inb_i gn
  refine va_copyi hx hb hml hown hlink hnat hstat hini hK hP hD hS q0 q1 t0 t1 ha0 ha1 ht0 ht1 rfl (neg e1 (by decide)) (neg e2 (by decide)) (neg gn hK1) (by rw [c1, c3]; omega) (by rw [c2, c3]; omega) (fun _ _ => rfl) hframes hlocals hdg (fun H1 locs1 h1 h2 h3 => kk H1 locs1 ?_ ?_ h3)
  · rw [c1, c2, c3, hs', hd', cpy_zi, hw] at h1
    exact h1
  · rw [c1, c2, c3, hs', hd', cpy_zi, hw] at h2
    exact h2
theorem iv_put (hx : p.tables.exec = Jvm.exec) (hb : c.code = cc) {own ref C : String} {T : u_T} {N ci index : Nat} {Ts : List Cond} (hts : ∀ w ∈ Ts, w.before args s = true) (hin : ∀ w ∈ u_ws C T N, w ∈ Ts) (ty0 : Nat → FieldType) (hty : ∀ k, k < N → parseFieldDescriptor (T k).2.2.1 = some (ty0 k)) (hnm : ∀ a, a < N → ∀ b, b < N → a ≠ b → (T a).2.1 ≠ (T b).2.1) (hown : s.vm.findClass own = some m.cls) (hK : va_K D cl tys s) (hP : va_P D cl ws H) (hD : va_D A ws) (hS0 : va_S A H0 H locs) (q0 : Nat) {fs : List Value} (he : ws[q0]? = some (a, .inr (ci, fs))) (hc : cl[ci]? = some (C, T, N)) (k : Nat) (hk : k < N) (hlink : (Cond.fieldLink own index ref (T k).2.1 (T k).2.2.1).before args s = true) (hsame : ∀ x, s.fieldFound? (T k).1 (T k).2.1 (T k).2.2.1 = some x → s.fieldFound? ref (T k).2.1 (T k).2.2.1 = some x) (hfin : (T k).2.2.2 = false) {ty : FieldType} {v : Value} (hd : parseFieldDescriptor (T k).2.2.1 = some ty) (hn : narrow ty v = v) (hfit : fits ty v = true) (hl : k < fs.length) (hw : ws.set q0 (a, .inr (ci, fs.set k v)) = ws1)
    (hdg : decode cc pc = .ok (.putfield index, 3)) (kk : ∀ (H1 : Heap) (locs1 : List Loc), va_P D cl ws1 H1 → va_D A ws1 → va_S A H0 H1 locs1 → W p l e R s m args below meth c H1 locs1 cells slots Q (F0 m (pc + 3) ls rest)) : W p l e R s m args below meth c H locs cells slots Q (F0 m pc ls (v :: .ref a :: rest)) := by
  refine va_put hx hb hts hin ty0 hty hnm hown hK hP hD hS0 q0 he hc k hk hlink hsame hfin hd hn hfit hl hdg (fun H1 locs1 h1 h2 h3 => kk H1 locs1 ?_ ?_ h3)
  · rw [hw] at h1
    exact h1
  · rw [hw] at h2
    exact h2
end IA
/-! contracts over a world of my own words -/
abbrev wE : Type := va_G × ClassId × ClassId × ClassId
abbrev KK (E : wE) (U : State) : Prop := va_K E.1 vwCl [(E.2.1, .int), (E.2.2.1, .char), (E.2.2.2, .object "ShirtButtons$State")] U
def mPre (E : wE) (sz : Nat) (ws : va_W) : State → Prop := fun U => U.heap.size = sz ∧ va_P E.1 vwCl ws U.heap ∧ KK E U ∧ va_D (fun _ => True) ws
def mPo (E : wE) (A : Nat → Prop) (ws1 : va_W) : Unit → State → Prop := fun _ t => va_P E.1 vwCl ws1 t.heap ∧ KK E t ∧ va_D A ws1
def mQi (E : wE) (ws1 : va_W) (r : Int) (A : Nat → Prop) : Array Value → State → Outcome → State → Prop := va_Qi (fun (v : Int32) (_ : Unit) => v = zi r) (mPo E A ws1) A
def mQv (E : wE) (ws1 : va_W) (A : Nat → Prop) : Array Value → State → Outcome → State → Prop := va_Qv (fun (_ : Unit) => True) (mPo E A ws1) A
def cI (l : Launch) (y : MethodName) (wt : List Cond) (rm : Room) (E : wE) (sz : Nat) (av : List Value) (ws0 ws1 : va_W) (r : Int) : Prop := Met l y wt rm (va_Pc av (mPre E sz ws0)) (mQi E ws1 r (va_A ws0 sz)) 0 0 (va_A ws0 sz)
def cV (l : Launch) (y : MethodName) (wt : List Cond) (rm : Room) (E : wE) (sz : Nat) (av : List Value) (ws0 ws1 : va_W) : Prop := Met l y wt rm (va_Pc av (mPre E sz ws0)) (mQv E ws1 (va_A ws0 sz)) 0 0 (va_A ws0 sz)
theorem met_go {l : Launch} {y : MethodName} {wt wt' : List Cond} {rm : Room} {cc : ByteArray} {maxL : Nat} {ret : Option FieldType} {E : wE} {sz : Nat} {av : List Value} {ws0 : va_W} {Q0 : (Nat → Prop) → Array Value → State → Outcome → State → Prop} (hy : plainName y.cls = true) (hw : wt = Cond.code y cc maxL ret :: wt') (hn : (lg_sl av).length ≤ maxL)
    (body : ∀ (A : Nat → Prop) (p : Program) (e : Env) (s : State) (m : MethodId) (below : List Frame) (meth : Method) (c : Code), p.tables.exec = Jvm.exec → c.code = cc → meth.sig.returnType = ret → c.maxLocals = maxL → (∀ w ∈ wt, w.before av.toArray s = true) → s.vm.findClass y.cls = some m.cls → meth.locks = false → va_P E.1 vwCl ws0 s.heap → KK E s → va_D A ws0 → (∀ q, s.heap.size ≤ q → A q) → va_S A s.heap s.heap [] → ∀ ls : Array Slot, lv_has ls maxL (lv_args 0 av) → W p l e rm s m av.toArray below meth c s.heap [] 0 0 (MQ below (Q0 A) av.toArray s 0 0 A) (F0 m 0 ls [])) :
    Met l y wt rm (va_Pc av (mPre E sz ws0)) (Q0 (va_A ws0 sz)) 0 0 (va_A ws0 sz) := by
  refine Met.ofW (cc := cc) (maxL := maxL) (ret := ret) hy hw ?_
  intro p e s m args below meth c s₁ B hml hv
  obtain ⟨rfl, hsz, hP, hK, hD0⟩ := hv
  subst hsz
  have hts := atoms_spec (ws := wt) B.pre
  have hown : s.vm.findClass y.cls = some m.cls := findClass_of_methodNamed B.named
  rw [lg_entry_eq]
  exact body (va_A ws0 s.heap.size) p e s m below meth c B.exec B.bytes B.returns hml hts hown B.notSynchronized hP hK hD0.self (fun q h => Or.inr h) va_S.rf _ (lv_entry av hn)
theorem map_fm {ws wc : va_W} : ∀ {is : List Nat} (_ : is.map (fun i => ws[i]?) = wc.map some), is.filterMap (fun i => ws[i]?) = wc := by
  intro is h
  have h1 : (is.map (fun i => ws[i]?)).filterMap id = (wc.map some).filterMap id := by rw [h]
  rw [List.filterMap_map] at h1
  have h2 : (wc.map some).filterMap id = wc := by
    rw [List.filterMap_map]
    exact List.filterMap_some
  rw [h2] at h1
  exact h1
theorem mPre_blind {E : wE} {sz : Nat} {ws : va_W} {av : List Value} : FrameBlind (va_Pc av (mPre E sz ws)) := fun a U g mk q => by
  obtain ⟨q0, q1, qP, qK, qD⟩ := q
  exact ⟨q0, q1, qP, va_K.moved (u := U) (U := U.calling g mk a) (Vm.Alike.refl U.vm) qK, qD⟩
section IC
variable {p : Program} {l : Launch} {e : Env} {R : Room} {s : State} {m : MethodId} {args : Array Value} {below : List Frame} {meth : Method} {c : Code} {H : Heap} {locs : List Loc} {cells slots : Nat} {Q : State → Prop}
variable {cc bytes : ByteArray} {pc nL maxL n index : Nat} {ls : Array Slot} {rest As : List Value} {E : wE} {A : Nat → Prop} {b : Nat} {ws ws1 wc wr w1 : va_W} {H0 : Heap} {Ts wt : List Cond} {own C : String} {y : MethodName} {ret : Option FieldType} {rm : Room} {r : Int}
/-- the callee's world is a part of mine -/
theorem iv_callI (S : CallFix p m c cc nL s args Ts own) (hM : cI l y wt rm E H.size (.ref b :: As) wc w1 r) (cw : CallW R s args own C index y bytes maxL ret wt rm 0 0 n)
    (hK : KK E s) (hP : va_P E.1 vwCl ws H) (hD : va_D A ws) (hS : va_S A H0 H locs) (hA : ∀ q, H0.size ≤ q → A q) (q0 ci : Nat) {T : u_T} {N : Nat} {fs : List Value} (he : ws[q0]? = some (b, .inr (ci, fs))) (hc : vwCl[ci]? = some (C, T, N))
    (isC isR perm : List Nat) (hC : isC.map (fun i => ws[i]?) = wc.map some) (hR : isR.map (fun i => ws[i]?) = wr.map some) (hnC : va_nd isC = true) (hn : va_nd isR = true) (hdis : ∀ i ∈ isR, i ∉ isC) (hp : perm.map (fun i => (wr ++ w1)[i]?) = ws1.map some) (hpn : va_nd perm = true)
    (hlen : As.length = n) (hl : ls.size = nL) (hroom : (rest.map fun v => v.category).sum ≤ 8) (hf : cells ≤ R.cells ∧ slots ≤ R.slots) (hdg : decode cc pc = .ok (.invokevirtual index, 3))
    (kk : ∀ (H1 : Heap) (locs1 : List Loc), va_P E.1 vwCl ws1 H1 → va_D A ws1 → va_S A H0 H1 locs1 → W p l e R s m args below meth c H1 locs1 cells slots Q (F0 m (pc + 3) ls (.int (zi r) :: rest))) : W p l e R s m args below meth c H locs cells slots Q (F0 m pc ls (As.reverse ++ .ref b :: rest)) := by
  have hPc := hP.sub isC (map_fm hC)
  have hDc := hD.sub isC hnC hC
  have hFc := va_free hD hS hA isC hC
  refine va_calli (va_runV (As := As) (rest := rest) S hM cw ⟨mPre_blind, va_recv hK hP hc he, fun U hU hW => ⟨rfl, by rw [hU], by rw [hU]; exact hPc, va_K.moved hW.alike hK, hDc.weaken (fun _ _ _ _ => trivial)⟩⟩ rfl hlen hl rfl (lv_room hroom) hdg hf) hS (fun q _ h => hFc q h) hFc (fun r0 u t H1 locs1 ht hvm hw hB hz1 hk1 hS1 => ?_)
  obtain ⟨hP1, hK1, hD1⟩ := hB
  rw [ht] at hP1
  subst hw
  obtain ⟨hP2, hD2⟩ := va_join hP hD isC isR hC hR hn hdis hk1 hFc hP1 hD1
  exact kk H1 locs1 (hP2.sub perm (map_fm hp)) (hD2.sub perm hpn hp) hS1
theorem iv_callV (S : CallFix p m c cc nL s args Ts own) (hM : cV l y wt rm E H.size (.ref b :: As) wc w1) (cw : CallW R s args own C index y bytes maxL ret wt rm 0 0 n)
    (hK : KK E s) (hP : va_P E.1 vwCl ws H) (hD : va_D A ws) (hS : va_S A H0 H locs) (hA : ∀ q, H0.size ≤ q → A q) (q0 ci : Nat) {T : u_T} {N : Nat} {fs : List Value} (he : ws[q0]? = some (b, .inr (ci, fs))) (hc : vwCl[ci]? = some (C, T, N))
    (isC isR perm : List Nat) (hC : isC.map (fun i => ws[i]?) = wc.map some) (hR : isR.map (fun i => ws[i]?) = wr.map some) (hnC : va_nd isC = true) (hn : va_nd isR = true) (hdis : ∀ i ∈ isR, i ∉ isC) (hp : perm.map (fun i => (wr ++ w1)[i]?) = ws1.map some) (hpn : va_nd perm = true)
    (hlen : As.length = n) (hl : ls.size = nL) (hroom : (rest.map fun v => v.category).sum ≤ 8) (hf : cells ≤ R.cells ∧ slots ≤ R.slots) (hdg : decode cc pc = .ok (.invokevirtual index, 3))
    (kk : ∀ (H1 : Heap) (locs1 : List Loc), va_P E.1 vwCl ws1 H1 → va_D A ws1 → va_S A H0 H1 locs1 → W p l e R s m args below meth c H1 locs1 cells slots Q (F0 m (pc + 3) ls rest)) : W p l e R s m args below meth c H locs cells slots Q (F0 m pc ls (As.reverse ++ .ref b :: rest)) := by
  have hPc := hP.sub isC (map_fm hC)
  have hDc := hD.sub isC hnC hC
  have hFc := va_free hD hS hA isC hC
  refine va_callv (va_runV (As := As) (rest := rest) S hM cw ⟨mPre_blind, va_recv hK hP hc he, fun U hU hW => ⟨rfl, by rw [hU], by rw [hU]; exact hPc, va_K.moved hW.alike hK, hDc.weaken (fun _ _ _ _ => trivial)⟩⟩ rfl hlen hl rfl (lv_room hroom) hdg hf) hS (fun q _ h => hFc q h) hFc (fun u t H1 locs1 ht hvm hw hB hz1 hk1 hS1 => ?_)
  obtain ⟨hP1, hK1, hD1⟩ := hB
  rw [ht] at hP1
  obtain ⟨hP2, hD2⟩ := va_join hP hD isC isR hC hR hn hdis hk1 hFc hP1 hD1
  exact kk H1 locs1 (hP2.sub perm (map_fm hp)) (hD2.sub perm hpn hp) hS1
/-- the callee's world is mine -/
theorem iv_callIf (S : CallFix p m c cc nL s args Ts own) (hM : cI l y wt rm E H.size (.ref b :: As) ws w1 r) (cw : CallW R s args own C index y bytes maxL ret wt rm 0 0 n)
    (hK : KK E s) (hP : va_P E.1 vwCl ws H) (hD : va_D A ws) (hS : va_S A H0 H locs) (hA : ∀ q, H0.size ≤ q → A q) (q0 ci : Nat) {T : u_T} {N : Nat} {fs : List Value} (he : ws[q0]? = some (b, .inr (ci, fs))) (hc : vwCl[ci]? = some (C, T, N))
    (hlen : As.length = n) (hl : ls.size = nL) (hroom : (rest.map fun v => v.category).sum ≤ 8) (hf : cells ≤ R.cells ∧ slots ≤ R.slots) (hdg : decode cc pc = .ok (.invokevirtual index, 3))
    (kk : ∀ (H1 : Heap) (locs1 : List Loc), va_P E.1 vwCl w1 H1 → va_D A w1 → va_S A H0 H1 locs1 → W p l e R s m args below meth c H1 locs1 cells slots Q (F0 m (pc + 3) ls (.int (zi r) :: rest))) : W p l e R s m args below meth c H locs cells slots Q (F0 m pc ls (As.reverse ++ .ref b :: rest)) := by
  have hFc : ∀ q, va_A ws H.size q → A q := fun q h => by
    rcases h with ⟨k, z, h⟩ | h
    · exact hD.2 k _ h
    · exact hA q (Nat.le_trans hS.1 h)
  refine va_calli (va_runV (As := As) (rest := rest) S hM cw ⟨mPre_blind, va_recv hK hP hc he, fun U hU hW => ⟨rfl, by rw [hU], by rw [hU]; exact hP, va_K.moved hW.alike hK, hD.weaken (fun _ _ _ _ => trivial)⟩⟩ rfl hlen hl rfl (lv_room hroom) hdg hf) hS (fun q _ h => hFc q h) hFc (fun r0 u t H1 locs1 ht hvm hw hB hz1 hk1 hS1 => ?_)
  obtain ⟨hP1, hK1, hD1⟩ := hB
  rw [ht] at hP1
  subst hw
  exact kk H1 locs1 hP1 (hD1.weaken (fun k q _ h => hFc q.1 h)) hS1
theorem iv_callVf (S : CallFix p m c cc nL s args Ts own) (hM : cV l y wt rm E H.size (.ref b :: As) ws w1) (cw : CallW R s args own C index y bytes maxL ret wt rm 0 0 n)
    (hK : KK E s) (hP : va_P E.1 vwCl ws H) (hD : va_D A ws) (hS : va_S A H0 H locs) (hA : ∀ q, H0.size ≤ q → A q) (q0 ci : Nat) {T : u_T} {N : Nat} {fs : List Value} (he : ws[q0]? = some (b, .inr (ci, fs))) (hc : vwCl[ci]? = some (C, T, N))
    (hlen : As.length = n) (hl : ls.size = nL) (hroom : (rest.map fun v => v.category).sum ≤ 8) (hf : cells ≤ R.cells ∧ slots ≤ R.slots) (hdg : decode cc pc = .ok (.invokevirtual index, 3))
    (kk : ∀ (H1 : Heap) (locs1 : List Loc), va_P E.1 vwCl w1 H1 → va_D A w1 → va_S A H0 H1 locs1 → W p l e R s m args below meth c H1 locs1 cells slots Q (F0 m (pc + 3) ls rest)) : W p l e R s m args below meth c H locs cells slots Q (F0 m pc ls (As.reverse ++ .ref b :: rest)) := by
  have hFc : ∀ q, va_A ws H.size q → A q := fun q h => by
    rcases h with ⟨k, z, h⟩ | h
    · exact hD.2 k _ h
    · exact hA q (Nat.le_trans hS.1 h)
  refine va_callv (va_runV (As := As) (rest := rest) S hM cw ⟨mPre_blind, va_recv hK hP hc he, fun U hU hW => ⟨rfl, by rw [hU], by rw [hU]; exact hP, va_K.moved hW.alike hK, hD.weaken (fun _ _ _ _ => trivial)⟩⟩ rfl hlen hl rfl (lv_room hroom) hdg hf) hS (fun q _ h => hFc q h) hFc (fun u t H1 locs1 ht hvm hw hB hz1 hk1 hS1 => ?_)
  obtain ⟨hP1, hK1, hD1⟩ := hB
  rw [ht] at hP1
  exact kk H1 locs1 hP1 (hD1.weaken (fun k q _ h => hFc q.1 h)) hS1
/-- a static method without a world -/
theorem iv_callS (S : CallFix p m c cc nL s args Ts own) (hM : cI l y wt rm E H.size As [] [] r) (cw : CallB R s args own index y bytes maxL ret wt rm 0 0 n ∧ (Cond.static y).before args s = true)
    (hK : KK E s) (hP : va_P E.1 vwCl ws H) (hS : va_S A H0 H locs) (hA : ∀ q, H0.size ≤ q → A q)
    (hlen : As.length = n) (hl : ls.size = nL) (hroom : (rest.map fun v => v.category).sum ≤ 8) (hf : cells ≤ R.cells ∧ slots ≤ R.slots) (hdg : decode cc pc = .ok (.invokestatic index, 3))
    (kk : ∀ (H1 : Heap) (locs1 : List Loc), va_P E.1 vwCl ws H1 → va_S A H0 H1 locs1 → W p l e R s m args below meth c H1 locs1 cells slots Q (F0 m (pc + 3) ls (.int (zi r) :: rest))) : W p l e R s m args below meth c H locs cells slots Q (F0 m pc ls (As.reverse ++ rest)) := by
  have hFc : ∀ q, va_A [] H.size q → A q := fun q h => by
    rcases h with ⟨k, z, h⟩ | h
    · simp at h
    · exact hA q (Nat.le_trans hS.1 h)
  refine va_calli (va_runS (As := As) (rest := rest) S hM cw ⟨mPre_blind, fun U hU hW => ⟨rfl, by rw [hU], fun k q h => by simp at h, va_K.moved hW.alike hK, ⟨fun i j p q h => by simp at h, fun k q h => by simp at h⟩⟩⟩ rfl hlen hl rfl (lv_room hroom) hdg hf) hS (fun q _ h => hFc q h) hFc (fun r0 u t H1 locs1 ht hvm hw hB hz1 hk1 hS1 => ?_)
  subst hw
  refine kk H1 locs1 (hP.kept (fun k q hq => ?_)) hS1
  have hlt := (hP k q hq).lt
  refine hk1 q.1 hlt (fun h => ?_)
  rcases h with ⟨k2, z, h⟩ | h
  · simp at h
  · omega
/-- the ends of a method -/
theorem iv_iret (hx : p.tables.exec = Jvm.exec) (hb : c.code = cc) (hr : meth.sig.returnType = some .int) (hlocks : meth.locks = false) (hK : KK E s) (hP : va_P E.1 vwCl ws H) (hD : va_D A ws) (hS : va_S A s.heap H locs) (hdg : decode cc pc = .ok (.ireturn, 1)) : W p l e R s m args below meth c H locs cells slots (MQ below (mQi E ws r A) args s cells slots A) (F0 m pc ls [.int (zi r)]) :=
  W.iret (v := zi r) hx hb hr (fun t ht hW => ⟨⟨zi r, (), rfl, rfl, by rw [ht]; exact hP, va_K.moved hW.alike hK, hD⟩, hS.F ht⟩) hS.2.2 hdg
theorem iv_zret (hx : p.tables.exec = Jvm.exec) (hb : c.code = cc) (hr : meth.sig.returnType = some .boolean) (hlocks : meth.locks = false) (g : inb r 2 = true) (hK : KK E s) (hP : va_P E.1 vwCl ws H) (hD : va_D A ws) (hS : va_S A s.heap H locs) (hdg : decode cc pc = .ok (.ireturn, 1)) : W p l e R s m args below meth c H locs cells slots (MQ below (mQi E ws r A) args s cells slots A) (F0 m pc ls [.int (zi r)]) :=
  W.zret (v := zi r) hx hb hr (zi_01 g) (fun t ht hW => ⟨⟨zi r, (), rfl, rfl, by rw [ht]; exact hP, va_K.moved hW.alike hK, hD⟩, hS.F ht⟩) hS.2.2 hdg
theorem iv_vret (hx : p.tables.exec = Jvm.exec) (hb : c.code = cc) (hr : meth.sig.returnType = none) (hlocks : meth.locks = false) (hK : KK E s) (hP : va_P E.1 vwCl ws H) (hD : va_D A ws) (hS : va_S A s.heap H locs) (hdg : decode cc pc = .ok (.return_, 1)) : W p l e R s m args below meth c H locs cells slots (MQ below (mQv E ws A) args s cells slots A) (F0 m pc ls []) :=
  W.vret hx hb hr (fun t ht hW => ⟨⟨(), rfl, trivial, by rw [ht]; exact hP, va_K.moved hW.alike hK, hD⟩, hS.F ht⟩) hS.2.2 hdg
end IC
section IB
variable {p : Program} {l : Launch} {e : Env} {R : Room} {s : State} {m : MethodId} {args : Array Value} {below : List Frame} {meth : Method} {c : Code} {H : Heap} {locs : List Loc} {cells slots : Nat} {Q : State → Prop}
variable {cc : ByteArray} {pc : Nat} {ls : Array Slot} {rest : List Value} {D : va_G} {cl : List vw_C} {A : Nat → Prop} {a : Nat} {tys : List (ClassId × FieldType)} {ws ws1 : va_W} {H0 : Heap}
theorem iv_tabIn (hx : p.tables.exec = Jvm.exec) (hb : c.code = cc) {dflt lo hi : Int} {offs : Array Int} {len : Nat} {x k : Int} {off : Int} {tgt : Nat} (hdg : decode cc pc = .ok (.tableswitch dflt lo hi offs, len)) (gx : rg x = true) (h : x = k) (h1 : ¬ k < lo) (h2 : ¬ hi < k) (ho : offs[(k - lo).toNat]? = some off) (ht : (pc : Int) + off = (tgt : Int))
    (kk : W p l e R s m args below meth c H locs cells slots Q (F0 m tgt ls rest)) : W p l e R s m args below meth c H locs cells slots Q (F0 m pc ls (.int (zi x) :: rest)) := by
  subst h
  have e1 := zi_toInt gx
  exact lv_tableIn hx hb hdg (by rw [e1]; exact h1) (by rw [e1]; exact h2) (by rw [e1]; exact ho) ht kk
theorem iv_tabOut (hx : p.tables.exec = Jvm.exec) (hb : c.code = cc) {dflt lo hi : Int} {offs : Array Int} {len : Nat} {x : Int} {tgt : Nat} (hdg : decode cc pc = .ok (.tableswitch dflt lo hi offs, len)) (gx : rg x = true) (h : x < lo ∨ hi < x) (ht : (pc : Int) + dflt = (tgt : Int))
    (kk : W p l e R s m args below meth c H locs cells slots Q (F0 m tgt ls rest)) : W p l e R s m args below meth c H locs cells slots Q (F0 m pc ls (.int (zi x) :: rest)) := by
  have e1 := zi_toInt gx
  exact lv_tableOut hx hb hdg (by rw [e1]; exact h) ht kk
theorem iv_aald (hx : p.tables.exec = Jvm.exec) (hb : c.code = cc) (hK : va_K D cl tys s) (hP : va_P D cl ws H) (q0 t0 : Nat) {cA : ClassId} {C : String} {n : Nat} {f : Nat → Option Nat} (ha : ws[q0]? = some (a, .inl (cA, n, .inr (.inr (.inr (.inr f)))))) (ht : tys[t0]? = some (cA, .object C)) {i : Int} {j q : Nat} (hi : i = (j : Int)) (hj : j < n) (hn : n < 2147483648) (hq : f j = some q) (hdg : decode cc pc = .ok (.aaload, 1))
    (kk : W p l e R s m args below meth c H locs cells slots Q (F0 m (pc + 1) ls (.ref q :: rest))) : W p l e R s m args below meth c H locs cells slots Q (F0 m pc ls (.int (zi i) :: .ref a :: rest)) := by
  subst hi
  have g : inb (j : Int) n = true := inb_of (by omega)
  refine va_aldq hx hb hK hP q0 t0 ha ht (inb_vp g hn) hdg ?_
  rw [inb_cl g hn, show (j : Int).toNat = j from rfl, hq]
  exact kk
theorem zi_char {x : Int} (h : inb x 65536 = true) : vp_nar .char (zi x) = zi x := by
  have h1 := inb_i h
  obtain ⟨n, rfl⟩ : ∃ n : Nat, x = (n : Int) := ⟨x.toNat, by omega⟩
  have h2 : zi (n : Int) = nI n := Int32.ofInt_eq_ofNat
  rw [h2]
  have h3 := (pk_charN (q := n) (by omega)).1
  unfold vp_nar
  rw [h3]
theorem iv_cast (hx : p.tables.exec = Jvm.exec) (hb : c.code = cc) (hK : va_K D cl tys s) (hP : va_P D cl ws H) (hD : va_D A ws) (hS : va_S A H0 H locs) (q0 t0 : Nat) {cA : ClassId} {n : Nat} {f : Nat → Int} (ha : ws[q0]? = some (a, .inl (cA, n, .inl (fun j => zi (f j))))) (ht : tys[t0]? = some (cA, .char)) {i x : Int} {j : Nat} (hn : n < 2147483648) (g : inb i n = true) (g2 : inb x 65536 = true) (hj : i.toNat = j) (hw : ws.set q0 (a, .inl (cA, n, .inl (fun k => zi (up f j x k)))) = ws1) (hdg : decode cc pc = .ok (.castore, 1))
    (kk : ∀ (H1 : Heap) (locs1 : List Loc), va_P D cl ws1 H1 → va_D A ws1 → va_S A H0 H1 locs1 → W p l e R s m args below meth c H1 locs1 cells slots Q (F0 m (pc + 1) ls rest)) : W p l e R s m args below meth c H locs cells slots Q (F0 m pc ls (.int (zi x) :: .int (zi i) :: .ref a :: rest)) := by
  refine va_cast hx hb hK hP hD hS q0 t0 ha ht (inb_vp g hn) hdg (fun H1 locs1 h1 h2 h3 => kk H1 locs1 ?_ ?_ h3)
  · rw [inb_cl g hn, hj, zi_char g2, up_zi, hw] at h1
    exact h1
  · rw [inb_cl g hn, hj, zi_char g2, up_zi, hw] at h2
    exact h2
end IB
end
section
/-! the pure states, as tuples, and the worlds that hold them; by program -/
def h4 (a b c d : Nat) : Nat → Option Nat := fun j => if j = 0 then some a else if j = 1 then some b else if j = 2 then some c else if j = 3 then some d else none
abbrev bT : Type := (Nat → Int) × Int
abbrev bB : Type := (Nat → Int) × (Nat → Int) × (Nat → Int) × (Nat → Int) × (Nat → Int) × Int × Int
abbrev bU : Type := (Nat → Int) × (Nat → Int) × (Nat → Int) × (Nat → Int) × (Nat → Int) × (Nat → Int) × Int
abbrev bP : Type := (Nat → Int) × (Nat → Int) × (Nat → Int) × (Nat → Int) × (Nat → Int) × (Nat → Int)
abbrev bS : Type := bU × bP × (Nat → Int) × Int × Int × Int × Int × Int
abbrev bO : Type := (Nat → Int) × (Nat → Int) × Int
abbrev bH : Type := Int × bS × bS × bS × bS
abbrev bBT : Type := bB × bT
abbrev bX : Type := bBT × bO × bH × bS × bS × bS × Int
abbrev bM : Type := (Nat → Int) × (Nat → Int) × Int × (Nat → Int) × Int × (Nat → Int) × (Nat → Int) × Int × (Nat → Int) × Int × Int × Int × (Nat → Int)
abbrev bUU : Type := bU × bU
abbrev bPP : Type := bP × bP
abbrev bSS : Type := bS × bS
abbrev bSB : Type := bS × bB
abbrev bSO : Type := bS × bO
abbrev bOS : Type := bO × bS
abbrev bHS : Type := bH × bS
def wT (a : Nat → Nat) (E : wE) (z : bT) : va_W := [(a 0, .inr (6, [.ref (a 1), .int (zi z.2)])), (a 1, .inl (E.2.2.1, 60, .inl (fun j => zi (z.1 j))))]
def wB (a : Nat → Nat) (E : wE) (z : bB) : va_W := [(a 0, .inr (0, [.ref (a 1), .ref (a 2), .ref (a 3), .ref (a 4), .ref (a 5), .int (zi z.2.2.2.2.2.1), .ref (a 6), .int (zi z.2.2.2.2.2.2)])), (a 1, .inl (E.2.1, 15, .inl (fun j => zi (z.1 j)))), (a 2, .inl (E.2.1, 15, .inl (fun j => zi (z.2.1 j)))), (a 3, .inl (E.2.1, 15, .inl (fun j => zi (z.2.2.1 j)))), (a 4, .inl (E.2.1, 15, .inl (fun j => zi (z.2.2.2.1 j)))), (a 5, .inl (E.2.1, 15, .inl (fun j => zi (z.2.2.2.2.1 j))))]
def wU (a : Nat → Nat) (E : wE) (z : bU) : va_W := [(a 0, .inr (1, [.ref (a 1), .ref (a 2), .ref (a 3), .ref (a 4), .ref (a 5), .ref (a 6), .int (zi z.2.2.2.2.2.2)])), (a 1, .inl (E.2.1, 40, .inl (fun j => zi (z.1 j)))), (a 2, .inl (E.2.1, 40, .inl (fun j => zi (z.2.1 j)))), (a 3, .inl (E.2.1, 40, .inl (fun j => zi (z.2.2.1 j)))), (a 4, .inl (E.2.1, 40, .inl (fun j => zi (z.2.2.2.1 j)))), (a 5, .inl (E.2.1, 40, .inl (fun j => zi (z.2.2.2.2.1 j)))), (a 6, .inl (E.2.1, 40, .inl (fun j => zi (z.2.2.2.2.2.1 j))))]
def wP (a : Nat → Nat) (E : wE) (z : bP) : va_W := [(a 0, .inr (4, [.ref (a 1), .ref (a 2), .ref (a 3), .ref (a 4), .ref (a 5), .ref (a 6)])), (a 1, .inl (E.2.1, 40, .inl (fun j => zi (z.1 j)))), (a 2, .inl (E.2.1, 40, .inl (fun j => zi (z.2.1 j)))), (a 3, .inl (E.2.1, 40, .inl (fun j => zi (z.2.2.1 j)))), (a 4, .inl (E.2.1, 40, .inl (fun j => zi (z.2.2.2.1 j)))), (a 5, .inl (E.2.1, 7, .inl (fun j => zi (z.2.2.2.2.1 j)))), (a 6, .inl (E.2.1, 12, .inl (fun j => zi (z.2.2.2.2.2 j))))]
def wS (a : Nat → Nat) (E : wE) (z : bS) : va_W := [(a 0, .inr (5, [.ref (a 1), .ref (a 8), .ref (a 15), .int (zi z.2.2.2.1), .int (zi z.2.2.2.2.1), .int (zi z.2.2.2.2.2.1), .int (zi z.2.2.2.2.2.2.1), .int (zi z.2.2.2.2.2.2.2)])), (a 1, .inr (1, [.ref (a 2), .ref (a 3), .ref (a 4), .ref (a 5), .ref (a 6), .ref (a 7), .int (zi z.1.2.2.2.2.2.2)])), (a 2, .inl (E.2.1, 40, .inl (fun j => zi (z.1.1 j)))), (a 3, .inl (E.2.1, 40, .inl (fun j => zi (z.1.2.1 j)))), (a 4, .inl (E.2.1, 40, .inl (fun j => zi (z.1.2.2.1 j)))), (a 5, .inl (E.2.1, 40, .inl (fun j => zi (z.1.2.2.2.1 j)))), (a 6, .inl (E.2.1, 40, .inl (fun j => zi (z.1.2.2.2.2.1 j)))), (a 7, .inl (E.2.1, 40, .inl (fun j => zi (z.1.2.2.2.2.2.1 j)))), (a 8, .inr (4, [.ref (a 9), .ref (a 10), .ref (a 11), .ref (a 12), .ref (a 13), .ref (a 14)])), (a 9, .inl (E.2.1, 40, .inl (fun j => zi (z.2.1.1 j)))), (a 10, .inl (E.2.1, 40, .inl (fun j => zi (z.2.1.2.1 j)))), (a 11, .inl (E.2.1, 40, .inl (fun j => zi (z.2.1.2.2.1 j)))), (a 12, .inl (E.2.1, 40, .inl (fun j => zi (z.2.1.2.2.2.1 j)))), (a 13, .inl (E.2.1, 7, .inl (fun j => zi (z.2.1.2.2.2.2.1 j)))), (a 14, .inl (E.2.1, 12, .inl (fun j => zi (z.2.1.2.2.2.2.2 j)))), (a 15, .inl (E.2.1, 8, .inl (fun j => zi (z.2.2.1 j))))]
def wO (a : Nat → Nat) (E : wE) (z : bO) : va_W := [(a 0, .inr (3, [.ref (a 1), .ref (a 2), .int (zi z.2.2)])), (a 1, .inl (E.2.1, 40, .inl (fun j => zi (z.1 j)))), (a 2, .inl (E.2.1, 40, .inl (fun j => zi (z.2.1 j))))]
def wH (a : Nat → Nat) (E : wE) (z : bH) : va_W := [(a 0, .inr (2, [.ref (a 1), .int (zi z.1)])), (a 1, .inl (E.2.2.2, 4, .inr (.inr (.inr (.inr (h4 (a 2) (a 18) (a 34) (a 50))))))), (a 2, .inr (5, [.ref (a 3), .ref (a 10), .ref (a 17), .int (zi z.2.1.2.2.2.1), .int (zi z.2.1.2.2.2.2.1), .int (zi z.2.1.2.2.2.2.2.1), .int (zi z.2.1.2.2.2.2.2.2.1), .int (zi z.2.1.2.2.2.2.2.2.2)])), (a 3, .inr (1, [.ref (a 4), .ref (a 5), .ref (a 6), .ref (a 7), .ref (a 8), .ref (a 9), .int (zi z.2.1.1.2.2.2.2.2.2)])), (a 4, .inl (E.2.1, 40, .inl (fun j => zi (z.2.1.1.1 j)))), (a 5, .inl (E.2.1, 40, .inl (fun j => zi (z.2.1.1.2.1 j)))), (a 6, .inl (E.2.1, 40, .inl (fun j => zi (z.2.1.1.2.2.1 j)))), (a 7, .inl (E.2.1, 40, .inl (fun j => zi (z.2.1.1.2.2.2.1 j)))), (a 8, .inl (E.2.1, 40, .inl (fun j => zi (z.2.1.1.2.2.2.2.1 j)))), (a 9, .inl (E.2.1, 40, .inl (fun j => zi (z.2.1.1.2.2.2.2.2.1 j)))), (a 10, .inr (4, [.ref (a 11), .ref (a 12), .ref (a 13), .ref (a 14), .ref (a 15), .ref (a 16)])), (a 11, .inl (E.2.1, 40, .inl (fun j => zi (z.2.1.2.1.1 j)))), (a 12, .inl (E.2.1, 40, .inl (fun j => zi (z.2.1.2.1.2.1 j)))), (a 13, .inl (E.2.1, 40, .inl (fun j => zi (z.2.1.2.1.2.2.1 j)))), (a 14, .inl (E.2.1, 40, .inl (fun j => zi (z.2.1.2.1.2.2.2.1 j)))), (a 15, .inl (E.2.1, 7, .inl (fun j => zi (z.2.1.2.1.2.2.2.2.1 j)))), (a 16, .inl (E.2.1, 12, .inl (fun j => zi (z.2.1.2.1.2.2.2.2.2 j)))), (a 17, .inl (E.2.1, 8, .inl (fun j => zi (z.2.1.2.2.1 j)))), (a 18, .inr (5, [.ref (a 19), .ref (a 26), .ref (a 33), .int (zi z.2.2.1.2.2.2.1), .int (zi z.2.2.1.2.2.2.2.1), .int (zi z.2.2.1.2.2.2.2.2.1), .int (zi z.2.2.1.2.2.2.2.2.2.1), .int (zi z.2.2.1.2.2.2.2.2.2.2)])), (a 19, .inr (1, [.ref (a 20), .ref (a 21), .ref (a 22), .ref (a 23), .ref (a 24), .ref (a 25), .int (zi z.2.2.1.1.2.2.2.2.2.2)])), (a 20, .inl (E.2.1, 40, .inl (fun j => zi (z.2.2.1.1.1 j)))), (a 21, .inl (E.2.1, 40, .inl (fun j => zi (z.2.2.1.1.2.1 j)))), (a 22, .inl (E.2.1, 40, .inl (fun j => zi (z.2.2.1.1.2.2.1 j)))), (a 23, .inl (E.2.1, 40, .inl (fun j => zi (z.2.2.1.1.2.2.2.1 j)))), (a 24, .inl (E.2.1, 40, .inl (fun j => zi (z.2.2.1.1.2.2.2.2.1 j)))), (a 25, .inl (E.2.1, 40, .inl (fun j => zi (z.2.2.1.1.2.2.2.2.2.1 j)))), (a 26, .inr (4, [.ref (a 27), .ref (a 28), .ref (a 29), .ref (a 30), .ref (a 31), .ref (a 32)])), (a 27, .inl (E.2.1, 40, .inl (fun j => zi (z.2.2.1.2.1.1 j)))), (a 28, .inl (E.2.1, 40, .inl (fun j => zi (z.2.2.1.2.1.2.1 j)))), (a 29, .inl (E.2.1, 40, .inl (fun j => zi (z.2.2.1.2.1.2.2.1 j)))), (a 30, .inl (E.2.1, 40, .inl (fun j => zi (z.2.2.1.2.1.2.2.2.1 j)))), (a 31, .inl (E.2.1, 7, .inl (fun j => zi (z.2.2.1.2.1.2.2.2.2.1 j)))), (a 32, .inl (E.2.1, 12, .inl (fun j => zi (z.2.2.1.2.1.2.2.2.2.2 j)))), (a 33, .inl (E.2.1, 8, .inl (fun j => zi (z.2.2.1.2.2.1 j)))), (a 34, .inr (5, [.ref (a 35), .ref (a 42), .ref (a 49), .int (zi z.2.2.2.1.2.2.2.1), .int (zi z.2.2.2.1.2.2.2.2.1), .int (zi z.2.2.2.1.2.2.2.2.2.1), .int (zi z.2.2.2.1.2.2.2.2.2.2.1), .int (zi z.2.2.2.1.2.2.2.2.2.2.2)])), (a 35, .inr (1, [.ref (a 36), .ref (a 37), .ref (a 38), .ref (a 39), .ref (a 40), .ref (a 41), .int (zi z.2.2.2.1.1.2.2.2.2.2.2)])), (a 36, .inl (E.2.1, 40, .inl (fun j => zi (z.2.2.2.1.1.1 j)))), (a 37, .inl (E.2.1, 40, .inl (fun j => zi (z.2.2.2.1.1.2.1 j)))), (a 38, .inl (E.2.1, 40, .inl (fun j => zi (z.2.2.2.1.1.2.2.1 j)))), (a 39, .inl (E.2.1, 40, .inl (fun j => zi (z.2.2.2.1.1.2.2.2.1 j)))), (a 40, .inl (E.2.1, 40, .inl (fun j => zi (z.2.2.2.1.1.2.2.2.2.1 j)))), (a 41, .inl (E.2.1, 40, .inl (fun j => zi (z.2.2.2.1.1.2.2.2.2.2.1 j)))), (a 42, .inr (4, [.ref (a 43), .ref (a 44), .ref (a 45), .ref (a 46), .ref (a 47), .ref (a 48)])), (a 43, .inl (E.2.1, 40, .inl (fun j => zi (z.2.2.2.1.2.1.1 j)))), (a 44, .inl (E.2.1, 40, .inl (fun j => zi (z.2.2.2.1.2.1.2.1 j)))), (a 45, .inl (E.2.1, 40, .inl (fun j => zi (z.2.2.2.1.2.1.2.2.1 j)))), (a 46, .inl (E.2.1, 40, .inl (fun j => zi (z.2.2.2.1.2.1.2.2.2.1 j)))), (a 47, .inl (E.2.1, 7, .inl (fun j => zi (z.2.2.2.1.2.1.2.2.2.2.1 j)))), (a 48, .inl (E.2.1, 12, .inl (fun j => zi (z.2.2.2.1.2.1.2.2.2.2.2 j)))), (a 49, .inl (E.2.1, 8, .inl (fun j => zi (z.2.2.2.1.2.2.1 j)))), (a 50, .inr (5, [.ref (a 51), .ref (a 58), .ref (a 65), .int (zi z.2.2.2.2.2.2.2.1), .int (zi z.2.2.2.2.2.2.2.2.1), .int (zi z.2.2.2.2.2.2.2.2.2.1), .int (zi z.2.2.2.2.2.2.2.2.2.2.1), .int (zi z.2.2.2.2.2.2.2.2.2.2.2)])), (a 51, .inr (1, [.ref (a 52), .ref (a 53), .ref (a 54), .ref (a 55), .ref (a 56), .ref (a 57), .int (zi z.2.2.2.2.1.2.2.2.2.2.2)])), (a 52, .inl (E.2.1, 40, .inl (fun j => zi (z.2.2.2.2.1.1 j)))), (a 53, .inl (E.2.1, 40, .inl (fun j => zi (z.2.2.2.2.1.2.1 j)))), (a 54, .inl (E.2.1, 40, .inl (fun j => zi (z.2.2.2.2.1.2.2.1 j)))), (a 55, .inl (E.2.1, 40, .inl (fun j => zi (z.2.2.2.2.1.2.2.2.1 j)))), (a 56, .inl (E.2.1, 40, .inl (fun j => zi (z.2.2.2.2.1.2.2.2.2.1 j)))), (a 57, .inl (E.2.1, 40, .inl (fun j => zi (z.2.2.2.2.1.2.2.2.2.2.1 j)))), (a 58, .inr (4, [.ref (a 59), .ref (a 60), .ref (a 61), .ref (a 62), .ref (a 63), .ref (a 64)])), (a 59, .inl (E.2.1, 40, .inl (fun j => zi (z.2.2.2.2.2.1.1 j)))), (a 60, .inl (E.2.1, 40, .inl (fun j => zi (z.2.2.2.2.2.1.2.1 j)))), (a 61, .inl (E.2.1, 40, .inl (fun j => zi (z.2.2.2.2.2.1.2.2.1 j)))), (a 62, .inl (E.2.1, 40, .inl (fun j => zi (z.2.2.2.2.2.1.2.2.2.1 j)))), (a 63, .inl (E.2.1, 7, .inl (fun j => zi (z.2.2.2.2.2.1.2.2.2.2.1 j)))), (a 64, .inl (E.2.1, 12, .inl (fun j => zi (z.2.2.2.2.2.1.2.2.2.2.2 j)))), (a 65, .inl (E.2.1, 8, .inl (fun j => zi (z.2.2.2.2.2.2.1 j))))]
def wBT (a : Nat → Nat) (E : wE) (z : bBT) : va_W := [(a 0, .inr (0, [.ref (a 1), .ref (a 2), .ref (a 3), .ref (a 4), .ref (a 5), .int (zi z.1.2.2.2.2.2.1), .ref (a 6), .int (zi z.1.2.2.2.2.2.2)])), (a 1, .inl (E.2.1, 15, .inl (fun j => zi (z.1.1 j)))), (a 2, .inl (E.2.1, 15, .inl (fun j => zi (z.1.2.1 j)))), (a 3, .inl (E.2.1, 15, .inl (fun j => zi (z.1.2.2.1 j)))), (a 4, .inl (E.2.1, 15, .inl (fun j => zi (z.1.2.2.2.1 j)))), (a 5, .inl (E.2.1, 15, .inl (fun j => zi (z.1.2.2.2.2.1 j)))), (a 6, .inr (6, [.ref (a 7), .int (zi z.2.2)])), (a 7, .inl (E.2.2.1, 60, .inl (fun j => zi (z.2.1 j))))]
def wX (a : Nat → Nat) (E : wE) (z : bX) : va_W := [(a 0, .inr (7, [.ref (a 7), .ref (a 1), .ref (a 9), .ref (a 12), .ref (a 78), .ref (a 94), .ref (a 110), .int (zi z.2.2.2.2.2.2)])), (a 1, .inr (0, [.ref (a 2), .ref (a 3), .ref (a 4), .ref (a 5), .ref (a 6), .int (zi z.1.1.2.2.2.2.2.1), .ref (a 7), .int (zi z.1.1.2.2.2.2.2.2)])), (a 2, .inl (E.2.1, 15, .inl (fun j => zi (z.1.1.1 j)))), (a 3, .inl (E.2.1, 15, .inl (fun j => zi (z.1.1.2.1 j)))), (a 4, .inl (E.2.1, 15, .inl (fun j => zi (z.1.1.2.2.1 j)))), (a 5, .inl (E.2.1, 15, .inl (fun j => zi (z.1.1.2.2.2.1 j)))), (a 6, .inl (E.2.1, 15, .inl (fun j => zi (z.1.1.2.2.2.2.1 j)))), (a 7, .inr (6, [.ref (a 8), .int (zi z.1.2.2)])), (a 8, .inl (E.2.2.1, 60, .inl (fun j => zi (z.1.2.1 j)))), (a 9, .inr (3, [.ref (a 10), .ref (a 11), .int (zi z.2.1.2.2)])), (a 10, .inl (E.2.1, 40, .inl (fun j => zi (z.2.1.1 j)))), (a 11, .inl (E.2.1, 40, .inl (fun j => zi (z.2.1.2.1 j)))), (a 12, .inr (2, [.ref (a 13), .int (zi z.2.2.1.1)])), (a 13, .inl (E.2.2.2, 4, .inr (.inr (.inr (.inr (h4 (a 14) (a 30) (a 46) (a 62))))))), (a 14, .inr (5, [.ref (a 15), .ref (a 22), .ref (a 29), .int (zi z.2.2.1.2.1.2.2.2.1), .int (zi z.2.2.1.2.1.2.2.2.2.1), .int (zi z.2.2.1.2.1.2.2.2.2.2.1), .int (zi z.2.2.1.2.1.2.2.2.2.2.2.1), .int (zi z.2.2.1.2.1.2.2.2.2.2.2.2)])), (a 15, .inr (1, [.ref (a 16), .ref (a 17), .ref (a 18), .ref (a 19), .ref (a 20), .ref (a 21), .int (zi z.2.2.1.2.1.1.2.2.2.2.2.2)])), (a 16, .inl (E.2.1, 40, .inl (fun j => zi (z.2.2.1.2.1.1.1 j)))), (a 17, .inl (E.2.1, 40, .inl (fun j => zi (z.2.2.1.2.1.1.2.1 j)))), (a 18, .inl (E.2.1, 40, .inl (fun j => zi (z.2.2.1.2.1.1.2.2.1 j)))), (a 19, .inl (E.2.1, 40, .inl (fun j => zi (z.2.2.1.2.1.1.2.2.2.1 j)))), (a 20, .inl (E.2.1, 40, .inl (fun j => zi (z.2.2.1.2.1.1.2.2.2.2.1 j)))), (a 21, .inl (E.2.1, 40, .inl (fun j => zi (z.2.2.1.2.1.1.2.2.2.2.2.1 j)))), (a 22, .inr (4, [.ref (a 23), .ref (a 24), .ref (a 25), .ref (a 26), .ref (a 27), .ref (a 28)])), (a 23, .inl (E.2.1, 40, .inl (fun j => zi (z.2.2.1.2.1.2.1.1 j)))), (a 24, .inl (E.2.1, 40, .inl (fun j => zi (z.2.2.1.2.1.2.1.2.1 j)))), (a 25, .inl (E.2.1, 40, .inl (fun j => zi (z.2.2.1.2.1.2.1.2.2.1 j)))), (a 26, .inl (E.2.1, 40, .inl (fun j => zi (z.2.2.1.2.1.2.1.2.2.2.1 j)))), (a 27, .inl (E.2.1, 7, .inl (fun j => zi (z.2.2.1.2.1.2.1.2.2.2.2.1 j)))), (a 28, .inl (E.2.1, 12, .inl (fun j => zi (z.2.2.1.2.1.2.1.2.2.2.2.2 j)))), (a 29, .inl (E.2.1, 8, .inl (fun j => zi (z.2.2.1.2.1.2.2.1 j)))), (a 30, .inr (5, [.ref (a 31), .ref (a 38), .ref (a 45), .int (zi z.2.2.1.2.2.1.2.2.2.1), .int (zi z.2.2.1.2.2.1.2.2.2.2.1), .int (zi z.2.2.1.2.2.1.2.2.2.2.2.1), .int (zi z.2.2.1.2.2.1.2.2.2.2.2.2.1), .int (zi z.2.2.1.2.2.1.2.2.2.2.2.2.2)])), (a 31, .inr (1, [.ref (a 32), .ref (a 33), .ref (a 34), .ref (a 35), .ref (a 36), .ref (a 37), .int (zi z.2.2.1.2.2.1.1.2.2.2.2.2.2)])), (a 32, .inl (E.2.1, 40, .inl (fun j => zi (z.2.2.1.2.2.1.1.1 j)))), (a 33, .inl (E.2.1, 40, .inl (fun j => zi (z.2.2.1.2.2.1.1.2.1 j)))), (a 34, .inl (E.2.1, 40, .inl (fun j => zi (z.2.2.1.2.2.1.1.2.2.1 j)))), (a 35, .inl (E.2.1, 40, .inl (fun j => zi (z.2.2.1.2.2.1.1.2.2.2.1 j)))), (a 36, .inl (E.2.1, 40, .inl (fun j => zi (z.2.2.1.2.2.1.1.2.2.2.2.1 j)))), (a 37, .inl (E.2.1, 40, .inl (fun j => zi (z.2.2.1.2.2.1.1.2.2.2.2.2.1 j)))), (a 38, .inr (4, [.ref (a 39), .ref (a 40), .ref (a 41), .ref (a 42), .ref (a 43), .ref (a 44)])), (a 39, .inl (E.2.1, 40, .inl (fun j => zi (z.2.2.1.2.2.1.2.1.1 j)))), (a 40, .inl (E.2.1, 40, .inl (fun j => zi (z.2.2.1.2.2.1.2.1.2.1 j)))), (a 41, .inl (E.2.1, 40, .inl (fun j => zi (z.2.2.1.2.2.1.2.1.2.2.1 j)))), (a 42, .inl (E.2.1, 40, .inl (fun j => zi (z.2.2.1.2.2.1.2.1.2.2.2.1 j)))), (a 43, .inl (E.2.1, 7, .inl (fun j => zi (z.2.2.1.2.2.1.2.1.2.2.2.2.1 j)))), (a 44, .inl (E.2.1, 12, .inl (fun j => zi (z.2.2.1.2.2.1.2.1.2.2.2.2.2 j)))), (a 45, .inl (E.2.1, 8, .inl (fun j => zi (z.2.2.1.2.2.1.2.2.1 j)))), (a 46, .inr (5, [.ref (a 47), .ref (a 54), .ref (a 61), .int (zi z.2.2.1.2.2.2.1.2.2.2.1), .int (zi z.2.2.1.2.2.2.1.2.2.2.2.1), .int (zi z.2.2.1.2.2.2.1.2.2.2.2.2.1), .int (zi z.2.2.1.2.2.2.1.2.2.2.2.2.2.1), .int (zi z.2.2.1.2.2.2.1.2.2.2.2.2.2.2)])), (a 47, .inr (1, [.ref (a 48), .ref (a 49), .ref (a 50), .ref (a 51), .ref (a 52), .ref (a 53), .int (zi z.2.2.1.2.2.2.1.1.2.2.2.2.2.2)])), (a 48, .inl (E.2.1, 40, .inl (fun j => zi (z.2.2.1.2.2.2.1.1.1 j)))), (a 49, .inl (E.2.1, 40, .inl (fun j => zi (z.2.2.1.2.2.2.1.1.2.1 j)))), (a 50, .inl (E.2.1, 40, .inl (fun j => zi (z.2.2.1.2.2.2.1.1.2.2.1 j)))), (a 51, .inl (E.2.1, 40, .inl (fun j => zi (z.2.2.1.2.2.2.1.1.2.2.2.1 j)))), (a 52, .inl (E.2.1, 40, .inl (fun j => zi (z.2.2.1.2.2.2.1.1.2.2.2.2.1 j)))), (a 53, .inl (E.2.1, 40, .inl (fun j => zi (z.2.2.1.2.2.2.1.1.2.2.2.2.2.1 j)))), (a 54, .inr (4, [.ref (a 55), .ref (a 56), .ref (a 57), .ref (a 58), .ref (a 59), .ref (a 60)])), (a 55, .inl (E.2.1, 40, .inl (fun j => zi (z.2.2.1.2.2.2.1.2.1.1 j)))), (a 56, .inl (E.2.1, 40, .inl (fun j => zi (z.2.2.1.2.2.2.1.2.1.2.1 j)))), (a 57, .inl (E.2.1, 40, .inl (fun j => zi (z.2.2.1.2.2.2.1.2.1.2.2.1 j)))), (a 58, .inl (E.2.1, 40, .inl (fun j => zi (z.2.2.1.2.2.2.1.2.1.2.2.2.1 j)))), (a 59, .inl (E.2.1, 7, .inl (fun j => zi (z.2.2.1.2.2.2.1.2.1.2.2.2.2.1 j)))), (a 60, .inl (E.2.1, 12, .inl (fun j => zi (z.2.2.1.2.2.2.1.2.1.2.2.2.2.2 j)))), (a 61, .inl (E.2.1, 8, .inl (fun j => zi (z.2.2.1.2.2.2.1.2.2.1 j)))), (a 62, .inr (5, [.ref (a 63), .ref (a 70), .ref (a 77), .int (zi z.2.2.1.2.2.2.2.2.2.2.1), .int (zi z.2.2.1.2.2.2.2.2.2.2.2.1), .int (zi z.2.2.1.2.2.2.2.2.2.2.2.2.1), .int (zi z.2.2.1.2.2.2.2.2.2.2.2.2.2.1), .int (zi z.2.2.1.2.2.2.2.2.2.2.2.2.2.2)])), (a 63, .inr (1, [.ref (a 64), .ref (a 65), .ref (a 66), .ref (a 67), .ref (a 68), .ref (a 69), .int (zi z.2.2.1.2.2.2.2.1.2.2.2.2.2.2)])), (a 64, .inl (E.2.1, 40, .inl (fun j => zi (z.2.2.1.2.2.2.2.1.1 j)))), (a 65, .inl (E.2.1, 40, .inl (fun j => zi (z.2.2.1.2.2.2.2.1.2.1 j)))), (a 66, .inl (E.2.1, 40, .inl (fun j => zi (z.2.2.1.2.2.2.2.1.2.2.1 j)))), (a 67, .inl (E.2.1, 40, .inl (fun j => zi (z.2.2.1.2.2.2.2.1.2.2.2.1 j)))), (a 68, .inl (E.2.1, 40, .inl (fun j => zi (z.2.2.1.2.2.2.2.1.2.2.2.2.1 j)))), (a 69, .inl (E.2.1, 40, .inl (fun j => zi (z.2.2.1.2.2.2.2.1.2.2.2.2.2.1 j)))), (a 70, .inr (4, [.ref (a 71), .ref (a 72), .ref (a 73), .ref (a 74), .ref (a 75), .ref (a 76)])), (a 71, .inl (E.2.1, 40, .inl (fun j => zi (z.2.2.1.2.2.2.2.2.1.1 j)))), (a 72, .inl (E.2.1, 40, .inl (fun j => zi (z.2.2.1.2.2.2.2.2.1.2.1 j)))), (a 73, .inl (E.2.1, 40, .inl (fun j => zi (z.2.2.1.2.2.2.2.2.1.2.2.1 j)))), (a 74, .inl (E.2.1, 40, .inl (fun j => zi (z.2.2.1.2.2.2.2.2.1.2.2.2.1 j)))), (a 75, .inl (E.2.1, 7, .inl (fun j => zi (z.2.2.1.2.2.2.2.2.1.2.2.2.2.1 j)))), (a 76, .inl (E.2.1, 12, .inl (fun j => zi (z.2.2.1.2.2.2.2.2.1.2.2.2.2.2 j)))), (a 77, .inl (E.2.1, 8, .inl (fun j => zi (z.2.2.1.2.2.2.2.2.2.1 j)))), (a 78, .inr (5, [.ref (a 79), .ref (a 86), .ref (a 93), .int (zi z.2.2.2.1.2.2.2.1), .int (zi z.2.2.2.1.2.2.2.2.1), .int (zi z.2.2.2.1.2.2.2.2.2.1), .int (zi z.2.2.2.1.2.2.2.2.2.2.1), .int (zi z.2.2.2.1.2.2.2.2.2.2.2)])), (a 79, .inr (1, [.ref (a 80), .ref (a 81), .ref (a 82), .ref (a 83), .ref (a 84), .ref (a 85), .int (zi z.2.2.2.1.1.2.2.2.2.2.2)])), (a 80, .inl (E.2.1, 40, .inl (fun j => zi (z.2.2.2.1.1.1 j)))), (a 81, .inl (E.2.1, 40, .inl (fun j => zi (z.2.2.2.1.1.2.1 j)))), (a 82, .inl (E.2.1, 40, .inl (fun j => zi (z.2.2.2.1.1.2.2.1 j)))), (a 83, .inl (E.2.1, 40, .inl (fun j => zi (z.2.2.2.1.1.2.2.2.1 j)))), (a 84, .inl (E.2.1, 40, .inl (fun j => zi (z.2.2.2.1.1.2.2.2.2.1 j)))), (a 85, .inl (E.2.1, 40, .inl (fun j => zi (z.2.2.2.1.1.2.2.2.2.2.1 j)))), (a 86, .inr (4, [.ref (a 87), .ref (a 88), .ref (a 89), .ref (a 90), .ref (a 91), .ref (a 92)])), (a 87, .inl (E.2.1, 40, .inl (fun j => zi (z.2.2.2.1.2.1.1 j)))), (a 88, .inl (E.2.1, 40, .inl (fun j => zi (z.2.2.2.1.2.1.2.1 j)))), (a 89, .inl (E.2.1, 40, .inl (fun j => zi (z.2.2.2.1.2.1.2.2.1 j)))), (a 90, .inl (E.2.1, 40, .inl (fun j => zi (z.2.2.2.1.2.1.2.2.2.1 j)))), (a 91, .inl (E.2.1, 7, .inl (fun j => zi (z.2.2.2.1.2.1.2.2.2.2.1 j)))), (a 92, .inl (E.2.1, 12, .inl (fun j => zi (z.2.2.2.1.2.1.2.2.2.2.2 j)))), (a 93, .inl (E.2.1, 8, .inl (fun j => zi (z.2.2.2.1.2.2.1 j)))), (a 94, .inr (5, [.ref (a 95), .ref (a 102), .ref (a 109), .int (zi z.2.2.2.2.1.2.2.2.1), .int (zi z.2.2.2.2.1.2.2.2.2.1), .int (zi z.2.2.2.2.1.2.2.2.2.2.1), .int (zi z.2.2.2.2.1.2.2.2.2.2.2.1), .int (zi z.2.2.2.2.1.2.2.2.2.2.2.2)])), (a 95, .inr (1, [.ref (a 96), .ref (a 97), .ref (a 98), .ref (a 99), .ref (a 100), .ref (a 101), .int (zi z.2.2.2.2.1.1.2.2.2.2.2.2)])), (a 96, .inl (E.2.1, 40, .inl (fun j => zi (z.2.2.2.2.1.1.1 j)))), (a 97, .inl (E.2.1, 40, .inl (fun j => zi (z.2.2.2.2.1.1.2.1 j)))), (a 98, .inl (E.2.1, 40, .inl (fun j => zi (z.2.2.2.2.1.1.2.2.1 j)))), (a 99, .inl (E.2.1, 40, .inl (fun j => zi (z.2.2.2.2.1.1.2.2.2.1 j)))), (a 100, .inl (E.2.1, 40, .inl (fun j => zi (z.2.2.2.2.1.1.2.2.2.2.1 j)))), (a 101, .inl (E.2.1, 40, .inl (fun j => zi (z.2.2.2.2.1.1.2.2.2.2.2.1 j)))), (a 102, .inr (4, [.ref (a 103), .ref (a 104), .ref (a 105), .ref (a 106), .ref (a 107), .ref (a 108)])), (a 103, .inl (E.2.1, 40, .inl (fun j => zi (z.2.2.2.2.1.2.1.1 j)))), (a 104, .inl (E.2.1, 40, .inl (fun j => zi (z.2.2.2.2.1.2.1.2.1 j)))), (a 105, .inl (E.2.1, 40, .inl (fun j => zi (z.2.2.2.2.1.2.1.2.2.1 j)))), (a 106, .inl (E.2.1, 40, .inl (fun j => zi (z.2.2.2.2.1.2.1.2.2.2.1 j)))), (a 107, .inl (E.2.1, 7, .inl (fun j => zi (z.2.2.2.2.1.2.1.2.2.2.2.1 j)))), (a 108, .inl (E.2.1, 12, .inl (fun j => zi (z.2.2.2.2.1.2.1.2.2.2.2.2 j)))), (a 109, .inl (E.2.1, 8, .inl (fun j => zi (z.2.2.2.2.1.2.2.1 j)))), (a 110, .inr (5, [.ref (a 111), .ref (a 118), .ref (a 125), .int (zi z.2.2.2.2.2.1.2.2.2.1), .int (zi z.2.2.2.2.2.1.2.2.2.2.1), .int (zi z.2.2.2.2.2.1.2.2.2.2.2.1), .int (zi z.2.2.2.2.2.1.2.2.2.2.2.2.1), .int (zi z.2.2.2.2.2.1.2.2.2.2.2.2.2)])), (a 111, .inr (1, [.ref (a 112), .ref (a 113), .ref (a 114), .ref (a 115), .ref (a 116), .ref (a 117), .int (zi z.2.2.2.2.2.1.1.2.2.2.2.2.2)])), (a 112, .inl (E.2.1, 40, .inl (fun j => zi (z.2.2.2.2.2.1.1.1 j)))), (a 113, .inl (E.2.1, 40, .inl (fun j => zi (z.2.2.2.2.2.1.1.2.1 j)))), (a 114, .inl (E.2.1, 40, .inl (fun j => zi (z.2.2.2.2.2.1.1.2.2.1 j)))), (a 115, .inl (E.2.1, 40, .inl (fun j => zi (z.2.2.2.2.2.1.1.2.2.2.1 j)))), (a 116, .inl (E.2.1, 40, .inl (fun j => zi (z.2.2.2.2.2.1.1.2.2.2.2.1 j)))), (a 117, .inl (E.2.1, 40, .inl (fun j => zi (z.2.2.2.2.2.1.1.2.2.2.2.2.1 j)))), (a 118, .inr (4, [.ref (a 119), .ref (a 120), .ref (a 121), .ref (a 122), .ref (a 123), .ref (a 124)])), (a 119, .inl (E.2.1, 40, .inl (fun j => zi (z.2.2.2.2.2.1.2.1.1 j)))), (a 120, .inl (E.2.1, 40, .inl (fun j => zi (z.2.2.2.2.2.1.2.1.2.1 j)))), (a 121, .inl (E.2.1, 40, .inl (fun j => zi (z.2.2.2.2.2.1.2.1.2.2.1 j)))), (a 122, .inl (E.2.1, 40, .inl (fun j => zi (z.2.2.2.2.2.1.2.1.2.2.2.1 j)))), (a 123, .inl (E.2.1, 7, .inl (fun j => zi (z.2.2.2.2.2.1.2.1.2.2.2.2.1 j)))), (a 124, .inl (E.2.1, 12, .inl (fun j => zi (z.2.2.2.2.2.1.2.1.2.2.2.2.2 j)))), (a 125, .inl (E.2.1, 8, .inl (fun j => zi (z.2.2.2.2.2.1.2.2.1 j))))]
def wM (a : Nat → Nat) (E : wE) (z : bM) : va_W := [(a 0, .inr (8, [.ref (a 1), .ref (a 2), .int (zi z.2.2.1), .ref (a 3), .int (zi z.2.2.2.2.1), .ref (a 4), .ref (a 5), .int (zi z.2.2.2.2.2.2.2.1), .ref (a 6), .int (zi z.2.2.2.2.2.2.2.2.2.1), .int (zi z.2.2.2.2.2.2.2.2.2.2.1), .int (zi z.2.2.2.2.2.2.2.2.2.2.2.1), .ref (a 7)])), (a 1, .inl (E.2.1, 415, .inl (fun j => zi (z.1 j)))), (a 2, .inl (E.2.1, 1660, .inl (fun j => zi (z.2.1 j)))), (a 3, .inl (E.2.1, 415, .inl (fun j => zi (z.2.2.2.1 j)))), (a 4, .inl (E.2.1, 415, .inl (fun j => zi (z.2.2.2.2.2.1 j)))), (a 5, .inl (E.2.1, 40, .inl (fun j => zi (z.2.2.2.2.2.2.1 j)))), (a 6, .inl (E.2.1, 60, .inl (fun j => zi (z.2.2.2.2.2.2.2.2.1 j)))), (a 7, .inl (E.2.1, 100, .inl (fun j => zi (z.2.2.2.2.2.2.2.2.2.2.2.2 j))))]
def wUU (a b : Nat → Nat) (E : wE) (z : bUU) : va_W := [(a 0, .inr (1, [.ref (a 1), .ref (a 2), .ref (a 3), .ref (a 4), .ref (a 5), .ref (a 6), .int (zi z.1.2.2.2.2.2.2)])), (a 1, .inl (E.2.1, 40, .inl (fun j => zi (z.1.1 j)))), (a 2, .inl (E.2.1, 40, .inl (fun j => zi (z.1.2.1 j)))), (a 3, .inl (E.2.1, 40, .inl (fun j => zi (z.1.2.2.1 j)))), (a 4, .inl (E.2.1, 40, .inl (fun j => zi (z.1.2.2.2.1 j)))), (a 5, .inl (E.2.1, 40, .inl (fun j => zi (z.1.2.2.2.2.1 j)))), (a 6, .inl (E.2.1, 40, .inl (fun j => zi (z.1.2.2.2.2.2.1 j)))), (b 0, .inr (1, [.ref (b 1), .ref (b 2), .ref (b 3), .ref (b 4), .ref (b 5), .ref (b 6), .int (zi z.2.2.2.2.2.2.2)])), (b 1, .inl (E.2.1, 40, .inl (fun j => zi (z.2.1 j)))), (b 2, .inl (E.2.1, 40, .inl (fun j => zi (z.2.2.1 j)))), (b 3, .inl (E.2.1, 40, .inl (fun j => zi (z.2.2.2.1 j)))), (b 4, .inl (E.2.1, 40, .inl (fun j => zi (z.2.2.2.2.1 j)))), (b 5, .inl (E.2.1, 40, .inl (fun j => zi (z.2.2.2.2.2.1 j)))), (b 6, .inl (E.2.1, 40, .inl (fun j => zi (z.2.2.2.2.2.2.1 j))))]
def wPP (a b : Nat → Nat) (E : wE) (z : bPP) : va_W := [(a 0, .inr (4, [.ref (a 1), .ref (a 2), .ref (a 3), .ref (a 4), .ref (a 5), .ref (a 6)])), (a 1, .inl (E.2.1, 40, .inl (fun j => zi (z.1.1 j)))), (a 2, .inl (E.2.1, 40, .inl (fun j => zi (z.1.2.1 j)))), (a 3, .inl (E.2.1, 40, .inl (fun j => zi (z.1.2.2.1 j)))), (a 4, .inl (E.2.1, 40, .inl (fun j => zi (z.1.2.2.2.1 j)))), (a 5, .inl (E.2.1, 7, .inl (fun j => zi (z.1.2.2.2.2.1 j)))), (a 6, .inl (E.2.1, 12, .inl (fun j => zi (z.1.2.2.2.2.2 j)))), (b 0, .inr (4, [.ref (b 1), .ref (b 2), .ref (b 3), .ref (b 4), .ref (b 5), .ref (b 6)])), (b 1, .inl (E.2.1, 40, .inl (fun j => zi (z.2.1 j)))), (b 2, .inl (E.2.1, 40, .inl (fun j => zi (z.2.2.1 j)))), (b 3, .inl (E.2.1, 40, .inl (fun j => zi (z.2.2.2.1 j)))), (b 4, .inl (E.2.1, 40, .inl (fun j => zi (z.2.2.2.2.1 j)))), (b 5, .inl (E.2.1, 7, .inl (fun j => zi (z.2.2.2.2.2.1 j)))), (b 6, .inl (E.2.1, 12, .inl (fun j => zi (z.2.2.2.2.2.2 j))))]
def wSS (a b : Nat → Nat) (E : wE) (z : bSS) : va_W := [(a 0, .inr (5, [.ref (a 1), .ref (a 8), .ref (a 15), .int (zi z.1.2.2.2.1), .int (zi z.1.2.2.2.2.1), .int (zi z.1.2.2.2.2.2.1), .int (zi z.1.2.2.2.2.2.2.1), .int (zi z.1.2.2.2.2.2.2.2)])), (a 1, .inr (1, [.ref (a 2), .ref (a 3), .ref (a 4), .ref (a 5), .ref (a 6), .ref (a 7), .int (zi z.1.1.2.2.2.2.2.2)])), (a 2, .inl (E.2.1, 40, .inl (fun j => zi (z.1.1.1 j)))), (a 3, .inl (E.2.1, 40, .inl (fun j => zi (z.1.1.2.1 j)))), (a 4, .inl (E.2.1, 40, .inl (fun j => zi (z.1.1.2.2.1 j)))), (a 5, .inl (E.2.1, 40, .inl (fun j => zi (z.1.1.2.2.2.1 j)))), (a 6, .inl (E.2.1, 40, .inl (fun j => zi (z.1.1.2.2.2.2.1 j)))), (a 7, .inl (E.2.1, 40, .inl (fun j => zi (z.1.1.2.2.2.2.2.1 j)))), (a 8, .inr (4, [.ref (a 9), .ref (a 10), .ref (a 11), .ref (a 12), .ref (a 13), .ref (a 14)])), (a 9, .inl (E.2.1, 40, .inl (fun j => zi (z.1.2.1.1 j)))), (a 10, .inl (E.2.1, 40, .inl (fun j => zi (z.1.2.1.2.1 j)))), (a 11, .inl (E.2.1, 40, .inl (fun j => zi (z.1.2.1.2.2.1 j)))), (a 12, .inl (E.2.1, 40, .inl (fun j => zi (z.1.2.1.2.2.2.1 j)))), (a 13, .inl (E.2.1, 7, .inl (fun j => zi (z.1.2.1.2.2.2.2.1 j)))), (a 14, .inl (E.2.1, 12, .inl (fun j => zi (z.1.2.1.2.2.2.2.2 j)))), (a 15, .inl (E.2.1, 8, .inl (fun j => zi (z.1.2.2.1 j)))), (b 0, .inr (5, [.ref (b 1), .ref (b 8), .ref (b 15), .int (zi z.2.2.2.2.1), .int (zi z.2.2.2.2.2.1), .int (zi z.2.2.2.2.2.2.1), .int (zi z.2.2.2.2.2.2.2.1), .int (zi z.2.2.2.2.2.2.2.2)])), (b 1, .inr (1, [.ref (b 2), .ref (b 3), .ref (b 4), .ref (b 5), .ref (b 6), .ref (b 7), .int (zi z.2.1.2.2.2.2.2.2)])), (b 2, .inl (E.2.1, 40, .inl (fun j => zi (z.2.1.1 j)))), (b 3, .inl (E.2.1, 40, .inl (fun j => zi (z.2.1.2.1 j)))), (b 4, .inl (E.2.1, 40, .inl (fun j => zi (z.2.1.2.2.1 j)))), (b 5, .inl (E.2.1, 40, .inl (fun j => zi (z.2.1.2.2.2.1 j)))), (b 6, .inl (E.2.1, 40, .inl (fun j => zi (z.2.1.2.2.2.2.1 j)))), (b 7, .inl (E.2.1, 40, .inl (fun j => zi (z.2.1.2.2.2.2.2.1 j)))), (b 8, .inr (4, [.ref (b 9), .ref (b 10), .ref (b 11), .ref (b 12), .ref (b 13), .ref (b 14)])), (b 9, .inl (E.2.1, 40, .inl (fun j => zi (z.2.2.1.1 j)))), (b 10, .inl (E.2.1, 40, .inl (fun j => zi (z.2.2.1.2.1 j)))), (b 11, .inl (E.2.1, 40, .inl (fun j => zi (z.2.2.1.2.2.1 j)))), (b 12, .inl (E.2.1, 40, .inl (fun j => zi (z.2.2.1.2.2.2.1 j)))), (b 13, .inl (E.2.1, 7, .inl (fun j => zi (z.2.2.1.2.2.2.2.1 j)))), (b 14, .inl (E.2.1, 12, .inl (fun j => zi (z.2.2.1.2.2.2.2.2 j)))), (b 15, .inl (E.2.1, 8, .inl (fun j => zi (z.2.2.2.1 j))))]
def wSB (a b : Nat → Nat) (E : wE) (z : bSB) : va_W := [(a 0, .inr (5, [.ref (a 1), .ref (a 8), .ref (a 15), .int (zi z.1.2.2.2.1), .int (zi z.1.2.2.2.2.1), .int (zi z.1.2.2.2.2.2.1), .int (zi z.1.2.2.2.2.2.2.1), .int (zi z.1.2.2.2.2.2.2.2)])), (a 1, .inr (1, [.ref (a 2), .ref (a 3), .ref (a 4), .ref (a 5), .ref (a 6), .ref (a 7), .int (zi z.1.1.2.2.2.2.2.2)])), (a 2, .inl (E.2.1, 40, .inl (fun j => zi (z.1.1.1 j)))), (a 3, .inl (E.2.1, 40, .inl (fun j => zi (z.1.1.2.1 j)))), (a 4, .inl (E.2.1, 40, .inl (fun j => zi (z.1.1.2.2.1 j)))), (a 5, .inl (E.2.1, 40, .inl (fun j => zi (z.1.1.2.2.2.1 j)))), (a 6, .inl (E.2.1, 40, .inl (fun j => zi (z.1.1.2.2.2.2.1 j)))), (a 7, .inl (E.2.1, 40, .inl (fun j => zi (z.1.1.2.2.2.2.2.1 j)))), (a 8, .inr (4, [.ref (a 9), .ref (a 10), .ref (a 11), .ref (a 12), .ref (a 13), .ref (a 14)])), (a 9, .inl (E.2.1, 40, .inl (fun j => zi (z.1.2.1.1 j)))), (a 10, .inl (E.2.1, 40, .inl (fun j => zi (z.1.2.1.2.1 j)))), (a 11, .inl (E.2.1, 40, .inl (fun j => zi (z.1.2.1.2.2.1 j)))), (a 12, .inl (E.2.1, 40, .inl (fun j => zi (z.1.2.1.2.2.2.1 j)))), (a 13, .inl (E.2.1, 7, .inl (fun j => zi (z.1.2.1.2.2.2.2.1 j)))), (a 14, .inl (E.2.1, 12, .inl (fun j => zi (z.1.2.1.2.2.2.2.2 j)))), (a 15, .inl (E.2.1, 8, .inl (fun j => zi (z.1.2.2.1 j)))), (b 0, .inr (0, [.ref (b 1), .ref (b 2), .ref (b 3), .ref (b 4), .ref (b 5), .int (zi z.2.2.2.2.2.2.1), .ref (b 6), .int (zi z.2.2.2.2.2.2.2)])), (b 1, .inl (E.2.1, 15, .inl (fun j => zi (z.2.1 j)))), (b 2, .inl (E.2.1, 15, .inl (fun j => zi (z.2.2.1 j)))), (b 3, .inl (E.2.1, 15, .inl (fun j => zi (z.2.2.2.1 j)))), (b 4, .inl (E.2.1, 15, .inl (fun j => zi (z.2.2.2.2.1 j)))), (b 5, .inl (E.2.1, 15, .inl (fun j => zi (z.2.2.2.2.2.1 j))))]
def wSO (a b : Nat → Nat) (E : wE) (z : bSO) : va_W := [(a 0, .inr (5, [.ref (a 1), .ref (a 8), .ref (a 15), .int (zi z.1.2.2.2.1), .int (zi z.1.2.2.2.2.1), .int (zi z.1.2.2.2.2.2.1), .int (zi z.1.2.2.2.2.2.2.1), .int (zi z.1.2.2.2.2.2.2.2)])), (a 1, .inr (1, [.ref (a 2), .ref (a 3), .ref (a 4), .ref (a 5), .ref (a 6), .ref (a 7), .int (zi z.1.1.2.2.2.2.2.2)])), (a 2, .inl (E.2.1, 40, .inl (fun j => zi (z.1.1.1 j)))), (a 3, .inl (E.2.1, 40, .inl (fun j => zi (z.1.1.2.1 j)))), (a 4, .inl (E.2.1, 40, .inl (fun j => zi (z.1.1.2.2.1 j)))), (a 5, .inl (E.2.1, 40, .inl (fun j => zi (z.1.1.2.2.2.1 j)))), (a 6, .inl (E.2.1, 40, .inl (fun j => zi (z.1.1.2.2.2.2.1 j)))), (a 7, .inl (E.2.1, 40, .inl (fun j => zi (z.1.1.2.2.2.2.2.1 j)))), (a 8, .inr (4, [.ref (a 9), .ref (a 10), .ref (a 11), .ref (a 12), .ref (a 13), .ref (a 14)])), (a 9, .inl (E.2.1, 40, .inl (fun j => zi (z.1.2.1.1 j)))), (a 10, .inl (E.2.1, 40, .inl (fun j => zi (z.1.2.1.2.1 j)))), (a 11, .inl (E.2.1, 40, .inl (fun j => zi (z.1.2.1.2.2.1 j)))), (a 12, .inl (E.2.1, 40, .inl (fun j => zi (z.1.2.1.2.2.2.1 j)))), (a 13, .inl (E.2.1, 7, .inl (fun j => zi (z.1.2.1.2.2.2.2.1 j)))), (a 14, .inl (E.2.1, 12, .inl (fun j => zi (z.1.2.1.2.2.2.2.2 j)))), (a 15, .inl (E.2.1, 8, .inl (fun j => zi (z.1.2.2.1 j)))), (b 0, .inr (3, [.ref (b 1), .ref (b 2), .int (zi z.2.2.2)])), (b 1, .inl (E.2.1, 40, .inl (fun j => zi (z.2.1 j)))), (b 2, .inl (E.2.1, 40, .inl (fun j => zi (z.2.2.1 j))))]
def wOS (a b : Nat → Nat) (E : wE) (z : bOS) : va_W := [(a 0, .inr (3, [.ref (a 1), .ref (a 2), .int (zi z.1.2.2)])), (a 1, .inl (E.2.1, 40, .inl (fun j => zi (z.1.1 j)))), (a 2, .inl (E.2.1, 40, .inl (fun j => zi (z.1.2.1 j)))), (b 0, .inr (5, [.ref (b 1), .ref (b 8), .ref (b 15), .int (zi z.2.2.2.2.1), .int (zi z.2.2.2.2.2.1), .int (zi z.2.2.2.2.2.2.1), .int (zi z.2.2.2.2.2.2.2.1), .int (zi z.2.2.2.2.2.2.2.2)])), (b 1, .inr (1, [.ref (b 2), .ref (b 3), .ref (b 4), .ref (b 5), .ref (b 6), .ref (b 7), .int (zi z.2.1.2.2.2.2.2.2)])), (b 2, .inl (E.2.1, 40, .inl (fun j => zi (z.2.1.1 j)))), (b 3, .inl (E.2.1, 40, .inl (fun j => zi (z.2.1.2.1 j)))), (b 4, .inl (E.2.1, 40, .inl (fun j => zi (z.2.1.2.2.1 j)))), (b 5, .inl (E.2.1, 40, .inl (fun j => zi (z.2.1.2.2.2.1 j)))), (b 6, .inl (E.2.1, 40, .inl (fun j => zi (z.2.1.2.2.2.2.1 j)))), (b 7, .inl (E.2.1, 40, .inl (fun j => zi (z.2.1.2.2.2.2.2.1 j)))), (b 8, .inr (4, [.ref (b 9), .ref (b 10), .ref (b 11), .ref (b 12), .ref (b 13), .ref (b 14)])), (b 9, .inl (E.2.1, 40, .inl (fun j => zi (z.2.2.1.1 j)))), (b 10, .inl (E.2.1, 40, .inl (fun j => zi (z.2.2.1.2.1 j)))), (b 11, .inl (E.2.1, 40, .inl (fun j => zi (z.2.2.1.2.2.1 j)))), (b 12, .inl (E.2.1, 40, .inl (fun j => zi (z.2.2.1.2.2.2.1 j)))), (b 13, .inl (E.2.1, 7, .inl (fun j => zi (z.2.2.1.2.2.2.2.1 j)))), (b 14, .inl (E.2.1, 12, .inl (fun j => zi (z.2.2.1.2.2.2.2.2 j)))), (b 15, .inl (E.2.1, 8, .inl (fun j => zi (z.2.2.2.1 j))))]
def wHS (a b : Nat → Nat) (E : wE) (z : bHS) : va_W := [(a 0, .inr (2, [.ref (a 1), .int (zi z.1.1)])), (a 1, .inl (E.2.2.2, 4, .inr (.inr (.inr (.inr (h4 (a 2) (a 18) (a 34) (a 50))))))), (a 2, .inr (5, [.ref (a 3), .ref (a 10), .ref (a 17), .int (zi z.1.2.1.2.2.2.1), .int (zi z.1.2.1.2.2.2.2.1), .int (zi z.1.2.1.2.2.2.2.2.1), .int (zi z.1.2.1.2.2.2.2.2.2.1), .int (zi z.1.2.1.2.2.2.2.2.2.2)])), (a 3, .inr (1, [.ref (a 4), .ref (a 5), .ref (a 6), .ref (a 7), .ref (a 8), .ref (a 9), .int (zi z.1.2.1.1.2.2.2.2.2.2)])), (a 4, .inl (E.2.1, 40, .inl (fun j => zi (z.1.2.1.1.1 j)))), (a 5, .inl (E.2.1, 40, .inl (fun j => zi (z.1.2.1.1.2.1 j)))), (a 6, .inl (E.2.1, 40, .inl (fun j => zi (z.1.2.1.1.2.2.1 j)))), (a 7, .inl (E.2.1, 40, .inl (fun j => zi (z.1.2.1.1.2.2.2.1 j)))), (a 8, .inl (E.2.1, 40, .inl (fun j => zi (z.1.2.1.1.2.2.2.2.1 j)))), (a 9, .inl (E.2.1, 40, .inl (fun j => zi (z.1.2.1.1.2.2.2.2.2.1 j)))), (a 10, .inr (4, [.ref (a 11), .ref (a 12), .ref (a 13), .ref (a 14), .ref (a 15), .ref (a 16)])), (a 11, .inl (E.2.1, 40, .inl (fun j => zi (z.1.2.1.2.1.1 j)))), (a 12, .inl (E.2.1, 40, .inl (fun j => zi (z.1.2.1.2.1.2.1 j)))), (a 13, .inl (E.2.1, 40, .inl (fun j => zi (z.1.2.1.2.1.2.2.1 j)))), (a 14, .inl (E.2.1, 40, .inl (fun j => zi (z.1.2.1.2.1.2.2.2.1 j)))), (a 15, .inl (E.2.1, 7, .inl (fun j => zi (z.1.2.1.2.1.2.2.2.2.1 j)))), (a 16, .inl (E.2.1, 12, .inl (fun j => zi (z.1.2.1.2.1.2.2.2.2.2 j)))), (a 17, .inl (E.2.1, 8, .inl (fun j => zi (z.1.2.1.2.2.1 j)))), (a 18, .inr (5, [.ref (a 19), .ref (a 26), .ref (a 33), .int (zi z.1.2.2.1.2.2.2.1), .int (zi z.1.2.2.1.2.2.2.2.1), .int (zi z.1.2.2.1.2.2.2.2.2.1), .int (zi z.1.2.2.1.2.2.2.2.2.2.1), .int (zi z.1.2.2.1.2.2.2.2.2.2.2)])), (a 19, .inr (1, [.ref (a 20), .ref (a 21), .ref (a 22), .ref (a 23), .ref (a 24), .ref (a 25), .int (zi z.1.2.2.1.1.2.2.2.2.2.2)])), (a 20, .inl (E.2.1, 40, .inl (fun j => zi (z.1.2.2.1.1.1 j)))), (a 21, .inl (E.2.1, 40, .inl (fun j => zi (z.1.2.2.1.1.2.1 j)))), (a 22, .inl (E.2.1, 40, .inl (fun j => zi (z.1.2.2.1.1.2.2.1 j)))), (a 23, .inl (E.2.1, 40, .inl (fun j => zi (z.1.2.2.1.1.2.2.2.1 j)))), (a 24, .inl (E.2.1, 40, .inl (fun j => zi (z.1.2.2.1.1.2.2.2.2.1 j)))), (a 25, .inl (E.2.1, 40, .inl (fun j => zi (z.1.2.2.1.1.2.2.2.2.2.1 j)))), (a 26, .inr (4, [.ref (a 27), .ref (a 28), .ref (a 29), .ref (a 30), .ref (a 31), .ref (a 32)])), (a 27, .inl (E.2.1, 40, .inl (fun j => zi (z.1.2.2.1.2.1.1 j)))), (a 28, .inl (E.2.1, 40, .inl (fun j => zi (z.1.2.2.1.2.1.2.1 j)))), (a 29, .inl (E.2.1, 40, .inl (fun j => zi (z.1.2.2.1.2.1.2.2.1 j)))), (a 30, .inl (E.2.1, 40, .inl (fun j => zi (z.1.2.2.1.2.1.2.2.2.1 j)))), (a 31, .inl (E.2.1, 7, .inl (fun j => zi (z.1.2.2.1.2.1.2.2.2.2.1 j)))), (a 32, .inl (E.2.1, 12, .inl (fun j => zi (z.1.2.2.1.2.1.2.2.2.2.2 j)))), (a 33, .inl (E.2.1, 8, .inl (fun j => zi (z.1.2.2.1.2.2.1 j)))), (a 34, .inr (5, [.ref (a 35), .ref (a 42), .ref (a 49), .int (zi z.1.2.2.2.1.2.2.2.1), .int (zi z.1.2.2.2.1.2.2.2.2.1), .int (zi z.1.2.2.2.1.2.2.2.2.2.1), .int (zi z.1.2.2.2.1.2.2.2.2.2.2.1), .int (zi z.1.2.2.2.1.2.2.2.2.2.2.2)])), (a 35, .inr (1, [.ref (a 36), .ref (a 37), .ref (a 38), .ref (a 39), .ref (a 40), .ref (a 41), .int (zi z.1.2.2.2.1.1.2.2.2.2.2.2)])), (a 36, .inl (E.2.1, 40, .inl (fun j => zi (z.1.2.2.2.1.1.1 j)))), (a 37, .inl (E.2.1, 40, .inl (fun j => zi (z.1.2.2.2.1.1.2.1 j)))), (a 38, .inl (E.2.1, 40, .inl (fun j => zi (z.1.2.2.2.1.1.2.2.1 j)))), (a 39, .inl (E.2.1, 40, .inl (fun j => zi (z.1.2.2.2.1.1.2.2.2.1 j)))), (a 40, .inl (E.2.1, 40, .inl (fun j => zi (z.1.2.2.2.1.1.2.2.2.2.1 j)))), (a 41, .inl (E.2.1, 40, .inl (fun j => zi (z.1.2.2.2.1.1.2.2.2.2.2.1 j)))), (a 42, .inr (4, [.ref (a 43), .ref (a 44), .ref (a 45), .ref (a 46), .ref (a 47), .ref (a 48)])), (a 43, .inl (E.2.1, 40, .inl (fun j => zi (z.1.2.2.2.1.2.1.1 j)))), (a 44, .inl (E.2.1, 40, .inl (fun j => zi (z.1.2.2.2.1.2.1.2.1 j)))), (a 45, .inl (E.2.1, 40, .inl (fun j => zi (z.1.2.2.2.1.2.1.2.2.1 j)))), (a 46, .inl (E.2.1, 40, .inl (fun j => zi (z.1.2.2.2.1.2.1.2.2.2.1 j)))), (a 47, .inl (E.2.1, 7, .inl (fun j => zi (z.1.2.2.2.1.2.1.2.2.2.2.1 j)))), (a 48, .inl (E.2.1, 12, .inl (fun j => zi (z.1.2.2.2.1.2.1.2.2.2.2.2 j)))), (a 49, .inl (E.2.1, 8, .inl (fun j => zi (z.1.2.2.2.1.2.2.1 j)))), (a 50, .inr (5, [.ref (a 51), .ref (a 58), .ref (a 65), .int (zi z.1.2.2.2.2.2.2.2.1), .int (zi z.1.2.2.2.2.2.2.2.2.1), .int (zi z.1.2.2.2.2.2.2.2.2.2.1), .int (zi z.1.2.2.2.2.2.2.2.2.2.2.1), .int (zi z.1.2.2.2.2.2.2.2.2.2.2.2)])), (a 51, .inr (1, [.ref (a 52), .ref (a 53), .ref (a 54), .ref (a 55), .ref (a 56), .ref (a 57), .int (zi z.1.2.2.2.2.1.2.2.2.2.2.2)])), (a 52, .inl (E.2.1, 40, .inl (fun j => zi (z.1.2.2.2.2.1.1 j)))), (a 53, .inl (E.2.1, 40, .inl (fun j => zi (z.1.2.2.2.2.1.2.1 j)))), (a 54, .inl (E.2.1, 40, .inl (fun j => zi (z.1.2.2.2.2.1.2.2.1 j)))), (a 55, .inl (E.2.1, 40, .inl (fun j => zi (z.1.2.2.2.2.1.2.2.2.1 j)))), (a 56, .inl (E.2.1, 40, .inl (fun j => zi (z.1.2.2.2.2.1.2.2.2.2.1 j)))), (a 57, .inl (E.2.1, 40, .inl (fun j => zi (z.1.2.2.2.2.1.2.2.2.2.2.1 j)))), (a 58, .inr (4, [.ref (a 59), .ref (a 60), .ref (a 61), .ref (a 62), .ref (a 63), .ref (a 64)])), (a 59, .inl (E.2.1, 40, .inl (fun j => zi (z.1.2.2.2.2.2.1.1 j)))), (a 60, .inl (E.2.1, 40, .inl (fun j => zi (z.1.2.2.2.2.2.1.2.1 j)))), (a 61, .inl (E.2.1, 40, .inl (fun j => zi (z.1.2.2.2.2.2.1.2.2.1 j)))), (a 62, .inl (E.2.1, 40, .inl (fun j => zi (z.1.2.2.2.2.2.1.2.2.2.1 j)))), (a 63, .inl (E.2.1, 7, .inl (fun j => zi (z.1.2.2.2.2.2.1.2.2.2.2.1 j)))), (a 64, .inl (E.2.1, 12, .inl (fun j => zi (z.1.2.2.2.2.2.1.2.2.2.2.2 j)))), (a 65, .inl (E.2.1, 8, .inl (fun j => zi (z.1.2.2.2.2.2.2.1 j)))), (b 0, .inr (5, [.ref (b 1), .ref (b 8), .ref (b 15), .int (zi z.2.2.2.2.1), .int (zi z.2.2.2.2.2.1), .int (zi z.2.2.2.2.2.2.1), .int (zi z.2.2.2.2.2.2.2.1), .int (zi z.2.2.2.2.2.2.2.2)])), (b 1, .inr (1, [.ref (b 2), .ref (b 3), .ref (b 4), .ref (b 5), .ref (b 6), .ref (b 7), .int (zi z.2.1.2.2.2.2.2.2)])), (b 2, .inl (E.2.1, 40, .inl (fun j => zi (z.2.1.1 j)))), (b 3, .inl (E.2.1, 40, .inl (fun j => zi (z.2.1.2.1 j)))), (b 4, .inl (E.2.1, 40, .inl (fun j => zi (z.2.1.2.2.1 j)))), (b 5, .inl (E.2.1, 40, .inl (fun j => zi (z.2.1.2.2.2.1 j)))), (b 6, .inl (E.2.1, 40, .inl (fun j => zi (z.2.1.2.2.2.2.1 j)))), (b 7, .inl (E.2.1, 40, .inl (fun j => zi (z.2.1.2.2.2.2.2.1 j)))), (b 8, .inr (4, [.ref (b 9), .ref (b 10), .ref (b 11), .ref (b 12), .ref (b 13), .ref (b 14)])), (b 9, .inl (E.2.1, 40, .inl (fun j => zi (z.2.2.1.1 j)))), (b 10, .inl (E.2.1, 40, .inl (fun j => zi (z.2.2.1.2.1 j)))), (b 11, .inl (E.2.1, 40, .inl (fun j => zi (z.2.2.1.2.2.1 j)))), (b 12, .inl (E.2.1, 40, .inl (fun j => zi (z.2.2.1.2.2.2.1 j)))), (b 13, .inl (E.2.1, 7, .inl (fun j => zi (z.2.2.1.2.2.2.2.1 j)))), (b 14, .inl (E.2.1, 12, .inl (fun j => zi (z.2.2.1.2.2.2.2.2 j)))), (b 15, .inl (E.2.1, 8, .inl (fun j => zi (z.2.2.2.1 j))))]

def lowT (j : Nat) : Int := ([1, 1, 1, 0, 1, 1, 0, 0] : List Int).getD j 0
def highT (j : Nat) : Int := ([30, 30, 30, 9, 10, 9, 20, 9] : List Int).getD j 0
def f_X2_dropOldest (z : bH) : Option bH := some (z.1 - 1, z.2.2.1, z.2.2.2.1, z.2.2.2.2, z.2.1)
def f_X8_in (x0 x1 x2 : Int) : Option Int := gd (rg x0) <| gd (rg x1) <| if x0 < x1 then (some 0) else (gd (rg x2) <| if x2 < x0 then (some 0) else (some 1))
def f_X8_isButton (x1 : Int) (z : bM) : Option (Int × bM) := bd (f_X8_in x1 0 ((z.1 13) - 1)) fun u1 => gd (inb u1 2) <| some (u1, z)
def f_X8_isBin (x0 : Int) : Option Int := bd (f_X8_in x0 0 11) fun u1 => gd (inb u1 2) <| some u1
def f_X8_of (x1 x2 : Int) (z : bM) : Option (Int × bM) := gd (inb ((55 + (9 * x1)) + x2) 415) <| some (z.1 (((55 + (9 * x1)) + x2).toNat), z)
def f_X8_put (x1 x2 x3 : Int) (z : bM) : Option bM := gd (inb ((55 + (9 * x1)) + x2) 415) <| nm (up z.1 (((55 + (9 * x1)) + x2).toNat) x3, z.2) fun s2 => some s2
def f_X8_putAside_L2 (N : Nat) : Nat → Int → bM → Option bM
  | 0, _, _ => none
  | n + 1, v1, s2 => gd (rg v1) <| if 415 ≤ v1 then (some s2) else (gd (inb v1 415) <| nm (s2.1, s2.2.1, s2.2.2.1, s2.2.2.2.1, s2.2.2.2.2.1, up s2.2.2.2.2.2.1 v1.toNat (s2.1 v1.toNat), s2.2.2.2.2.2.2) fun s6 => f_X8_putAside_L2 N n (v1 + 1) s6)
def f_X8_putAside (N : Nat) (z : bM) : Option bM := f_X8_putAside_L2 N N 0 z
def f_X8_putBack_L2 (N : Nat) : Nat → Int → bM → Option bM
  | 0, _, _ => none
  | n + 1, v1, s2 => gd (rg v1) <| if 415 ≤ v1 then (some s2) else (gd (inb v1 415) <| nm (up s2.1 v1.toNat (s2.2.2.2.2.2.1 v1.toNat), s2.2) fun s6 => f_X8_putBack_L2 N n (v1 + 1) s6)
def f_X8_putBack (N : Nat) (z : bM) : Option bM := f_X8_putBack_L2 N N 0 z
def f_X8_record_L51 (N : Nat) : Nat → Int → bM → Option bM
  | 0, _, _ => none
  | n + 1, v3, s4 => gd (rg v3) <| if 415 ≤ v3 then (nm (s4.1, s4.2.1, s4.2.2.1 + 1, s4.2.2.2) fun s7 => some s7) else (gd (inb v3 415) <| gd (inb ((415 * s4.2.2.1) + v3) 1660) <| nm (s4.1, up s4.2.1 (((415 * s4.2.2.1) + v3).toNat) (s4.1 v3.toNat), s4.2.2) fun s11 => f_X8_record_L51 N n (v3 + 1) s11)
def f_X8_record_L10 (N : Nat) : Nat → Int → bM → Option bM
  | 0, _, _ => none
  | n + 1, v13, s14 => gd (rg v13) <| if 1245 ≤ v13 then (nm (s14.1, s14.2.1, s14.2.2.1 - 1, s14.2.2.2) fun s17 => f_X8_record_L51 N N 0 s17) else (gd (inb (v13 + 415) 1660) <| gd (inb v13 1660) <| nm (s14.1, up s14.2.1 v13.toNat (s14.2.1 ((v13 + 415).toNat)), s14.2.2) fun s21 => f_X8_record_L10 N n (v13 + 1) s21)
def f_X8_record (N : Nat) (z : bM) : Option bM := gd (rg z.2.2.1) <| if z.2.2.1 = 4 then (f_X8_record_L10 N N 0 z) else (f_X8_record_L51 N N 0 z)
def f_X8_undo_L22 (N : Nat) : Nat → Int → bM → Option (Int × bM)
  | 0, _, _ => none
  | n + 1, v5, s6 => gd (rg v5) <| if 415 ≤ v5 then (some (s6.2.2.1, s6)) else (gd (inb ((415 * s6.2.2.1) + v5) 1660) <| gd (inb v5 415) <| nm (up s6.1 v5.toNat (s6.2.1 (((415 * s6.2.2.1) + v5).toNat)), s6.2) fun s11 => f_X8_undo_L22 N n (v5 + 1) s11)
def f_X8_undo (N : Nat) (z : bM) : Option (Int × bM) := gd (rg z.2.2.1) <| if z.2.2.1 = 0 then (some ((-5), z)) else (nm (z.1, z.2.1, z.2.2.1 - 1, z.2.2.2) fun s3 => f_X8_undo_L22 N N 0 s3)
def f_X8_keep_L2 (N : Nat) : Nat → Int → bM → Option (Int × bM)
  | 0, _, _ => none
  | n + 1, v1, s2 => gd (rg v1) <| if 415 ≤ v1 then (nm (s2.1, s2.2.1, s2.2.2.1, s2.2.2.2.1, 1, s2.2.2.2.2.2) fun s5 => some (s5.1 13, s5)) else (gd (inb v1 415) <| nm (s2.1, s2.2.1, s2.2.2.1, up s2.2.2.2.1 v1.toNat (s2.1 v1.toNat), s2.2.2.2.2) fun s8 => f_X8_keep_L2 N n (v1 + 1) s8)
def f_X8_keep (N : Nat) (z : bM) : Option (Int × bM) := f_X8_keep_L2 N N 0 z
def f_X8_restore_L16 (N : Nat) : Nat → Int → bM → Option (Int × bM)
  | 0, _, _ => none
  | n + 1, v5, s6 => gd (rg v5) <| if 415 ≤ v5 then (some (s6.1 13, s6)) else (gd (inb v5 415) <| nm (up s6.1 v5.toNat (s6.2.2.2.1 v5.toNat), s6.2) fun s10 => f_X8_restore_L16 N n (v5 + 1) s10)
def f_X8_restore (N : Nat) (z : bM) : Option (Int × bM) := gd (rg z.2.2.2.2.1) <| if z.2.2.2.2.1 = 0 then (some ((-5), z)) else (bd (f_X8_record N  z) fun u3 => f_X8_restore_L16 N N 0 u3)
def f_X8_at_L4 (N : Nat) : Nat → Int → Int → Int → bM → Option (Int × bM)
  | 0, _, _, _, _ => none
  | n + 1, v1, v2, v3, s4 => gd (rg v3) <| gd (rg (s4.1 13)) <| if (s4.1 13) ≤ v3 then (some (v2, s4)) else (bd (f_X8_of v3 5 s4) fun u8 => gd (rg u8.1) <| gd (rg v1) <| if u8.1 = v1 then (nm (v2 + 1) fun v15 => f_X8_at_L4 N n v1 v15 (v3 + 1) u8.2) else (nm (v2 + 0) fun v13 => f_X8_at_L4 N n v1 v13 (v3 + 1) u8.2))
def f_X8_at (N : Nat) (x1 : Int) (z : bM) : Option (Int × bM) := f_X8_at_L4 N N x1 0 0 z
def f_X8_isIn (x1 x2 : Int) (z : bM) : Option (Int × bM) := bd (f_X8_of x1 5 z) fun u1 => gd (rg u1.1) <| if u1.1 = 5 then (bd (f_X8_of x1 6 u1.2) fun u5 => gd (rg u5.1) <| gd (rg x2) <| if u5.1 = x2 then (some (1, u5.2)) else (some (0, u5.2))) else (some (0, u1.2))
def f_X8_manyIn_L4 (N : Nat) : Nat → Int → Int → Int → bM → Option (Int × bM)
  | 0, _, _, _, _ => none
  | n + 1, v1, v2, v3, s4 => gd (rg v3) <| gd (rg (s4.1 13)) <| if (s4.1 13) ≤ v3 then (some (v2, s4)) else (bd (f_X8_isIn v3 v1 s4) fun u8 => gd (rg u8.1) <| if u8.1 = 0 then (nm (v2 + 0) fun v12 => f_X8_manyIn_L4 N n v1 v12 (v3 + 1) u8.2) else (nm (v2 + 1) fun v14 => f_X8_manyIn_L4 N n v1 v14 (v3 + 1) u8.2))
def f_X8_manyIn (N : Nat) (x1 : Int) (z : bM) : Option (Int × bM) := f_X8_manyIn_L4 N N x1 0 0 z
def f_X8_bring (x1 x2 : Int) (z : bM) : Option bM := bd (f_X8_put x1 5 x2 z) fun u1 => bd (f_X8_put x1 6 (-5) u1) fun u3 => some u3
def f_X8_toHopper (x1 : Int) (z : bM) : Option bM := bd (f_X8_bring x1 0 z) fun u1 => gd (inb (15 + (u1.1 14)) 415) <| nm (up u1.1 ((15 + (u1.1 14)).toNat) x1, u1.2) fun s4 => nm (up s4.1 14 ((s4.1 14) + 1), s4.2) fun s6 => some s6
def f_X8_letGoNow_L4 (N : Nat) : Nat → Int → Int → bM → Option (Int × bM)
  | 0, _, _, _ => none
  | n + 1, v1, v2, s3 => gd (rg v2) <| gd (rg (s3.1 13)) <| if (s3.1 13) ≤ v2 then (some (v1, s3)) else (bd (f_X8_of v2 5 s3) fun u7 => gd (rg u7.1) <| if u7.1 = 2 then (bd (f_X8_bring v2 3 u7.2) fun u11 => f_X8_letGoNow_L4 N n (v1 + 1) (v2 + 1) u11) else (f_X8_letGoNow_L4 N n v1 (v2 + 1) u7.2))
def f_X8_letGoNow (N : Nat) (z : bM) : Option (Int × bM) := f_X8_letGoNow_L4 N N 0 0 z
def f_X8_classOf (x1 : Int) (z : bM) : Option (Int × bM) := bd (f_X8_of x1 1 z) fun u1 => gd (rg u1.1) <| gd (rg (u1.2.1 0)) <| if (u1.2.1 0) < u1.1 then (gd (rg (u1.2.1 1)) <| if (u1.2.1 1) < u1.1 then (some (2, u1.2)) else (some (1, u1.2))) else (some (0, u1.2))
def f_X8_binOf (x1 : Int) (z : bM) : Option (Int × bM) := bd (f_X8_classOf x1 z) fun u1 => bd (f_X8_of x1 0 u1.2) fun u3 => some (((4 * u1.1) + u3.1) - 1, u3.2)
def f_X8_placeFor (x1 : Int) (z : bM) : Option (Int × bM) := bd (f_X8_of x1 3 z) fun u1 => gd (rg u1.1) <| gd (rg (u1.2.1 3)) <| if u1.1 ≤ (u1.2.1 3) then (bd (f_X8_of x1 2 u1.2) fun u6 => gd (rg u6.1) <| gd (rg (u6.2.1 4)) <| if u6.1 < (u6.2.1 4) then (bd (f_X8_of x1 1 u6.2) fun u11 => gd (rg u11.1) <| gd (rg (u11.2.1 2)) <| if u11.1 ≤ (u11.2.1 2) then (some (5, u11.2)) else (some (4, u11.2))) else (some (2, u6.2))) else (some (1, u1.2))
def f_X8_sortOne_L21 (N : Nat) : Nat → Int → Int → bM → Option bM
  | 0, _, _, _ => none
  | n + 1, v5, v6, s7 => gd (rg v6) <| gd (rg (s7.1 14)) <| if (s7.1 14) ≤ v6 then (gd (inb (15 + (s7.1 14)) 415) <| nm (up s7.1 ((15 + (s7.1 14)).toNat) 0, s7.2) fun s12 => nm (up s12.1 10 ((s12.1 10) + 1), s12.2) fun s14 => bd (f_X8_of v5 8 s14) fun u16 => bd (f_X8_put v5 8 (u16.1 + 1) u16.2) fun u18 => bd (f_X8_placeFor v5 u18) fun u20 => gd (rg u20.1) <| if u20.1 = 5 then (bd (f_X8_of v5 1 u20.2) fun u24 => bd (f_X8_classOf v5 u24.2) fun u26 => gd (inb u26.1 415) <| gd (rg u24.1) <| gd (rg (u26.2.1 u26.1.toNat)) <| if u24.1 = (u26.2.1 u26.1.toNat) then (bd (f_X8_of v5 3 u26.2) fun u49 => gd (rg u49.1) <| if 9 ≤ u49.1 then (bd (f_X8_put v5 3 9 u49.2) fun u53 => nm (up u53.1 12 ((u53.1 12) + 1), u53.2) fun s55 => bd (f_X8_binOf v5 s55) fun u57 => bd (f_X8_manyIn N u57.1 u57.2) fun u59 => gd (rg u59.1) <| gd (rg (u59.2.1 6)) <| if (u59.2.1 6) ≤ u59.1 then (bd (f_X8_toHopper v5 u59.2) fun u64 => nm (up u64.1 11 ((u64.1 11) + 1), u64.2) fun s66 => some s66) else (bd (f_X8_put v5 5 5 u59.2) fun u68 => bd (f_X8_binOf v5 u68) fun u70 => bd (f_X8_put v5 6 u70.1 u70.2) fun u72 => some u72)) else (bd (f_X8_of v5 3 u49.2) fun u74 => bd (f_X8_put v5 3 (u74.1 + 1) u74.2) fun u76 => nm (up u76.1 12 ((u76.1 12) + 1), u76.2) fun s78 => bd (f_X8_binOf v5 s78) fun u80 => bd (f_X8_manyIn N u80.1 u80.2) fun u82 => gd (rg u82.1) <| gd (rg (u82.2.1 6)) <| if (u82.2.1 6) ≤ u82.1 then (bd (f_X8_toHopper v5 u82.2) fun u87 => nm (up u87.1 11 ((u87.1 11) + 1), u87.2) fun s89 => some s89) else (bd (f_X8_put v5 5 5 u82.2) fun u91 => bd (f_X8_binOf v5 u91) fun u93 => bd (f_X8_put v5 6 u93.1 u93.2) fun u95 => some u95))) else (bd (f_X8_binOf v5 u26.2) fun u32 => bd (f_X8_manyIn N u32.1 u32.2) fun u34 => gd (rg u34.1) <| gd (rg (u34.2.1 6)) <| if (u34.2.1 6) ≤ u34.1 then (bd (f_X8_toHopper v5 u34.2) fun u39 => nm (up u39.1 11 ((u39.1 11) + 1), u39.2) fun s41 => some s41) else (bd (f_X8_put v5 5 5 u34.2) fun u43 => bd (f_X8_binOf v5 u43) fun u45 => bd (f_X8_put v5 6 u45.1 u45.2) fun u47 => some u47))) else (bd (f_X8_bring v5 u20.1 u20.2) fun u97 => if u20.1 = 2 then (bd (f_X8_at N 2 u97) fun u100 => gd (rg u100.1) <| gd (rg (u100.2.1 5)) <| if u100.1 < (u100.2.1 5) then (some u100.2) else (bd (f_X8_letGoNow N  u100.2) fun u105 => some u105.2)) else (some u97))) else (gd (inb ((15 + v6) + 1) 415) <| gd (inb (15 + v6) 415) <| nm (up s7.1 ((15 + v6).toNat) (s7.1 (((15 + v6) + 1).toNat)), s7.2) fun s109 => f_X8_sortOne_L21 N n v5 (v6 + 1) s109)
def f_X8_sortOne (N : Nat) (z : bM) : Option bM := nm (z.1 15) fun v1 => nm (up z.1 14 ((z.1 14) - 1), z.2) fun s3 => f_X8_sortOne_L21 N N v1 0 s3
def f_X8_sort_L32 (N : Nat) : Nat → Int → Int → bM → Option (Int × bM)
  | 0, _, _, _ => none
  | n + 1, v9, v10, s11 => gd (rg v10) <| gd (rg v9) <| if v9 ≤ v10 then (some (v10, s11)) else (gd (rg (s11.1 14)) <| if (s11.1 14) ≤ 0 then (some (v10, s11)) else (bd (f_X8_sortOne N  s11) fun u17 => f_X8_sort_L32 N n v9 (v10 + 1) u17))
def f_X8_sort (N : Nat) (x1 : Int) (z : bM) : Option (Int × bM) := bd (f_X8_in x1 1 99) fun u1 => gd (rg u1) <| if u1 = 0 then (some ((-2), z)) else (gd (rg (z.1 14)) <| if (z.1 14) = 0 then (some ((-5), z)) else (bd (f_X8_record N  z) fun u7 => f_X8_sort_L32 N N x1 0 u7))
def f_X8_letGo (N : Nat) (z : bM) : Option (Int × bM) := bd (f_X8_at N 2 z) fun u1 => gd (rg u1.1) <| if u1.1 = 0 then (some ((-5), u1.2)) else (bd (f_X8_record N  u1.2) fun u5 => bd (f_X8_letGoNow N  u5) fun u7 => some (u7.1, u7.2))
def f_X8_pour_L28 (N : Nat) : Nat → Int → Int → Int → bM → Option (Int × bM)
  | 0, _, _, _, _ => none
  | n + 1, v11, v12, v13, s14 => gd (rg v13) <| gd (rg (s14.1 13)) <| if (s14.1 13) ≤ v13 then (some (v12, s14)) else (bd (f_X8_isIn v13 v11 s14) fun u18 => gd (rg u18.1) <| if u18.1 = 0 then (f_X8_pour_L28 N n v11 v12 (v13 + 1) u18.2) else (bd (f_X8_toHopper v13 u18.2) fun u22 => f_X8_pour_L28 N n v11 v12 (v13 + 1) u22))
def f_X8_pour (N : Nat) (x1 : Int) (z : bM) : Option (Int × bM) := bd (f_X8_isBin x1) fun u1 => gd (rg u1) <| if u1 = 0 then (some ((-1), z)) else (bd (f_X8_manyIn N x1 z) fun u5 => gd (rg u5.1) <| if u5.1 = 0 then (some ((-5), u5.2)) else (bd (f_X8_record N  u5.2) fun u9 => f_X8_pour_L28 N N x1 u5.1 0 u9))
def f_X8_order_L32 (N : Nat) (kt : Int → Int → Int → bM → Option bM) : Nat → Int → Int → Int → bM → Option bM
  | 0, _, _, _, _ => none
  | n + 1, v13, v14, v15, s16 => gd (rg v15) <| if v15 ≤ 0 then (kt v13 v14 v15 s16) else (gd (inb (v15 - 1) 40) <| bd (f_X8_of (s16.2.2.2.2.2.2.1 ((v15 - 1).toNat)) 4 s16) fun u20 => bd (f_X8_of v14 4 u20.2) fun u22 => gd (rg u20.1) <| gd (rg u22.1) <| if u20.1 ≤ u22.1 then (kt v13 v14 v15 u22.2) else (gd (inb v15 40) <| nm (u22.2.1, u22.2.2.1, u22.2.2.2.1, u22.2.2.2.2.1, u22.2.2.2.2.2.1, u22.2.2.2.2.2.2.1, up u22.2.2.2.2.2.2.2.1 v15.toNat (u22.2.2.2.2.2.2.2.1 ((v15 - 1).toNat)), u22.2.2.2.2.2.2.2.2) fun s28 => f_X8_order_L32 N kt n v13 v14 (v15 + (-1)) s28))
def f_X8_order_L7 (N : Nat) : Nat → Int → Int → bM → Option bM
  | 0, _, _, _ => none
  | n + 1, v3, v4, s5 => gd (rg v4) <| gd (rg (s5.1 13)) <| if (s5.1 13) ≤ v4 then (some s5) else (bd (f_X8_isIn v4 v3 s5) fun u9 => gd (rg u9.1) <| if u9.1 = 0 then (f_X8_order_L7 N n v3 (v4 + 1) u9.2) else (f_X8_order_L32 N (fun v30 v31 v32 s33 => gd (inb v32 40) <| nm (s33.1, s33.2.1, s33.2.2.1, s33.2.2.2.1, s33.2.2.2.2.1, s33.2.2.2.2.2.1, up s33.2.2.2.2.2.2.1 v32.toNat v31, s33.2.2.2.2.2.2.2) fun s35 => nm (s35.1, s35.2.1, s35.2.2.1, s35.2.2.2.1, s35.2.2.2.2.1, s35.2.2.2.2.2.1, s35.2.2.2.2.2.2.1, s35.2.2.2.2.2.2.2.1 + 1, s35.2.2.2.2.2.2.2.2) fun s37 => f_X8_order_L7 N n v30 (v31 + 1) s37) N v3 v4 u9.2.2.2.2.2.2.2.2.1 u9.2))
def f_X8_order (N : Nat) (x1 : Int) (z : bM) : Option bM := nm (z.1, z.2.1, z.2.2.1, z.2.2.2.1, z.2.2.2.2.1, z.2.2.2.2.2.1, z.2.2.2.2.2.2.1, 0, z.2.2.2.2.2.2.2.2) fun s1 => f_X8_order_L7 N N x1 0 s1
def f_X8_spread (x1 x2 : Int) (z : bM) : Option (Int × bM) := gd (inb ((x1 + x2) - 1) 40) <| bd (f_X8_of (z.2.2.2.2.2.2.1 (((x1 + x2) - 1).toNat)) 4 z) fun u2 => gd (inb x1 40) <| bd (f_X8_of (u2.2.2.2.2.2.2.2.1 x1.toNat) 4 u2.2) fun u5 => some (u2.1 - u5.1, u5.2)
def f_X8_firstAlike_L7 (N : Nat) : Nat → Int → Int → Int → bM → Option (Int × bM)
  | 0, _, _, _, _ => none
  | n + 1, v3, v4, v5, s6 => gd (rg (v5 + v4)) <| gd (rg s6.2.2.2.2.2.2.2.1) <| if s6.2.2.2.2.2.2.2.1 < (v5 + v4) then (some ((-5), s6)) else (bd (f_X8_spread v5 v4 s6) fun u10 => gd (rg u10.1) <| gd (rg (u10.2.1 7)) <| if (u10.2.1 7) < u10.1 then (f_X8_firstAlike_L7 N n v3 v4 (v5 + 1) u10.2) else (some (v5, u10.2)))
def f_X8_firstAlike (N : Nat) (x1 x2 : Int) (z : bM) : Option (Int × bM) := bd (f_X8_order N x1 z) fun u1 => f_X8_firstAlike_L7 N N x1 x2 0 u1
def f_X8_reasonFor (N : Nat) (x1 x2 : Int) (z : bM) : Option (Int × bM) := bd (f_X8_manyIn N x1 z) fun u1 => gd (rg u1.1) <| gd (rg x2) <| if x2 ≤ u1.1 then (bd (f_X8_firstAlike N x1 x2 u1.2) fun u6 => gd (rg u6.1) <| if u6.1 = (-5) then (some (2, u6.2)) else (some (0, u6.2))) else (some (1, u1.2))
def f_X8_shirtNow_L13 (N : Nat) : Nat → Int → Int → Int → Int → Int → bM → Option (Int × bM)
  | 0, _, _, _, _, _, _ => none
  | n + 1, v3, v4, v5, v6, v7, s8 => gd (rg v7) <| gd (rg (v5 + v4)) <| if (v5 + v4) ≤ v7 then (gd (rg v6) <| if 0 ≤ v6 then (nm (up s8.1 8 ((s8.1 8) + 1), s8.2) fun s14 => nm (up s14.1 9 ((s14.1 9) + v6), s14.2) fun s16 => some (v6, s16)) else (nm (up s8.1 8 ((s8.1 8) + 1), s8.2) fun s18 => nm (up s18.1 9 ((s18.1 9) + 0), s18.2) fun s20 => some (0, s20))) else (gd (inb v7 40) <| bd (f_X8_of (s8.2.2.2.2.2.2.1 v7.toNat) 4 s8) fun u23 => bd (f_X8_of (u23.2.2.2.2.2.2.2.1 v7.toNat) 3 u23.2) fun u25 => nm (v6 + (u23.1 - u25.1)) fun v27 => bd (f_X8_bring (u25.2.2.2.2.2.2.2.1 v7.toNat) 6 u25.2) fun u29 => bd (f_X8_put (u29.2.2.2.2.2.2.1 v7.toNat) 7 (u29.1 8) u29) fun u31 => f_X8_shirtNow_L13 N n v3 v4 v5 v27 (v7 + 1) u31)
def f_X8_shirtNow (N : Nat) (x1 x2 : Int) (z : bM) : Option (Int × bM) := bd (f_X8_firstAlike N x1 x2 z) fun u1 => f_X8_shirtNow_L13 N N x1 x2 u1.1 0 u1.1 u1.2
def f_X8_shirt (N : Nat) (x1 x2 : Int) (z : bM) : Option (Int × bM) := bd (f_X8_isBin x1) fun u1 => gd (rg u1) <| if u1 = 0 then (some ((-1), z)) else (bd (f_X8_in x2 1 9) fun u5 => gd (rg u5) <| if u5 = 0 then (some ((-2), z)) else (bd (f_X8_reasonFor N x1 x2 z) fun u9 => gd (rg u9.1) <| if u9.1 ≤ 0 then (bd (f_X8_record N  u9.2) fun u13 => bd (f_X8_shirtNow N x1 x2 u13) fun u15 => some (u15.1, u15.2)) else (some ((-10) - u9.1, u9.2))))
def f_X8_polish (N : Nat) (x1 : Int) (z : bM) : Option (Int × bM) := bd (f_X8_isButton x1 z) fun u1 => gd (rg u1.1) <| if u1.1 = 0 then (some ((-1), u1.2)) else (bd (f_X8_of x1 5 u1.2) fun u5 => gd (rg u5.1) <| if u5.1 = 6 then (some ((-4), u5.2)) else (bd (f_X8_of x1 4 u5.2) fun u9 => gd (rg u9.1) <| if u9.1 = 9 then (some ((-4), u9.2)) else (bd (f_X8_record N  u9.2) fun u13 => bd (f_X8_of x1 4 u13) fun u15 => bd (f_X8_put x1 4 (u15.1 + 1) u15.2) fun u17 => bd (f_X8_of x1 3 u17) fun u19 => gd (rg u19.1) <| if u19.1 ≤ 0 then (bd (f_X8_put x1 3 0 u19.2) fun u23 => bd (f_X8_of x1 4 u23) fun u25 => some (u25.1, u25.2)) else (bd (f_X8_of x1 3 u19.2) fun u27 => bd (f_X8_put x1 3 (u27.1 - 1) u27.2) fun u29 => bd (f_X8_of x1 4 u29) fun u31 => some (u31.1, u31.2)))))
def f_X8_maySet (x0 x1 : Int) : Option Int := gd (rg x0) <| if x0 = 3 then (bd (f_X8_in x1 0 9) fun u3 => gd (inb u3 2) <| some u3) else if x0 = 4 then (bd (f_X8_in x1 1 10) fun u7 => gd (inb u7 2) <| some u7) else if x0 = 5 then (bd (f_X8_in x1 1 9) fun u11 => gd (inb u11 2) <| some u11) else if x0 = 6 then (bd (f_X8_in x1 0 20) fun u15 => gd (inb u15 2) <| some u15) else if x0 = 7 then (bd (f_X8_in x1 0 9) fun u19 => gd (inb u19 2) <| some u19) else (bd (f_X8_in x1 1 30) fun u22 => gd (inb u22 2) <| some u22)
def f_X8_areMeshes (x1 x2 : Int) (z : bM) : Option (Int × bM) := gd (rg x1) <| if x1 = 0 then (if x1 = 1 then (if x1 = 2 then (gd (rg x2) <| if x2 < x2 then (some (0, z)) else (if x2 < x2 then (some (0, z)) else (some (1, z)))) else (nm (z.1 2) fun v49 => gd (rg x2) <| if x2 < x2 then (some (0, z)) else (gd (rg v49) <| if v49 < x2 then (some (0, z)) else (some (1, z))))) else (nm (z.1 1) fun v34 => if x1 = 2 then (gd (rg x2) <| gd (rg v34) <| if v34 < x2 then (some (0, z)) else (if x2 < v34 then (some (0, z)) else (some (1, z)))) else (nm (z.1 2) fun v37 => gd (rg x2) <| gd (rg v34) <| if v34 < x2 then (some (0, z)) else (gd (rg v37) <| if v37 < v34 then (some (0, z)) else (some (1, z)))))) else (nm (z.1 0) fun v3 => if x1 = 1 then (if x1 = 2 then (gd (rg v3) <| gd (rg x2) <| if x2 < v3 then (some (0, z)) else (if x2 < x2 then (some (0, z)) else (some (1, z)))) else (nm (z.1 2) fun v22 => gd (rg v3) <| gd (rg x2) <| if x2 < v3 then (some (0, z)) else (gd (rg v22) <| if v22 < x2 then (some (0, z)) else (some (1, z))))) else (nm (z.1 1) fun v6 => if x1 = 2 then (gd (rg v3) <| gd (rg v6) <| if v6 < v3 then (some (0, z)) else (gd (rg x2) <| if x2 < v6 then (some (0, z)) else (some (1, z)))) else (nm (z.1 2) fun v9 => gd (rg v3) <| gd (rg v6) <| if v6 < v3 then (some (0, z)) else (gd (rg v9) <| if v9 < v6 then (some (0, z)) else (some (1, z))))))
def f_X8_set (N : Nat) (x1 x2 : Int) (z : bM) : Option (Int × bM) := bd (f_X8_in x1 0 7) fun u1 => gd (rg u1) <| if u1 = 0 then (some ((-1), z)) else (bd (f_X8_maySet x1 x2) fun u5 => gd (rg u5) <| if u5 = 0 then (some ((-2), z)) else (bd (f_X8_areMeshes x1 x2 z) fun u9 => gd (rg u9.1) <| if u9.1 = 0 then (some ((-4), u9.2)) else (gd (inb x1 415) <| nm (u9.2.1 x1.toNat) fun v14 => gd (rg v14) <| gd (rg x2) <| if v14 = x2 then (some ((-5), u9.2)) else (bd (f_X8_record N  u9.2) fun u19 => nm (up u19.1 x1.toNat x2, u19.2) fun s21 => some (v14, s21)))))
def f_X8_type (x1 : Int) (z : bM) : Option (Int × bM) := gd (rg z.2.2.2.2.2.2.2.2.2.1) <| if z.2.2.2.2.2.2.2.2.2.1 = 60 then (some ((-3), z)) else (gd (inb z.2.2.2.2.2.2.2.2.2.1 60) <| nm (z.1, z.2.1, z.2.2.1, z.2.2.2.1, z.2.2.2.2.1, z.2.2.2.2.2.1, z.2.2.2.2.2.2.1, z.2.2.2.2.2.2.2.1, up z.2.2.2.2.2.2.2.2.1 z.2.2.2.2.2.2.2.2.2.1.toNat x1, z.2.2.2.2.2.2.2.2.2) fun s4 => nm (s4.1, s4.2.1, s4.2.2.1, s4.2.2.2.1, s4.2.2.2.2.1, s4.2.2.2.2.2.1, s4.2.2.2.2.2.2.1, s4.2.2.2.2.2.2.2.1, s4.2.2.2.2.2.2.2.2.1, s4.2.2.2.2.2.2.2.2.2.1 + 1, s4.2.2.2.2.2.2.2.2.2.2) fun s6 => some (s6.2.2.2.2.2.2.2.2.2.1, s6))
def f_X8_clearText (z : bM) : Option (Int × bM) := nm (z.1, z.2.1, z.2.2.1, z.2.2.2.1, z.2.2.2.2.1, z.2.2.2.2.2.1, z.2.2.2.2.2.2.1, z.2.2.2.2.2.2.2.1, z.2.2.2.2.2.2.2.2.1, 0, z.2.2.2.2.2.2.2.2.2.2) fun s1 => some (z.2.2.2.2.2.2.2.2.2.1, s1)
def f_X8_takes (x1 x2 : Int) (z : bM) : Option (Int × bM) := gd (rg z.2.2.2.2.2.2.2.2.2.2.1) <| gd (rg z.2.2.2.2.2.2.2.2.2.1) <| if z.2.2.2.2.2.2.2.2.2.1 ≤ z.2.2.2.2.2.2.2.2.2.2.1 then (if 0 = 0 then (nm (z.1, z.2.1, z.2.2.1, z.2.2.2.1, z.2.2.2.2.1, z.2.2.2.2.2.1, z.2.2.2.2.2.2.1, z.2.2.2.2.2.2.2.1, z.2.2.2.2.2.2.2.2.1, z.2.2.2.2.2.2.2.2.2.1, z.2.2.2.2.2.2.2.2.2.2.1 + 0, z.2.2.2.2.2.2.2.2.2.2.2) fun s5 => some (0, s5)) else (nm (z.1, z.2.1, z.2.2.1, z.2.2.2.1, z.2.2.2.2.1, z.2.2.2.2.2.1, z.2.2.2.2.2.2.1, z.2.2.2.2.2.2.2.1, z.2.2.2.2.2.2.2.2.1, z.2.2.2.2.2.2.2.2.2.1, z.2.2.2.2.2.2.2.2.2.2.1 + 1, z.2.2.2.2.2.2.2.2.2.2.2) fun s7 => some (0, s7))) else (gd (inb z.2.2.2.2.2.2.2.2.2.2.1 60) <| bd (f_X8_in (z.2.2.2.2.2.2.2.2.1 z.2.2.2.2.2.2.2.2.2.2.1.toNat) x1 x2) fun u10 => gd (rg u10) <| if u10 = 0 then (if 0 = 0 then (nm (z.1, z.2.1, z.2.2.1, z.2.2.2.1, z.2.2.2.2.1, z.2.2.2.2.2.1, z.2.2.2.2.2.2.1, z.2.2.2.2.2.2.2.1, z.2.2.2.2.2.2.2.2.1, z.2.2.2.2.2.2.2.2.2.1, z.2.2.2.2.2.2.2.2.2.2.1 + 0, z.2.2.2.2.2.2.2.2.2.2.2) fun s15 => some (0, s15)) else (nm (z.1, z.2.1, z.2.2.1, z.2.2.2.1, z.2.2.2.2.1, z.2.2.2.2.2.1, z.2.2.2.2.2.2.1, z.2.2.2.2.2.2.2.1, z.2.2.2.2.2.2.2.2.1, z.2.2.2.2.2.2.2.2.2.1, z.2.2.2.2.2.2.2.2.2.2.1 + 1, z.2.2.2.2.2.2.2.2.2.2.2) fun s17 => some (0, s17))) else (if 1 = 0 then (nm (z.1, z.2.1, z.2.2.1, z.2.2.2.1, z.2.2.2.2.1, z.2.2.2.2.2.1, z.2.2.2.2.2.2.1, z.2.2.2.2.2.2.2.1, z.2.2.2.2.2.2.2.2.1, z.2.2.2.2.2.2.2.2.2.1, z.2.2.2.2.2.2.2.2.2.2.1 + 0, z.2.2.2.2.2.2.2.2.2.2.2) fun s20 => some (1, s20)) else (nm (z.1, z.2.1, z.2.2.1, z.2.2.2.1, z.2.2.2.2.1, z.2.2.2.2.2.1, z.2.2.2.2.2.2.1, z.2.2.2.2.2.2.2.1, z.2.2.2.2.2.2.2.2.1, z.2.2.2.2.2.2.2.2.2.1, z.2.2.2.2.2.2.2.2.2.2.1 + 1, z.2.2.2.2.2.2.2.2.2.2.2) fun s22 => some (1, s22))))
def f_X8_digit (z : bM) : Option (Int × bM) := gd (inb (z.2.2.2.2.2.2.2.2.2.2.1 - 1) 60) <| some ((z.2.2.2.2.2.2.2.2.1 ((z.2.2.2.2.2.2.2.2.2.2.1 - 1).toNat)) - 48, z)
def f_X8_readsSize (z : bM) : Option (Int × bM) := bd (f_X8_takes 49 57 z) fun u1 => gd (rg u1.1) <| if u1.1 = 0 then (some (0, u1.2)) else (bd (f_X8_digit  u1.2) fun u5 => gd (rg u5.1) <| if 3 ≤ u5.1 then (if u5.1 = 3 then (bd (f_X8_takes 48 48 u5.2) fun u13 => gd (rg u13.1) <| if u13.1 = 0 then (gd (inb ((5 * u13.2.2.2.2.2.2.2.2.2.2.2.2.1) + 1) 100) <| nm (u13.2.1, u13.2.2.1, u13.2.2.2.1, u13.2.2.2.2.1, u13.2.2.2.2.2.1, u13.2.2.2.2.2.2.1, u13.2.2.2.2.2.2.2.1, u13.2.2.2.2.2.2.2.2.1, u13.2.2.2.2.2.2.2.2.2.1, u13.2.2.2.2.2.2.2.2.2.2.1, u13.2.2.2.2.2.2.2.2.2.2.2.1, u13.2.2.2.2.2.2.2.2.2.2.2.2.1, up u13.2.2.2.2.2.2.2.2.2.2.2.2.2 (((5 * u13.2.2.2.2.2.2.2.2.2.2.2.2.1) + 1).toNat) u5.1) fun s18 => some (1, s18)) else (bd (f_X8_digit  u13.2) fun u20 => nm ((10 * u5.1) + u20.1) fun v22 => gd (inb ((5 * u20.2.2.2.2.2.2.2.2.2.2.2.2.1) + 1) 100) <| nm (u20.2.1, u20.2.2.1, u20.2.2.2.1, u20.2.2.2.2.1, u20.2.2.2.2.2.1, u20.2.2.2.2.2.2.1, u20.2.2.2.2.2.2.2.1, u20.2.2.2.2.2.2.2.2.1, u20.2.2.2.2.2.2.2.2.2.1, u20.2.2.2.2.2.2.2.2.2.2.1, u20.2.2.2.2.2.2.2.2.2.2.2.1, u20.2.2.2.2.2.2.2.2.2.2.2.2.1, up u20.2.2.2.2.2.2.2.2.2.2.2.2.2 (((5 * u20.2.2.2.2.2.2.2.2.2.2.2.2.1) + 1).toNat) v22) fun s25 => some (1, s25))) else (gd (inb ((5 * u5.2.2.2.2.2.2.2.2.2.2.2.2.1) + 1) 100) <| nm (u5.2.1, u5.2.2.1, u5.2.2.2.1, u5.2.2.2.2.1, u5.2.2.2.2.2.1, u5.2.2.2.2.2.2.1, u5.2.2.2.2.2.2.2.1, u5.2.2.2.2.2.2.2.2.1, u5.2.2.2.2.2.2.2.2.2.1, u5.2.2.2.2.2.2.2.2.2.2.1, u5.2.2.2.2.2.2.2.2.2.2.2.1, u5.2.2.2.2.2.2.2.2.2.2.2.2.1, up u5.2.2.2.2.2.2.2.2.2.2.2.2.2 (((5 * u5.2.2.2.2.2.2.2.2.2.2.2.2.1) + 1).toNat) u5.1) fun s11 => some (1, s11))) else (bd (f_X8_takes 48 57 u5.2) fun u27 => gd (rg u27.1) <| if u27.1 = 0 then (gd (inb ((5 * u27.2.2.2.2.2.2.2.2.2.2.2.2.1) + 1) 100) <| nm (u27.2.1, u27.2.2.1, u27.2.2.2.1, u27.2.2.2.2.1, u27.2.2.2.2.2.1, u27.2.2.2.2.2.2.1, u27.2.2.2.2.2.2.2.1, u27.2.2.2.2.2.2.2.2.1, u27.2.2.2.2.2.2.2.2.2.1, u27.2.2.2.2.2.2.2.2.2.2.1, u27.2.2.2.2.2.2.2.2.2.2.2.1, u27.2.2.2.2.2.2.2.2.2.2.2.2.1, up u27.2.2.2.2.2.2.2.2.2.2.2.2.2 (((5 * u27.2.2.2.2.2.2.2.2.2.2.2.2.1) + 1).toNat) u5.1) fun s32 => some (1, s32)) else (bd (f_X8_digit  u27.2) fun u34 => nm ((10 * u5.1) + u34.1) fun v36 => gd (inb ((5 * u34.2.2.2.2.2.2.2.2.2.2.2.2.1) + 1) 100) <| nm (u34.2.1, u34.2.2.1, u34.2.2.2.1, u34.2.2.2.2.1, u34.2.2.2.2.2.1, u34.2.2.2.2.2.2.1, u34.2.2.2.2.2.2.2.1, u34.2.2.2.2.2.2.2.2.1, u34.2.2.2.2.2.2.2.2.2.1, u34.2.2.2.2.2.2.2.2.2.2.1, u34.2.2.2.2.2.2.2.2.2.2.2.1, u34.2.2.2.2.2.2.2.2.2.2.2.2.1, up u34.2.2.2.2.2.2.2.2.2.2.2.2.2 (((5 * u34.2.2.2.2.2.2.2.2.2.2.2.2.1) + 1).toNat) v36) fun s39 => some (1, s39))))
def f_X8_readsDigit (x1 x2 : Int) (z : bM) : Option (Int × bM) := gd (inb ((5 * z.2.2.2.2.2.2.2.2.2.2.2.1) + x2) 100) <| nm (z.1, z.2.1, z.2.2.1, z.2.2.2.1, z.2.2.2.2.1, z.2.2.2.2.2.1, z.2.2.2.2.2.2.1, z.2.2.2.2.2.2.2.1, z.2.2.2.2.2.2.2.2.1, z.2.2.2.2.2.2.2.2.2.1, z.2.2.2.2.2.2.2.2.2.2.1, z.2.2.2.2.2.2.2.2.2.2.2.1, up z.2.2.2.2.2.2.2.2.2.2.2.2 (((5 * z.2.2.2.2.2.2.2.2.2.2.2.1) + x2).toNat) 0) fun s2 => bd (f_X8_takes x1 x1 s2) fun u4 => gd (rg u4.1) <| if u4.1 = 0 then (some (1, u4.2)) else (bd (f_X8_takes 48 57 u4.2) fun u8 => gd (rg u8.1) <| if u8.1 = 0 then (gd (inb ((5 * u8.2.2.2.2.2.2.2.2.2.2.2.2.1) + x2) 100) <| nm (u8.2.1, u8.2.2.1, u8.2.2.2.1, u8.2.2.2.2.1, u8.2.2.2.2.2.1, u8.2.2.2.2.2.2.1, u8.2.2.2.2.2.2.2.1, u8.2.2.2.2.2.2.2.2.1, u8.2.2.2.2.2.2.2.2.2.1, u8.2.2.2.2.2.2.2.2.2.2.1, u8.2.2.2.2.2.2.2.2.2.2.2.1, u8.2.2.2.2.2.2.2.2.2.2.2.2.1, up u8.2.2.2.2.2.2.2.2.2.2.2.2.2 (((5 * u8.2.2.2.2.2.2.2.2.2.2.2.2.1) + x2).toNat) 0) fun s13 => gd (inb u8.1 2) <| some (u8.1, s13)) else (bd (f_X8_digit  u8.2) fun u16 => gd (inb ((5 * u8.2.2.2.2.2.2.2.2.2.2.2.2.1) + x2) 100) <| nm (u16.2.1, u16.2.2.1, u16.2.2.2.1, u16.2.2.2.2.1, u16.2.2.2.2.2.1, u16.2.2.2.2.2.2.1, u16.2.2.2.2.2.2.2.1, u16.2.2.2.2.2.2.2.2.1, u16.2.2.2.2.2.2.2.2.2.1, u16.2.2.2.2.2.2.2.2.2.2.1, u16.2.2.2.2.2.2.2.2.2.2.2.1, u16.2.2.2.2.2.2.2.2.2.2.2.2.1, up u16.2.2.2.2.2.2.2.2.2.2.2.2.2 (((5 * u8.2.2.2.2.2.2.2.2.2.2.2.2.1) + x2).toNat) u16.1) fun s19 => gd (inb u8.1 2) <| some (u8.1, s19)))
def f_X8_readsButton (z : bM) : Option (Int × bM) := bd (f_X8_takes 49 52 z) fun u1 => gd (rg u1.1) <| if u1.1 = 0 then (some (0, u1.2)) else (bd (f_X8_digit  u1.2) fun u5 => gd (inb (5 * u1.2.2.2.2.2.2.2.2.2.2.2.2.1) 100) <| nm (u5.2.1, u5.2.2.1, u5.2.2.2.1, u5.2.2.2.2.1, u5.2.2.2.2.2.1, u5.2.2.2.2.2.2.1, u5.2.2.2.2.2.2.2.1, u5.2.2.2.2.2.2.2.2.1, u5.2.2.2.2.2.2.2.2.2.1, u5.2.2.2.2.2.2.2.2.2.2.1, u5.2.2.2.2.2.2.2.2.2.2.2.1, u5.2.2.2.2.2.2.2.2.2.2.2.2.1, up u5.2.2.2.2.2.2.2.2.2.2.2.2.2 ((5 * u1.2.2.2.2.2.2.2.2.2.2.2.2.1).toNat) u5.1) fun s8 => bd (f_X8_takes 104 104 s8) fun u10 => gd (rg u10.1) <| if u10.1 = 0 then (if 0 = 0 then (nm (u10.2.1, u10.2.2.1, u10.2.2.2.1, u10.2.2.2.2.1, u10.2.2.2.2.2.1, u10.2.2.2.2.2.2.1, u10.2.2.2.2.2.2.2.1, u10.2.2.2.2.2.2.2.2.1, u10.2.2.2.2.2.2.2.2.2.1, u10.2.2.2.2.2.2.2.2.2.2.1, u10.2.2.2.2.2.2.2.2.2.2.2.1, u10.2.2.2.2.2.2.2.2.2.2.2.2.1 + 0, u10.2.2.2.2.2.2.2.2.2.2.2.2.2) fun s15 => some (0, s15)) else (nm (u10.2.1, u10.2.2.1, u10.2.2.2.1, u10.2.2.2.2.1, u10.2.2.2.2.2.1, u10.2.2.2.2.2.2.1, u10.2.2.2.2.2.2.2.1, u10.2.2.2.2.2.2.2.2.1, u10.2.2.2.2.2.2.2.2.2.1, u10.2.2.2.2.2.2.2.2.2.2.1, u10.2.2.2.2.2.2.2.2.2.2.2.1, u10.2.2.2.2.2.2.2.2.2.2.2.2.1 + 1, u10.2.2.2.2.2.2.2.2.2.2.2.2.2) fun s17 => some (0, s17))) else (bd (f_X8_readsSize  u10.2) fun u19 => gd (rg u19.1) <| if u19.1 = 0 then (if 0 = 0 then (nm (u19.2.1, u19.2.2.1, u19.2.2.2.1, u19.2.2.2.2.1, u19.2.2.2.2.2.1, u19.2.2.2.2.2.2.1, u19.2.2.2.2.2.2.2.1, u19.2.2.2.2.2.2.2.2.1, u19.2.2.2.2.2.2.2.2.2.1, u19.2.2.2.2.2.2.2.2.2.2.1, u19.2.2.2.2.2.2.2.2.2.2.2.1, u19.2.2.2.2.2.2.2.2.2.2.2.2.1 + 0, u19.2.2.2.2.2.2.2.2.2.2.2.2.2) fun s24 => some (0, s24)) else (nm (u19.2.1, u19.2.2.1, u19.2.2.2.1, u19.2.2.2.2.1, u19.2.2.2.2.2.1, u19.2.2.2.2.2.2.1, u19.2.2.2.2.2.2.2.1, u19.2.2.2.2.2.2.2.2.1, u19.2.2.2.2.2.2.2.2.2.1, u19.2.2.2.2.2.2.2.2.2.2.1, u19.2.2.2.2.2.2.2.2.2.2.2.1, u19.2.2.2.2.2.2.2.2.2.2.2.2.1 + 1, u19.2.2.2.2.2.2.2.2.2.2.2.2.2) fun s26 => some (0, s26))) else (bd (f_X8_readsDigit 105 2 u19.2) fun u28 => gd (rg u28.1) <| if u28.1 = 0 then (if 0 = 0 then (nm (u28.2.1, u28.2.2.1, u28.2.2.2.1, u28.2.2.2.2.1, u28.2.2.2.2.2.1, u28.2.2.2.2.2.2.1, u28.2.2.2.2.2.2.2.1, u28.2.2.2.2.2.2.2.2.1, u28.2.2.2.2.2.2.2.2.2.1, u28.2.2.2.2.2.2.2.2.2.2.1, u28.2.2.2.2.2.2.2.2.2.2.2.1, u28.2.2.2.2.2.2.2.2.2.2.2.2.1 + 0, u28.2.2.2.2.2.2.2.2.2.2.2.2.2) fun s33 => some (0, s33)) else (nm (u28.2.1, u28.2.2.1, u28.2.2.2.1, u28.2.2.2.2.1, u28.2.2.2.2.2.1, u28.2.2.2.2.2.2.1, u28.2.2.2.2.2.2.2.1, u28.2.2.2.2.2.2.2.2.1, u28.2.2.2.2.2.2.2.2.2.1, u28.2.2.2.2.2.2.2.2.2.2.1, u28.2.2.2.2.2.2.2.2.2.2.2.1, u28.2.2.2.2.2.2.2.2.2.2.2.2.1 + 1, u28.2.2.2.2.2.2.2.2.2.2.2.2.2) fun s35 => some (0, s35))) else (bd (f_X8_readsDigit 99 3 u28.2) fun u37 => gd (rg u37.1) <| if u37.1 = 0 then (if 0 = 0 then (nm (u37.2.1, u37.2.2.1, u37.2.2.2.1, u37.2.2.2.2.1, u37.2.2.2.2.2.1, u37.2.2.2.2.2.2.1, u37.2.2.2.2.2.2.2.1, u37.2.2.2.2.2.2.2.2.1, u37.2.2.2.2.2.2.2.2.2.1, u37.2.2.2.2.2.2.2.2.2.2.1, u37.2.2.2.2.2.2.2.2.2.2.2.1, u37.2.2.2.2.2.2.2.2.2.2.2.2.1 + 0, u37.2.2.2.2.2.2.2.2.2.2.2.2.2) fun s42 => some (0, s42)) else (nm (u37.2.1, u37.2.2.1, u37.2.2.2.1, u37.2.2.2.2.1, u37.2.2.2.2.2.1, u37.2.2.2.2.2.2.1, u37.2.2.2.2.2.2.2.1, u37.2.2.2.2.2.2.2.2.1, u37.2.2.2.2.2.2.2.2.2.1, u37.2.2.2.2.2.2.2.2.2.2.1, u37.2.2.2.2.2.2.2.2.2.2.2.1, u37.2.2.2.2.2.2.2.2.2.2.2.2.1 + 1, u37.2.2.2.2.2.2.2.2.2.2.2.2.2) fun s44 => some (0, s44))) else (bd (f_X8_readsDigit 115 4 u37.2) fun u46 => gd (rg u46.1) <| if u46.1 = 0 then (if 0 = 0 then (nm (u46.2.1, u46.2.2.1, u46.2.2.2.1, u46.2.2.2.2.1, u46.2.2.2.2.2.1, u46.2.2.2.2.2.2.1, u46.2.2.2.2.2.2.2.1, u46.2.2.2.2.2.2.2.2.1, u46.2.2.2.2.2.2.2.2.2.1, u46.2.2.2.2.2.2.2.2.2.2.1, u46.2.2.2.2.2.2.2.2.2.2.2.1, u46.2.2.2.2.2.2.2.2.2.2.2.2.1 + 0, u46.2.2.2.2.2.2.2.2.2.2.2.2.2) fun s51 => some (0, s51)) else (nm (u46.2.1, u46.2.2.1, u46.2.2.2.1, u46.2.2.2.2.1, u46.2.2.2.2.2.1, u46.2.2.2.2.2.2.1, u46.2.2.2.2.2.2.2.1, u46.2.2.2.2.2.2.2.2.1, u46.2.2.2.2.2.2.2.2.2.1, u46.2.2.2.2.2.2.2.2.2.2.1, u46.2.2.2.2.2.2.2.2.2.2.2.1, u46.2.2.2.2.2.2.2.2.2.2.2.2.1 + 1, u46.2.2.2.2.2.2.2.2.2.2.2.2.2) fun s53 => some (0, s53))) else (if 1 = 0 then (nm (u46.2.1, u46.2.2.1, u46.2.2.2.1, u46.2.2.2.2.1, u46.2.2.2.2.2.1, u46.2.2.2.2.2.2.1, u46.2.2.2.2.2.2.2.1, u46.2.2.2.2.2.2.2.2.1, u46.2.2.2.2.2.2.2.2.2.1, u46.2.2.2.2.2.2.2.2.2.2.1, u46.2.2.2.2.2.2.2.2.2.2.2.1, u46.2.2.2.2.2.2.2.2.2.2.2.2.1 + 0, u46.2.2.2.2.2.2.2.2.2.2.2.2.2) fun s56 => some (1, s56)) else (nm (u46.2.1, u46.2.2.1, u46.2.2.2.1, u46.2.2.2.2.1, u46.2.2.2.2.2.1, u46.2.2.2.2.2.2.1, u46.2.2.2.2.2.2.2.1, u46.2.2.2.2.2.2.2.2.1, u46.2.2.2.2.2.2.2.2.2.1, u46.2.2.2.2.2.2.2.2.2.2.1, u46.2.2.2.2.2.2.2.2.2.2.2.1, u46.2.2.2.2.2.2.2.2.2.2.2.2.1 + 1, u46.2.2.2.2.2.2.2.2.2.2.2.2.2) fun s58 => some (1, s58))))))))
def f_X8_areButtons_L15 (N : Nat) : Nat → Int → bM → Option (Int × bM)
  | 0, _, _ => none
  | n + 1, v7, s8 => gd (rg v7) <| if v7 = 0 then (if v7 = 0 then (some (0, s8)) else (gd (rg s8.2.2.2.2.2.2.2.2.2.2.1) <| gd (rg s8.2.2.2.2.2.2.2.2.2.1) <| if s8.2.2.2.2.2.2.2.2.2.2.1 = s8.2.2.2.2.2.2.2.2.2.1 then (some (1, s8)) else (some (0, s8)))) else (bd (f_X8_takes 44 44 s8) fun u15 => gd (rg u15.1) <| if u15.1 = 0 then (if v7 = 0 then (some (0, u15.2)) else (gd (rg u15.2.2.2.2.2.2.2.2.2.2.2.1) <| gd (rg u15.2.2.2.2.2.2.2.2.2.2.1) <| if u15.2.2.2.2.2.2.2.2.2.2.2.1 = u15.2.2.2.2.2.2.2.2.2.2.1 then (some (1, u15.2)) else (some (0, u15.2)))) else (bd (f_X8_readsButton  u15.2) fun u23 => f_X8_areButtons_L15 N n u23.1 u23.2))
def f_X8_areButtons (N : Nat) (z : bM) : Option (Int × bM) := nm (z.1, z.2.1, z.2.2.1, z.2.2.2.1, z.2.2.2.2.1, z.2.2.2.2.2.1, z.2.2.2.2.2.2.1, z.2.2.2.2.2.2.2.1, z.2.2.2.2.2.2.2.2.1, z.2.2.2.2.2.2.2.2.2.1, 0, z.2.2.2.2.2.2.2.2.2.2.2) fun s1 => nm (s1.1, s1.2.1, s1.2.2.1, s1.2.2.2.1, s1.2.2.2.2.1, s1.2.2.2.2.2.1, s1.2.2.2.2.2.2.1, s1.2.2.2.2.2.2.2.1, s1.2.2.2.2.2.2.2.2.1, s1.2.2.2.2.2.2.2.2.2.1, s1.2.2.2.2.2.2.2.2.2.2.1, 0, s1.2.2.2.2.2.2.2.2.2.2.2.2) fun s3 => bd (f_X8_readsButton  s3) fun u5 => f_X8_areButtons_L15 N N u5.1 u5.2
def f_X8_come_L21 (N : Nat) : Nat → Int → Int → Int → bM → Option bM
  | 0, _, _, _, _ => none
  | n + 1, v5, v6, v7, s8 => gd (rg v7) <| if 5 ≤ v7 then (bd (f_X8_put v6 7 (-5) s8) fun u11 => bd (f_X8_put v6 8 0 u11) fun u13 => bd (f_X8_toHopper v6 u13) fun u15 => some u15) else (gd (inb ((5 * v5) + v7) 100) <| bd (f_X8_put v6 v7 (s8.2.2.2.2.2.2.2.2.2.2.2.2 (((5 * v5) + v7).toNat)) s8) fun u18 => f_X8_come_L21 N n v5 v6 (v7 + 1) u18)
def f_X8_come (N : Nat) (x1 : Int) (z : bM) : Option bM := nm (z.1 13) fun v1 => nm (up z.1 13 ((z.1 13) + 1), z.2) fun s3 => f_X8_come_L21 N N x1 v1 0 s3
def f_X8_read_L41 (N : Nat) : Nat → Int → bM → Option (Int × bM)
  | 0, _, _ => none
  | n + 1, v9, s10 => gd (rg v9) <| gd (rg s10.2.2.2.2.2.2.2.2.2.2.2.1) <| if s10.2.2.2.2.2.2.2.2.2.2.2.1 ≤ v9 then (some (s10.2.2.2.2.2.2.2.2.2.2.2.1, s10)) else (bd (f_X8_come N v9 s10) fun u14 => f_X8_read_L41 N n (v9 + 1) u14)
def f_X8_read (N : Nat) (z : bM) : Option (Int × bM) := bd (f_X8_areButtons N  z) fun u1 => gd (rg u1.1) <| if u1.1 = 0 then (some ((-100) - u1.2.2.2.2.2.2.2.2.2.2.2.1, u1.2)) else (gd (rg ((u1.2.1 13) + u1.2.2.2.2.2.2.2.2.2.2.2.2.1)) <| if ((u1.2.1 13) + u1.2.2.2.2.2.2.2.2.2.2.2.2.1) ≤ 40 then (bd (f_X8_record N  u1.2) fun u7 => f_X8_read_L41 N N 0 u7) else (some ((-3), u1.2)))
def f_X8_rankInHopper_L5 (N : Nat) : Nat → Int → Int → Int → bM → Option (Int × bM)
  | 0, _, _, _, _ => none
  | n + 1, v1, v2, v3, s4 => gd (rg v3) <| gd (rg (s4.1 14)) <| if (s4.1 14) ≤ v3 then (some (v2, s4)) else (gd (inb (15 + v3) 415) <| gd (rg (s4.1 ((15 + v3).toNat))) <| gd (rg v1) <| if (s4.1 ((15 + v3).toNat)) = v1 then (f_X8_rankInHopper_L5 N n v1 v3 (v3 + 1) s4) else (f_X8_rankInHopper_L5 N n v1 v2 (v3 + 1) s4))
def f_X8_rankInHopper (N : Nat) (x1 : Int) (z : bM) : Option (Int × bM) := f_X8_rankInHopper_L5 N N x1 (-5) 0 z
def f_X8_button (N : Nat) (x1 x2 : Int) (z : bM) : Option (Int × bM) := bd (f_X8_isButton x1 z) fun u1 => gd (rg u1.1) <| if u1.1 = 0 then (some ((-1), u1.2)) else (gd (rg x2) <| if x2 = 0 then (bd (f_X8_of x1 x2 u1.2) fun u7 => some (u7.1, u7.2)) else if x2 = 1 then (bd (f_X8_of x1 x2 u1.2) fun u10 => some (u10.1, u10.2)) else if x2 = 2 then (bd (f_X8_of x1 x2 u1.2) fun u13 => some (u13.1, u13.2)) else if x2 = 3 then (bd (f_X8_of x1 x2 u1.2) fun u16 => some (u16.1, u16.2)) else if x2 = 4 then (bd (f_X8_of x1 x2 u1.2) fun u19 => some (u19.1, u19.2)) else if x2 = 5 then (bd (f_X8_of x1 x2 u1.2) fun u22 => some (u22.1, u22.2)) else if x2 = 6 then (bd (f_X8_of x1 x2 u1.2) fun u25 => some (u25.1, u25.2)) else if x2 = 7 then (bd (f_X8_rankInHopper N x1 u1.2) fun u28 => some (u28.1, u28.2)) else if x2 = 8 then (bd (f_X8_of x1 7 u1.2) fun u31 => some (u31.1, u31.2)) else if x2 = 9 then (bd (f_X8_of x1 8 u1.2) fun u34 => some (u34.1, u34.2)) else (some ((-2), u1.2)))
def f_X8_inBin (N : Nat) (x1 x2 : Int) (z : bM) : Option (Int × bM) := bd (f_X8_isBin x1) fun u1 => gd (rg u1) <| if u1 = 0 then (some ((-1), z)) else (gd (rg x2) <| if 0 ≤ x2 then (bd (f_X8_order N x1 z) fun u7 => gd (rg u7.2.2.2.2.2.2.2.1) <| if u7.2.2.2.2.2.2.2.1 ≤ x2 then (some ((-5), u7)) else (gd (inb x2 40) <| some (u7.2.2.2.2.2.2.1 x2.toNat, u7))) else (some ((-2), z)))
def f_X8_sumOf_L9 (N : Nat) : Nat → Int → Int → Int → bM → Option (Int × bM)
  | 0, _, _, _, _ => none
  | n + 1, v3, v4, v5, s6 => gd (rg v5) <| gd (rg s6.2.2.2.2.2.2.2.1) <| if s6.2.2.2.2.2.2.2.1 ≤ v5 then (some (v4, s6)) else (gd (inb v5 40) <| bd (f_X8_of (s6.2.2.2.2.2.2.1 v5.toNat) 4 s6) fun u11 => nm (v4 + u11.1) fun v13 => f_X8_sumOf_L9 N n v3 v13 (v5 + 1) u11.2)
def f_X8_sumOf (N : Nat) (x1 : Int) (z : bM) : Option (Int × bM) := bd (f_X8_order N x1 z) fun u1 => f_X8_sumOf_L9 N N x1 0 0 u1
def f_X8_mostAlike_L4 (N : Nat) : Nat → Int → Int → Int → bM → Option (Int × bM)
  | 0, _, _, _, _ => none
  | n + 1, v1, v2, v3, s4 => gd (rg v3) <| if 10 ≤ v3 then (some (v2, s4)) else (bd (f_X8_firstAlike N v1 v3 s4) fun u7 => gd (rg u7.1) <| if u7.1 = (-5) then (f_X8_mostAlike_L4 N n v1 v2 (v3 + 1) u7.2) else (f_X8_mostAlike_L4 N n v1 v3 (v3 + 1) u7.2))
def f_X8_mostAlike (N : Nat) (x1 : Int) (z : bM) : Option (Int × bM) := f_X8_mostAlike_L4 N N x1 0 1 z
def f_X8_spreadOf (N : Nat) (x1 : Int) (z : bM) : Option (Int × bM) := bd (f_X8_order N x1 z) fun u1 => gd (rg u1.2.2.2.2.2.2.2.1) <| if u1.2.2.2.2.2.2.2.1 = 0 then (some (0, u1)) else (bd (f_X8_spread 0 u1.2.2.2.2.2.2.2.1 u1) fun u5 => some (u5.1, u5.2))
def f_X8_bin (N : Nat) (x1 x2 : Int) (z : bM) : Option (Int × bM) := bd (f_X8_isBin x1) fun u1 => gd (rg u1) <| if u1 = 0 then (some ((-1), z)) else (bd (f_X8_manyIn N x1 z) fun u5 => gd (rg x2) <| if x2 = 0 then (some (u5.1, u5.2)) else if x2 = 1 then (gd (rg (u5.2.1 6)) <| gd (rg u5.1) <| if (u5.2.1 6) ≤ u5.1 then (some (0, u5.2)) else (some ((u5.2.1 6) - u5.1, u5.2))) else if x2 = 2 then (bd (f_X8_sumOf N x1 u5.2) fun u14 => some (u14.1, u14.2)) else if x2 = 3 then (bd (f_X8_mostAlike N x1 u5.2) fun u17 => some (u17.1, u17.2)) else if x2 = 4 then (bd (f_X8_spreadOf N x1 u5.2) fun u20 => some (u20.1, u20.2)) else (some ((-2), u5.2)))
def f_X8_chips_L4 (N : Nat) : Nat → Int → Int → bM → Option (Int × bM)
  | 0, _, _, _ => none
  | n + 1, v1, v2, s3 => gd (rg v2) <| gd (rg (s3.1 13)) <| if (s3.1 13) ≤ v2 then (some (v1, s3)) else (bd (f_X8_of v2 3 s3) fun u7 => nm (v1 + u7.1) fun v9 => f_X8_chips_L4 N n v9 (v2 + 1) u7.2)
def f_X8_chips (N : Nat) (z : bM) : Option (Int × bM) := f_X8_chips_L4 N N 0 0 z
def f_X8_total (N : Nat) (x1 : Int) (z : bM) : Option (Int × bM) := bd (f_X8_in x1 0 23) fun u1 => gd (rg u1) <| if u1 = 0 then (some ((-2), z)) else (gd (rg x1) <| if 8 ≤ x1 then (if x1 ≤ 8 then (if x1 = 8 then (some (z.1 13, z)) else if x1 = 21 then (bd (f_X8_chips N  z) fun u10 => some (u10.1, u10.2)) else if x1 = 22 then (some (z.2.2.1, z)) else if x1 = 23 then (some (z.2.2.2.2.2.2.2.2.2.1, z)) else (gd (inb ((8 + x1) - 16) 415) <| some (z.1 (((8 + x1) - 16).toNat), z))) else (if 16 ≤ x1 then (if x1 = 8 then (some (z.1 13, z)) else if x1 = 21 then (bd (f_X8_chips N  z) fun u18 => some (u18.1, u18.2)) else if x1 = 22 then (some (z.2.2.1, z)) else if x1 = 23 then (some (z.2.2.2.2.2.2.2.2.2.1, z)) else (gd (inb ((8 + x1) - 16) 415) <| some (z.1 (((8 + x1) - 16).toNat), z))) else (bd (f_X8_at N (x1 - 9) z) fun u23 => some (u23.1, u23.2)))) else (gd (inb x1 415) <| some (z.1 x1.toNat, z)))
def f_X8_goesTo (N : Nat) (x1 : Int) (z : bM) : Option (Int × bM) := bd (f_X8_isButton x1 z) fun u1 => gd (rg u1.1) <| if u1.1 = 0 then (some ((-1), u1.2)) else (bd (f_X8_of x1 5 u1.2) fun u5 => gd (rg u5.1) <| if u5.1 = 0 then (bd (f_X8_placeFor x1 u5.2) fun u9 => gd (rg u9.1) <| if u9.1 = 2 then (bd (f_X8_at N 2 u9.2) fun u21 => gd (rg (u21.1 + 1)) <| gd (rg (u21.2.1 5)) <| if (u21.1 + 1) < (u21.2.1 5) then (some (2, u21.2)) else (some (3, u21.2))) else (if u9.1 = 5 then (bd (f_X8_binOf x1 u9.2) fun u14 => bd (f_X8_manyIn N u14.1 u14.2) fun u16 => gd (rg u16.1) <| gd (rg (u16.2.1 6)) <| if u16.1 < (u16.2.1 6) then (some (u9.1, u16.2)) else (some (0, u16.2))) else (some (u9.1, u9.2)))) else (some ((-4), u5.2)))
def f_X8_reason (N : Nat) (x1 x2 : Int) (z : bM) : Option (Int × bM) := bd (f_X8_isBin x1) fun u1 => gd (rg u1) <| if u1 = 0 then (some ((-1), z)) else (bd (f_X8_in x2 1 9) fun u5 => gd (rg u5) <| if u5 = 0 then (some ((-2), z)) else (bd (f_X8_reasonFor N x1 x2 z) fun u9 => some (u9.1, u9.2)))
def f_X8_leastSpread_L33 (N : Nat) : Nat → Int → Int → Int → Int → bM → Option (Int × bM)
  | 0, _, _, _, _, _ => none
  | n + 1, v11, v12, v13, v14, s15 => gd (rg (v14 + v12)) <| gd (rg s15.2.2.2.2.2.2.2.1) <| if s15.2.2.2.2.2.2.2.1 < (v14 + v12) then (some (v13, s15)) else (gd (rg v13) <| if v13 = (-5) then (bd (f_X8_spread v14 v12 s15) fun u21 => f_X8_leastSpread_L33 N n v11 v12 u21.1 (v14 + 1) u21.2) else (bd (f_X8_spread v14 v12 s15) fun u23 => gd (rg u23.1) <| if v13 ≤ u23.1 then (f_X8_leastSpread_L33 N n v11 v12 v13 (v14 + 1) u23.2) else (bd (f_X8_spread v14 v12 u23.2) fun u27 => f_X8_leastSpread_L33 N n v11 v12 u27.1 (v14 + 1) u27.2)))
def f_X8_leastSpread (N : Nat) (x1 x2 : Int) (z : bM) : Option (Int × bM) := bd (f_X8_isBin x1) fun u1 => gd (rg u1) <| if u1 = 0 then (some ((-1), z)) else (bd (f_X8_in x2 1 9) fun u5 => gd (rg u5) <| if u5 = 0 then (some ((-2), z)) else (bd (f_X8_order N x1 z) fun u9 => f_X8_leastSpread_L33 N N x1 x2 (-5) 0 u9))
def f_X8_shirts_L25 (N : Nat) (kt : Int → Int → bM → Option (Int × bM)) : Nat → Int → Int → bM → Option (Int × bM)
  | 0, _, _, _ => none
  | n + 1, v16, v17, s18 => bd (f_X8_firstAlike N v17 v16 s18) fun u19 => gd (rg u19.1) <| if u19.1 = (-5) then (kt v16 v17 u19.2) else (bd (f_X8_shirtNow N v17 v16 u19.2) fun u23 => f_X8_shirts_L25 N kt n v16 v17 u23.2)
def f_X8_shirts_L19 (N : Nat) : Nat → Int → Int → bM → Option (Int × bM)
  | 0, _, _, _ => none
  | n + 1, v7, v8, s9 => gd (rg v8) <| if 12 ≤ v8 then (nm ((s9.1 8) - (s9.2.2.2.2.2.1 8)) fun v12 => bd (f_X8_putBack N  s9) fun u14 => some (v12, u14)) else (f_X8_shirts_L25 N (fun v25 v26 s27 => f_X8_shirts_L19 N n v25 (v26 + 1) s27) N v7 v8 s9)
def f_X8_shirts (N : Nat) (x1 : Int) (z : bM) : Option (Int × bM) := bd (f_X8_in x1 1 9) fun u1 => gd (rg u1) <| if u1 = 0 then (some ((-2), z)) else (bd (f_X8_putAside N  z) fun u5 => f_X8_shirts_L19 N N x1 0 u5)
def f_X8_ifMesh_L66 (N : Nat) : Nat → Int → Int → Int → Int → bM → Option (Int × bM)
  | 0, _, _, _, _, _ => none
  | n + 1, v24, v25, v26, v27, s28 => gd (rg v27) <| if v27 ≤ 0 then (bd (f_X8_at N v26 s28) fun u31 => bd (f_X8_putBack N  u31.2) fun u33 => some (u31.1, u33)) else (bd (f_X8_sortOne N  s28) fun u35 => f_X8_ifMesh_L66 N n v24 v25 v26 (v27 + (-1)) u35)
def f_X8_ifMesh (N : Nat) (x1 x2 x3 : Int) (z : bM) : Option (Int × bM) := bd (f_X8_in x1 0 2) fun u1 => gd (rg u1) <| if u1 = 0 then (some ((-1), z)) else (bd (f_X8_in x2 1 30) fun u5 => gd (rg u5) <| if u5 = 0 then (some ((-2), z)) else (bd (f_X8_in x3 0 6) fun u9 => gd (rg u9) <| if u9 = 0 then (some ((-2), z)) else (bd (f_X8_areMeshes x1 x2 z) fun u13 => gd (rg u13.1) <| if u13.1 = 0 then (some ((-4), u13.2)) else (bd (f_X8_putAside N  u13.2) fun u17 => gd (inb x1 415) <| nm (up u17.1 x1.toNat x2, u17.2) fun s20 => nm (s20.1 14) fun v22 => f_X8_ifMesh_L66 N N x1 x2 x3 v22 s20))))
def f_X0_takeDigit (x1 x2 : Int) (z : bBT) : Option (Int × bBT) := gd (rg z.1.2.2.2.2.2.2) <| gd (rg z.2.2) <| if z.1.2.2.2.2.2.2 < z.2.2 then (gd (inb z.1.2.2.2.2.2.2 60) <| nm ((z.2.1 z.1.2.2.2.2.2.2.toNat) - 48) fun v5 => gd (rg v5) <| gd (rg x1) <| if v5 < x1 then (some ((-1), z)) else (gd (rg x2) <| if v5 ≤ x2 then (nm ((z.1.1, z.1.2.1, z.1.2.2.1, z.1.2.2.2.1, z.1.2.2.2.2.1, z.1.2.2.2.2.2.1, z.1.2.2.2.2.2.2 + 1), z.2) fun s12 => some (v5, s12)) else (some ((-1), z)))) else (some ((-1), z))
def f_X0_takeSign (x1 : Int) (z : bBT) : Option (Int × bBT) := gd (rg z.1.2.2.2.2.2.2) <| gd (rg z.2.2) <| if z.2.2 ≤ z.1.2.2.2.2.2.2 then (some (0, z)) else (gd (inb z.1.2.2.2.2.2.2 60) <| gd (rg (z.2.1 z.1.2.2.2.2.2.2.toNat)) <| gd (rg x1) <| if (z.2.1 z.1.2.2.2.2.2.2.toNat) = x1 then (nm ((z.1.1, z.1.2.1, z.1.2.2.1, z.1.2.2.2.1, z.1.2.2.2.2.1, z.1.2.2.2.2.2.1, z.1.2.2.2.2.2.2 + 1), z.2) fun s8 => some (1, s8)) else (some (0, z)))
def f_X0_takePart (x1 : Int) (z : bBT) : Option (Int × bBT) := bd (f_X0_takeSign x1 z) fun u1 => gd (rg u1.1) <| if u1.1 = 0 then (some (0, u1.2)) else (bd (f_X0_takeDigit 0 9 u1.2) fun u5 => some (u5.1, u5.2))
def f_X0_takeSize (z : bBT) : Option (Int × bBT) := bd (f_X0_takeDigit 1 9 z) fun u1 => gd (rg u1.1) <| if u1.1 < 0 then (some (u1.1, u1.2)) else (if u1.1 ≤ 3 then (if u1.1 = 3 then (bd (f_X0_takeDigit 0 0 u1.2) fun u11 => gd (rg u11.1) <| if 0 ≤ u11.1 then (some ((10 * u1.1) + u11.1, u11.2)) else (some (u1.1, u11.2))) else (bd (f_X0_takeDigit 0 9 u1.2) fun u7 => gd (rg u7.1) <| if 0 ≤ u7.1 then (some ((10 * u1.1) + u7.1, u7.2)) else (some (u1.1, u7.2)))) else (some (u1.1, u1.2)))
def f_X0_takeButton (x1 : Int) (z : bBT) : Option (Int × bBT) := bd (f_X0_takeDigit 1 4 z) fun u1 => gd (inb x1 15) <| nm ((up u1.2.1.1 x1.toNat u1.1, u1.2.1.2), u1.2.2) fun s4 => gd (rg (s4.1.1 x1.toNat)) <| if (s4.1.1 x1.toNat) < 0 then (some (0, s4)) else (bd (f_X0_takeSign 104 s4) fun u8 => gd (rg u8.1) <| if u8.1 = 0 then (some (0, u8.2)) else (bd (f_X0_takeSize  u8.2) fun u12 => nm ((u12.2.1.1, up u12.2.1.2.1 x1.toNat u12.1, u12.2.1.2.2), u12.2.2) fun s14 => gd (rg (s14.1.2.1 x1.toNat)) <| if 0 ≤ (s14.1.2.1 x1.toNat) then (bd (f_X0_takePart 105 s14) fun u18 => nm ((u18.2.1.1, u18.2.1.2.1, up u18.2.1.2.2.1 x1.toNat u18.1, u18.2.1.2.2.2), u18.2.2) fun s20 => gd (rg (s20.1.2.2.1 x1.toNat)) <| if 0 ≤ (s20.1.2.2.1 x1.toNat) then (bd (f_X0_takePart 99 s20) fun u24 => nm ((u24.2.1.1, u24.2.1.2.1, u24.2.1.2.2.1, up u24.2.1.2.2.2.1 x1.toNat u24.1, u24.2.1.2.2.2.2), u24.2.2) fun s26 => gd (rg (s26.1.2.2.2.1 x1.toNat)) <| if 0 ≤ (s26.1.2.2.2.1 x1.toNat) then (bd (f_X0_takePart 115 s26) fun u30 => nm ((u30.2.1.1, u30.2.1.2.1, u30.2.1.2.2.1, u30.2.1.2.2.2.1, up u30.2.1.2.2.2.2.1 x1.toNat u30.1, u30.2.1.2.2.2.2.2), u30.2.2) fun s32 => gd (rg (s32.1.2.2.2.2.1 x1.toNat)) <| if (s32.1.2.2.2.2.1 x1.toNat) < 0 then (some (0, s32)) else (some (1, s32))) else (some (0, s26))) else (some (0, s20))) else (some (0, s14))))
def f_X0_parse_L12 (N : Nat) : Nat → Int → bBT → Option (Int × bBT)
  | 0, _, _ => none
  | n + 1, v5, s6 => gd (rg v5) <| if 15 ≤ v5 then (some (s6.1.2.2.2.2.2.2, s6)) else (bd (f_X0_takeButton v5 s6) fun u9 => gd (rg u9.1) <| if u9.1 = 0 then (some (u9.2.1.2.2.2.2.2.2, u9.2)) else (nm ((u9.2.1.1, u9.2.1.2.1, u9.2.1.2.2.1, u9.2.1.2.2.2.1, u9.2.1.2.2.2.2.1, u9.2.1.2.2.2.2.2.1 + 1, u9.2.1.2.2.2.2.2.2), u9.2.2) fun s13 => gd (rg s13.1.2.2.2.2.2.2) <| gd (rg s13.2.2) <| if s13.1.2.2.2.2.2.2 < s13.2.2 then (bd (f_X0_takeSign 44 s13) fun u18 => gd (rg u18.1) <| if u18.1 = 0 then (some (u18.2.1.2.2.2.2.2.2, u18.2)) else (f_X0_parse_L12 N n (v5 + 1) u18.2)) else (some ((-1), s13))))
def f_X0_parse (N : Nat) (z : bBT) : Option (Int × bBT) := nm ((z.1.1, z.1.2.1, z.1.2.2.1, z.1.2.2.2.1, z.1.2.2.2.2.1, z.1.2.2.2.2.2.1, 0), z.2) fun s1 => nm ((s1.1.1, s1.1.2.1, s1.1.2.2.1, s1.1.2.2.2.1, s1.1.2.2.2.2.1, 0, s1.1.2.2.2.2.2.2), s1.2) fun s3 => f_X0_parse_L12 N N 0 s3
def f_X1_has (x1 : Int) (z : bU) : Option (Int × bU) := gd (rg x1) <| if x1 < 0 then (some (0, z)) else (gd (rg z.2.2.2.2.2.2) <| if z.2.2.2.2.2.2 ≤ x1 then (some (0, z)) else (some (1, z)))
def f_X1_brighten (x1 : Int) (z : bU) : Option bU := gd (inb x1 40) <| nm (z.1, z.2.1, z.2.2.1, z.2.2.2.1, up z.2.2.2.2.1 x1.toNat ((z.2.2.2.2.1 x1.toNat) + 1), z.2.2.2.2.2) fun s2 => gd (rg (s2.2.2.2.1 x1.toNat)) <| if (s2.2.2.2.1 x1.toNat) ≤ 0 then (some s2) else (nm (s2.1, s2.2.1, s2.2.2.1, up s2.2.2.2.1 x1.toNat ((s2.2.2.2.1 x1.toNat) - 1), s2.2.2.2.2) fun s6 => some s6)
def f_X1_chip (x1 : Int) (z : bU) : Option bU := gd (inb x1 40) <| gd (rg (z.2.2.2.1 x1.toNat)) <| if 9 ≤ (z.2.2.2.1 x1.toNat) then (some z) else (nm (z.1, z.2.1, z.2.2.1, up z.2.2.2.1 x1.toNat ((z.2.2.2.1 x1.toNat) + 1), z.2.2.2.2) fun s4 => some s4)
def f_X1_chipSum_L4 (N : Nat) : Nat → Int → Int → bU → Option (Int × bU)
  | 0, _, _, _ => none
  | n + 1, v1, v2, s3 => gd (rg v2) <| gd (rg s3.2.2.2.2.2.2) <| if s3.2.2.2.2.2.2 ≤ v2 then (some (v1, s3)) else (gd (inb v2 40) <| nm (v1 + (s3.2.2.2.1 v2.toNat)) fun v8 => f_X1_chipSum_L4 N n v8 (v2 + 1) s3)
def f_X1_chipSum (N : Nat) (z : bU) : Option (Int × bU) := f_X1_chipSum_L4 N N 0 0 z
def f_X1_copyFrom (z : bUU) : Option bUU := nm ((z.1.1, z.1.2.1, z.1.2.2.1, z.1.2.2.2.1, z.1.2.2.2.2.1, z.1.2.2.2.2.2.1, z.2.2.2.2.2.2.2), z.2) fun s1 => gd (inb s1.1.2.2.2.2.2.2 41) <| nm ((va_cpy s1.2.1 s1.1.1 0 0 s1.1.2.2.2.2.2.2.toNat, s1.1.2), s1.2) fun s4 => gd (inb s4.1.2.2.2.2.2.2 41) <| nm ((s4.1.1, va_cpy s4.2.2.1 s4.1.2.1 0 0 s4.1.2.2.2.2.2.2.toNat, s4.1.2.2), s4.2) fun s7 => gd (inb s7.1.2.2.2.2.2.2 41) <| nm ((s7.1.1, s7.1.2.1, va_cpy s7.2.2.2.1 s7.1.2.2.1 0 0 s7.1.2.2.2.2.2.2.toNat, s7.1.2.2.2), s7.2) fun s10 => gd (inb s10.1.2.2.2.2.2.2 41) <| nm ((s10.1.1, s10.1.2.1, s10.1.2.2.1, va_cpy s10.2.2.2.2.1 s10.1.2.2.2.1 0 0 s10.1.2.2.2.2.2.2.toNat, s10.1.2.2.2.2), s10.2) fun s13 => gd (inb s13.1.2.2.2.2.2.2 41) <| nm ((s13.1.1, s13.1.2.1, s13.1.2.2.1, s13.1.2.2.2.1, va_cpy s13.2.2.2.2.2.1 s13.1.2.2.2.2.1 0 0 s13.1.2.2.2.2.2.2.toNat, s13.1.2.2.2.2.2), s13.2) fun s16 => gd (inb s16.1.2.2.2.2.2.2 41) <| nm ((s16.1.1, s16.1.2.1, s16.1.2.2.1, s16.1.2.2.2.1, s16.1.2.2.2.2.1, va_cpy s16.2.2.2.2.2.2.1 s16.1.2.2.2.2.2.1 0 0 s16.1.2.2.2.2.2.2.toNat, s16.1.2.2.2.2.2.2), s16.2) fun s19 => some s19
def f_X4_leave (x1 : Int) (z : bP) : Option bP := gd (inb x1 40) <| gd (inb (z.1 x1.toNat) 7) <| nm (z.1, z.2.1, z.2.2.1, z.2.2.2.1, up z.2.2.2.2.1 ((z.1 x1.toNat).toNat) ((z.2.2.2.2.1 ((z.1 x1.toNat).toNat)) - 1), z.2.2.2.2.2) fun s3 => gd (rg (s3.2.1 x1.toNat)) <| if (s3.2.1 x1.toNat) < 0 then (some s3) else (gd (inb (s3.2.1 x1.toNat) 12) <| nm (s3.1, s3.2.1, s3.2.2.1, s3.2.2.2.1, s3.2.2.2.2.1, up s3.2.2.2.2.2 ((s3.2.1 x1.toNat).toNat) ((s3.2.2.2.2.2 ((s3.2.1 x1.toNat).toNat)) - 1)) fun s8 => some s8)
def f_X4_takeFirst (z : bP) : Option (Int × bP) := nm (z.2.2.2.1 0) fun v1 => bd (f_X4_leave v1 z) fun u3 => gd (inb (u3.2.2.2.2.1 0) 40) <| nm (u3.1, u3.2.1, u3.2.2.1, va_cpy u3.2.2.2.1 u3.2.2.2.1 1 0 ((u3.2.2.2.2.1 0).toNat), u3.2.2.2.2) fun s6 => some (v1, s6)
def f_X4_bring (x1 x2 : Int) (z : bP) : Option bP := gd (inb x1 40) <| nm (up z.1 x1.toNat x2, z.2) fun s2 => nm (s2.1, up s2.2.1 x1.toNat (-5), s2.2.2) fun s4 => nm (s4.1, s4.2.1, up s4.2.2.1 x1.toNat (-5), s4.2.2.2) fun s6 => gd (inb x2 7) <| nm (s6.1, s6.2.1, s6.2.2.1, s6.2.2.2.1, up s6.2.2.2.2.1 x2.toNat ((s6.2.2.2.2.1 x2.toNat) + 1), s6.2.2.2.2.2) fun s9 => some s9
def f_X4_bringToHopper (x1 : Int) (z : bP) : Option bP := gd (inb (z.2.2.2.2.1 0) 40) <| nm (z.1, z.2.1, z.2.2.1, up z.2.2.2.1 ((z.2.2.2.2.1 0).toNat) x1, z.2.2.2.2) fun s2 => bd (f_X4_bring x1 0 s2) fun u4 => some u4
def f_X4_bringToBin (x1 x2 : Int) (z : bP) : Option bP := bd (f_X4_bring x1 5 z) fun u1 => gd (inb x1 40) <| nm (u1.1, up u1.2.1 x1.toNat x2, u1.2.2) fun s4 => gd (inb x2 12) <| nm (s4.1, s4.2.1, s4.2.2.1, s4.2.2.2.1, s4.2.2.2.2.1, up s4.2.2.2.2.2 x2.toNat ((s4.2.2.2.2.2 x2.toNat) + 1)) fun s7 => some s7
def f_X4_bringToShirt (x1 x2 : Int) (z : bP) : Option bP := bd (f_X4_bring x1 6 z) fun u1 => gd (inb x1 40) <| nm (u1.1, u1.2.1, up u1.2.2.1 x1.toNat x2, u1.2.2.2) fun s4 => some s4
def f_X4_rankInHopper_L2 (N : Nat) : Nat → Int → Int → bP → Option (Int × bP)
  | 0, _, _, _ => none
  | n + 1, v1, v2, s3 => gd (rg v2) <| gd (rg (s3.2.2.2.2.1 0)) <| if (s3.2.2.2.2.1 0) ≤ v2 then (some ((-5), s3)) else (gd (inb v2 40) <| gd (rg (s3.2.2.2.1 v2.toNat)) <| gd (rg v1) <| if (s3.2.2.2.1 v2.toNat) = v1 then (some (v2, s3)) else (f_X4_rankInHopper_L2 N n v1 (v2 + 1) s3))
def f_X4_rankInHopper (N : Nat) (x1 : Int) (z : bP) : Option (Int × bP) := f_X4_rankInHopper_L2 N N x1 0 z
def f_X4_copyFrom (x2 : Int) (z : bPP) : Option bPP := gd (inb x2 41) <| nm ((va_cpy z.2.1 z.1.1 0 0 x2.toNat, z.1.2), z.2) fun s2 => nm ((s2.1.1, va_cpy s2.2.2.1 s2.1.2.1 0 0 x2.toNat, s2.1.2.2), s2.2) fun s4 => nm ((s4.1.1, s4.1.2.1, va_cpy s4.2.2.2.1 s4.1.2.2.1 0 0 x2.toNat, s4.1.2.2.2), s4.2) fun s6 => gd (inb (s6.2.2.2.2.2.1 0) 41) <| nm ((s6.1.1, s6.1.2.1, s6.1.2.2.1, va_cpy s6.2.2.2.2.1 s6.1.2.2.2.1 0 0 ((s6.2.2.2.2.2.1 0).toNat), s6.1.2.2.2.2), s6.2) fun s9 => nm ((s9.1.1, s9.1.2.1, s9.1.2.2.1, s9.1.2.2.2.1, va_cpy s9.2.2.2.2.2.1 s9.1.2.2.2.2.1 0 0 7, s9.1.2.2.2.2.2), s9.2) fun s11 => nm ((s11.1.1, s11.1.2.1, s11.1.2.2.1, s11.1.2.2.2.1, s11.1.2.2.2.2.1, va_cpy s11.2.2.2.2.2.2 s11.1.2.2.2.2.2 0 0 12), s11.2) fun s13 => some s13
def f_X6_append (x1 : Int) (z : bT) : Option (Int × bT) := gd (rg z.2) <| if z.2 < 60 then (gd (inb z.2 60) <| gd (inb x1 65536) <| nm (up z.1 z.2.toNat x1, z.2) fun s5 => nm (s5.1, s5.2 + 1) fun s7 => some (1, s7)) else (some (0, z))
def f_X5_takeIn (x2 : Int) (z : bSB) : Option bSB := gd (rg z.1.1.2.2.2.2.2.2) <| if z.1.1.2.2.2.2.2.2 < 40 then (gd (inb x2 15) <| gd (inb z.1.1.2.2.2.2.2.2 40) <| nm (((up z.1.1.1 z.1.1.2.2.2.2.2.2.toNat (z.2.1 x2.toNat), z.1.1.2), z.1.2), z.2) fun s5 => nm (((s5.1.1.1, up s5.1.1.2.1 z.1.1.2.2.2.2.2.2.toNat (s5.2.2.1 x2.toNat), s5.1.1.2.2), s5.1.2), s5.2) fun s7 => nm (((s7.1.1.1, s7.1.1.2.1, up s7.1.1.2.2.1 z.1.1.2.2.2.2.2.2.toNat (s7.2.2.2.1 x2.toNat), s7.1.1.2.2.2), s7.1.2), s7.2) fun s9 => nm (((s9.1.1.1, s9.1.1.2.1, s9.1.1.2.2.1, up s9.1.1.2.2.2.1 z.1.1.2.2.2.2.2.2.toNat (s9.2.2.2.2.1 x2.toNat), s9.1.1.2.2.2.2), s9.1.2), s9.2) fun s11 => nm (((s11.1.1.1, s11.1.1.2.1, s11.1.1.2.2.1, s11.1.1.2.2.2.1, up s11.1.1.2.2.2.2.1 z.1.1.2.2.2.2.2.2.toNat (s11.2.2.2.2.2.1 x2.toNat), s11.1.1.2.2.2.2.2), s11.1.2), s11.2) fun s13 => nm (((s13.1.1.1, s13.1.1.2.1, s13.1.1.2.2.1, s13.1.1.2.2.2.1, s13.1.1.2.2.2.2.1, up s13.1.1.2.2.2.2.2.1 z.1.1.2.2.2.2.2.2.toNat 0, s13.1.1.2.2.2.2.2.2), s13.1.2), s13.2) fun s15 => nm (((s15.1.1.1, s15.1.1.2.1, s15.1.1.2.2.1, s15.1.1.2.2.2.1, s15.1.1.2.2.2.2.1, s15.1.1.2.2.2.2.2.1, s15.1.1.2.2.2.2.2.2 + 1), s15.1.2), s15.2) fun s17 => bd (f_X4_bringToHopper z.1.1.2.2.2.2.2.2 s17.1.2.1) fun u19 => nm ((s17.1.1, u19, s17.1.2.2), s17.2) fun s21 => some s21) else (some z)
def f_X5_meshClass_L2 (N : Nat) : Nat → Int → Int → bS → Option (Int × bS)
  | 0, _, _, _ => none
  | n + 1, v1, v2, s3 => gd (rg v2) <| if 2 ≤ v2 then (some (v2, s3)) else (gd (inb v2 8) <| gd (inb v1 40) <| gd (rg (s3.2.2.1 v2.toNat)) <| gd (rg (s3.1.2.1 v1.toNat)) <| if (s3.1.2.1 v1.toNat) ≤ (s3.2.2.1 v2.toNat) then (some (v2, s3)) else (f_X5_meshClass_L2 N n v1 (v2 + 1) s3))
def f_X5_meshClass (N : Nat) (x1 : Int) (z : bS) : Option (Int × bS) := f_X5_meshClass_L2 N N x1 0 z
def f_X5_binFor (N : Nat) (x1 : Int) (z : bS) : Option (Int × bS) := bd (f_X5_meshClass N x1 z) fun u1 => gd (inb x1 40) <| some (((4 * u1.1) + (u1.2.1.1 x1.toNat)) - 1, u1.2)
def f_X5_placeFor (N : Nat) (x1 : Int) (z : bS) : Option (Int × bS) := gd (inb x1 40) <| gd (rg (z.1.2.2.2.1 x1.toNat)) <| gd (rg (z.2.2.1 3)) <| if (z.1.2.2.2.1 x1.toNat) ≤ (z.2.2.1 3) then (gd (rg (z.1.2.2.1 x1.toNat)) <| gd (rg (z.2.2.1 4)) <| if (z.1.2.2.1 x1.toNat) < (z.2.2.1 4) then (gd (rg (z.1.2.1 x1.toNat)) <| gd (rg (z.2.2.1 2)) <| if (z.1.2.1 x1.toNat) ≤ (z.2.2.1 2) then (bd (f_X5_binFor N x1 z) fun u11 => gd (inb u11.1 12) <| gd (rg (u11.2.2.1.2.2.2.2.2 u11.1.toNat)) <| gd (rg (u11.2.2.2.1 6)) <| if (u11.2.2.2.1 6) ≤ (u11.2.2.1.2.2.2.2.2 u11.1.toNat) then (some (0, u11.2)) else (some (5, u11.2))) else (some (4, z))) else (gd (rg ((z.2.1.2.2.2.2.1 2) + 1)) <| gd (rg (z.2.2.1 5)) <| if ((z.2.1.2.2.2.2.1 2) + 1) < (z.2.2.1 5) then (some (2, z)) else (some (3, z)))) else (some (1, z))
def f_X5_emptyMagnet_L2 (N : Nat) : Nat → Int → bS → Option bS
  | 0, _, _ => none
  | n + 1, v1, s2 => gd (rg v1) <| gd (rg s2.1.2.2.2.2.2.2) <| if s2.1.2.2.2.2.2.2 ≤ v1 then (some s2) else (gd (inb v1 40) <| gd (rg (s2.2.1.1 v1.toNat)) <| if (s2.2.1.1 v1.toNat) = 2 then (bd (f_X4_leave v1 s2.2.1) fun u9 => nm (s2.1, u9, s2.2.2) fun s11 => bd (f_X4_bring v1 3 s11.2.1) fun u13 => nm (s11.1, u13, s11.2.2) fun s15 => f_X5_emptyMagnet_L2 N n (v1 + 1) s15) else (f_X5_emptyMagnet_L2 N n (v1 + 1) s2))
def f_X5_emptyMagnet (N : Nat) (z : bS) : Option bS := f_X5_emptyMagnet_L2 N N 0 z
def f_X5_rub (N : Nat) (x1 : Int) (z : bS) : Option bS := gd (inb x1 40) <| bd (f_X5_meshClass N x1 z) fun u2 => gd (inb u2.1 8) <| gd (rg (z.1.2.1 x1.toNat)) <| gd (rg (u2.2.2.2.1 u2.1.toNat)) <| if (z.1.2.1 x1.toNat) = (u2.2.2.2.1 u2.1.toNat) then (nm (u2.2.1, u2.2.2.1, u2.2.2.2.1, u2.2.2.2.2.1, u2.2.2.2.2.2.1, u2.2.2.2.2.2.2.1, u2.2.2.2.2.2.2.2.1, u2.2.2.2.2.2.2.2.2 + 1) fun s8 => bd (f_X1_chip x1 s8.1) fun u10 => nm (u10, s8.2) fun s12 => some s12) else (some u2.2)
def f_X5_sortFirst (N : Nat) (z : bS) : Option bS := gd (rg (z.2.1.2.2.2.2.1 0)) <| if 1 ≤ (z.2.1.2.2.2.2.1 0) then (bd (f_X4_takeFirst  z.2.1) fun u3 => nm (z.1, u3.2, z.2.2) fun s5 => gd (inb u3.1 40) <| nm ((s5.1.1, s5.1.2.1, s5.1.2.2.1, s5.1.2.2.2.1, s5.1.2.2.2.2.1, up s5.1.2.2.2.2.2.1 u3.1.toNat ((s5.1.2.2.2.2.2.1 u3.1.toNat) + 1), s5.1.2.2.2.2.2.2), s5.2) fun s8 => nm (s8.1, s8.2.1, s8.2.2.1, s8.2.2.2.1, s8.2.2.2.2.1, s8.2.2.2.2.2.1 + 1, s8.2.2.2.2.2.2) fun s10 => bd (f_X5_placeFor N u3.1 s10) fun u12 => gd (rg u12.1) <| if u12.1 = 0 then (bd (f_X5_rub N u3.1 u12.2) fun u16 => nm (u16.1, u16.2.1, u16.2.2.1, u16.2.2.2.1, u16.2.2.2.2.1, u16.2.2.2.2.2.1, u16.2.2.2.2.2.2.1 + 1, u16.2.2.2.2.2.2.2) fun s18 => bd (f_X4_bringToHopper u3.1 s18.2.1) fun u20 => nm (s18.1, u20, s18.2.2) fun s22 => some s22) else if u12.1 = 3 then (bd (f_X4_bring u3.1 2 u12.2.2.1) fun u25 => nm (u12.2.1, u25, u12.2.2.2) fun s27 => bd (f_X5_emptyMagnet N  s27) fun u29 => some u29) else if u12.1 = 5 then (bd (f_X5_rub N u3.1 u12.2) fun u32 => bd (f_X5_binFor N u3.1 u32) fun u34 => bd (f_X4_bringToBin u3.1 u34.1 u34.2.2.1) fun u36 => nm (u34.2.1, u36, u34.2.2.2) fun s38 => some s38) else (bd (f_X4_bring u3.1 u12.1 u12.2.2.1) fun u40 => nm (u12.2.1, u40, u12.2.2.2) fun s42 => some s42)) else (some z)
def f_X5_emptyBin_L2 (N : Nat) : Nat → Int → Int → bS → Option bS
  | 0, _, _, _ => none
  | n + 1, v1, v2, s3 => gd (rg v2) <| gd (rg s3.1.2.2.2.2.2.2) <| if s3.1.2.2.2.2.2.2 ≤ v2 then (some s3) else (gd (inb v2 40) <| gd (rg (s3.2.1.2.1 v2.toNat)) <| gd (rg v1) <| if (s3.2.1.2.1 v2.toNat) = v1 then (bd (f_X4_leave v2 s3.2.1) fun u11 => nm (s3.1, u11, s3.2.2) fun s13 => bd (f_X4_bringToHopper v2 s13.2.1) fun u15 => nm (s13.1, u15, s13.2.2) fun s17 => f_X5_emptyBin_L2 N n v1 (v2 + 1) s17) else (f_X5_emptyBin_L2 N n v1 (v2 + 1) s3))
def f_X5_emptyBin (N : Nat) (x1 : Int) (z : bS) : Option bS := f_X5_emptyBin_L2 N N x1 0 z
def f_X5_makeShirt_L6 (N : Nat) : Nat → Int → Int → Int → Int → bSO → Option (Int × bSO)
  | 0, _, _, _, _, _ => none
  | n + 1, v1, v2, v3, v4, s5 => gd (rg v4) <| gd (rg v2) <| if v2 ≤ v4 then (gd (rg v3) <| nm (if v3 < 0 then 0 else v3) fun v10 => nm ((s5.1.1, s5.1.2.1, s5.1.2.2.1, s5.1.2.2.2.1 + 1, s5.1.2.2.2.2), s5.2) fun s12 => nm ((s12.1.1, s12.1.2.1, s12.1.2.2.1, s12.1.2.2.2.1, s12.1.2.2.2.2.1 + v10, s12.1.2.2.2.2.2), s12.2) fun s14 => some (v10, s14)) else (gd (inb (v1 + v4) 40) <| nm (s5.2.1 ((v1 + v4).toNat)) fun v17 => gd (inb v17 40) <| nm (v3 + ((s5.1.1.2.2.2.2.1 v17.toNat) - (s5.1.1.2.2.2.1 v17.toNat))) fun v20 => bd (f_X4_leave v17 s5.1.2.1) fun u22 => nm ((s5.1.1, u22, s5.1.2.2), s5.2) fun s24 => bd (f_X4_bringToShirt v17 s24.1.2.2.2.1 s24.1.2.1) fun u26 => nm ((s24.1.1, u26, s24.1.2.2), s24.2) fun s28 => f_X5_makeShirt_L6 N n v1 v2 v20 (v4 + 1) s28)
def f_X5_makeShirt (N : Nat) (x2 x3 : Int) (z : bSO) : Option (Int × bSO) := f_X5_makeShirt_L6 N N x2 x3 0 0 z
def f_X5_meshesAllow (x1 x2 : Int) (z : bS) : Option (Int × bS) := gd (rg x1) <| if x1 < 3 then (if x1 ≤ 0 then (if x1 = 2 then (some (1, z)) else (gd (inb (x1 + 1) 8) <| gd (rg x2) <| gd (rg (z.2.2.1 ((x1 + 1).toNat))) <| if (z.2.2.1 ((x1 + 1).toNat)) < x2 then (some (0, z)) else (some (1, z)))) else (gd (inb (x1 - 1) 8) <| gd (rg (z.2.2.1 ((x1 - 1).toNat))) <| gd (rg x2) <| if (z.2.2.1 ((x1 - 1).toNat)) ≤ x2 then (if x1 = 2 then (some (1, z)) else (gd (inb (x1 + 1) 8) <| gd (rg (z.2.2.1 ((x1 + 1).toNat))) <| if (z.2.2.1 ((x1 + 1).toNat)) < x2 then (some (0, z)) else (some (1, z)))) else (some (0, z)))) else (some (1, z))
def f_X5_copyFrom (z : bSS) : Option bSS := bd (f_X1_copyFrom  (z.1.1, z.2.1)) fun u1 => nm ((u1.1, z.1.2), z.2) fun s3 => nm (s3.1, (u1.2, s3.2.2)) fun s5 => bd (f_X4_copyFrom s5.2.1.2.2.2.2.2.2 (s5.1.2.1, s5.2.2.1)) fun u7 => nm ((s5.1.1, u7.1, s5.1.2.2), s5.2) fun s9 => nm (s9.1, (s9.2.1, u7.2, s9.2.2.2)) fun s11 => nm ((s11.1.1, s11.1.2.1, va_cpy s11.2.2.2.1 s11.1.2.2.1 0 0 8, s11.1.2.2.2), s11.2) fun s13 => nm ((s13.1.1, s13.1.2.1, s13.1.2.2.1, s13.2.2.2.2.1, s13.1.2.2.2.2), s13.2) fun s15 => nm ((s15.1.1, s15.1.2.1, s15.1.2.2.1, s15.1.2.2.2.1, s15.2.2.2.2.2.1, s15.1.2.2.2.2.2), s15.2) fun s17 => nm ((s17.1.1, s17.1.2.1, s17.1.2.2.1, s17.1.2.2.2.1, s17.1.2.2.2.2.1, s17.2.2.2.2.2.2.1, s17.1.2.2.2.2.2.2), s17.2) fun s19 => nm ((s19.1.1, s19.1.2.1, s19.1.2.2.1, s19.1.2.2.2.1, s19.1.2.2.2.2.1, s19.1.2.2.2.2.2.1, s19.2.2.2.2.2.2.2.1, s19.1.2.2.2.2.2.2.2), s19.2) fun s21 => nm ((s21.1.1, s21.1.2.1, s21.1.2.2.1, s21.1.2.2.2.1, s21.1.2.2.2.2.1, s21.1.2.2.2.2.2.1, s21.1.2.2.2.2.2.2.1, s21.2.2.2.2.2.2.2.2), s21.2) fun s23 => some s23
def f_X3_insert_L5 (N : Nat) : Nat → Int → Int → Int → bO → Option bO
  | 0, _, _, _, _ => none
  | n + 1, v1, v2, v3, s4 => gd (rg v3) <| if v3 ≤ 0 then (gd (inb v3 40) <| nm (up s4.1 v3.toNat v1, s4.2) fun s8 => nm (s8.1, up s8.2.1 v3.toNat v2, s8.2.2) fun s10 => nm (s10.1, s10.2.1, s10.2.2 + 1) fun s12 => some s12) else (gd (inb (v3 - 1) 40) <| gd (rg (s4.2.1 ((v3 - 1).toNat))) <| gd (rg v2) <| if (s4.2.1 ((v3 - 1).toNat)) ≤ v2 then (gd (inb v3 40) <| nm (up s4.1 v3.toNat v1, s4.2) fun s19 => nm (s19.1, up s19.2.1 v3.toNat v2, s19.2.2) fun s21 => nm (s21.1, s21.2.1, s21.2.2 + 1) fun s23 => some s23) else (gd (inb v3 40) <| nm (up s4.1 v3.toNat (s4.1 ((v3 - 1).toNat)), s4.2) fun s26 => nm (s26.1, up s26.2.1 v3.toNat (s26.2.1 ((v3 - 1).toNat)), s26.2.2) fun s28 => f_X3_insert_L5 N n v1 v2 (v3 + (-1)) s28))
def f_X3_insert (N : Nat) (x1 x2 : Int) (z : bO) : Option bO := f_X3_insert_L5 N N x1 x2 z.2.2 z
def f_X3_fill_L7 (N : Nat) : Nat → Int → Int → bOS → Option bOS
  | 0, _, _, _ => none
  | n + 1, v3, v4, s5 => gd (rg v4) <| gd (rg s5.2.1.2.2.2.2.2.2) <| if s5.2.1.2.2.2.2.2.2 ≤ v4 then (some s5) else (gd (inb v4 40) <| gd (rg (s5.2.2.1.2.1 v4.toNat)) <| gd (rg v3) <| if (s5.2.2.1.2.1 v4.toNat) = v3 then (bd (f_X3_insert N v4 (s5.2.1.2.2.2.2.1 v4.toNat) s5.1) fun u13 => nm (u13, s5.2) fun s15 => f_X3_fill_L7 N n v3 (v4 + 1) s15) else (f_X3_fill_L7 N n v3 (v4 + 1) s5))
def f_X3_fill (N : Nat) (x2 : Int) (z : bOS) : Option bOS := nm ((z.1.1, z.1.2.1, 0), z.2) fun s1 => f_X3_fill_L7 N N x2 0 s1
def f_X3_spreadFrom (x1 x2 : Int) (z : bO) : Option (Int × bO) := gd (inb ((x1 + x2) - 1) 40) <| gd (inb x1 40) <| some ((z.2.1 (((x1 + x2) - 1).toNat)) - (z.2.1 x1.toNat), z)
def f_X3_firstAlike_L2 (N : Nat) : Nat → Int → Int → Int → bO → Option (Int × bO)
  | 0, _, _, _, _ => none
  | n + 1, v1, v2, v3, s4 => gd (rg (v3 + v1)) <| gd (rg s4.2.2) <| if s4.2.2 < (v3 + v1) then (some ((-1), s4)) else (bd (f_X3_spreadFrom v3 v1 s4) fun u8 => gd (rg u8.1) <| gd (rg v2) <| if v2 < u8.1 then (f_X3_firstAlike_L2 N n v1 v2 (v3 + 1) u8.2) else (some (v3, u8.2)))
def f_X3_firstAlike (N : Nat) (x1 x2 : Int) (z : bO) : Option (Int × bO) := f_X3_firstAlike_L2 N N x1 x2 0 z
def f_X3_narrowest_L5 (N : Nat) : Nat → Int → Int → Int → bO → Option (Int × bO)
  | 0, _, _, _, _ => none
  | n + 1, v1, v2, v3, s4 => gd (rg (v3 + v1)) <| gd (rg s4.2.2) <| if s4.2.2 < (v3 + v1) then (some (v2, s4)) else (bd (f_X3_spreadFrom v3 v1 s4) fun u8 => gd (rg v2) <| gd (rg u8.1) <| nm (if u8.1 < v2 then u8.1 else v2) fun v12 => f_X3_narrowest_L5 N n v1 v12 (v3 + 1) u8.2)
def f_X3_narrowest (N : Nat) (x1 : Int) (z : bO) : Option (Int × bO) := f_X3_narrowest_L5 N N x1 9 0 z
def f_X3_mostAlike_L3 (N : Nat) : Nat → Int → Int → bO → Option (Int × bO)
  | 0, _, _, _ => none
  | n + 1, v1, v2, s3 => gd (rg v2) <| if v2 ≤ 0 then (some (0, s3)) else (bd (f_X3_firstAlike N v2 v1 s3) fun u6 => gd (rg u6.1) <| if u6.1 < 0 then (f_X3_mostAlike_L3 N n v1 (v2 + (-1)) u6.2) else (some (v2, u6.2)))
def f_X3_mostAlike (N : Nat) (x1 : Int) (z : bO) : Option (Int × bO) := f_X3_mostAlike_L3 N N x1 9 z
def f_X3_groups_L5 (N : Nat) : Nat → Int → Int → Int → Int → bO → Option (Int × bO)
  | 0, _, _, _, _, _ => none
  | n + 1, v1, v2, v3, v4, s5 => gd (rg (v4 + v1)) <| gd (rg s5.2.2) <| if s5.2.2 < (v4 + v1) then (some (v3, s5)) else (bd (f_X3_spreadFrom v4 v1 s5) fun u9 => gd (rg u9.1) <| gd (rg v2) <| if v2 < u9.1 then (f_X3_groups_L5 N n v1 v2 v3 (v4 + 1) u9.2) else (nm (v4 + v1) fun v14 => f_X3_groups_L5 N n v1 v2 (v3 + 1) v14 u9.2))
def f_X3_groups (N : Nat) (x1 x2 : Int) (z : bO) : Option (Int × bO) := f_X3_groups_L5 N N x1 x2 0 0 z
def f_X3_shineSum_L4 (N : Nat) : Nat → Int → Int → bO → Option (Int × bO)
  | 0, _, _, _ => none
  | n + 1, v1, v2, s3 => gd (rg v2) <| gd (rg s3.2.2) <| if s3.2.2 ≤ v2 then (some (v1, s3)) else (gd (inb v2 40) <| nm (v1 + (s3.2.1 v2.toNat)) fun v8 => f_X3_shineSum_L4 N n v8 (v2 + 1) s3)
def f_X3_shineSum (N : Nat) (z : bO) : Option (Int × bO) := f_X3_shineSum_L4 N N 0 0 z
def f_X2_remember (z : bHS) : Option bHS := gd (rg z.1.1) <| if z.1.1 < 4 then (if z.1.1 = 0 then (bd (f_X5_copyFrom  (z.1.2.1, z.2)) fun u3 => nm ((z.1.1, u3.1, z.1.2.2), z.2) fun s5 => nm (s5.1, u3.2) fun s7 => nm ((s7.1.1 + 1, s7.1.2), s7.2) fun s9 => some s9) else if z.1.1 = 1 then (bd (f_X5_copyFrom  (z.1.2.2.1, z.2)) fun u12 => nm ((z.1.1, z.1.2.1, u12.1, z.1.2.2.2), z.2) fun s14 => nm (s14.1, u12.2) fun s16 => nm ((s16.1.1 + 1, s16.1.2), s16.2) fun s18 => some s18) else if z.1.1 = 2 then (bd (f_X5_copyFrom  (z.1.2.2.2.1, z.2)) fun u21 => nm ((z.1.1, z.1.2.1, z.1.2.2.1, u21.1, z.1.2.2.2.2), z.2) fun s23 => nm (s23.1, u21.2) fun s25 => nm ((s25.1.1 + 1, s25.1.2), s25.2) fun s27 => some s27) else if z.1.1 = 3 then (bd (f_X5_copyFrom  (z.1.2.2.2.2, z.2)) fun u30 => nm ((z.1.1, z.1.2.1, z.1.2.2.1, z.1.2.2.2.1, u30.1), z.2) fun s32 => nm (s32.1, u30.2) fun s34 => nm ((s34.1.1 + 1, s34.1.2), s34.2) fun s36 => some s36) else none) else (bd (f_X2_dropOldest  z.1) fun u39 => nm (u39, z.2) fun s41 => if s41.1.1 = 0 then (bd (f_X5_copyFrom  (s41.1.2.1, s41.2)) fun u45 => nm ((s41.1.1, u45.1, s41.1.2.2), s41.2) fun s47 => nm (s47.1, u45.2) fun s49 => nm ((s49.1.1 + 1, s49.1.2), s49.2) fun s51 => some s51) else if s41.1.1 = 1 then (bd (f_X5_copyFrom  (s41.1.2.2.1, s41.2)) fun u54 => nm ((s41.1.1, s41.1.2.1, u54.1, s41.1.2.2.2), s41.2) fun s56 => nm (s56.1, u54.2) fun s58 => nm ((s58.1.1 + 1, s58.1.2), s58.2) fun s60 => some s60) else if s41.1.1 = 2 then (bd (f_X5_copyFrom  (s41.1.2.2.2.1, s41.2)) fun u63 => nm ((s41.1.1, s41.1.2.1, s41.1.2.2.1, u63.1, s41.1.2.2.2.2), s41.2) fun s65 => nm (s65.1, u63.2) fun s67 => nm ((s67.1.1 + 1, s67.1.2), s67.2) fun s69 => some s69) else if s41.1.1 = 3 then (bd (f_X5_copyFrom  (s41.1.2.2.2.2, s41.2)) fun u72 => nm ((s41.1.1, s41.1.2.1, s41.1.2.2.1, s41.1.2.2.2.1, u72.1), s41.2) fun s74 => nm (s74.1, u72.2) fun s76 => nm ((s76.1.1 + 1, s76.1.2), s76.2) fun s78 => some s78) else none)
def f_X2_takeBack (z : bHS) : Option (Int × bHS) := gd (rg z.1.1) <| if 0 < z.1.1 then (nm ((z.1.1 - 1, z.1.2), z.2) fun s3 => if s3.1.1 = 0 then (bd (f_X5_copyFrom  (s3.2, s3.1.2.1)) fun u5 => nm (s3.1, u5.1) fun s7 => nm ((s7.1.1, u5.2, s7.1.2.2), s7.2) fun s9 => some (1, s9)) else if s3.1.1 = 1 then (bd (f_X5_copyFrom  (s3.2, s3.1.2.2.1)) fun u12 => nm (s3.1, u12.1) fun s14 => nm ((s14.1.1, s14.1.2.1, u12.2, s14.1.2.2.2), s14.2) fun s16 => some (1, s16)) else if s3.1.1 = 2 then (bd (f_X5_copyFrom  (s3.2, s3.1.2.2.2.1)) fun u19 => nm (s3.1, u19.1) fun s21 => nm ((s21.1.1, s21.1.2.1, s21.1.2.2.1, u19.2, s21.1.2.2.2.2), s21.2) fun s23 => some (1, s23)) else if s3.1.1 = 3 then (bd (f_X5_copyFrom  (s3.2, s3.1.2.2.2.2)) fun u26 => nm (s3.1, u26.1) fun s28 => nm ((s28.1.1, s28.1.2.1, s28.1.2.2.1, s28.1.2.2.2.1, u26.2), s28.2) fun s30 => some (1, s30)) else none) else (some (0, z))
def f_X7_read_L57 (N : Nat) : Nat → Int → Int → bX → Option (Int × bX)
  | 0, _, _, _ => none
  | n + 1, v18, v19, s20 => gd (rg v19) <| gd (rg s20.1.1.2.2.2.2.2.1) <| if s20.1.1.2.2.2.2.2.1 ≤ v19 then (some (s20.1.1.2.2.2.2.2.1, s20)) else (bd (f_X5_takeIn v19 (s20.2.2.2.1, s20.1.1)) fun u24 => nm (s20.1, s20.2.1, s20.2.2.1, u24.1, s20.2.2.2.2) fun s26 => nm ((u24.2, s26.1.2), s26.2) fun s28 => f_X7_read_L57 N n v18 (v19 + 1) s28)
def f_X7_read (N : Nat) (z : bX) : Option (Int × bX) := bd (f_X0_parse N  z.1) fun u1 => nm (u1.2, z.2) fun s3 => gd (rg u1.1) <| if u1.1 = (-1) then (gd (rg (s3.2.2.2.1.1.2.2.2.2.2.2 + s3.1.1.2.2.2.2.2.1)) <| if (s3.2.2.2.1.1.2.2.2.2.2.2 + s3.1.1.2.2.2.2.2.1) ≤ 40 then (bd (f_X2_remember  (s3.2.2.1, s3.2.2.2.1)) fun u9 => nm (s3.1, s3.2.1, u9.1, s3.2.2.2) fun s11 => nm (s11.1, s11.2.1, s11.2.2.1, u9.2, s11.2.2.2.2) fun s13 => f_X7_read_L57 N N u1.1 0 s13) else (some ((-3), s3))) else (some ((-100) - u1.1, s3))
def f_X7_sort_L45 (N : Nat) : Nat → Int → Int → bX → Option (Int × bX)
  | 0, _, _, _ => none
  | n + 1, v15, v16, s17 => gd (rg v16) <| gd (rg v15) <| if v15 ≤ v16 then (some (v16, s17)) else (gd (rg (s17.2.2.2.1.2.1.2.2.2.2.1 0)) <| if (s17.2.2.2.1.2.1.2.2.2.2.1 0) ≤ 0 then (some (v16, s17)) else (bd (f_X5_sortFirst N  s17.2.2.2.1) fun u23 => nm (s17.1, s17.2.1, s17.2.2.1, u23, s17.2.2.2.2) fun s25 => f_X7_sort_L45 N n v15 (v16 + 1) s25))
def f_X7_sort (N : Nat) (x1 : Int) (z : bX) : Option (Int × bX) := gd (rg x1) <| if x1 < 1 then (some ((-2), z)) else (if x1 ≤ 99 then (gd (rg (z.2.2.2.1.2.1.2.2.2.2.1 0)) <| if (z.2.2.2.1.2.1.2.2.2.2.1 0) = 0 then (some ((-5), z)) else (bd (f_X2_remember  (z.2.2.1, z.2.2.2.1)) fun u6 => nm (z.1, z.2.1, u6.1, z.2.2.2) fun s8 => nm (s8.1, s8.2.1, s8.2.2.1, u6.2, s8.2.2.2.2) fun s10 => f_X7_sort_L45 N N x1 0 s10)) else (some ((-2), z)))
def f_X7_letGo (N : Nat) (z : bX) : Option (Int × bX) := nm (z.2.2.2.1.2.1.2.2.2.2.1 2) fun v1 => gd (rg v1) <| if v1 = 0 then (some ((-5), z)) else (bd (f_X2_remember  (z.2.2.1, z.2.2.2.1)) fun u5 => nm (z.1, z.2.1, u5.1, z.2.2.2) fun s7 => nm (s7.1, s7.2.1, s7.2.2.1, u5.2, s7.2.2.2.2) fun s9 => bd (f_X5_emptyMagnet N  s9.2.2.2.1) fun u14 => nm (s9.1, s9.2.1, s9.2.2.1, u14, s9.2.2.2.2) fun s16 => some (v1, s16))
def f_X7_isBin (x0 : Int) : Option Int := gd (rg x0) <| if x0 < 0 then (some 0) else (if 12 ≤ x0 then (some 0) else (some 1))
def f_X7_pour (N : Nat) (x1 : Int) (z : bX) : Option (Int × bX) := bd (f_X7_isBin x1) fun u1 => gd (rg u1) <| if u1 = 0 then (some ((-1), z)) else (gd (inb x1 12) <| nm (z.2.2.2.1.2.1.2.2.2.2.2 x1.toNat) fun v6 => gd (rg v6) <| if v6 = 0 then (some ((-5), z)) else (bd (f_X2_remember  (z.2.2.1, z.2.2.2.1)) fun u10 => nm (z.1, z.2.1, u10.1, z.2.2.2) fun s12 => nm (s12.1, s12.2.1, s12.2.2.1, u10.2, s12.2.2.2.2) fun s14 => bd (f_X5_emptyBin N x1 s14.2.2.2.1) fun u19 => nm (s14.1, s14.2.1, s14.2.2.1, u19, s14.2.2.2.2) fun s21 => some (v6, s21)))
def f_X7_isWanted (x0 : Int) : Option Int := gd (rg x0) <| if x0 < 1 then (some 0) else (if 9 < x0 then (some 0) else (some 1))
def f_X7_refusalOf (N : Nat) (x1 : Int) (z : bX) : Option (Int × bX) := gd (rg z.2.1.2.2) <| gd (rg x1) <| if x1 ≤ z.2.1.2.2 then (bd (f_X3_firstAlike N x1 (z.2.2.2.1.2.2.1 7) z.2.1) fun u4 => nm (z.1, u4.2, z.2.2) fun s6 => gd (rg u4.1) <| if u4.1 < 0 then (some (2, s6)) else (some (0, s6))) else (some (1, z))
def f_X7_shirt (N : Nat) (x1 x2 : Int) (z : bX) : Option (Int × bX) := bd (f_X7_isBin x1) fun u1 => gd (rg u1) <| if u1 = 0 then (some ((-1), z)) else (bd (f_X7_isWanted x2) fun u5 => gd (rg u5) <| if u5 = 0 then (some ((-2), z)) else (bd (f_X3_fill N x1 (z.2.1, z.2.2.2.1)) fun u9 => nm (z.1, u9.1, z.2.2) fun s11 => nm (s11.1, s11.2.1, s11.2.2.1, u9.2, s11.2.2.2.2) fun s13 => bd (f_X3_firstAlike N x2 (s13.2.2.2.1.2.2.1 7) s13.2.1) fun u15 => nm (s13.1, u15.2, s13.2.2) fun s17 => gd (rg u15.1) <| if 0 ≤ u15.1 then (bd (f_X2_remember  (s17.2.2.1, s17.2.2.2.1)) fun u21 => nm (s17.1, s17.2.1, u21.1, s17.2.2.2) fun s23 => nm (s23.1, s23.2.1, s23.2.2.1, u21.2, s23.2.2.2.2) fun s25 => bd (f_X5_makeShirt N u15.1 x2 (s25.2.2.2.1, s25.2.1)) fun u30 => nm (s25.1, s25.2.1, s25.2.2.1, u30.2.1, s25.2.2.2.2) fun s32 => nm (s32.1, u30.2.2, s32.2.2) fun s34 => some (u30.1, s34)) else (bd (f_X7_refusalOf N x2 s17) fun u36 => some ((-10) - u36.1, u36.2))))
def f_X7_polish (x1 : Int) (z : bX) : Option (Int × bX) := bd (f_X1_has x1 z.2.2.2.1.1) fun u1 => nm (z.1, z.2.1, z.2.2.1, (u1.2, z.2.2.2.1.2), z.2.2.2.2) fun s3 => gd (rg u1.1) <| if u1.1 = 0 then (some ((-1), s3)) else (gd (inb x1 40) <| gd (rg (s3.2.2.2.1.2.1.1 x1.toNat)) <| if (s3.2.2.2.1.2.1.1 x1.toNat) = 6 then (some ((-4), s3)) else (gd (rg (s3.2.2.2.1.1.2.2.2.2.1 x1.toNat)) <| if (s3.2.2.2.1.1.2.2.2.2.1 x1.toNat) < 9 then (bd (f_X2_remember  (s3.2.2.1, s3.2.2.2.1)) fun u12 => nm (s3.1, s3.2.1, u12.1, s3.2.2.2) fun s14 => nm (s14.1, s14.2.1, s14.2.2.1, u12.2, s14.2.2.2.2) fun s16 => bd (f_X1_brighten x1 s16.2.2.2.1.1) fun u21 => nm (s16.1, s16.2.1, s16.2.2.1, (u21, s16.2.2.2.1.2), s16.2.2.2.2) fun s23 => some (s23.2.2.2.1.1.2.2.2.2.1 x1.toNat, s23)) else (some ((-4), s3))))
def f_X7_isValue (x0 x1 : Int) : Option Int := gd (inb x0 8) <| gd (rg x1) <| gd (rg (lowT x0.toNat)) <| if x1 < (lowT x0.toNat) then (some 0) else (gd (rg (highT x0.toNat)) <| if (highT x0.toNat) < x1 then (some 0) else (some 1))
def f_X7_set (x1 x2 : Int) (z : bX) : Option (Int × bX) := gd (rg x1) <| if x1 < 0 then (some ((-1), z)) else (if x1 < 8 then (bd (f_X7_isValue x1 x2) fun u4 => gd (rg u4) <| if u4 = 0 then (some ((-2), z)) else (bd (f_X5_meshesAllow x1 x2 z.2.2.2.1) fun u8 => nm (z.1, z.2.1, z.2.2.1, u8.2, z.2.2.2.2) fun s10 => gd (rg u8.1) <| if u8.1 = 0 then (some ((-4), s10)) else (gd (inb x1 8) <| nm (s10.2.2.2.1.2.2.1 x1.toNat) fun v15 => gd (rg v15) <| gd (rg x2) <| if v15 = x2 then (some ((-5), s10)) else (bd (f_X2_remember  (s10.2.2.1, s10.2.2.2.1)) fun u20 => nm (s10.1, s10.2.1, u20.1, s10.2.2.2) fun s22 => nm (s22.1, s22.2.1, s22.2.2.1, u20.2, s22.2.2.2.2) fun s24 => nm (s24.1, s24.2.1, s24.2.2.1, (s24.2.2.2.1.1, s24.2.2.2.1.2.1, up s24.2.2.2.1.2.2.1 x1.toNat x2, s24.2.2.2.1.2.2.2), s24.2.2.2.2) fun s29 => some (v15, s29))))) else (some ((-1), z)))
def f_X7_type (x1 : Int) (z : bX) : Option (Int × bX) := bd (f_X6_append x1 z.1.2) fun u1 => nm ((z.1.1, u1.2), z.2) fun s3 => gd (rg u1.1) <| if u1.1 = 0 then (some ((-3), s3)) else (some (s3.1.2.2, s3))
def f_X7_clearText (z : bX) : Option (Int × bX) := nm ((z.1.1, (z.1.2.1, 0)), z.2) fun s1 => some (z.1.2.2, s1)
def f_X7_undo (z : bX) : Option (Int × bX) := bd (f_X2_takeBack  (z.2.2.1, z.2.2.2.1)) fun u1 => nm (z.1, z.2.1, u1.2.1, z.2.2.2) fun s3 => nm (s3.1, s3.2.1, s3.2.2.1, u1.2.2, s3.2.2.2.2) fun s5 => gd (rg u1.1) <| if u1.1 = 0 then (some ((-5), s5)) else (some (s5.2.2.1.1, s5))
def f_X7_keep (z : bX) : Option (Int × bX) := bd (f_X5_copyFrom  (z.2.2.2.2.1, z.2.2.2.1)) fun u1 => nm (z.1, z.2.1, z.2.2.1, z.2.2.2.1, u1.1, z.2.2.2.2.2) fun s3 => nm (s3.1, s3.2.1, s3.2.2.1, u1.2, s3.2.2.2.2) fun s5 => nm (s5.1, s5.2.1, s5.2.2.1, s5.2.2.2.1, s5.2.2.2.2.1, s5.2.2.2.2.2.1, 1) fun s7 => some (s7.2.2.2.1.1.2.2.2.2.2.2, s7)
def f_X7_restore (z : bX) : Option (Int × bX) := gd (rg z.2.2.2.2.2.2) <| if z.2.2.2.2.2.2 = 0 then (some ((-5), z)) else (bd (f_X2_remember  (z.2.2.1, z.2.2.2.1)) fun u3 => nm (z.1, z.2.1, u3.1, z.2.2.2) fun s5 => nm (s5.1, s5.2.1, s5.2.2.1, u3.2, s5.2.2.2.2) fun s7 => bd (f_X5_copyFrom  (s7.2.2.2.1, s7.2.2.2.2.1)) fun u12 => nm (s7.1, s7.2.1, s7.2.2.1, u12.1, s7.2.2.2.2) fun s14 => nm (s14.1, s14.2.1, s14.2.2.1, s14.2.2.2.1, u12.2, s14.2.2.2.2.2) fun s16 => some (s16.2.2.2.1.1.2.2.2.2.2.2, s16))
def f_X7_button (N : Nat) (x1 x2 : Int) (z : bX) : Option (Int × bX) := bd (f_X1_has x1 z.2.2.2.1.1) fun u1 => nm (z.1, z.2.1, z.2.2.1, (u1.2, z.2.2.2.1.2), z.2.2.2.2) fun s3 => gd (rg u1.1) <| if u1.1 = 0 then (some ((-1), s3)) else (gd (rg x2) <| if x2 < 0 then (some ((-2), s3)) else (if x2 ≤ 9 then (if x2 = 0 then (gd (inb x1 40) <| some (s3.2.2.2.1.1.1 x1.toNat, s3)) else if x2 = 1 then (gd (inb x1 40) <| some (s3.2.2.2.1.1.2.1 x1.toNat, s3)) else if x2 = 2 then (gd (inb x1 40) <| some (s3.2.2.2.1.1.2.2.1 x1.toNat, s3)) else if x2 = 3 then (gd (inb x1 40) <| some (s3.2.2.2.1.1.2.2.2.1 x1.toNat, s3)) else if x2 = 4 then (gd (inb x1 40) <| some (s3.2.2.2.1.1.2.2.2.2.1 x1.toNat, s3)) else if x2 = 5 then (gd (inb x1 40) <| some (s3.2.2.2.1.2.1.1 x1.toNat, s3)) else if x2 = 6 then (gd (inb x1 40) <| some (s3.2.2.2.1.2.1.2.1 x1.toNat, s3)) else if x2 = 7 then (bd (f_X4_rankInHopper N x1 s3.2.2.2.1.2.1) fun u25 => nm (s3.1, s3.2.1, s3.2.2.1, (s3.2.2.2.1.1, u25.2, s3.2.2.2.1.2.2), s3.2.2.2.2) fun s27 => some (u25.1, s27)) else if x2 = 8 then (gd (inb x1 40) <| some (s3.2.2.2.1.2.1.2.2.1 x1.toNat, s3)) else (gd (inb x1 40) <| some (s3.2.2.2.1.1.2.2.2.2.2.1 x1.toNat, s3))) else (some ((-2), s3))))
def f_X7_inBin (N : Nat) (x1 x2 : Int) (z : bX) : Option (Int × bX) := bd (f_X7_isBin x1) fun u1 => gd (rg u1) <| if u1 = 0 then (some ((-1), z)) else (gd (rg x2) <| if 0 ≤ x2 then (bd (f_X3_fill N x1 (z.2.1, z.2.2.2.1)) fun u7 => nm (z.1, u7.1, z.2.2) fun s9 => nm (s9.1, s9.2.1, s9.2.2.1, u7.2, s9.2.2.2.2) fun s11 => gd (rg s11.2.1.2.2) <| if s11.2.1.2.2 ≤ x2 then (some ((-5), s11)) else (gd (inb x2 40) <| some (s11.2.1.1 x2.toNat, s11))) else (some ((-2), z)))
def f_X7_bin (N : Nat) (x1 x2 : Int) (z : bX) : Option (Int × bX) := bd (f_X7_isBin x1) fun u1 => gd (rg u1) <| if u1 = 0 then (some ((-1), z)) else (gd (rg x2) <| if x2 < 0 then (some ((-2), z)) else (if x2 ≤ 4 then (bd (f_X3_fill N x1 (z.2.1, z.2.2.2.1)) fun u8 => nm (z.1, u8.1, z.2.2) fun s10 => nm (s10.1, s10.2.1, s10.2.2.1, u8.2, s10.2.2.2.2) fun s12 => if x2 = 0 then (some (s12.2.1.2.2, s12)) else if x2 = 1 then (gd (rg ((s12.2.2.2.1.2.2.1 6) - s12.2.1.2.2)) <| some ((if ((s12.2.2.2.1.2.2.1 6) - s12.2.1.2.2) < 0 then 0 else ((s12.2.2.2.1.2.2.1 6) - s12.2.1.2.2)), s12)) else if x2 = 2 then (bd (f_X3_shineSum N  s12.2.1) fun u18 => nm (s12.1, u18.2, s12.2.2) fun s20 => some (u18.1, s20)) else if x2 = 3 then (bd (f_X3_mostAlike N (s12.2.2.2.1.2.2.1 7) s12.2.1) fun u23 => nm (s12.1, u23.2, s12.2.2) fun s25 => some (u23.1, s25)) else (gd (rg s12.2.1.2.2) <| if s12.2.1.2.2 = 0 then (some (0, s12)) else (bd (f_X3_narrowest N s12.2.1.2.2 s12.2.1) fun u29 => nm (s12.1, u29.2, s12.2.2) fun s31 => some (u29.1, s31)))) else (some ((-2), z))))
def f_X7_total (N : Nat) (x1 : Int) (z : bX) : Option (Int × bX) := gd (rg x1) <| if x1 < 0 then (some ((-2), z)) else (if x1 ≤ 23 then (if 8 ≤ x1 then (if x1 < 9 then (if x1 = 8 then (some (z.2.2.2.1.1.2.2.2.2.2.2, z)) else if x1 = 9 then (some (z.1.2.2, z)) else if x1 = 10 then (some (z.1.2.2, z)) else if x1 = 11 then (some (z.1.2.2, z)) else if x1 = 12 then (some (z.1.2.2, z)) else if x1 = 13 then (some (z.1.2.2, z)) else if x1 = 14 then (some (z.1.2.2, z)) else if x1 = 15 then (some (z.1.2.2, z)) else if x1 = 16 then (some (z.2.2.2.1.2.2.2.1, z)) else if x1 = 17 then (some (z.2.2.2.1.2.2.2.2.1, z)) else if x1 = 18 then (some (z.2.2.2.1.2.2.2.2.2.1, z)) else if x1 = 19 then (some (z.2.2.2.1.2.2.2.2.2.2.1, z)) else if x1 = 20 then (some (z.2.2.2.1.2.2.2.2.2.2.2, z)) else if x1 = 21 then (bd (f_X1_chipSum N  z.2.2.2.1.1) fun u20 => nm (z.1, z.2.1, z.2.2.1, (u20.2, z.2.2.2.1.2), z.2.2.2.2) fun s22 => some (u20.1, s22)) else if x1 = 22 then (some (z.2.2.1.1, z)) else (some (z.1.2.2, z))) else (if 16 ≤ x1 then (if x1 = 8 then (some (z.2.2.2.1.1.2.2.2.2.2.2, z)) else if x1 = 9 then (some (z.1.2.2, z)) else if x1 = 10 then (some (z.1.2.2, z)) else if x1 = 11 then (some (z.1.2.2, z)) else if x1 = 12 then (some (z.1.2.2, z)) else if x1 = 13 then (some (z.1.2.2, z)) else if x1 = 14 then (some (z.1.2.2, z)) else if x1 = 15 then (some (z.1.2.2, z)) else if x1 = 16 then (some (z.2.2.2.1.2.2.2.1, z)) else if x1 = 17 then (some (z.2.2.2.1.2.2.2.2.1, z)) else if x1 = 18 then (some (z.2.2.2.1.2.2.2.2.2.1, z)) else if x1 = 19 then (some (z.2.2.2.1.2.2.2.2.2.2.1, z)) else if x1 = 20 then (some (z.2.2.2.1.2.2.2.2.2.2.2, z)) else if x1 = 21 then (bd (f_X1_chipSum N  z.2.2.2.1.1) fun u40 => nm (z.1, z.2.1, z.2.2.1, (u40.2, z.2.2.2.1.2), z.2.2.2.2) fun s42 => some (u40.1, s42)) else if x1 = 22 then (some (z.2.2.1.1, z)) else (some (z.1.2.2, z))) else (gd (inb (x1 - 9) 7) <| some (z.2.2.2.1.2.1.2.2.2.2.1 ((x1 - 9).toNat), z)))) else (gd (inb x1 8) <| some (z.2.2.2.1.2.2.1 x1.toNat, z))) else (some ((-2), z)))
def f_X7_goesTo (N : Nat) (x1 : Int) (z : bX) : Option (Int × bX) := bd (f_X1_has x1 z.2.2.2.1.1) fun u1 => nm (z.1, z.2.1, z.2.2.1, (u1.2, z.2.2.2.1.2), z.2.2.2.2) fun s3 => gd (rg u1.1) <| if u1.1 = 0 then (some ((-1), s3)) else (gd (inb x1 40) <| gd (rg (s3.2.2.2.1.2.1.1 x1.toNat)) <| if (s3.2.2.2.1.2.1.1 x1.toNat) = 0 then (bd (f_X5_placeFor N x1 s3.2.2.2.1) fun u10 => nm (s3.1, s3.2.1, s3.2.2.1, u10.2, s3.2.2.2.2) fun s12 => some (u10.1, s12)) else (some ((-4), s3)))
def f_X7_reason (N : Nat) (x1 x2 : Int) (z : bX) : Option (Int × bX) := bd (f_X7_isBin x1) fun u1 => gd (rg u1) <| if u1 = 0 then (some ((-1), z)) else (bd (f_X7_isWanted x2) fun u5 => gd (rg u5) <| if u5 = 0 then (some ((-2), z)) else (bd (f_X3_fill N x1 (z.2.1, z.2.2.2.1)) fun u9 => nm (z.1, u9.1, z.2.2) fun s11 => nm (s11.1, s11.2.1, s11.2.2.1, u9.2, s11.2.2.2.2) fun s13 => bd (f_X7_refusalOf N x2 s13) fun u15 => some (u15.1, u15.2)))
def f_X7_leastSpread (N : Nat) (x1 x2 : Int) (z : bX) : Option (Int × bX) := bd (f_X7_isBin x1) fun u1 => gd (rg u1) <| if u1 = 0 then (some ((-1), z)) else (bd (f_X7_isWanted x2) fun u5 => gd (rg u5) <| if u5 = 0 then (some ((-2), z)) else (bd (f_X3_fill N x1 (z.2.1, z.2.2.2.1)) fun u9 => nm (z.1, u9.1, z.2.2) fun s11 => nm (s11.1, s11.2.1, s11.2.2.1, u9.2, s11.2.2.2.2) fun s13 => gd (rg s13.2.1.2.2) <| gd (rg x2) <| if x2 ≤ s13.2.1.2.2 then (bd (f_X3_narrowest N x2 s13.2.1) fun u18 => nm (s13.1, u18.2, s13.2.2) fun s20 => some (u18.1, s20)) else (some ((-5), s13))))
def f_X7_shirts_L14 (N : Nat) : Nat → Int → Int → Int → bX → Option (Int × bX)
  | 0, _, _, _, _ => none
  | n + 1, v5, v6, v7, s8 => gd (rg v7) <| if 12 ≤ v7 then (some (v6, s8)) else (bd (f_X3_fill N v7 (s8.2.1, s8.2.2.2.1)) fun u11 => nm (s8.1, u11.1, s8.2.2) fun s13 => nm (s13.1, s13.2.1, s13.2.2.1, u11.2, s13.2.2.2.2) fun s15 => bd (f_X3_groups N v5 (s15.2.2.2.1.2.2.1 7) s15.2.1) fun u17 => nm (s15.1, u17.2, s15.2.2) fun s19 => nm (v6 + u17.1) fun v21 => f_X7_shirts_L14 N n v5 v21 (v7 + 1) s19)
def f_X7_shirts (N : Nat) (x1 : Int) (z : bX) : Option (Int × bX) := bd (f_X7_isWanted x1) fun u1 => gd (rg u1) <| if u1 = 0 then (some ((-2), z)) else (f_X7_shirts_L14 N N x1 0 0 z)
def f_X7_ifMesh_L85 (N : Nat) : Nat → Int → Int → Int → Int → Int → bX → Option (Int × bX)
  | 0, _, _, _, _, _, _ => none
  | n + 1, v28, v29, v30, v31, v32, s33 => gd (rg v32) <| gd (rg v31) <| if v31 ≤ v32 then (gd (inb v30 7) <| some (s33.2.2.2.2.2.1.2.1.2.2.2.2.1 v30.toNat, s33)) else (bd (f_X5_sortFirst N  s33.2.2.2.2.2.1) fun u38 => nm (s33.1, s33.2.1, s33.2.2.1, s33.2.2.2.1, s33.2.2.2.2.1, u38, s33.2.2.2.2.2.2) fun s40 => f_X7_ifMesh_L85 N n v28 v29 v30 v31 (v32 + 1) s40)
def f_X7_ifMesh (N : Nat) (x1 x2 x3 : Int) (z : bX) : Option (Int × bX) := gd (rg x1) <| if x1 < 0 then (some ((-1), z)) else (if x1 < 3 then (bd (f_X7_isValue x1 x2) fun u4 => gd (rg u4) <| if u4 = 0 then (some ((-2), z)) else (gd (rg x3) <| if x3 < 0 then (some ((-2), z)) else (if x3 < 7 then (bd (f_X5_meshesAllow x1 x2 z.2.2.2.1) fun u11 => nm (z.1, z.2.1, z.2.2.1, u11.2, z.2.2.2.2) fun s13 => gd (rg u11.1) <| if u11.1 = 0 then (some ((-4), s13)) else (bd (f_X5_copyFrom  (s13.2.2.2.2.2.1, s13.2.2.2.1)) fun u17 => nm (s13.1, s13.2.1, s13.2.2.1, s13.2.2.2.1, s13.2.2.2.2.1, u17.1, s13.2.2.2.2.2.2) fun s19 => nm (s19.1, s19.2.1, s19.2.2.1, u17.2, s19.2.2.2.2) fun s21 => gd (inb x1 8) <| nm (s21.1, s21.2.1, s21.2.2.1, s21.2.2.2.1, s21.2.2.2.2.1, (s21.2.2.2.2.2.1.1, s21.2.2.2.2.2.1.2.1, up s21.2.2.2.2.2.1.2.2.1 x1.toNat x2, s21.2.2.2.2.2.1.2.2.2), s21.2.2.2.2.2.2) fun s24 => nm (s24.2.2.2.2.2.1.2.1.2.2.2.2.1 0) fun v26 => f_X7_ifMesh_L85 N N x1 x2 x3 v26 0 s24)) else (some ((-2), z))))) else (some ((-1), z)))
end
section
set_option maxRecDepth 20000 in
theorem wd_X1_has_f30 : Cond.fieldLink RX1 30 "ShirtButtons$Buttons" "count" "I" ∈ wsX1_has := by decide +kernel
set_option maxRecDepth 20000 in
theorem in_X1_has_X1 : ∀ w ∈ u_ws RX1 TX1 7, w ∈ wsX1_has := by decide +kernel
set_option maxHeartbeats 4000000 in
set_option maxRecDepth 100000 in
theorem k_X1_has (l : Launch) (E : wE) (a : Nat → Nat) (sz : Nat) (x1 : Int) (z : bU) (u : (Int × bU)) (hf : f_X1_has x1 z = some u) : cI l yX1_has wsX1_has { frames := 0, cells := 0, slots := 0, locals := 0 } E sz [.ref (a 0), .int (zi x1)] (wU a E z) (wU a E u.2) u.1 := by
  refine met_go (cc := cX1_has) (maxL := 2) (ret := (some .boolean)) (Q0 := mQi E (wU a E u.2) u.1) (by decide +kernel) rfl (Nat.le_of_ble_eq_true rfl) ?_
  intro A p e s m below meth c hx hb hr hml hts hown hlocks hP hK hD hA hS ls hl
  have hl : lv_has ls 2 [(0, .ref (a 0)), (1, .int (zi x1))] := hl
  generalize hH : s.heap = H at hP
  have hS : va_S A s.heap H [] := by rw [← hH]; exact hS
  have hown : s.vm.findClass RX1 = some m.cls := hown
  have h := hf
  rw [f_X1_has] at h
  refine lv_iload_n hx hb dX1_has_0 rfl (lv_at hl 1 rfl) ?_
  obtain ⟨g1, h⟩ := gd_t h
  refine iv_lt (tgt := 16) hx hb g1 dX1_has_1 (by decide) (fun c2 => ?_) (fun c2 => ?_)
  · have h := it_t c2 h
    refine iv_iconst hx hb dX1_has_16 ?_
    cases h
    exact iv_zret (r := 0) hx hb hr hlocks (by decide +kernel) hK hP hD hS dX1_has_17
  · have h := it_f c2 h
    refine lv_iload_n hx hb dX1_has_4 rfl (lv_at hl 1 rfl) ?_
    refine lv_aload_n hx hb dX1_has_5 rfl (lv_at hl 0 rfl) ?_
    refine va_get (D := E.1) (ci := 1) (v := .int (zi z.2.2.2.2.2.2)) (C := RX1) (T := TX1) (N := 7) hx hb hts in_X1_has_X1 hown hK hP 0 rfl rfl 6 (by decide) (hts _ wd_X1_has_f30) (fun _ h9 => h9) rfl dX1_has_6 ?_
    obtain ⟨g3, h⟩ := gd_t h
    refine iv_ige (tgt := 16) hx hb g1 g3 dX1_has_9 (by decide) (fun c4 => ?_) (fun c4 => ?_)
    · have h := it_t c4 h
      refine iv_iconst hx hb dX1_has_16 ?_
      cases h
      exact iv_zret (r := 0) hx hb hr hlocks (by decide +kernel) hK hP hD hS dX1_has_17
    · have h := it_f c4 h
      refine iv_iconst hx hb dX1_has_12 ?_
      refine lv_goto (tgt := 17) hx hb dX1_has_13 (by decide) ?_
      cases h
      exact iv_zret (r := 1) hx hb hr hlocks (by decide +kernel) hK hP hD hS dX1_has_17
set_option maxRecDepth 20000 in
theorem wd_X1_brighten_f24 : Cond.fieldLink RX1 24 "ShirtButtons$Buttons" "shine" "[I" ∈ wsX1_brighten := by decide +kernel
set_option maxRecDepth 20000 in
theorem in_X1_brighten_X1 : ∀ w ∈ u_ws RX1 TX1 7, w ∈ wsX1_brighten := by decide +kernel
set_option maxRecDepth 20000 in
theorem wd_X1_brighten_f21 : Cond.fieldLink RX1 21 "ShirtButtons$Buttons" "chips" "[I" ∈ wsX1_brighten := by decide +kernel
set_option maxHeartbeats 4000000 in
set_option maxRecDepth 100000 in
theorem k_X1_brighten (l : Launch) (E : wE) (a : Nat → Nat) (sz : Nat) (x1 : Int) (z : bU) (u : bU) (hf : f_X1_brighten x1 z = some u) : cV l yX1_brighten wsX1_brighten { frames := 0, cells := 0, slots := 0, locals := 0 } E sz [.ref (a 0), .int (zi x1)] (wU a E z) (wU a E u) := by
  refine met_go (cc := cX1_brighten) (maxL := 2) (ret := none) (Q0 := mQv E (wU a E u)) (by decide +kernel) rfl (Nat.le_of_ble_eq_true rfl) ?_
  intro A p e s m below meth c hx hb hr hml hts hown hlocks hP hK hD hA hS ls hl
  have hl : lv_has ls 2 [(0, .ref (a 0)), (1, .int (zi x1))] := hl
  generalize hH : s.heap = H at hP
  have hS : va_S A s.heap H [] := by rw [← hH]; exact hS
  have hown : s.vm.findClass RX1 = some m.cls := hown
  have h := hf
  rw [f_X1_brighten] at h
  refine lv_aload_n hx hb dX1_brighten_0 rfl (lv_at hl 0 rfl) ?_
  refine va_get (D := E.1) (ci := 1) (v := .ref (a 5)) (C := RX1) (T := TX1) (N := 7) hx hb hts in_X1_brighten_X1 hown hK hP 0 rfl rfl 4 (by decide) (hts _ wd_X1_brighten_f24) (fun _ h9 => h9) rfl dX1_brighten_1 ?_
  refine lv_iload_n hx hb dX1_brighten_4 rfl (lv_at hl 1 rfl) ?_
  refine lv_dup2_11 hx hb dX1_brighten_5 rfl rfl ?_
  obtain ⟨g1, h⟩ := gd_t h
  refine iv_iald (f := z.2.2.2.2.1) (j := x1.toNat) hx hb hK hP 5 0 rfl rfl (by decide) g1 rfl dX1_brighten_6 ?_
  refine iv_iconst hx hb dX1_brighten_7 ?_
  refine iv_iadd hx hb dX1_brighten_8 ?_
  obtain ⟨s2, e3, h⟩ := nm_t h
  refine iv_iast (f := z.2.2.2.2.1) (j := x1.toNat) (ws1 := wU a E s2) hx hb hK hP hD hS 5 0 rfl rfl (by decide) g1 rfl (by rw [e3]; rfl) dX1_brighten_9 (fun H locs hP hD hS => ?_)
  refine lv_aload_n hx hb dX1_brighten_10 rfl (lv_at hl 0 rfl) ?_
  refine va_get (D := E.1) (ci := 1) (v := .ref (a 4)) (C := RX1) (T := TX1) (N := 7) hx hb hts in_X1_brighten_X1 hown hK hP 0 rfl rfl 3 (by decide) (hts _ wd_X1_brighten_f21) (fun _ h9 => h9) rfl dX1_brighten_11 ?_
  refine lv_iload_n hx hb dX1_brighten_14 rfl (lv_at hl 1 rfl) ?_
  refine iv_iald (f := s2.2.2.2.1) (j := x1.toNat) hx hb hK hP 4 0 rfl rfl (by decide) g1 rfl dX1_brighten_15 ?_
  obtain ⟨g4, h⟩ := gd_t h
  refine iv_le (tgt := 29) hx hb g4 dX1_brighten_16 (by decide) (fun c5 => ?_) (fun c5 => ?_)
  · have h := it_t c5 h
    cases h
    exact iv_vret hx hb hr hlocks hK hP hD hS dX1_brighten_29
  · have h := it_f c5 h
    refine lv_aload_n hx hb dX1_brighten_19 rfl (lv_at hl 0 rfl) ?_
    refine va_get (D := E.1) (ci := 1) (v := .ref (a 4)) (C := RX1) (T := TX1) (N := 7) hx hb hts in_X1_brighten_X1 hown hK hP 0 rfl rfl 3 (by decide) (hts _ wd_X1_brighten_f21) (fun _ h9 => h9) rfl dX1_brighten_20 ?_
    refine lv_iload_n hx hb dX1_brighten_23 rfl (lv_at hl 1 rfl) ?_
    refine lv_dup2_11 hx hb dX1_brighten_24 rfl rfl ?_
    refine iv_iald (f := s2.2.2.2.1) (j := x1.toNat) hx hb hK hP 4 0 rfl rfl (by decide) g1 rfl dX1_brighten_25 ?_
    refine iv_iconst hx hb dX1_brighten_26 ?_
    refine iv_isub hx hb dX1_brighten_27 ?_
    obtain ⟨s6, e7, h⟩ := nm_t h
    refine iv_iast (f := s2.2.2.2.1) (j := x1.toNat) (ws1 := wU a E s6) hx hb hK hP hD hS 4 0 rfl rfl (by decide) g1 rfl (by rw [e7]; rfl) dX1_brighten_28 (fun H locs hP hD hS => ?_)
    cases h
    exact iv_vret hx hb hr hlocks hK hP hD hS dX1_brighten_29
set_option maxRecDepth 20000 in
theorem wd_X1_chip_f21 : Cond.fieldLink RX1 21 "ShirtButtons$Buttons" "chips" "[I" ∈ wsX1_chip := by decide +kernel
set_option maxRecDepth 20000 in
theorem in_X1_chip_X1 : ∀ w ∈ u_ws RX1 TX1 7, w ∈ wsX1_chip := by decide +kernel
set_option maxHeartbeats 4000000 in
set_option maxRecDepth 100000 in
theorem k_X1_chip (l : Launch) (E : wE) (a : Nat → Nat) (sz : Nat) (x1 : Int) (z : bU) (u : bU) (hf : f_X1_chip x1 z = some u) : cV l yX1_chip wsX1_chip { frames := 0, cells := 0, slots := 0, locals := 0 } E sz [.ref (a 0), .int (zi x1)] (wU a E z) (wU a E u) := by
  refine met_go (cc := cX1_chip) (maxL := 2) (ret := none) (Q0 := mQv E (wU a E u)) (by decide +kernel) rfl (Nat.le_of_ble_eq_true rfl) ?_
  intro A p e s m below meth c hx hb hr hml hts hown hlocks hP hK hD hA hS ls hl
  have hl : lv_has ls 2 [(0, .ref (a 0)), (1, .int (zi x1))] := hl
  generalize hH : s.heap = H at hP
  have hS : va_S A s.heap H [] := by rw [← hH]; exact hS
  have hown : s.vm.findClass RX1 = some m.cls := hown
  have h := hf
  rw [f_X1_chip] at h
  refine lv_aload_n hx hb dX1_chip_0 rfl (lv_at hl 0 rfl) ?_
  refine va_get (D := E.1) (ci := 1) (v := .ref (a 4)) (C := RX1) (T := TX1) (N := 7) hx hb hts in_X1_chip_X1 hown hK hP 0 rfl rfl 3 (by decide) (hts _ wd_X1_chip_f21) (fun _ h9 => h9) rfl dX1_chip_1 ?_
  refine lv_iload_n hx hb dX1_chip_4 rfl (lv_at hl 1 rfl) ?_
  obtain ⟨g1, h⟩ := gd_t h
  refine iv_iald (f := z.2.2.2.1) (j := x1.toNat) hx hb hK hP 4 0 rfl rfl (by decide) g1 rfl dX1_chip_5 ?_
  refine iv_bipush hx hb dX1_chip_6 (by decide +kernel) ?_
  obtain ⟨g2, h⟩ := gd_t h
  refine iv_ige (tgt := 21) hx hb g2 (by decide +kernel) dX1_chip_8 (by decide) (fun c3 => ?_) (fun c3 => ?_)
  · have h := it_t c3 h
    cases h
    exact iv_vret hx hb hr hlocks hK hP hD hS dX1_chip_21
  · have h := it_f c3 h
    refine lv_aload_n hx hb dX1_chip_11 rfl (lv_at hl 0 rfl) ?_
    refine va_get (D := E.1) (ci := 1) (v := .ref (a 4)) (C := RX1) (T := TX1) (N := 7) hx hb hts in_X1_chip_X1 hown hK hP 0 rfl rfl 3 (by decide) (hts _ wd_X1_chip_f21) (fun _ h9 => h9) rfl dX1_chip_12 ?_
    refine lv_iload_n hx hb dX1_chip_15 rfl (lv_at hl 1 rfl) ?_
    refine lv_dup2_11 hx hb dX1_chip_16 rfl rfl ?_
    refine iv_iald (f := z.2.2.2.1) (j := x1.toNat) hx hb hK hP 4 0 rfl rfl (by decide) g1 rfl dX1_chip_17 ?_
    refine iv_iconst hx hb dX1_chip_18 ?_
    refine iv_iadd hx hb dX1_chip_19 ?_
    obtain ⟨s4, e5, h⟩ := nm_t h
    refine iv_iast (f := z.2.2.2.1) (j := x1.toNat) (ws1 := wU a E s4) hx hb hK hP hD hS 4 0 rfl rfl (by decide) g1 rfl (by rw [e5]; rfl) dX1_chip_20 (fun H locs hP hD hS => ?_)
    cases h
    exact iv_vret hx hb hr hlocks hK hP hD hS dX1_chip_21
set_option maxRecDepth 20000 in
theorem wd_X1_chipSum_f30 : Cond.fieldLink RX1 30 "ShirtButtons$Buttons" "count" "I" ∈ wsX1_chipSum := by decide +kernel
set_option maxRecDepth 20000 in
theorem in_X1_chipSum_X1 : ∀ w ∈ u_ws RX1 TX1 7, w ∈ wsX1_chipSum := by decide +kernel
set_option maxRecDepth 20000 in
theorem wd_X1_chipSum_f21 : Cond.fieldLink RX1 21 "ShirtButtons$Buttons" "chips" "[I" ∈ wsX1_chipSum := by decide +kernel
set_option maxHeartbeats 4000000 in
set_option maxRecDepth 100000 in
theorem k_X1_chipSum (l : Launch) (E : wE) (a : Nat → Nat) (sz : Nat) (N : Nat) (z : bU) (u : (Int × bU)) (hf : f_X1_chipSum N z = some u) : cI l yX1_chipSum wsX1_chipSum { frames := 0, cells := 0, slots := 0, locals := 0 } E sz [.ref (a 0)] (wU a E z) (wU a E u.2) u.1 := by
  refine met_go (cc := cX1_chipSum) (maxL := 3) (ret := (some .int)) (Q0 := mQi E (wU a E u.2) u.1) (by decide +kernel) rfl (Nat.le_of_ble_eq_true rfl) ?_
  intro A p e s m below meth c hx hb hr hml hts hown hlocks hP hK hD hA hS ls hl
  have hl : lv_has ls 3 [(0, .ref (a 0))] := hl
  generalize hH : s.heap = H at hP
  have hS : va_S A s.heap H [] := by rw [← hH]; exact hS
  have hown : s.vm.findClass RX1 = some m.cls := hown
  have loop4 : ∀ (n : Nat) (v1 v2 : Int) (s3 : bU) (H : Heap) (locs : List Loc) (ls : Array Slot), f_X1_chipSum_L4 N n v1 v2 s3 = some u → va_P E.1 vwCl (wU a E s3) H → va_D A (wU a E s3) → va_S A s.heap H locs → lv_has ls 3 [(0, .ref (a 0)), (1, .int (zi v1)), (2, .int (zi v2))] → W p l e ({ frames := 0, cells := 0, slots := 0, locals := 0 }) s m ([.ref (a 0)] : List Value).toArray below meth c H locs 0 0 (MQ below (mQi E (wU a E u.2) u.1 A) ([.ref (a 0)] : List Value).toArray s 0 0 A) (F0 m 4 ls []) := by
    intro n
    induction n with
    | zero =>
      intro v1 v2 s3 H locs ls h
      exact absurd (show (none : Option (Int × bU)) = some u from h) (by simp)
    | succ n ih =>
      intro v1 v2 s3 H locs ls h hP hD hS hl
      rw [f_X1_chipSum_L4] at h
      refine lv_iload_n hx hb dX1_chipSum_4 rfl (lv_at hl 2 rfl) ?_
      refine lv_aload_n hx hb dX1_chipSum_5 rfl (lv_at hl 0 rfl) ?_
      refine va_get (D := E.1) (ci := 1) (v := .int (zi s3.2.2.2.2.2.2)) (C := RX1) (T := TX1) (N := 7) hx hb hts in_X1_chipSum_X1 hown hK hP 0 rfl rfl 6 (by decide) (hts _ wd_X1_chipSum_f30) (fun _ h9 => h9) rfl dX1_chipSum_6 ?_
      obtain ⟨g4, h⟩ := gd_t h
      obtain ⟨g5, h⟩ := gd_t h
      refine iv_ige (tgt := 27) hx hb g4 g5 dX1_chipSum_9 (by decide) (fun c6 => ?_) (fun c6 => ?_)
      · have h := it_t c6 h
        refine lv_iload_n hx hb dX1_chipSum_27 rfl (lv_at hl 1 rfl) ?_
        cases h
        exact iv_iret hx hb hr hlocks hK hP hD hS dX1_chipSum_28
      · have h := it_f c6 h
        refine lv_iload_n hx hb dX1_chipSum_12 rfl (lv_at hl 1 rfl) ?_
        refine lv_aload_n hx hb dX1_chipSum_13 rfl (lv_at hl 0 rfl) ?_
        refine va_get (D := E.1) (ci := 1) (v := .ref (a 4)) (C := RX1) (T := TX1) (N := 7) hx hb hts in_X1_chipSum_X1 hown hK hP 0 rfl rfl 3 (by decide) (hts _ wd_X1_chipSum_f21) (fun _ h9 => h9) rfl dX1_chipSum_14 ?_
        refine lv_iload_n hx hb dX1_chipSum_17 rfl (lv_at hl 2 rfl) ?_
        obtain ⟨g7, h⟩ := gd_t h
        refine iv_iald (f := s3.2.2.2.1) (j := v2.toNat) hx hb hK hP 4 0 rfl rfl (by decide) g7 rfl dX1_chipSum_18 ?_
        refine iv_iadd hx hb dX1_chipSum_19 ?_
        obtain ⟨v8, e9, h⟩ := nm_t h
        refine iv_nm e9 ?_
        refine lv_istore_n (lv' := [(1, .int (zi v8)), (0, .ref (a 0)), (2, .int (zi v2))]) hx hb dX1_chipSum_20 rfl hl (by decide) rfl (fun ls hl => ?_)
        refine lv_iinc (v := zi (v2 + 1)) (lv' := [(2, .int (zi (v2 + 1))), (1, .int (zi v8)), (0, .ref (a 0))]) hx hb dX1_chipSum_21 hl (k := 2) rfl (by rw [zi_add]; rfl) (by decide) rfl (fun ls hl => ?_)
        refine lv_goto (tgt := 4) hx hb dX1_chipSum_24 (by decide) ?_
        exact ih v8 (v2 + 1) s3 _ _ _ h hP hD hS (lv_sub hl [2, 1, 0] rfl)
  have h := hf
  rw [f_X1_chipSum] at h
  refine iv_iconst hx hb dX1_chipSum_0 ?_
  refine lv_istore_n (lv' := [(1, .int (zi 0)), (0, .ref (a 0))]) hx hb dX1_chipSum_1 rfl hl (by decide) rfl (fun ls hl => ?_)
  refine iv_iconst hx hb dX1_chipSum_2 ?_
  refine lv_istore_n (lv' := [(2, .int (zi 0)), (1, .int (zi 0)), (0, .ref (a 0))]) hx hb dX1_chipSum_3 rfl hl (by decide) rfl (fun ls hl => ?_)
  exact loop4 N 0 0 z _ _ _ h hP hD hS (lv_sub hl [2, 1, 0] rfl)
set_option maxRecDepth 20000 in
theorem wd_X1_copyFrom_f30 : Cond.fieldLink RX1 30 "ShirtButtons$Buttons" "count" "I" ∈ wsX1_copyFrom := by decide +kernel
set_option maxRecDepth 20000 in
theorem in_X1_copyFrom_X1 : ∀ w ∈ u_ws RX1 TX1 7, w ∈ wsX1_copyFrom := by decide +kernel
set_option maxRecDepth 20000 in
theorem wd_X1_copyFrom_f9 : Cond.fieldLink RX1 9 "ShirtButtons$Buttons" "holes" "[I" ∈ wsX1_copyFrom := by decide +kernel
set_option maxRecDepth 20000 in
theorem wd_X1_copyFrom_m34 : Cond.methodLink RX1 34 arraycopyName ∈ wsX1_copyFrom := by decide +kernel
set_option maxRecDepth 20000 in
theorem wd_X1_copyFrom_acn : Cond.native arraycopyName ∈ wsX1_copyFrom := by decide +kernel
set_option maxRecDepth 20000 in
theorem wd_X1_copyFrom_acs : Cond.static arraycopyName ∈ wsX1_copyFrom := by decide +kernel
set_option maxRecDepth 20000 in
theorem wd_X1_copyFrom_aci : Cond.initialized "java/lang/System" ∈ wsX1_copyFrom := by decide +kernel
set_option maxRecDepth 20000 in
theorem wd_X1_copyFrom_f15 : Cond.fieldLink RX1 15 "ShirtButtons$Buttons" "size" "[I" ∈ wsX1_copyFrom := by decide +kernel
set_option maxRecDepth 20000 in
theorem wd_X1_copyFrom_f18 : Cond.fieldLink RX1 18 "ShirtButtons$Buttons" "iron" "[I" ∈ wsX1_copyFrom := by decide +kernel
set_option maxRecDepth 20000 in
theorem wd_X1_copyFrom_f21 : Cond.fieldLink RX1 21 "ShirtButtons$Buttons" "chips" "[I" ∈ wsX1_copyFrom := by decide +kernel
set_option maxRecDepth 20000 in
theorem wd_X1_copyFrom_f24 : Cond.fieldLink RX1 24 "ShirtButtons$Buttons" "shine" "[I" ∈ wsX1_copyFrom := by decide +kernel
set_option maxRecDepth 20000 in
theorem wd_X1_copyFrom_f27 : Cond.fieldLink RX1 27 "ShirtButtons$Buttons" "sortings" "[I" ∈ wsX1_copyFrom := by decide +kernel
set_option maxHeartbeats 4000000 in
set_option maxRecDepth 100000 in
theorem k_X1_copyFrom (l : Launch) (E : wE) (a b : Nat → Nat) (sz : Nat) (z : bUU) (u : bUU) (hf : f_X1_copyFrom z = some u) : cV l yX1_copyFrom wsX1_copyFrom { frames := 1, cells := 0, slots := 0, locals := 26 } E sz [.ref (a 0), .ref (b 0)] (wUU a b E z) (wUU a b E u) := by
  refine met_go (cc := cX1_copyFrom) (maxL := 2) (ret := none) (Q0 := mQv E (wUU a b E u)) (by decide +kernel) rfl (Nat.le_of_ble_eq_true rfl) ?_
  intro A p e s m below meth c hx hb hr hml hts hown hlocks hP hK hD hA hS ls hl
  have hl : lv_has ls 2 [(0, .ref (a 0)), (1, .ref (b 0))] := hl
  generalize hH : s.heap = H at hP
  have hS : va_S A s.heap H [] := by rw [← hH]; exact hS
  have hown : s.vm.findClass RX1 = some m.cls := hown
  have h := hf
  rw [f_X1_copyFrom] at h
  refine lv_aload_n hx hb dX1_copyFrom_0 rfl (lv_at hl 0 rfl) ?_
  refine lv_aload_n hx hb dX1_copyFrom_1 rfl (lv_at hl 1 rfl) ?_
  refine va_get (D := E.1) (ci := 1) (v := .int (zi z.2.2.2.2.2.2.2)) (C := RX1) (T := TX1) (N := 7) hx hb hts in_X1_copyFrom_X1 hown hK hP 7 rfl rfl 6 (by decide) (hts _ wd_X1_copyFrom_f30) (fun _ h9 => h9) rfl dX1_copyFrom_2 ?_
  obtain ⟨s1, e2, h⟩ := nm_t h
  refine iv_put (D := E.1) (ci := 1) (v := .int (zi z.2.2.2.2.2.2.2)) (ty := .int) (ws1 := wUU a b E s1) (C := RX1) (T := TX1) (N := 7) hx hb hts in_X1_copyFrom_X1 tyX1 tyX1_ok nmX1 hown hK hP hD hS 0 rfl rfl 6 (by decide) (hts _ wd_X1_copyFrom_f30) (fun _ h9 => h9) rfl (by decide +kernel) rfl rfl (Nat.le_of_ble_eq_true rfl) (by rw [e2]; rfl) dX1_copyFrom_5 (fun H locs hP hD hS => ?_)
  refine lv_aload_n hx hb dX1_copyFrom_8 rfl (lv_at hl 1 rfl) ?_
  refine va_get (D := E.1) (ci := 1) (v := .ref (b 1)) (C := RX1) (T := TX1) (N := 7) hx hb hts in_X1_copyFrom_X1 hown hK hP 7 rfl rfl 0 (by decide) (hts _ wd_X1_copyFrom_f9) (fun _ h9 => h9) rfl dX1_copyFrom_9 ?_
  refine iv_iconst hx hb dX1_copyFrom_12 ?_
  refine lv_aload_n hx hb dX1_copyFrom_13 rfl (lv_at hl 0 rfl) ?_
  refine va_get (D := E.1) (ci := 1) (v := .ref (a 1)) (C := RX1) (T := TX1) (N := 7) hx hb hts in_X1_copyFrom_X1 hown hK hP 0 rfl rfl 0 (by decide) (hts _ wd_X1_copyFrom_f9) (fun _ h9 => h9) rfl dX1_copyFrom_14 ?_
  refine iv_iconst hx hb dX1_copyFrom_17 ?_
  refine lv_aload_n hx hb dX1_copyFrom_18 rfl (lv_at hl 0 rfl) ?_
  refine va_get (D := E.1) (ci := 1) (v := .int (zi s1.1.2.2.2.2.2.2)) (C := RX1) (T := TX1) (N := 7) hx hb hts in_X1_copyFrom_X1 hown hK hP 0 rfl rfl 6 (by decide) (hts _ wd_X1_copyFrom_f30) (fun _ h9 => h9) rfl dX1_copyFrom_19 ?_
  obtain ⟨g3, h⟩ := gd_t h
  obtain ⟨s4, e5, h⟩ := nm_t h
  refine iv_copy (f := s1.2.1) (g := s1.1.1) (sp' := 0) (dp' := 0) (K := 41) (ws1 := wUU a b E s4) hx hb (hml.trans hl.1.symm) hown (hts _ wd_X1_copyFrom_m34) (hts _ wd_X1_copyFrom_acn) (hts _ wd_X1_copyFrom_acs) (hts _ wd_X1_copyFrom_aci) hK hP hD hS 8 1 0 0 rfl rfl rfl rfl (by decide +kernel) (by decide +kernel) rfl rfl g3 (by decide) (by decide) (by decide) (by decide) (Nat.le_of_ble_eq_true (by decide +kernel)) (by rw [e5]; rfl) dX1_copyFrom_22 (fun H locs hP hD hS => ?_)
  refine lv_aload_n hx hb dX1_copyFrom_25 rfl (lv_at hl 1 rfl) ?_
  refine va_get (D := E.1) (ci := 1) (v := .ref (b 2)) (C := RX1) (T := TX1) (N := 7) hx hb hts in_X1_copyFrom_X1 hown hK hP 7 rfl rfl 1 (by decide) (hts _ wd_X1_copyFrom_f15) (fun _ h9 => h9) rfl dX1_copyFrom_26 ?_
  refine iv_iconst hx hb dX1_copyFrom_29 ?_
  refine lv_aload_n hx hb dX1_copyFrom_30 rfl (lv_at hl 0 rfl) ?_
  refine va_get (D := E.1) (ci := 1) (v := .ref (a 2)) (C := RX1) (T := TX1) (N := 7) hx hb hts in_X1_copyFrom_X1 hown hK hP 0 rfl rfl 1 (by decide) (hts _ wd_X1_copyFrom_f15) (fun _ h9 => h9) rfl dX1_copyFrom_31 ?_
  refine iv_iconst hx hb dX1_copyFrom_34 ?_
  refine lv_aload_n hx hb dX1_copyFrom_35 rfl (lv_at hl 0 rfl) ?_
  refine va_get (D := E.1) (ci := 1) (v := .int (zi s4.1.2.2.2.2.2.2)) (C := RX1) (T := TX1) (N := 7) hx hb hts in_X1_copyFrom_X1 hown hK hP 0 rfl rfl 6 (by decide) (hts _ wd_X1_copyFrom_f30) (fun _ h9 => h9) rfl dX1_copyFrom_36 ?_
  obtain ⟨g6, h⟩ := gd_t h
  obtain ⟨s7, e8, h⟩ := nm_t h
  refine iv_copy (f := s4.2.2.1) (g := s4.1.2.1) (sp' := 0) (dp' := 0) (K := 41) (ws1 := wUU a b E s7) hx hb (hml.trans hl.1.symm) hown (hts _ wd_X1_copyFrom_m34) (hts _ wd_X1_copyFrom_acn) (hts _ wd_X1_copyFrom_acs) (hts _ wd_X1_copyFrom_aci) hK hP hD hS 9 2 0 0 rfl rfl rfl rfl (by decide +kernel) (by decide +kernel) rfl rfl g6 (by decide) (by decide) (by decide) (by decide) (Nat.le_of_ble_eq_true (by decide +kernel)) (by rw [e8]; rfl) dX1_copyFrom_39 (fun H locs hP hD hS => ?_)
  refine lv_aload_n hx hb dX1_copyFrom_42 rfl (lv_at hl 1 rfl) ?_
  refine va_get (D := E.1) (ci := 1) (v := .ref (b 3)) (C := RX1) (T := TX1) (N := 7) hx hb hts in_X1_copyFrom_X1 hown hK hP 7 rfl rfl 2 (by decide) (hts _ wd_X1_copyFrom_f18) (fun _ h9 => h9) rfl dX1_copyFrom_43 ?_
  refine iv_iconst hx hb dX1_copyFrom_46 ?_
  refine lv_aload_n hx hb dX1_copyFrom_47 rfl (lv_at hl 0 rfl) ?_
  refine va_get (D := E.1) (ci := 1) (v := .ref (a 3)) (C := RX1) (T := TX1) (N := 7) hx hb hts in_X1_copyFrom_X1 hown hK hP 0 rfl rfl 2 (by decide) (hts _ wd_X1_copyFrom_f18) (fun _ h9 => h9) rfl dX1_copyFrom_48 ?_
  refine iv_iconst hx hb dX1_copyFrom_51 ?_
  refine lv_aload_n hx hb dX1_copyFrom_52 rfl (lv_at hl 0 rfl) ?_
  refine va_get (D := E.1) (ci := 1) (v := .int (zi s7.1.2.2.2.2.2.2)) (C := RX1) (T := TX1) (N := 7) hx hb hts in_X1_copyFrom_X1 hown hK hP 0 rfl rfl 6 (by decide) (hts _ wd_X1_copyFrom_f30) (fun _ h9 => h9) rfl dX1_copyFrom_53 ?_
  obtain ⟨g9, h⟩ := gd_t h
  obtain ⟨s10, e11, h⟩ := nm_t h
  refine iv_copy (f := s7.2.2.2.1) (g := s7.1.2.2.1) (sp' := 0) (dp' := 0) (K := 41) (ws1 := wUU a b E s10) hx hb (hml.trans hl.1.symm) hown (hts _ wd_X1_copyFrom_m34) (hts _ wd_X1_copyFrom_acn) (hts _ wd_X1_copyFrom_acs) (hts _ wd_X1_copyFrom_aci) hK hP hD hS 10 3 0 0 rfl rfl rfl rfl (by decide +kernel) (by decide +kernel) rfl rfl g9 (by decide) (by decide) (by decide) (by decide) (Nat.le_of_ble_eq_true (by decide +kernel)) (by rw [e11]; rfl) dX1_copyFrom_56 (fun H locs hP hD hS => ?_)
  refine lv_aload_n hx hb dX1_copyFrom_59 rfl (lv_at hl 1 rfl) ?_
  refine va_get (D := E.1) (ci := 1) (v := .ref (b 4)) (C := RX1) (T := TX1) (N := 7) hx hb hts in_X1_copyFrom_X1 hown hK hP 7 rfl rfl 3 (by decide) (hts _ wd_X1_copyFrom_f21) (fun _ h9 => h9) rfl dX1_copyFrom_60 ?_
  refine iv_iconst hx hb dX1_copyFrom_63 ?_
  refine lv_aload_n hx hb dX1_copyFrom_64 rfl (lv_at hl 0 rfl) ?_
  refine va_get (D := E.1) (ci := 1) (v := .ref (a 4)) (C := RX1) (T := TX1) (N := 7) hx hb hts in_X1_copyFrom_X1 hown hK hP 0 rfl rfl 3 (by decide) (hts _ wd_X1_copyFrom_f21) (fun _ h9 => h9) rfl dX1_copyFrom_65 ?_
  refine iv_iconst hx hb dX1_copyFrom_68 ?_
  refine lv_aload_n hx hb dX1_copyFrom_69 rfl (lv_at hl 0 rfl) ?_
  refine va_get (D := E.1) (ci := 1) (v := .int (zi s10.1.2.2.2.2.2.2)) (C := RX1) (T := TX1) (N := 7) hx hb hts in_X1_copyFrom_X1 hown hK hP 0 rfl rfl 6 (by decide) (hts _ wd_X1_copyFrom_f30) (fun _ h9 => h9) rfl dX1_copyFrom_70 ?_
  obtain ⟨g12, h⟩ := gd_t h
  obtain ⟨s13, e14, h⟩ := nm_t h
  refine iv_copy (f := s10.2.2.2.2.1) (g := s10.1.2.2.2.1) (sp' := 0) (dp' := 0) (K := 41) (ws1 := wUU a b E s13) hx hb (hml.trans hl.1.symm) hown (hts _ wd_X1_copyFrom_m34) (hts _ wd_X1_copyFrom_acn) (hts _ wd_X1_copyFrom_acs) (hts _ wd_X1_copyFrom_aci) hK hP hD hS 11 4 0 0 rfl rfl rfl rfl (by decide +kernel) (by decide +kernel) rfl rfl g12 (by decide) (by decide) (by decide) (by decide) (Nat.le_of_ble_eq_true (by decide +kernel)) (by rw [e14]; rfl) dX1_copyFrom_73 (fun H locs hP hD hS => ?_)
  refine lv_aload_n hx hb dX1_copyFrom_76 rfl (lv_at hl 1 rfl) ?_
  refine va_get (D := E.1) (ci := 1) (v := .ref (b 5)) (C := RX1) (T := TX1) (N := 7) hx hb hts in_X1_copyFrom_X1 hown hK hP 7 rfl rfl 4 (by decide) (hts _ wd_X1_copyFrom_f24) (fun _ h9 => h9) rfl dX1_copyFrom_77 ?_
  refine iv_iconst hx hb dX1_copyFrom_80 ?_
  refine lv_aload_n hx hb dX1_copyFrom_81 rfl (lv_at hl 0 rfl) ?_
  refine va_get (D := E.1) (ci := 1) (v := .ref (a 5)) (C := RX1) (T := TX1) (N := 7) hx hb hts in_X1_copyFrom_X1 hown hK hP 0 rfl rfl 4 (by decide) (hts _ wd_X1_copyFrom_f24) (fun _ h9 => h9) rfl dX1_copyFrom_82 ?_
  refine iv_iconst hx hb dX1_copyFrom_85 ?_
  refine lv_aload_n hx hb dX1_copyFrom_86 rfl (lv_at hl 0 rfl) ?_
  refine va_get (D := E.1) (ci := 1) (v := .int (zi s13.1.2.2.2.2.2.2)) (C := RX1) (T := TX1) (N := 7) hx hb hts in_X1_copyFrom_X1 hown hK hP 0 rfl rfl 6 (by decide) (hts _ wd_X1_copyFrom_f30) (fun _ h9 => h9) rfl dX1_copyFrom_87 ?_
  obtain ⟨g15, h⟩ := gd_t h
  obtain ⟨s16, e17, h⟩ := nm_t h
  refine iv_copy (f := s13.2.2.2.2.2.1) (g := s13.1.2.2.2.2.1) (sp' := 0) (dp' := 0) (K := 41) (ws1 := wUU a b E s16) hx hb (hml.trans hl.1.symm) hown (hts _ wd_X1_copyFrom_m34) (hts _ wd_X1_copyFrom_acn) (hts _ wd_X1_copyFrom_acs) (hts _ wd_X1_copyFrom_aci) hK hP hD hS 12 5 0 0 rfl rfl rfl rfl (by decide +kernel) (by decide +kernel) rfl rfl g15 (by decide) (by decide) (by decide) (by decide) (Nat.le_of_ble_eq_true (by decide +kernel)) (by rw [e17]; rfl) dX1_copyFrom_90 (fun H locs hP hD hS => ?_)
  refine lv_aload_n hx hb dX1_copyFrom_93 rfl (lv_at hl 1 rfl) ?_
  refine va_get (D := E.1) (ci := 1) (v := .ref (b 6)) (C := RX1) (T := TX1) (N := 7) hx hb hts in_X1_copyFrom_X1 hown hK hP 7 rfl rfl 5 (by decide) (hts _ wd_X1_copyFrom_f27) (fun _ h9 => h9) rfl dX1_copyFrom_94 ?_
  refine iv_iconst hx hb dX1_copyFrom_97 ?_
  refine lv_aload_n hx hb dX1_copyFrom_98 rfl (lv_at hl 0 rfl) ?_
  refine va_get (D := E.1) (ci := 1) (v := .ref (a 6)) (C := RX1) (T := TX1) (N := 7) hx hb hts in_X1_copyFrom_X1 hown hK hP 0 rfl rfl 5 (by decide) (hts _ wd_X1_copyFrom_f27) (fun _ h9 => h9) rfl dX1_copyFrom_99 ?_
  refine iv_iconst hx hb dX1_copyFrom_102 ?_
  refine lv_aload_n hx hb dX1_copyFrom_103 rfl (lv_at hl 0 rfl) ?_
  refine va_get (D := E.1) (ci := 1) (v := .int (zi s16.1.2.2.2.2.2.2)) (C := RX1) (T := TX1) (N := 7) hx hb hts in_X1_copyFrom_X1 hown hK hP 0 rfl rfl 6 (by decide) (hts _ wd_X1_copyFrom_f30) (fun _ h9 => h9) rfl dX1_copyFrom_104 ?_
  obtain ⟨g18, h⟩ := gd_t h
  obtain ⟨s19, e20, h⟩ := nm_t h
  refine iv_copy (f := s16.2.2.2.2.2.2.1) (g := s16.1.2.2.2.2.2.1) (sp' := 0) (dp' := 0) (K := 41) (ws1 := wUU a b E s19) hx hb (hml.trans hl.1.symm) hown (hts _ wd_X1_copyFrom_m34) (hts _ wd_X1_copyFrom_acn) (hts _ wd_X1_copyFrom_acs) (hts _ wd_X1_copyFrom_aci) hK hP hD hS 13 6 0 0 rfl rfl rfl rfl (by decide +kernel) (by decide +kernel) rfl rfl g18 (by decide) (by decide) (by decide) (by decide) (Nat.le_of_ble_eq_true (by decide +kernel)) (by rw [e20]; rfl) dX1_copyFrom_107 (fun H locs hP hD hS => ?_)
  cases h
  exact iv_vret hx hb hr hlocks hK hP hD hS dX1_copyFrom_110
end
section
set_option maxRecDepth 20000 in
theorem wd_X4_leave_f24 : Cond.fieldLink RX4 24 "ShirtButtons$Places" "at" "[I" ∈ wsX4_leave := by decide +kernel
set_option maxRecDepth 20000 in
theorem in_X4_leave_X4 : ∀ w ∈ u_ws RX4 TX4 6, w ∈ wsX4_leave := by decide +kernel
set_option maxRecDepth 20000 in
theorem wd_X4_leave_f9 : Cond.fieldLink RX4 9 "ShirtButtons$Places" "place" "[I" ∈ wsX4_leave := by decide +kernel
set_option maxRecDepth 20000 in
theorem wd_X4_leave_f15 : Cond.fieldLink RX4 15 "ShirtButtons$Places" "binOf" "[I" ∈ wsX4_leave := by decide +kernel
set_option maxRecDepth 20000 in
theorem wd_X4_leave_f27 : Cond.fieldLink RX4 27 "ShirtButtons$Places" "inBin" "[I" ∈ wsX4_leave := by decide +kernel
set_option maxHeartbeats 4000000 in
set_option maxRecDepth 100000 in
theorem k_X4_leave (l : Launch) (E : wE) (a : Nat → Nat) (sz : Nat) (x1 : Int) (z : bP) (u : bP) (hf : f_X4_leave x1 z = some u) : cV l yX4_leave wsX4_leave { frames := 0, cells := 0, slots := 0, locals := 0 } E sz [.ref (a 0), .int (zi x1)] (wP a E z) (wP a E u) := by
  refine met_go (cc := cX4_leave) (maxL := 2) (ret := none) (Q0 := mQv E (wP a E u)) (by decide +kernel) rfl (Nat.le_of_ble_eq_true rfl) ?_
  intro A p e s m below meth c hx hb hr hml hts hown hlocks hP hK hD hA hS ls hl
  have hl : lv_has ls 2 [(0, .ref (a 0)), (1, .int (zi x1))] := hl
  generalize hH : s.heap = H at hP
  have hS : va_S A s.heap H [] := by rw [← hH]; exact hS
  have hown : s.vm.findClass RX4 = some m.cls := hown
  have h := hf
  rw [f_X4_leave] at h
  refine lv_aload_n hx hb dX4_leave_0 rfl (lv_at hl 0 rfl) ?_
  refine va_get (D := E.1) (ci := 4) (v := .ref (a 5)) (C := RX4) (T := TX4) (N := 6) hx hb hts in_X4_leave_X4 hown hK hP 0 rfl rfl 4 (by decide) (hts _ wd_X4_leave_f24) (fun _ h9 => h9) rfl dX4_leave_1 ?_
  refine lv_aload_n hx hb dX4_leave_4 rfl (lv_at hl 0 rfl) ?_
  refine va_get (D := E.1) (ci := 4) (v := .ref (a 1)) (C := RX4) (T := TX4) (N := 6) hx hb hts in_X4_leave_X4 hown hK hP 0 rfl rfl 0 (by decide) (hts _ wd_X4_leave_f9) (fun _ h9 => h9) rfl dX4_leave_5 ?_
  refine lv_iload_n hx hb dX4_leave_8 rfl (lv_at hl 1 rfl) ?_
  obtain ⟨g1, h⟩ := gd_t h
  refine iv_iald (f := z.1) (j := x1.toNat) hx hb hK hP 1 0 rfl rfl (by decide) g1 rfl dX4_leave_9 ?_
  refine lv_dup2_11 hx hb dX4_leave_10 rfl rfl ?_
  obtain ⟨g2, h⟩ := gd_t h
  refine iv_iald (f := z.2.2.2.2.1) (j := (z.1 x1.toNat).toNat) hx hb hK hP 5 0 rfl rfl (by decide) g2 rfl dX4_leave_11 ?_
  refine iv_iconst hx hb dX4_leave_12 ?_
  refine iv_isub hx hb dX4_leave_13 ?_
  obtain ⟨s3, e4, h⟩ := nm_t h
  refine iv_iast (f := z.2.2.2.2.1) (j := (z.1 x1.toNat).toNat) (ws1 := wP a E s3) hx hb hK hP hD hS 5 0 rfl rfl (by decide) g2 rfl (by rw [e4]; rfl) dX4_leave_14 (fun H locs hP hD hS => ?_)
  refine lv_aload_n hx hb dX4_leave_15 rfl (lv_at hl 0 rfl) ?_
  refine va_get (D := E.1) (ci := 4) (v := .ref (a 2)) (C := RX4) (T := TX4) (N := 6) hx hb hts in_X4_leave_X4 hown hK hP 0 rfl rfl 1 (by decide) (hts _ wd_X4_leave_f15) (fun _ h9 => h9) rfl dX4_leave_16 ?_
  refine lv_iload_n hx hb dX4_leave_19 rfl (lv_at hl 1 rfl) ?_
  refine iv_iald (f := s3.2.1) (j := x1.toNat) hx hb hK hP 2 0 rfl rfl (by decide) g1 rfl dX4_leave_20 ?_
  obtain ⟨g5, h⟩ := gd_t h
  refine iv_lt (tgt := 39) hx hb g5 dX4_leave_21 (by decide) (fun c6 => ?_) (fun c6 => ?_)
  · have h := it_t c6 h
    cases h
    exact iv_vret hx hb hr hlocks hK hP hD hS dX4_leave_39
  · have h := it_f c6 h
    refine lv_aload_n hx hb dX4_leave_24 rfl (lv_at hl 0 rfl) ?_
    refine va_get (D := E.1) (ci := 4) (v := .ref (a 6)) (C := RX4) (T := TX4) (N := 6) hx hb hts in_X4_leave_X4 hown hK hP 0 rfl rfl 5 (by decide) (hts _ wd_X4_leave_f27) (fun _ h9 => h9) rfl dX4_leave_25 ?_
    refine lv_aload_n hx hb dX4_leave_28 rfl (lv_at hl 0 rfl) ?_
    refine va_get (D := E.1) (ci := 4) (v := .ref (a 2)) (C := RX4) (T := TX4) (N := 6) hx hb hts in_X4_leave_X4 hown hK hP 0 rfl rfl 1 (by decide) (hts _ wd_X4_leave_f15) (fun _ h9 => h9) rfl dX4_leave_29 ?_
    refine lv_iload_n hx hb dX4_leave_32 rfl (lv_at hl 1 rfl) ?_
    refine iv_iald (f := s3.2.1) (j := x1.toNat) hx hb hK hP 2 0 rfl rfl (by decide) g1 rfl dX4_leave_33 ?_
    refine lv_dup2_11 hx hb dX4_leave_34 rfl rfl ?_
    obtain ⟨g7, h⟩ := gd_t h
    refine iv_iald (f := s3.2.2.2.2.2) (j := (s3.2.1 x1.toNat).toNat) hx hb hK hP 6 0 rfl rfl (by decide) g7 rfl dX4_leave_35 ?_
    refine iv_iconst hx hb dX4_leave_36 ?_
    refine iv_isub hx hb dX4_leave_37 ?_
    obtain ⟨s8, e9, h⟩ := nm_t h
    refine iv_iast (f := s3.2.2.2.2.2) (j := (s3.2.1 x1.toNat).toNat) (ws1 := wP a E s8) hx hb hK hP hD hS 6 0 rfl rfl (by decide) g7 rfl (by rw [e9]; rfl) dX4_leave_38 (fun H locs hP hD hS => ?_)
    cases h
    exact iv_vret hx hb hr hlocks hK hP hD hS dX4_leave_39
set_option maxRecDepth 20000 in
theorem wd_X4_takeFirst_f21 : Cond.fieldLink RX4 21 "ShirtButtons$Places" "hopper" "[I" ∈ wsX4_takeFirst := by decide +kernel
set_option maxRecDepth 20000 in
theorem in_X4_takeFirst_X4 : ∀ w ∈ u_ws RX4 TX4 6, w ∈ wsX4_takeFirst := by decide +kernel
set_option maxRecDepth 20000 in
theorem wd_X4_takeFirst_f24 : Cond.fieldLink RX4 24 "ShirtButtons$Places" "at" "[I" ∈ wsX4_takeFirst := by decide +kernel
set_option maxRecDepth 20000 in
theorem wd_X4_takeFirst_m34 : Cond.methodLink RX4 34 arraycopyName ∈ wsX4_takeFirst := by decide +kernel
set_option maxRecDepth 20000 in
theorem wd_X4_takeFirst_acn : Cond.native arraycopyName ∈ wsX4_takeFirst := by decide +kernel
set_option maxRecDepth 20000 in
theorem wd_X4_takeFirst_acs : Cond.static arraycopyName ∈ wsX4_takeFirst := by decide +kernel
set_option maxRecDepth 20000 in
theorem wd_X4_takeFirst_aci : Cond.initialized "java/lang/System" ∈ wsX4_takeFirst := by decide +kernel
set_option maxHeartbeats 4000000 in
set_option maxRecDepth 100000 in
theorem k_X4_takeFirst (l : Launch) (E : wE) (a : Nat → Nat) (sz : Nat) (z : bP) (u : (Int × bP)) (hf : f_X4_takeFirst z = some u) : cI l yX4_takeFirst wsX4_takeFirst { frames := 1, cells := 0, slots := 0, locals := 26 } E sz [.ref (a 0)] (wP a E z) (wP a E u.2) u.1 := by
  refine met_go (cc := cX4_takeFirst) (maxL := 2) (ret := (some .int)) (Q0 := mQi E (wP a E u.2) u.1) (by decide +kernel) rfl (Nat.le_of_ble_eq_true rfl) ?_
  intro A p e s m below meth c hx hb hr hml hts hown hlocks hP hK hD hA hS ls hl
  have hl : lv_has ls 2 [(0, .ref (a 0))] := hl
  generalize hH : s.heap = H at hP
  have hS : va_S A s.heap H [] := by rw [← hH]; exact hS
  have hown : s.vm.findClass RX4 = some m.cls := hown
  have h := hf
  rw [f_X4_takeFirst] at h
  refine lv_aload_n hx hb dX4_takeFirst_0 rfl (lv_at hl 0 rfl) ?_
  refine va_get (D := E.1) (ci := 4) (v := .ref (a 4)) (C := RX4) (T := TX4) (N := 6) hx hb hts in_X4_takeFirst_X4 hown hK hP 0 rfl rfl 3 (by decide) (hts _ wd_X4_takeFirst_f21) (fun _ h9 => h9) rfl dX4_takeFirst_1 ?_
  refine iv_iconst hx hb dX4_takeFirst_4 ?_
  refine iv_iald (f := z.2.2.2.1) (j := 0) hx hb hK hP 4 0 rfl rfl (by decide) (by decide +kernel) rfl dX4_takeFirst_5 ?_
  obtain ⟨v1, e2, h⟩ := nm_t h
  refine iv_nm e2 ?_
  refine lv_istore_n (lv' := [(1, .int (zi v1)), (0, .ref (a 0))]) hx hb dX4_takeFirst_6 rfl hl (by decide) rfl (fun ls hl => ?_)
  refine lv_aload_n hx hb dX4_takeFirst_7 rfl (lv_at hl 1 rfl) ?_
  refine lv_iload_n hx hb dX4_takeFirst_8 rfl (lv_at hl 0 rfl) ?_
  obtain ⟨u3, q4, h⟩ := bd_t h
  refine iv_callVf (As := [.int (zi v1)]) (rest := []) ⟨hx, hb, hml, hown, hts⟩ (k_X4_leave l E a H.size v1 z u3 q4) (cwV 1 hts gX4_takeFirst_X4_leave rfl rfl rfl (by decide +kernel) ⟨Nat.le_of_ble_eq_true rfl, Nat.le_of_ble_eq_true rfl⟩) hK hP hD hS hA 0 4 rfl rfl rfl hl.1 (Nat.le_of_ble_eq_true rfl) ⟨Nat.zero_le _, Nat.zero_le _⟩ dX4_takeFirst_9 (fun H locs hP hD hS => ?_)
  refine lv_aload_n hx hb dX4_takeFirst_12 rfl (lv_at hl 1 rfl) ?_
  refine va_get (D := E.1) (ci := 4) (v := .ref (a 4)) (C := RX4) (T := TX4) (N := 6) hx hb hts in_X4_takeFirst_X4 hown hK hP 0 rfl rfl 3 (by decide) (hts _ wd_X4_takeFirst_f21) (fun _ h9 => h9) rfl dX4_takeFirst_13 ?_
  refine iv_iconst hx hb dX4_takeFirst_16 ?_
  refine lv_aload_n hx hb dX4_takeFirst_17 rfl (lv_at hl 1 rfl) ?_
  refine va_get (D := E.1) (ci := 4) (v := .ref (a 4)) (C := RX4) (T := TX4) (N := 6) hx hb hts in_X4_takeFirst_X4 hown hK hP 0 rfl rfl 3 (by decide) (hts _ wd_X4_takeFirst_f21) (fun _ h9 => h9) rfl dX4_takeFirst_18 ?_
  refine iv_iconst hx hb dX4_takeFirst_21 ?_
  refine lv_aload_n hx hb dX4_takeFirst_22 rfl (lv_at hl 1 rfl) ?_
  refine va_get (D := E.1) (ci := 4) (v := .ref (a 5)) (C := RX4) (T := TX4) (N := 6) hx hb hts in_X4_takeFirst_X4 hown hK hP 0 rfl rfl 4 (by decide) (hts _ wd_X4_takeFirst_f24) (fun _ h9 => h9) rfl dX4_takeFirst_23 ?_
  refine iv_iconst hx hb dX4_takeFirst_26 ?_
  refine iv_iald (f := u3.2.2.2.2.1) (j := 0) hx hb hK hP 5 0 rfl rfl (by decide) (by decide +kernel) rfl dX4_takeFirst_27 ?_
  obtain ⟨g5, h⟩ := gd_t h
  obtain ⟨s6, e7, h⟩ := nm_t h
  refine iv_copy (f := u3.2.2.2.1) (g := u3.2.2.2.1) (sp' := 1) (dp' := 0) (K := 40) (ws1 := wP a E s6) hx hb (hml.trans hl.1.symm) hown (hts _ wd_X4_takeFirst_m34) (hts _ wd_X4_takeFirst_acn) (hts _ wd_X4_takeFirst_acs) (hts _ wd_X4_takeFirst_aci) hK hP hD hS 4 4 0 0 rfl rfl rfl rfl (by decide +kernel) (by decide +kernel) rfl rfl g5 (by decide) (by decide) (by decide) (by decide) (Nat.le_of_ble_eq_true (by decide +kernel)) (by rw [e7]; rfl) dX4_takeFirst_28 (fun H locs hP hD hS => ?_)
  refine lv_iload_n hx hb dX4_takeFirst_31 rfl (lv_at hl 0 rfl) ?_
  cases h
  exact iv_iret hx hb hr hlocks hK hP hD hS dX4_takeFirst_32
set_option maxRecDepth 20000 in
theorem wd_X4_bring_f9 : Cond.fieldLink RX4 9 "ShirtButtons$Places" "place" "[I" ∈ wsX4_bring := by decide +kernel
set_option maxRecDepth 20000 in
theorem in_X4_bring_X4 : ∀ w ∈ u_ws RX4 TX4 6, w ∈ wsX4_bring := by decide +kernel
set_option maxRecDepth 20000 in
theorem wd_X4_bring_f15 : Cond.fieldLink RX4 15 "ShirtButtons$Places" "binOf" "[I" ∈ wsX4_bring := by decide +kernel
set_option maxRecDepth 20000 in
theorem wd_X4_bring_f18 : Cond.fieldLink RX4 18 "ShirtButtons$Places" "shirtOf" "[I" ∈ wsX4_bring := by decide +kernel
set_option maxRecDepth 20000 in
theorem wd_X4_bring_f24 : Cond.fieldLink RX4 24 "ShirtButtons$Places" "at" "[I" ∈ wsX4_bring := by decide +kernel
set_option maxHeartbeats 4000000 in
set_option maxRecDepth 100000 in
theorem k_X4_bring (l : Launch) (E : wE) (a : Nat → Nat) (sz : Nat) (x1 x2 : Int) (z : bP) (u : bP) (hf : f_X4_bring x1 x2 z = some u) : cV l yX4_bring wsX4_bring { frames := 0, cells := 0, slots := 0, locals := 0 } E sz [.ref (a 0), .int (zi x1), .int (zi x2)] (wP a E z) (wP a E u) := by
  refine met_go (cc := cX4_bring) (maxL := 3) (ret := none) (Q0 := mQv E (wP a E u)) (by decide +kernel) rfl (Nat.le_of_ble_eq_true rfl) ?_
  intro A p e s m below meth c hx hb hr hml hts hown hlocks hP hK hD hA hS ls hl
  have hl : lv_has ls 3 [(0, .ref (a 0)), (1, .int (zi x1)), (2, .int (zi x2))] := hl
  generalize hH : s.heap = H at hP
  have hS : va_S A s.heap H [] := by rw [← hH]; exact hS
  have hown : s.vm.findClass RX4 = some m.cls := hown
  have h := hf
  rw [f_X4_bring] at h
  refine lv_aload_n hx hb dX4_bring_0 rfl (lv_at hl 0 rfl) ?_
  refine va_get (D := E.1) (ci := 4) (v := .ref (a 1)) (C := RX4) (T := TX4) (N := 6) hx hb hts in_X4_bring_X4 hown hK hP 0 rfl rfl 0 (by decide) (hts _ wd_X4_bring_f9) (fun _ h9 => h9) rfl dX4_bring_1 ?_
  refine lv_iload_n hx hb dX4_bring_4 rfl (lv_at hl 1 rfl) ?_
  refine lv_iload_n hx hb dX4_bring_5 rfl (lv_at hl 2 rfl) ?_
  obtain ⟨g1, h⟩ := gd_t h
  obtain ⟨s2, e3, h⟩ := nm_t h
  refine iv_iast (f := z.1) (j := x1.toNat) (ws1 := wP a E s2) hx hb hK hP hD hS 1 0 rfl rfl (by decide) g1 rfl (by rw [e3]; rfl) dX4_bring_6 (fun H locs hP hD hS => ?_)
  refine lv_aload_n hx hb dX4_bring_7 rfl (lv_at hl 0 rfl) ?_
  refine va_get (D := E.1) (ci := 4) (v := .ref (a 2)) (C := RX4) (T := TX4) (N := 6) hx hb hts in_X4_bring_X4 hown hK hP 0 rfl rfl 1 (by decide) (hts _ wd_X4_bring_f15) (fun _ h9 => h9) rfl dX4_bring_8 ?_
  refine lv_iload_n hx hb dX4_bring_11 rfl (lv_at hl 1 rfl) ?_
  refine iv_bipush hx hb dX4_bring_12 (by decide +kernel) ?_
  obtain ⟨s4, e5, h⟩ := nm_t h
  refine iv_iast (f := s2.2.1) (j := x1.toNat) (ws1 := wP a E s4) hx hb hK hP hD hS 2 0 rfl rfl (by decide) g1 rfl (by rw [e5]; rfl) dX4_bring_14 (fun H locs hP hD hS => ?_)
  refine lv_aload_n hx hb dX4_bring_15 rfl (lv_at hl 0 rfl) ?_
  refine va_get (D := E.1) (ci := 4) (v := .ref (a 3)) (C := RX4) (T := TX4) (N := 6) hx hb hts in_X4_bring_X4 hown hK hP 0 rfl rfl 2 (by decide) (hts _ wd_X4_bring_f18) (fun _ h9 => h9) rfl dX4_bring_16 ?_
  refine lv_iload_n hx hb dX4_bring_19 rfl (lv_at hl 1 rfl) ?_
  refine iv_bipush hx hb dX4_bring_20 (by decide +kernel) ?_
  obtain ⟨s6, e7, h⟩ := nm_t h
  refine iv_iast (f := s4.2.2.1) (j := x1.toNat) (ws1 := wP a E s6) hx hb hK hP hD hS 3 0 rfl rfl (by decide) g1 rfl (by rw [e7]; rfl) dX4_bring_22 (fun H locs hP hD hS => ?_)
  refine lv_aload_n hx hb dX4_bring_23 rfl (lv_at hl 0 rfl) ?_
  refine va_get (D := E.1) (ci := 4) (v := .ref (a 5)) (C := RX4) (T := TX4) (N := 6) hx hb hts in_X4_bring_X4 hown hK hP 0 rfl rfl 4 (by decide) (hts _ wd_X4_bring_f24) (fun _ h9 => h9) rfl dX4_bring_24 ?_
  refine lv_iload_n hx hb dX4_bring_27 rfl (lv_at hl 2 rfl) ?_
  refine lv_dup2_11 hx hb dX4_bring_28 rfl rfl ?_
  obtain ⟨g8, h⟩ := gd_t h
  refine iv_iald (f := s6.2.2.2.2.1) (j := x2.toNat) hx hb hK hP 5 0 rfl rfl (by decide) g8 rfl dX4_bring_29 ?_
  refine iv_iconst hx hb dX4_bring_30 ?_
  refine iv_iadd hx hb dX4_bring_31 ?_
  obtain ⟨s9, e10, h⟩ := nm_t h
  refine iv_iast (f := s6.2.2.2.2.1) (j := x2.toNat) (ws1 := wP a E s9) hx hb hK hP hD hS 5 0 rfl rfl (by decide) g8 rfl (by rw [e10]; rfl) dX4_bring_32 (fun H locs hP hD hS => ?_)
  cases h
  exact iv_vret hx hb hr hlocks hK hP hD hS dX4_bring_33
set_option maxRecDepth 20000 in
theorem wd_X4_bringToHopper_f21 : Cond.fieldLink RX4 21 "ShirtButtons$Places" "hopper" "[I" ∈ wsX4_bringToHopper := by decide +kernel
set_option maxRecDepth 20000 in
theorem in_X4_bringToHopper_X4 : ∀ w ∈ u_ws RX4 TX4 6, w ∈ wsX4_bringToHopper := by decide +kernel
set_option maxRecDepth 20000 in
theorem wd_X4_bringToHopper_f24 : Cond.fieldLink RX4 24 "ShirtButtons$Places" "at" "[I" ∈ wsX4_bringToHopper := by decide +kernel
set_option maxHeartbeats 4000000 in
set_option maxRecDepth 100000 in
theorem k_X4_bringToHopper (l : Launch) (E : wE) (a : Nat → Nat) (sz : Nat) (x1 : Int) (z : bP) (u : bP) (hf : f_X4_bringToHopper x1 z = some u) : cV l yX4_bringToHopper wsX4_bringToHopper { frames := 1, cells := 0, slots := 0, locals := 22 } E sz [.ref (a 0), .int (zi x1)] (wP a E z) (wP a E u) := by
  refine met_go (cc := cX4_bringToHopper) (maxL := 2) (ret := none) (Q0 := mQv E (wP a E u)) (by decide +kernel) rfl (Nat.le_of_ble_eq_true rfl) ?_
  intro A p e s m below meth c hx hb hr hml hts hown hlocks hP hK hD hA hS ls hl
  have hl : lv_has ls 2 [(0, .ref (a 0)), (1, .int (zi x1))] := hl
  generalize hH : s.heap = H at hP
  have hS : va_S A s.heap H [] := by rw [← hH]; exact hS
  have hown : s.vm.findClass RX4 = some m.cls := hown
  have h := hf
  rw [f_X4_bringToHopper] at h
  refine lv_aload_n hx hb dX4_bringToHopper_0 rfl (lv_at hl 0 rfl) ?_
  refine va_get (D := E.1) (ci := 4) (v := .ref (a 4)) (C := RX4) (T := TX4) (N := 6) hx hb hts in_X4_bringToHopper_X4 hown hK hP 0 rfl rfl 3 (by decide) (hts _ wd_X4_bringToHopper_f21) (fun _ h9 => h9) rfl dX4_bringToHopper_1 ?_
  refine lv_aload_n hx hb dX4_bringToHopper_4 rfl (lv_at hl 0 rfl) ?_
  refine va_get (D := E.1) (ci := 4) (v := .ref (a 5)) (C := RX4) (T := TX4) (N := 6) hx hb hts in_X4_bringToHopper_X4 hown hK hP 0 rfl rfl 4 (by decide) (hts _ wd_X4_bringToHopper_f24) (fun _ h9 => h9) rfl dX4_bringToHopper_5 ?_
  refine iv_iconst hx hb dX4_bringToHopper_8 ?_
  refine iv_iald (f := z.2.2.2.2.1) (j := 0) hx hb hK hP 5 0 rfl rfl (by decide) (by decide +kernel) rfl dX4_bringToHopper_9 ?_
  refine lv_iload_n hx hb dX4_bringToHopper_10 rfl (lv_at hl 1 rfl) ?_
  obtain ⟨g1, h⟩ := gd_t h
  obtain ⟨s2, e3, h⟩ := nm_t h
  refine iv_iast (f := z.2.2.2.1) (j := (z.2.2.2.2.1 0).toNat) (ws1 := wP a E s2) hx hb hK hP hD hS 4 0 rfl rfl (by decide) g1 rfl (by rw [e3]; rfl) dX4_bringToHopper_11 (fun H locs hP hD hS => ?_)
  refine lv_aload_n hx hb dX4_bringToHopper_12 rfl (lv_at hl 0 rfl) ?_
  refine lv_iload_n hx hb dX4_bringToHopper_13 rfl (lv_at hl 1 rfl) ?_
  refine iv_iconst hx hb dX4_bringToHopper_14 ?_
  obtain ⟨u4, q5, h⟩ := bd_t h
  refine iv_callVf (As := [.int (zi x1), .int (zi 0)]) (rest := []) ⟨hx, hb, hml, hown, hts⟩ (k_X4_bring l E a H.size x1 0 s2 u4 q5) (cwV 2 hts gX4_bringToHopper_X4_bring rfl rfl rfl (by decide +kernel) ⟨Nat.le_of_ble_eq_true rfl, Nat.le_of_ble_eq_true rfl⟩) hK hP hD hS hA 0 4 rfl rfl rfl hl.1 (Nat.le_of_ble_eq_true rfl) ⟨Nat.zero_le _, Nat.zero_le _⟩ dX4_bringToHopper_15 (fun H locs hP hD hS => ?_)
  cases h
  exact iv_vret hx hb hr hlocks hK hP hD hS dX4_bringToHopper_18
set_option maxRecDepth 20000 in
theorem wd_X4_bringToBin_f15 : Cond.fieldLink RX4 15 "ShirtButtons$Places" "binOf" "[I" ∈ wsX4_bringToBin := by decide +kernel
set_option maxRecDepth 20000 in
theorem in_X4_bringToBin_X4 : ∀ w ∈ u_ws RX4 TX4 6, w ∈ wsX4_bringToBin := by decide +kernel
set_option maxRecDepth 20000 in
theorem wd_X4_bringToBin_f27 : Cond.fieldLink RX4 27 "ShirtButtons$Places" "inBin" "[I" ∈ wsX4_bringToBin := by decide +kernel
set_option maxHeartbeats 4000000 in
set_option maxRecDepth 100000 in
theorem k_X4_bringToBin (l : Launch) (E : wE) (a : Nat → Nat) (sz : Nat) (x1 x2 : Int) (z : bP) (u : bP) (hf : f_X4_bringToBin x1 x2 z = some u) : cV l yX4_bringToBin wsX4_bringToBin { frames := 1, cells := 0, slots := 0, locals := 22 } E sz [.ref (a 0), .int (zi x1), .int (zi x2)] (wP a E z) (wP a E u) := by
  refine met_go (cc := cX4_bringToBin) (maxL := 3) (ret := none) (Q0 := mQv E (wP a E u)) (by decide +kernel) rfl (Nat.le_of_ble_eq_true rfl) ?_
  intro A p e s m below meth c hx hb hr hml hts hown hlocks hP hK hD hA hS ls hl
  have hl : lv_has ls 3 [(0, .ref (a 0)), (1, .int (zi x1)), (2, .int (zi x2))] := hl
  generalize hH : s.heap = H at hP
  have hS : va_S A s.heap H [] := by rw [← hH]; exact hS
  have hown : s.vm.findClass RX4 = some m.cls := hown
  have h := hf
  rw [f_X4_bringToBin] at h
  refine lv_aload_n hx hb dX4_bringToBin_0 rfl (lv_at hl 0 rfl) ?_
  refine lv_iload_n hx hb dX4_bringToBin_1 rfl (lv_at hl 1 rfl) ?_
  refine iv_iconst hx hb dX4_bringToBin_2 ?_
  obtain ⟨u1, q2, h⟩ := bd_t h
  refine iv_callVf (As := [.int (zi x1), .int (zi 5)]) (rest := []) ⟨hx, hb, hml, hown, hts⟩ (k_X4_bring l E a H.size x1 5 z u1 q2) (cwV 2 hts gX4_bringToBin_X4_bring rfl rfl rfl (by decide +kernel) ⟨Nat.le_of_ble_eq_true rfl, Nat.le_of_ble_eq_true rfl⟩) hK hP hD hS hA 0 4 rfl rfl rfl hl.1 (Nat.le_of_ble_eq_true rfl) ⟨Nat.zero_le _, Nat.zero_le _⟩ dX4_bringToBin_3 (fun H locs hP hD hS => ?_)
  refine lv_aload_n hx hb dX4_bringToBin_6 rfl (lv_at hl 0 rfl) ?_
  refine va_get (D := E.1) (ci := 4) (v := .ref (a 2)) (C := RX4) (T := TX4) (N := 6) hx hb hts in_X4_bringToBin_X4 hown hK hP 0 rfl rfl 1 (by decide) (hts _ wd_X4_bringToBin_f15) (fun _ h9 => h9) rfl dX4_bringToBin_7 ?_
  refine lv_iload_n hx hb dX4_bringToBin_10 rfl (lv_at hl 1 rfl) ?_
  refine lv_iload_n hx hb dX4_bringToBin_11 rfl (lv_at hl 2 rfl) ?_
  obtain ⟨g3, h⟩ := gd_t h
  obtain ⟨s4, e5, h⟩ := nm_t h
  refine iv_iast (f := u1.2.1) (j := x1.toNat) (ws1 := wP a E s4) hx hb hK hP hD hS 2 0 rfl rfl (by decide) g3 rfl (by rw [e5]; rfl) dX4_bringToBin_12 (fun H locs hP hD hS => ?_)
  refine lv_aload_n hx hb dX4_bringToBin_13 rfl (lv_at hl 0 rfl) ?_
  refine va_get (D := E.1) (ci := 4) (v := .ref (a 6)) (C := RX4) (T := TX4) (N := 6) hx hb hts in_X4_bringToBin_X4 hown hK hP 0 rfl rfl 5 (by decide) (hts _ wd_X4_bringToBin_f27) (fun _ h9 => h9) rfl dX4_bringToBin_14 ?_
  refine lv_iload_n hx hb dX4_bringToBin_17 rfl (lv_at hl 2 rfl) ?_
  refine lv_dup2_11 hx hb dX4_bringToBin_18 rfl rfl ?_
  obtain ⟨g6, h⟩ := gd_t h
  refine iv_iald (f := s4.2.2.2.2.2) (j := x2.toNat) hx hb hK hP 6 0 rfl rfl (by decide) g6 rfl dX4_bringToBin_19 ?_
  refine iv_iconst hx hb dX4_bringToBin_20 ?_
  refine iv_iadd hx hb dX4_bringToBin_21 ?_
  obtain ⟨s7, e8, h⟩ := nm_t h
  refine iv_iast (f := s4.2.2.2.2.2) (j := x2.toNat) (ws1 := wP a E s7) hx hb hK hP hD hS 6 0 rfl rfl (by decide) g6 rfl (by rw [e8]; rfl) dX4_bringToBin_22 (fun H locs hP hD hS => ?_)
  cases h
  exact iv_vret hx hb hr hlocks hK hP hD hS dX4_bringToBin_23
set_option maxRecDepth 20000 in
theorem wd_X4_bringToShirt_f18 : Cond.fieldLink RX4 18 "ShirtButtons$Places" "shirtOf" "[I" ∈ wsX4_bringToShirt := by decide +kernel
set_option maxRecDepth 20000 in
theorem in_X4_bringToShirt_X4 : ∀ w ∈ u_ws RX4 TX4 6, w ∈ wsX4_bringToShirt := by decide +kernel
set_option maxHeartbeats 4000000 in
set_option maxRecDepth 100000 in
theorem k_X4_bringToShirt (l : Launch) (E : wE) (a : Nat → Nat) (sz : Nat) (x1 x2 : Int) (z : bP) (u : bP) (hf : f_X4_bringToShirt x1 x2 z = some u) : cV l yX4_bringToShirt wsX4_bringToShirt { frames := 1, cells := 0, slots := 0, locals := 22 } E sz [.ref (a 0), .int (zi x1), .int (zi x2)] (wP a E z) (wP a E u) := by
  refine met_go (cc := cX4_bringToShirt) (maxL := 3) (ret := none) (Q0 := mQv E (wP a E u)) (by decide +kernel) rfl (Nat.le_of_ble_eq_true rfl) ?_
  intro A p e s m below meth c hx hb hr hml hts hown hlocks hP hK hD hA hS ls hl
  have hl : lv_has ls 3 [(0, .ref (a 0)), (1, .int (zi x1)), (2, .int (zi x2))] := hl
  generalize hH : s.heap = H at hP
  have hS : va_S A s.heap H [] := by rw [← hH]; exact hS
  have hown : s.vm.findClass RX4 = some m.cls := hown
  have h := hf
  rw [f_X4_bringToShirt] at h
  refine lv_aload_n hx hb dX4_bringToShirt_0 rfl (lv_at hl 0 rfl) ?_
  refine lv_iload_n hx hb dX4_bringToShirt_1 rfl (lv_at hl 1 rfl) ?_
  refine iv_bipush hx hb dX4_bringToShirt_2 (by decide +kernel) ?_
  obtain ⟨u1, q2, h⟩ := bd_t h
  refine iv_callVf (As := [.int (zi x1), .int (zi 6)]) (rest := []) ⟨hx, hb, hml, hown, hts⟩ (k_X4_bring l E a H.size x1 6 z u1 q2) (cwV 2 hts gX4_bringToShirt_X4_bring rfl rfl rfl (by decide +kernel) ⟨Nat.le_of_ble_eq_true rfl, Nat.le_of_ble_eq_true rfl⟩) hK hP hD hS hA 0 4 rfl rfl rfl hl.1 (Nat.le_of_ble_eq_true rfl) ⟨Nat.zero_le _, Nat.zero_le _⟩ dX4_bringToShirt_4 (fun H locs hP hD hS => ?_)
  refine lv_aload_n hx hb dX4_bringToShirt_7 rfl (lv_at hl 0 rfl) ?_
  refine va_get (D := E.1) (ci := 4) (v := .ref (a 3)) (C := RX4) (T := TX4) (N := 6) hx hb hts in_X4_bringToShirt_X4 hown hK hP 0 rfl rfl 2 (by decide) (hts _ wd_X4_bringToShirt_f18) (fun _ h9 => h9) rfl dX4_bringToShirt_8 ?_
  refine lv_iload_n hx hb dX4_bringToShirt_11 rfl (lv_at hl 1 rfl) ?_
  refine lv_iload_n hx hb dX4_bringToShirt_12 rfl (lv_at hl 2 rfl) ?_
  obtain ⟨g3, h⟩ := gd_t h
  obtain ⟨s4, e5, h⟩ := nm_t h
  refine iv_iast (f := u1.2.2.1) (j := x1.toNat) (ws1 := wP a E s4) hx hb hK hP hD hS 3 0 rfl rfl (by decide) g3 rfl (by rw [e5]; rfl) dX4_bringToShirt_13 (fun H locs hP hD hS => ?_)
  cases h
  exact iv_vret hx hb hr hlocks hK hP hD hS dX4_bringToShirt_14
set_option maxRecDepth 20000 in
theorem wd_X4_rankInHopper_f24 : Cond.fieldLink RX4 24 "ShirtButtons$Places" "at" "[I" ∈ wsX4_rankInHopper := by decide +kernel
set_option maxRecDepth 20000 in
theorem in_X4_rankInHopper_X4 : ∀ w ∈ u_ws RX4 TX4 6, w ∈ wsX4_rankInHopper := by decide +kernel
set_option maxRecDepth 20000 in
theorem wd_X4_rankInHopper_f21 : Cond.fieldLink RX4 21 "ShirtButtons$Places" "hopper" "[I" ∈ wsX4_rankInHopper := by decide +kernel
set_option maxHeartbeats 4000000 in
set_option maxRecDepth 100000 in
theorem k_X4_rankInHopper (l : Launch) (E : wE) (a : Nat → Nat) (sz : Nat) (N : Nat) (x1 : Int) (z : bP) (u : (Int × bP)) (hf : f_X4_rankInHopper N x1 z = some u) : cI l yX4_rankInHopper wsX4_rankInHopper { frames := 0, cells := 0, slots := 0, locals := 0 } E sz [.ref (a 0), .int (zi x1)] (wP a E z) (wP a E u.2) u.1 := by
  refine met_go (cc := cX4_rankInHopper) (maxL := 3) (ret := (some .int)) (Q0 := mQi E (wP a E u.2) u.1) (by decide +kernel) rfl (Nat.le_of_ble_eq_true rfl) ?_
  intro A p e s m below meth c hx hb hr hml hts hown hlocks hP hK hD hA hS ls hl
  have hl : lv_has ls 3 [(0, .ref (a 0)), (1, .int (zi x1))] := hl
  generalize hH : s.heap = H at hP
  have hS : va_S A s.heap H [] := by rw [← hH]; exact hS
  have hown : s.vm.findClass RX4 = some m.cls := hown
  have loop2 : ∀ (n : Nat) (v1 v2 : Int) (s3 : bP) (H : Heap) (locs : List Loc) (ls : Array Slot), f_X4_rankInHopper_L2 N n v1 v2 s3 = some u → va_P E.1 vwCl (wP a E s3) H → va_D A (wP a E s3) → va_S A s.heap H locs → lv_has ls 3 [(0, .ref (a 0)), (1, .int (zi v1)), (2, .int (zi v2))] → W p l e ({ frames := 0, cells := 0, slots := 0, locals := 0 }) s m ([.ref (a 0), .int (zi x1)] : List Value).toArray below meth c H locs 0 0 (MQ below (mQi E (wP a E u.2) u.1 A) ([.ref (a 0), .int (zi x1)] : List Value).toArray s 0 0 A) (F0 m 2 ls []) := by
    intro n
    induction n with
    | zero =>
      intro v1 v2 s3 H locs ls h
      exact absurd (show (none : Option (Int × bP)) = some u from h) (by simp)
    | succ n ih =>
      intro v1 v2 s3 H locs ls h hP hD hS hl
      rw [f_X4_rankInHopper_L2] at h
      refine lv_iload_n hx hb dX4_rankInHopper_2 rfl (lv_at hl 2 rfl) ?_
      refine lv_aload_n hx hb dX4_rankInHopper_3 rfl (lv_at hl 0 rfl) ?_
      refine va_get (D := E.1) (ci := 4) (v := .ref (a 5)) (C := RX4) (T := TX4) (N := 6) hx hb hts in_X4_rankInHopper_X4 hown hK hP 0 rfl rfl 4 (by decide) (hts _ wd_X4_rankInHopper_f24) (fun _ h9 => h9) rfl dX4_rankInHopper_4 ?_
      refine iv_iconst hx hb dX4_rankInHopper_7 ?_
      refine iv_iald (f := s3.2.2.2.2.1) (j := 0) hx hb hK hP 5 0 rfl rfl (by decide) (by decide +kernel) rfl dX4_rankInHopper_8 ?_
      obtain ⟨g4, h⟩ := gd_t h
      obtain ⟨g5, h⟩ := gd_t h
      refine iv_ige (tgt := 30) hx hb g4 g5 dX4_rankInHopper_9 (by decide) (fun c6 => ?_) (fun c6 => ?_)
      · have h := it_t c6 h
        refine iv_bipush hx hb dX4_rankInHopper_30 (by decide +kernel) ?_
        cases h
        exact iv_iret hx hb hr hlocks hK hP hD hS dX4_rankInHopper_32
      · have h := it_f c6 h
        refine lv_aload_n hx hb dX4_rankInHopper_12 rfl (lv_at hl 0 rfl) ?_
        refine va_get (D := E.1) (ci := 4) (v := .ref (a 4)) (C := RX4) (T := TX4) (N := 6) hx hb hts in_X4_rankInHopper_X4 hown hK hP 0 rfl rfl 3 (by decide) (hts _ wd_X4_rankInHopper_f21) (fun _ h9 => h9) rfl dX4_rankInHopper_13 ?_
        refine lv_iload_n hx hb dX4_rankInHopper_16 rfl (lv_at hl 2 rfl) ?_
        obtain ⟨g7, h⟩ := gd_t h
        refine iv_iald (f := s3.2.2.2.1) (j := v2.toNat) hx hb hK hP 4 0 rfl rfl (by decide) g7 rfl dX4_rankInHopper_17 ?_
        refine lv_iload_n hx hb dX4_rankInHopper_18 rfl (lv_at hl 1 rfl) ?_
        obtain ⟨g8, h⟩ := gd_t h
        obtain ⟨g9, h⟩ := gd_t h
        refine iv_ine (tgt := 24) hx hb g8 g9 dX4_rankInHopper_19 (by decide) (fun c10 => ?_) (fun c10 => ?_)
        · have h := it_f c10 h
          refine lv_iinc (v := zi (v2 + 1)) (lv' := [(2, .int (zi (v2 + 1))), (0, .ref (a 0)), (1, .int (zi v1))]) hx hb dX4_rankInHopper_24 hl (k := 2) rfl (by rw [zi_add]; rfl) (by decide) rfl (fun ls hl => ?_)
          refine lv_goto (tgt := 2) hx hb dX4_rankInHopper_27 (by decide) ?_
          exact ih v1 (v2 + 1) s3 _ _ _ h hP hD hS (lv_sub hl [1, 2, 0] rfl)
        · have h := it_t c10 h
          refine lv_iload_n hx hb dX4_rankInHopper_22 rfl (lv_at hl 2 rfl) ?_
          cases h
          exact iv_iret hx hb hr hlocks hK hP hD hS dX4_rankInHopper_23
  have h := hf
  rw [f_X4_rankInHopper] at h
  refine iv_iconst hx hb dX4_rankInHopper_0 ?_
  refine lv_istore_n (lv' := [(2, .int (zi 0)), (0, .ref (a 0)), (1, .int (zi x1))]) hx hb dX4_rankInHopper_1 rfl hl (by decide) rfl (fun ls hl => ?_)
  exact loop2 N x1 0 z _ _ _ h hP hD hS (lv_sub hl [1, 2, 0] rfl)
set_option maxRecDepth 20000 in
theorem wd_X4_copyFrom_f9 : Cond.fieldLink RX4 9 "ShirtButtons$Places" "place" "[I" ∈ wsX4_copyFrom := by decide +kernel
set_option maxRecDepth 20000 in
theorem in_X4_copyFrom_X4 : ∀ w ∈ u_ws RX4 TX4 6, w ∈ wsX4_copyFrom := by decide +kernel
set_option maxRecDepth 20000 in
theorem wd_X4_copyFrom_m34 : Cond.methodLink RX4 34 arraycopyName ∈ wsX4_copyFrom := by decide +kernel
set_option maxRecDepth 20000 in
theorem wd_X4_copyFrom_acn : Cond.native arraycopyName ∈ wsX4_copyFrom := by decide +kernel
set_option maxRecDepth 20000 in
theorem wd_X4_copyFrom_acs : Cond.static arraycopyName ∈ wsX4_copyFrom := by decide +kernel
set_option maxRecDepth 20000 in
theorem wd_X4_copyFrom_aci : Cond.initialized "java/lang/System" ∈ wsX4_copyFrom := by decide +kernel
set_option maxRecDepth 20000 in
theorem wd_X4_copyFrom_f15 : Cond.fieldLink RX4 15 "ShirtButtons$Places" "binOf" "[I" ∈ wsX4_copyFrom := by decide +kernel
set_option maxRecDepth 20000 in
theorem wd_X4_copyFrom_f18 : Cond.fieldLink RX4 18 "ShirtButtons$Places" "shirtOf" "[I" ∈ wsX4_copyFrom := by decide +kernel
set_option maxRecDepth 20000 in
theorem wd_X4_copyFrom_f21 : Cond.fieldLink RX4 21 "ShirtButtons$Places" "hopper" "[I" ∈ wsX4_copyFrom := by decide +kernel
set_option maxRecDepth 20000 in
theorem wd_X4_copyFrom_f24 : Cond.fieldLink RX4 24 "ShirtButtons$Places" "at" "[I" ∈ wsX4_copyFrom := by decide +kernel
set_option maxRecDepth 20000 in
theorem wd_X4_copyFrom_f27 : Cond.fieldLink RX4 27 "ShirtButtons$Places" "inBin" "[I" ∈ wsX4_copyFrom := by decide +kernel
set_option maxHeartbeats 4000000 in
set_option maxRecDepth 100000 in
theorem k_X4_copyFrom (l : Launch) (E : wE) (a b : Nat → Nat) (sz : Nat) (x2 : Int) (z : bPP) (u : bPP) (hf : f_X4_copyFrom x2 z = some u) : cV l yX4_copyFrom wsX4_copyFrom { frames := 1, cells := 0, slots := 0, locals := 26 } E sz [.ref (a 0), .ref (b 0), .int (zi x2)] (wPP a b E z) (wPP a b E u) := by
  refine met_go (cc := cX4_copyFrom) (maxL := 3) (ret := none) (Q0 := mQv E (wPP a b E u)) (by decide +kernel) rfl (Nat.le_of_ble_eq_true rfl) ?_
  intro A p e s m below meth c hx hb hr hml hts hown hlocks hP hK hD hA hS ls hl
  have hl : lv_has ls 3 [(0, .ref (a 0)), (1, .ref (b 0)), (2, .int (zi x2))] := hl
  generalize hH : s.heap = H at hP
  have hS : va_S A s.heap H [] := by rw [← hH]; exact hS
  have hown : s.vm.findClass RX4 = some m.cls := hown
  have h := hf
  rw [f_X4_copyFrom] at h
  refine lv_aload_n hx hb dX4_copyFrom_0 rfl (lv_at hl 1 rfl) ?_
  refine va_get (D := E.1) (ci := 4) (v := .ref (b 1)) (C := RX4) (T := TX4) (N := 6) hx hb hts in_X4_copyFrom_X4 hown hK hP 7 rfl rfl 0 (by decide) (hts _ wd_X4_copyFrom_f9) (fun _ h9 => h9) rfl dX4_copyFrom_1 ?_
  refine iv_iconst hx hb dX4_copyFrom_4 ?_
  refine lv_aload_n hx hb dX4_copyFrom_5 rfl (lv_at hl 0 rfl) ?_
  refine va_get (D := E.1) (ci := 4) (v := .ref (a 1)) (C := RX4) (T := TX4) (N := 6) hx hb hts in_X4_copyFrom_X4 hown hK hP 0 rfl rfl 0 (by decide) (hts _ wd_X4_copyFrom_f9) (fun _ h9 => h9) rfl dX4_copyFrom_6 ?_
  refine iv_iconst hx hb dX4_copyFrom_9 ?_
  refine lv_iload_n hx hb dX4_copyFrom_10 rfl (lv_at hl 2 rfl) ?_
  obtain ⟨g1, h⟩ := gd_t h
  obtain ⟨s2, e3, h⟩ := nm_t h
  refine iv_copy (f := z.2.1) (g := z.1.1) (sp' := 0) (dp' := 0) (K := 41) (ws1 := wPP a b E s2) hx hb (hml.trans hl.1.symm) hown (hts _ wd_X4_copyFrom_m34) (hts _ wd_X4_copyFrom_acn) (hts _ wd_X4_copyFrom_acs) (hts _ wd_X4_copyFrom_aci) hK hP hD hS 8 1 0 0 rfl rfl rfl rfl (by decide +kernel) (by decide +kernel) rfl rfl g1 (by decide) (by decide) (by decide) (by decide) (Nat.le_of_ble_eq_true (by decide +kernel)) (by rw [e3]; rfl) dX4_copyFrom_11 (fun H locs hP hD hS => ?_)
  refine lv_aload_n hx hb dX4_copyFrom_14 rfl (lv_at hl 1 rfl) ?_
  refine va_get (D := E.1) (ci := 4) (v := .ref (b 2)) (C := RX4) (T := TX4) (N := 6) hx hb hts in_X4_copyFrom_X4 hown hK hP 7 rfl rfl 1 (by decide) (hts _ wd_X4_copyFrom_f15) (fun _ h9 => h9) rfl dX4_copyFrom_15 ?_
  refine iv_iconst hx hb dX4_copyFrom_18 ?_
  refine lv_aload_n hx hb dX4_copyFrom_19 rfl (lv_at hl 0 rfl) ?_
  refine va_get (D := E.1) (ci := 4) (v := .ref (a 2)) (C := RX4) (T := TX4) (N := 6) hx hb hts in_X4_copyFrom_X4 hown hK hP 0 rfl rfl 1 (by decide) (hts _ wd_X4_copyFrom_f15) (fun _ h9 => h9) rfl dX4_copyFrom_20 ?_
  refine iv_iconst hx hb dX4_copyFrom_23 ?_
  refine lv_iload_n hx hb dX4_copyFrom_24 rfl (lv_at hl 2 rfl) ?_
  obtain ⟨s4, e5, h⟩ := nm_t h
  refine iv_copy (f := s2.2.2.1) (g := s2.1.2.1) (sp' := 0) (dp' := 0) (K := 41) (ws1 := wPP a b E s4) hx hb (hml.trans hl.1.symm) hown (hts _ wd_X4_copyFrom_m34) (hts _ wd_X4_copyFrom_acn) (hts _ wd_X4_copyFrom_acs) (hts _ wd_X4_copyFrom_aci) hK hP hD hS 9 2 0 0 rfl rfl rfl rfl (by decide +kernel) (by decide +kernel) rfl rfl g1 (by decide) (by decide) (by decide) (by decide) (Nat.le_of_ble_eq_true (by decide +kernel)) (by rw [e5]; rfl) dX4_copyFrom_25 (fun H locs hP hD hS => ?_)
  refine lv_aload_n hx hb dX4_copyFrom_28 rfl (lv_at hl 1 rfl) ?_
  refine va_get (D := E.1) (ci := 4) (v := .ref (b 3)) (C := RX4) (T := TX4) (N := 6) hx hb hts in_X4_copyFrom_X4 hown hK hP 7 rfl rfl 2 (by decide) (hts _ wd_X4_copyFrom_f18) (fun _ h9 => h9) rfl dX4_copyFrom_29 ?_
  refine iv_iconst hx hb dX4_copyFrom_32 ?_
  refine lv_aload_n hx hb dX4_copyFrom_33 rfl (lv_at hl 0 rfl) ?_
  refine va_get (D := E.1) (ci := 4) (v := .ref (a 3)) (C := RX4) (T := TX4) (N := 6) hx hb hts in_X4_copyFrom_X4 hown hK hP 0 rfl rfl 2 (by decide) (hts _ wd_X4_copyFrom_f18) (fun _ h9 => h9) rfl dX4_copyFrom_34 ?_
  refine iv_iconst hx hb dX4_copyFrom_37 ?_
  refine lv_iload_n hx hb dX4_copyFrom_38 rfl (lv_at hl 2 rfl) ?_
  obtain ⟨s6, e7, h⟩ := nm_t h
  refine iv_copy (f := s4.2.2.2.1) (g := s4.1.2.2.1) (sp' := 0) (dp' := 0) (K := 41) (ws1 := wPP a b E s6) hx hb (hml.trans hl.1.symm) hown (hts _ wd_X4_copyFrom_m34) (hts _ wd_X4_copyFrom_acn) (hts _ wd_X4_copyFrom_acs) (hts _ wd_X4_copyFrom_aci) hK hP hD hS 10 3 0 0 rfl rfl rfl rfl (by decide +kernel) (by decide +kernel) rfl rfl g1 (by decide) (by decide) (by decide) (by decide) (Nat.le_of_ble_eq_true (by decide +kernel)) (by rw [e7]; rfl) dX4_copyFrom_39 (fun H locs hP hD hS => ?_)
  refine lv_aload_n hx hb dX4_copyFrom_42 rfl (lv_at hl 1 rfl) ?_
  refine va_get (D := E.1) (ci := 4) (v := .ref (b 4)) (C := RX4) (T := TX4) (N := 6) hx hb hts in_X4_copyFrom_X4 hown hK hP 7 rfl rfl 3 (by decide) (hts _ wd_X4_copyFrom_f21) (fun _ h9 => h9) rfl dX4_copyFrom_43 ?_
  refine iv_iconst hx hb dX4_copyFrom_46 ?_
  refine lv_aload_n hx hb dX4_copyFrom_47 rfl (lv_at hl 0 rfl) ?_
  refine va_get (D := E.1) (ci := 4) (v := .ref (a 4)) (C := RX4) (T := TX4) (N := 6) hx hb hts in_X4_copyFrom_X4 hown hK hP 0 rfl rfl 3 (by decide) (hts _ wd_X4_copyFrom_f21) (fun _ h9 => h9) rfl dX4_copyFrom_48 ?_
  refine iv_iconst hx hb dX4_copyFrom_51 ?_
  refine lv_aload_n hx hb dX4_copyFrom_52 rfl (lv_at hl 1 rfl) ?_
  refine va_get (D := E.1) (ci := 4) (v := .ref (b 5)) (C := RX4) (T := TX4) (N := 6) hx hb hts in_X4_copyFrom_X4 hown hK hP 7 rfl rfl 4 (by decide) (hts _ wd_X4_copyFrom_f24) (fun _ h9 => h9) rfl dX4_copyFrom_53 ?_
  refine iv_iconst hx hb dX4_copyFrom_56 ?_
  refine iv_iald (f := s6.2.2.2.2.2.1) (j := 0) hx hb hK hP 12 0 rfl rfl (by decide) (by decide +kernel) rfl dX4_copyFrom_57 ?_
  obtain ⟨g8, h⟩ := gd_t h
  obtain ⟨s9, e10, h⟩ := nm_t h
  refine iv_copy (f := s6.2.2.2.2.1) (g := s6.1.2.2.2.1) (sp' := 0) (dp' := 0) (K := 41) (ws1 := wPP a b E s9) hx hb (hml.trans hl.1.symm) hown (hts _ wd_X4_copyFrom_m34) (hts _ wd_X4_copyFrom_acn) (hts _ wd_X4_copyFrom_acs) (hts _ wd_X4_copyFrom_aci) hK hP hD hS 11 4 0 0 rfl rfl rfl rfl (by decide +kernel) (by decide +kernel) rfl rfl g8 (by decide) (by decide) (by decide) (by decide) (Nat.le_of_ble_eq_true (by decide +kernel)) (by rw [e10]; rfl) dX4_copyFrom_58 (fun H locs hP hD hS => ?_)
  refine lv_aload_n hx hb dX4_copyFrom_61 rfl (lv_at hl 1 rfl) ?_
  refine va_get (D := E.1) (ci := 4) (v := .ref (b 5)) (C := RX4) (T := TX4) (N := 6) hx hb hts in_X4_copyFrom_X4 hown hK hP 7 rfl rfl 4 (by decide) (hts _ wd_X4_copyFrom_f24) (fun _ h9 => h9) rfl dX4_copyFrom_62 ?_
  refine iv_iconst hx hb dX4_copyFrom_65 ?_
  refine lv_aload_n hx hb dX4_copyFrom_66 rfl (lv_at hl 0 rfl) ?_
  refine va_get (D := E.1) (ci := 4) (v := .ref (a 5)) (C := RX4) (T := TX4) (N := 6) hx hb hts in_X4_copyFrom_X4 hown hK hP 0 rfl rfl 4 (by decide) (hts _ wd_X4_copyFrom_f24) (fun _ h9 => h9) rfl dX4_copyFrom_67 ?_
  refine iv_iconst hx hb dX4_copyFrom_70 ?_
  refine iv_bipush hx hb dX4_copyFrom_71 (by decide +kernel) ?_
  obtain ⟨s11, e12, h⟩ := nm_t h
  refine iv_copy (f := s9.2.2.2.2.2.1) (g := s9.1.2.2.2.2.1) (sp' := 0) (dp' := 0) (K := 8) (ws1 := wPP a b E s11) hx hb (hml.trans hl.1.symm) hown (hts _ wd_X4_copyFrom_m34) (hts _ wd_X4_copyFrom_acn) (hts _ wd_X4_copyFrom_acs) (hts _ wd_X4_copyFrom_aci) hK hP hD hS 12 5 0 0 rfl rfl rfl rfl (by decide +kernel) (by decide +kernel) rfl rfl (by decide +kernel) (by decide) (by decide) (by decide) (by decide) (Nat.le_of_ble_eq_true (by decide +kernel)) (by rw [e12]; rfl) dX4_copyFrom_73 (fun H locs hP hD hS => ?_)
  refine lv_aload_n hx hb dX4_copyFrom_76 rfl (lv_at hl 1 rfl) ?_
  refine va_get (D := E.1) (ci := 4) (v := .ref (b 6)) (C := RX4) (T := TX4) (N := 6) hx hb hts in_X4_copyFrom_X4 hown hK hP 7 rfl rfl 5 (by decide) (hts _ wd_X4_copyFrom_f27) (fun _ h9 => h9) rfl dX4_copyFrom_77 ?_
  refine iv_iconst hx hb dX4_copyFrom_80 ?_
  refine lv_aload_n hx hb dX4_copyFrom_81 rfl (lv_at hl 0 rfl) ?_
  refine va_get (D := E.1) (ci := 4) (v := .ref (a 6)) (C := RX4) (T := TX4) (N := 6) hx hb hts in_X4_copyFrom_X4 hown hK hP 0 rfl rfl 5 (by decide) (hts _ wd_X4_copyFrom_f27) (fun _ h9 => h9) rfl dX4_copyFrom_82 ?_
  refine iv_iconst hx hb dX4_copyFrom_85 ?_
  refine iv_bipush hx hb dX4_copyFrom_86 (by decide +kernel) ?_
  obtain ⟨s13, e14, h⟩ := nm_t h
  refine iv_copy (f := s11.2.2.2.2.2.2) (g := s11.1.2.2.2.2.2) (sp' := 0) (dp' := 0) (K := 13) (ws1 := wPP a b E s13) hx hb (hml.trans hl.1.symm) hown (hts _ wd_X4_copyFrom_m34) (hts _ wd_X4_copyFrom_acn) (hts _ wd_X4_copyFrom_acs) (hts _ wd_X4_copyFrom_aci) hK hP hD hS 13 6 0 0 rfl rfl rfl rfl (by decide +kernel) (by decide +kernel) rfl rfl (by decide +kernel) (by decide) (by decide) (by decide) (by decide) (Nat.le_of_ble_eq_true (by decide +kernel)) (by rw [e14]; rfl) dX4_copyFrom_88 (fun H locs hP hD hS => ?_)
  cases h
  exact iv_vret hx hb hr hlocks hK hP hD hS dX4_copyFrom_91
set_option maxRecDepth 20000 in
theorem wd_X6_append_f15 : Cond.fieldLink RX6 15 "ShirtButtons$Text" "length" "I" ∈ wsX6_append := by decide +kernel
set_option maxRecDepth 20000 in
theorem in_X6_append_X6 : ∀ w ∈ u_ws RX6 TX6 2, w ∈ wsX6_append := by decide +kernel
set_option maxRecDepth 20000 in
theorem wd_X6_append_f9 : Cond.fieldLink RX6 9 "ShirtButtons$Text" "signs" "[C" ∈ wsX6_append := by decide +kernel
set_option maxHeartbeats 4000000 in
set_option maxRecDepth 100000 in
theorem k_X6_append (l : Launch) (E : wE) (a : Nat → Nat) (sz : Nat) (x1 : Int) (z : bT) (u : (Int × bT)) (hf : f_X6_append x1 z = some u) : cI l yX6_append wsX6_append { frames := 0, cells := 0, slots := 0, locals := 0 } E sz [.ref (a 0), .int (zi x1)] (wT a E z) (wT a E u.2) u.1 := by
  refine met_go (cc := cX6_append) (maxL := 2) (ret := (some .boolean)) (Q0 := mQi E (wT a E u.2) u.1) (by decide +kernel) rfl (Nat.le_of_ble_eq_true rfl) ?_
  intro A p e s m below meth c hx hb hr hml hts hown hlocks hP hK hD hA hS ls hl
  have hl : lv_has ls 2 [(0, .ref (a 0)), (1, .int (zi x1))] := hl
  generalize hH : s.heap = H at hP
  have hS : va_S A s.heap H [] := by rw [← hH]; exact hS
  have hown : s.vm.findClass RX6 = some m.cls := hown
  have h := hf
  rw [f_X6_append] at h
  refine lv_aload_n hx hb dX6_append_0 rfl (lv_at hl 0 rfl) ?_
  refine va_get (D := E.1) (ci := 6) (v := .int (zi z.2)) (C := RX6) (T := TX6) (N := 2) hx hb hts in_X6_append_X6 hown hK hP 0 rfl rfl 1 (by decide) (hts _ wd_X6_append_f15) (fun _ h9 => h9) rfl dX6_append_1 ?_
  refine iv_bipush hx hb dX6_append_4 (by decide +kernel) ?_
  obtain ⟨g1, h⟩ := gd_t h
  refine iv_ilt (tgt := 11) hx hb g1 (by decide +kernel) dX6_append_6 (by decide) (fun c2 => ?_) (fun c2 => ?_)
  · have h := it_t c2 h
    refine lv_aload_n hx hb dX6_append_11 rfl (lv_at hl 0 rfl) ?_
    refine va_get (D := E.1) (ci := 6) (v := .ref (a 1)) (C := RX6) (T := TX6) (N := 2) hx hb hts in_X6_append_X6 hown hK hP 0 rfl rfl 0 (by decide) (hts _ wd_X6_append_f9) (fun _ h9 => h9) rfl dX6_append_12 ?_
    refine lv_aload_n hx hb dX6_append_15 rfl (lv_at hl 0 rfl) ?_
    refine va_get (D := E.1) (ci := 6) (v := .int (zi z.2)) (C := RX6) (T := TX6) (N := 2) hx hb hts in_X6_append_X6 hown hK hP 0 rfl rfl 1 (by decide) (hts _ wd_X6_append_f15) (fun _ h9 => h9) rfl dX6_append_16 ?_
    refine lv_iload_n hx hb dX6_append_19 rfl (lv_at hl 1 rfl) ?_
    obtain ⟨g3, h⟩ := gd_t h
    obtain ⟨g4, h⟩ := gd_t h
    obtain ⟨s5, e6, h⟩ := nm_t h
    refine iv_cast (f := z.1) (j := z.2.toNat) (ws1 := wT a E s5) hx hb hK hP hD hS 1 1 rfl rfl (by decide) g3 g4 rfl (by rw [e6]; rfl) dX6_append_20 (fun H locs hP hD hS => ?_)
    refine lv_aload_n hx hb dX6_append_21 rfl (lv_at hl 0 rfl) ?_
    refine lv_dup hx hb dX6_append_22 rfl ?_
    refine va_get (D := E.1) (ci := 6) (v := .int (zi s5.2)) (C := RX6) (T := TX6) (N := 2) hx hb hts in_X6_append_X6 hown hK hP 0 rfl rfl 1 (by decide) (hts _ wd_X6_append_f15) (fun _ h9 => h9) rfl dX6_append_23 ?_
    refine iv_iconst hx hb dX6_append_26 ?_
    refine iv_iadd hx hb dX6_append_27 ?_
    obtain ⟨s7, e8, h⟩ := nm_t h
    refine iv_put (D := E.1) (ci := 6) (v := .int (zi (s5.2 + 1))) (ty := .int) (ws1 := wT a E s7) (C := RX6) (T := TX6) (N := 2) hx hb hts in_X6_append_X6 tyX6 tyX6_ok nmX6 hown hK hP hD hS 0 rfl rfl 1 (by decide) (hts _ wd_X6_append_f15) (fun _ h9 => h9) rfl (by decide +kernel) rfl rfl (Nat.le_of_ble_eq_true rfl) (by rw [e8]; rfl) dX6_append_28 (fun H locs hP hD hS => ?_)
    refine iv_iconst hx hb dX6_append_31 ?_
    cases h
    exact iv_zret (r := 1) hx hb hr hlocks (by decide +kernel) hK hP hD hS dX6_append_32
  · have h := it_f c2 h
    refine iv_iconst hx hb dX6_append_9 ?_
    cases h
    exact iv_zret (r := 0) hx hb hr hlocks (by decide +kernel) hK hP hD hS dX6_append_10
set_option maxRecDepth 20000 in
theorem wd_X0_takeDigit_f31 : Cond.fieldLink RX0 31 "ShirtButtons$Batch" "at" "I" ∈ wsX0_takeDigit := by decide +kernel
set_option maxRecDepth 20000 in
theorem in_X0_takeDigit_X0 : ∀ w ∈ u_ws RX0 TX0 8, w ∈ wsX0_takeDigit := by decide +kernel
set_option maxRecDepth 20000 in
theorem wd_X0_takeDigit_f34 : Cond.fieldLink RX0 34 "ShirtButtons$Batch" "source" "LShirtButtons$Text;" ∈ wsX0_takeDigit := by decide +kernel
set_option maxRecDepth 20000 in
theorem wd_X0_takeDigit_f42 : Cond.fieldLink RX0 42 "ShirtButtons$Text" "length" "I" ∈ wsX0_takeDigit := by decide +kernel
set_option maxRecDepth 20000 in
theorem in_X0_takeDigit_X6 : ∀ w ∈ u_ws RX6 TX6 2, w ∈ wsX0_takeDigit := by decide +kernel
set_option maxRecDepth 20000 in
theorem wd_X0_takeDigit_f63 : Cond.fieldLink RX0 63 "ShirtButtons$Text" "signs" "[C" ∈ wsX0_takeDigit := by decide +kernel
set_option maxHeartbeats 4000000 in
set_option maxRecDepth 100000 in
theorem k_X0_takeDigit (l : Launch) (E : wE) (a : Nat → Nat) (sz : Nat) (x1 x2 : Int) (z : bBT) (u : (Int × bBT)) (hf : f_X0_takeDigit x1 x2 z = some u) : cI l yX0_takeDigit wsX0_takeDigit { frames := 0, cells := 0, slots := 0, locals := 0 } E sz [.ref (a 0), .int (zi x1), .int (zi x2)] (wBT a E z) (wBT a E u.2) u.1 := by
  refine met_go (cc := cX0_takeDigit) (maxL := 4) (ret := (some .int)) (Q0 := mQi E (wBT a E u.2) u.1) (by decide +kernel) rfl (Nat.le_of_ble_eq_true rfl) ?_
  intro A p e s m below meth c hx hb hr hml hts hown hlocks hP hK hD hA hS ls hl
  have hl : lv_has ls 4 [(0, .ref (a 0)), (1, .int (zi x1)), (2, .int (zi x2))] := hl
  generalize hH : s.heap = H at hP
  have hS : va_S A s.heap H [] := by rw [← hH]; exact hS
  have hown : s.vm.findClass RX0 = some m.cls := hown
  have h := hf
  rw [f_X0_takeDigit] at h
  refine lv_aload_n hx hb dX0_takeDigit_0 rfl (lv_at hl 0 rfl) ?_
  refine va_get (D := E.1) (ci := 0) (v := .int (zi z.1.2.2.2.2.2.2)) (C := RX0) (T := TX0) (N := 8) hx hb hts in_X0_takeDigit_X0 hown hK hP 0 rfl rfl 7 (by decide) (hts _ wd_X0_takeDigit_f31) (fun _ h9 => h9) rfl dX0_takeDigit_1 ?_
  refine lv_aload_n hx hb dX0_takeDigit_4 rfl (lv_at hl 0 rfl) ?_
  refine va_get (D := E.1) (ci := 0) (v := .ref (a 6)) (C := RX0) (T := TX0) (N := 8) hx hb hts in_X0_takeDigit_X0 hown hK hP 0 rfl rfl 6 (by decide) (hts _ wd_X0_takeDigit_f34) (fun _ h9 => h9) rfl dX0_takeDigit_5 ?_
  refine va_get (D := E.1) (ci := 6) (v := .int (zi z.2.2)) (C := RX6) (T := TX6) (N := 2) hx hb hts in_X0_takeDigit_X6 hown hK hP 6 rfl rfl 1 (by decide) (hts _ wd_X0_takeDigit_f42) (fun _ h9 => h9) rfl dX0_takeDigit_8 ?_
  obtain ⟨g1, h⟩ := gd_t h
  obtain ⟨g2, h⟩ := gd_t h
  refine iv_ilt (tgt := 16) hx hb g1 g2 dX0_takeDigit_11 (by decide) (fun c3 => ?_) (fun c3 => ?_)
  · have h := it_t c3 h
    refine lv_aload_n hx hb dX0_takeDigit_16 rfl (lv_at hl 0 rfl) ?_
    refine va_get (D := E.1) (ci := 0) (v := .ref (a 6)) (C := RX0) (T := TX0) (N := 8) hx hb hts in_X0_takeDigit_X0 hown hK hP 0 rfl rfl 6 (by decide) (hts _ wd_X0_takeDigit_f34) (fun _ h9 => h9) rfl dX0_takeDigit_17 ?_
    refine va_get (D := E.1) (ci := 6) (v := .ref (a 7)) (C := RX6) (T := TX6) (N := 2) hx hb hts in_X0_takeDigit_X6 hown hK hP 6 rfl rfl 0 (by decide) (hts _ wd_X0_takeDigit_f63) (fun _ h9 => h9) rfl dX0_takeDigit_20 ?_
    refine lv_aload_n hx hb dX0_takeDigit_23 rfl (lv_at hl 0 rfl) ?_
    refine va_get (D := E.1) (ci := 0) (v := .int (zi z.1.2.2.2.2.2.2)) (C := RX0) (T := TX0) (N := 8) hx hb hts in_X0_takeDigit_X0 hown hK hP 0 rfl rfl 7 (by decide) (hts _ wd_X0_takeDigit_f31) (fun _ h9 => h9) rfl dX0_takeDigit_24 ?_
    obtain ⟨g4, h⟩ := gd_t h
    refine iv_cald (f := z.2.1) (j := z.1.2.2.2.2.2.2.toNat) hx hb hK hP 7 1 rfl rfl (by decide) g4 rfl dX0_takeDigit_27 ?_
    refine iv_bipush hx hb dX0_takeDigit_28 (by decide +kernel) ?_
    refine iv_isub hx hb dX0_takeDigit_30 ?_
    obtain ⟨v5, e6, h⟩ := nm_t h
    refine iv_nm e6 ?_
    refine lv_istore_n (lv' := [(3, .int (zi v5)), (0, .ref (a 0)), (1, .int (zi x1)), (2, .int (zi x2))]) hx hb dX0_takeDigit_31 rfl hl (by decide) rfl (fun ls hl => ?_)
    refine lv_iload_n hx hb dX0_takeDigit_32 rfl (lv_at hl 0 rfl) ?_
    refine lv_iload_n hx hb dX0_takeDigit_33 rfl (lv_at hl 2 rfl) ?_
    obtain ⟨g7, h⟩ := gd_t h
    obtain ⟨g8, h⟩ := gd_t h
    refine iv_ilt (tgt := 42) hx hb g7 g8 dX0_takeDigit_34 (by decide) (fun c9 => ?_) (fun c9 => ?_)
    · have h := it_t c9 h
      refine iv_iconst hx hb dX0_takeDigit_42 ?_
      cases h
      exact iv_iret hx hb hr hlocks hK hP hD hS dX0_takeDigit_43
    · have h := it_f c9 h
      refine lv_iload_n hx hb dX0_takeDigit_37 rfl (lv_at hl 0 rfl) ?_
      refine lv_iload_n hx hb dX0_takeDigit_38 rfl (lv_at hl 3 rfl) ?_
      obtain ⟨g10, h⟩ := gd_t h
      refine iv_ile (tgt := 44) hx hb g7 g10 dX0_takeDigit_39 (by decide) (fun c11 => ?_) (fun c11 => ?_)
      · have h := it_t c11 h
        refine lv_aload_n hx hb dX0_takeDigit_44 rfl (lv_at hl 1 rfl) ?_
        refine lv_dup hx hb dX0_takeDigit_45 rfl ?_
        refine va_get (D := E.1) (ci := 0) (v := .int (zi z.1.2.2.2.2.2.2)) (C := RX0) (T := TX0) (N := 8) hx hb hts in_X0_takeDigit_X0 hown hK hP 0 rfl rfl 7 (by decide) (hts _ wd_X0_takeDigit_f31) (fun _ h9 => h9) rfl dX0_takeDigit_46 ?_
        refine iv_iconst hx hb dX0_takeDigit_49 ?_
        refine iv_iadd hx hb dX0_takeDigit_50 ?_
        obtain ⟨s12, e13, h⟩ := nm_t h
        refine iv_put (D := E.1) (ci := 0) (v := .int (zi (z.1.2.2.2.2.2.2 + 1))) (ty := .int) (ws1 := wBT a E s12) (C := RX0) (T := TX0) (N := 8) hx hb hts in_X0_takeDigit_X0 tyX0 tyX0_ok nmX0 hown hK hP hD hS 0 rfl rfl 7 (by decide) (hts _ wd_X0_takeDigit_f31) (fun _ h9 => h9) rfl (by decide +kernel) rfl rfl (Nat.le_of_ble_eq_true rfl) (by rw [e13]; rfl) dX0_takeDigit_51 (fun H locs hP hD hS => ?_)
        refine lv_iload_n hx hb dX0_takeDigit_54 rfl (lv_at hl 0 rfl) ?_
        cases h
        exact iv_iret hx hb hr hlocks hK hP hD hS dX0_takeDigit_55
      · have h := it_f c11 h
        refine iv_iconst hx hb dX0_takeDigit_42 ?_
        cases h
        exact iv_iret hx hb hr hlocks hK hP hD hS dX0_takeDigit_43
  · have h := it_f c3 h
    refine iv_iconst hx hb dX0_takeDigit_14 ?_
    cases h
    exact iv_iret hx hb hr hlocks hK hP hD hS dX0_takeDigit_15
set_option maxRecDepth 20000 in
theorem wd_X0_takeSign_f31 : Cond.fieldLink RX0 31 "ShirtButtons$Batch" "at" "I" ∈ wsX0_takeSign := by decide +kernel
set_option maxRecDepth 20000 in
theorem in_X0_takeSign_X0 : ∀ w ∈ u_ws RX0 TX0 8, w ∈ wsX0_takeSign := by decide +kernel
set_option maxRecDepth 20000 in
theorem wd_X0_takeSign_f34 : Cond.fieldLink RX0 34 "ShirtButtons$Batch" "source" "LShirtButtons$Text;" ∈ wsX0_takeSign := by decide +kernel
set_option maxRecDepth 20000 in
theorem wd_X0_takeSign_f42 : Cond.fieldLink RX0 42 "ShirtButtons$Text" "length" "I" ∈ wsX0_takeSign := by decide +kernel
set_option maxRecDepth 20000 in
theorem in_X0_takeSign_X6 : ∀ w ∈ u_ws RX6 TX6 2, w ∈ wsX0_takeSign := by decide +kernel
set_option maxRecDepth 20000 in
theorem wd_X0_takeSign_f63 : Cond.fieldLink RX0 63 "ShirtButtons$Text" "signs" "[C" ∈ wsX0_takeSign := by decide +kernel
set_option maxHeartbeats 4000000 in
set_option maxRecDepth 100000 in
theorem k_X0_takeSign (l : Launch) (E : wE) (a : Nat → Nat) (sz : Nat) (x1 : Int) (z : bBT) (u : (Int × bBT)) (hf : f_X0_takeSign x1 z = some u) : cI l yX0_takeSign wsX0_takeSign { frames := 0, cells := 0, slots := 0, locals := 0 } E sz [.ref (a 0), .int (zi x1)] (wBT a E z) (wBT a E u.2) u.1 := by
  refine met_go (cc := cX0_takeSign) (maxL := 2) (ret := (some .boolean)) (Q0 := mQi E (wBT a E u.2) u.1) (by decide +kernel) rfl (Nat.le_of_ble_eq_true rfl) ?_
  intro A p e s m below meth c hx hb hr hml hts hown hlocks hP hK hD hA hS ls hl
  have hl : lv_has ls 2 [(0, .ref (a 0)), (1, .int (zi x1))] := hl
  generalize hH : s.heap = H at hP
  have hS : va_S A s.heap H [] := by rw [← hH]; exact hS
  have hown : s.vm.findClass RX0 = some m.cls := hown
  have h := hf
  rw [f_X0_takeSign] at h
  refine lv_aload_n hx hb dX0_takeSign_0 rfl (lv_at hl 0 rfl) ?_
  refine va_get (D := E.1) (ci := 0) (v := .int (zi z.1.2.2.2.2.2.2)) (C := RX0) (T := TX0) (N := 8) hx hb hts in_X0_takeSign_X0 hown hK hP 0 rfl rfl 7 (by decide) (hts _ wd_X0_takeSign_f31) (fun _ h9 => h9) rfl dX0_takeSign_1 ?_
  refine lv_aload_n hx hb dX0_takeSign_4 rfl (lv_at hl 0 rfl) ?_
  refine va_get (D := E.1) (ci := 0) (v := .ref (a 6)) (C := RX0) (T := TX0) (N := 8) hx hb hts in_X0_takeSign_X0 hown hK hP 0 rfl rfl 6 (by decide) (hts _ wd_X0_takeSign_f34) (fun _ h9 => h9) rfl dX0_takeSign_5 ?_
  refine va_get (D := E.1) (ci := 6) (v := .int (zi z.2.2)) (C := RX6) (T := TX6) (N := 2) hx hb hts in_X0_takeSign_X6 hown hK hP 6 rfl rfl 1 (by decide) (hts _ wd_X0_takeSign_f42) (fun _ h9 => h9) rfl dX0_takeSign_8 ?_
  obtain ⟨g1, h⟩ := gd_t h
  obtain ⟨g2, h⟩ := gd_t h
  refine iv_ige (tgt := 30) hx hb g1 g2 dX0_takeSign_11 (by decide) (fun c3 => ?_) (fun c3 => ?_)
  · have h := it_t c3 h
    refine iv_iconst hx hb dX0_takeSign_30 ?_
    cases h
    exact iv_zret (r := 0) hx hb hr hlocks (by decide +kernel) hK hP hD hS dX0_takeSign_31
  · have h := it_f c3 h
    refine lv_aload_n hx hb dX0_takeSign_14 rfl (lv_at hl 0 rfl) ?_
    refine va_get (D := E.1) (ci := 0) (v := .ref (a 6)) (C := RX0) (T := TX0) (N := 8) hx hb hts in_X0_takeSign_X0 hown hK hP 0 rfl rfl 6 (by decide) (hts _ wd_X0_takeSign_f34) (fun _ h9 => h9) rfl dX0_takeSign_15 ?_
    refine va_get (D := E.1) (ci := 6) (v := .ref (a 7)) (C := RX6) (T := TX6) (N := 2) hx hb hts in_X0_takeSign_X6 hown hK hP 6 rfl rfl 0 (by decide) (hts _ wd_X0_takeSign_f63) (fun _ h9 => h9) rfl dX0_takeSign_18 ?_
    refine lv_aload_n hx hb dX0_takeSign_21 rfl (lv_at hl 0 rfl) ?_
    refine va_get (D := E.1) (ci := 0) (v := .int (zi z.1.2.2.2.2.2.2)) (C := RX0) (T := TX0) (N := 8) hx hb hts in_X0_takeSign_X0 hown hK hP 0 rfl rfl 7 (by decide) (hts _ wd_X0_takeSign_f31) (fun _ h9 => h9) rfl dX0_takeSign_22 ?_
    obtain ⟨g4, h⟩ := gd_t h
    refine iv_cald (f := z.2.1) (j := z.1.2.2.2.2.2.2.toNat) hx hb hK hP 7 1 rfl rfl (by decide) g4 rfl dX0_takeSign_25 ?_
    refine lv_iload_n hx hb dX0_takeSign_26 rfl (lv_at hl 1 rfl) ?_
    obtain ⟨g5, h⟩ := gd_t h
    obtain ⟨g6, h⟩ := gd_t h
    refine iv_ieq (tgt := 32) hx hb g5 g6 dX0_takeSign_27 (by decide) (fun c7 => ?_) (fun c7 => ?_)
    · have h := it_t c7 h
      refine lv_aload_n hx hb dX0_takeSign_32 rfl (lv_at hl 0 rfl) ?_
      refine lv_dup hx hb dX0_takeSign_33 rfl ?_
      refine va_get (D := E.1) (ci := 0) (v := .int (zi z.1.2.2.2.2.2.2)) (C := RX0) (T := TX0) (N := 8) hx hb hts in_X0_takeSign_X0 hown hK hP 0 rfl rfl 7 (by decide) (hts _ wd_X0_takeSign_f31) (fun _ h9 => h9) rfl dX0_takeSign_34 ?_
      refine iv_iconst hx hb dX0_takeSign_37 ?_
      refine iv_iadd hx hb dX0_takeSign_38 ?_
      obtain ⟨s8, e9, h⟩ := nm_t h
      refine iv_put (D := E.1) (ci := 0) (v := .int (zi (z.1.2.2.2.2.2.2 + 1))) (ty := .int) (ws1 := wBT a E s8) (C := RX0) (T := TX0) (N := 8) hx hb hts in_X0_takeSign_X0 tyX0 tyX0_ok nmX0 hown hK hP hD hS 0 rfl rfl 7 (by decide) (hts _ wd_X0_takeSign_f31) (fun _ h9 => h9) rfl (by decide +kernel) rfl rfl (Nat.le_of_ble_eq_true rfl) (by rw [e9]; rfl) dX0_takeSign_39 (fun H locs hP hD hS => ?_)
      refine iv_iconst hx hb dX0_takeSign_42 ?_
      cases h
      exact iv_zret (r := 1) hx hb hr hlocks (by decide +kernel) hK hP hD hS dX0_takeSign_43
    · have h := it_f c7 h
      refine iv_iconst hx hb dX0_takeSign_30 ?_
      cases h
      exact iv_zret (r := 0) hx hb hr hlocks (by decide +kernel) hK hP hD hS dX0_takeSign_31
set_option maxHeartbeats 4000000 in
set_option maxRecDepth 100000 in
theorem k_X0_takePart (l : Launch) (E : wE) (a : Nat → Nat) (sz : Nat) (x1 : Int) (z : bBT) (u : (Int × bBT)) (hf : f_X0_takePart x1 z = some u) : cI l yX0_takePart wsX0_takePart { frames := 1, cells := 0, slots := 0, locals := 23 } E sz [.ref (a 0), .int (zi x1)] (wBT a E z) (wBT a E u.2) u.1 := by
  refine met_go (cc := cX0_takePart) (maxL := 2) (ret := (some .int)) (Q0 := mQi E (wBT a E u.2) u.1) (by decide +kernel) rfl (Nat.le_of_ble_eq_true rfl) ?_
  intro A p e s m below meth c hx hb hr hml hts hown hlocks hP hK hD hA hS ls hl
  have hl : lv_has ls 2 [(0, .ref (a 0)), (1, .int (zi x1))] := hl
  generalize hH : s.heap = H at hP
  have hS : va_S A s.heap H [] := by rw [← hH]; exact hS
  have hown : s.vm.findClass RX0 = some m.cls := hown
  have h := hf
  rw [f_X0_takePart] at h
  refine lv_aload_n hx hb dX0_takePart_0 rfl (lv_at hl 0 rfl) ?_
  refine lv_iload_n hx hb dX0_takePart_1 rfl (lv_at hl 1 rfl) ?_
  obtain ⟨u1, q2, h⟩ := bd_t h
  refine iv_callIf (As := [.int (zi x1)]) (rest := []) ⟨hx, hb, hml, hown, hts⟩ (k_X0_takeSign l E a H.size x1 z u1 q2) (cwV 1 hts gX0_takePart_X0_takeSign rfl rfl rfl (by decide +kernel) ⟨Nat.le_of_ble_eq_true rfl, Nat.le_of_ble_eq_true rfl⟩) hK hP hD hS hA 0 0 rfl rfl rfl hl.1 (Nat.le_of_ble_eq_true rfl) ⟨Nat.zero_le _, Nat.zero_le _⟩ dX0_takePart_2 (fun H locs hP hD hS => ?_)
  obtain ⟨g3, h⟩ := gd_t h
  refine iv_eq (tgt := 18) hx hb g3 dX0_takePart_5 (by decide) (fun c4 => ?_) (fun c4 => ?_)
  · have h := it_t c4 h
    refine iv_iconst hx hb dX0_takePart_18 ?_
    cases h
    exact iv_iret hx hb hr hlocks hK hP hD hS dX0_takePart_19
  · have h := it_f c4 h
    refine lv_aload_n hx hb dX0_takePart_8 rfl (lv_at hl 0 rfl) ?_
    refine iv_iconst hx hb dX0_takePart_9 ?_
    refine iv_bipush hx hb dX0_takePart_10 (by decide +kernel) ?_
    obtain ⟨u5, q6, h⟩ := bd_t h
    refine iv_callIf (As := [.int (zi 0), .int (zi 9)]) (rest := []) ⟨hx, hb, hml, hown, hts⟩ (k_X0_takeDigit l E a H.size 0 9 u1.2 u5 q6) (cwV 2 hts gX0_takePart_X0_takeDigit rfl rfl rfl (by decide +kernel) ⟨Nat.le_of_ble_eq_true rfl, Nat.le_of_ble_eq_true rfl⟩) hK hP hD hS hA 0 0 rfl rfl rfl hl.1 (Nat.le_of_ble_eq_true rfl) ⟨Nat.zero_le _, Nat.zero_le _⟩ dX0_takePart_12 (fun H locs hP hD hS => ?_)
    refine lv_goto (tgt := 19) hx hb dX0_takePart_15 (by decide) ?_
    cases h
    exact iv_iret hx hb hr hlocks hK hP hD hS dX0_takePart_19
set_option maxHeartbeats 4000000 in
set_option maxRecDepth 100000 in
theorem k_X0_takeSize (l : Launch) (E : wE) (a : Nat → Nat) (sz : Nat) (z : bBT) (u : (Int × bBT)) (hf : f_X0_takeSize z = some u) : cI l yX0_takeSize wsX0_takeSize { frames := 1, cells := 0, slots := 0, locals := 23 } E sz [.ref (a 0)] (wBT a E z) (wBT a E u.2) u.1 := by
  refine met_go (cc := cX0_takeSize) (maxL := 3) (ret := (some .int)) (Q0 := mQi E (wBT a E u.2) u.1) (by decide +kernel) rfl (Nat.le_of_ble_eq_true rfl) ?_
  intro A p e s m below meth c hx hb hr hml hts hown hlocks hP hK hD hA hS ls hl
  have hl : lv_has ls 3 [(0, .ref (a 0))] := hl
  generalize hH : s.heap = H at hP
  have hS : va_S A s.heap H [] := by rw [← hH]; exact hS
  have hown : s.vm.findClass RX0 = some m.cls := hown
  have h := hf
  rw [f_X0_takeSize] at h
  refine lv_aload_n hx hb dX0_takeSize_0 rfl (lv_at hl 0 rfl) ?_
  refine iv_iconst hx hb dX0_takeSize_1 ?_
  refine iv_bipush hx hb dX0_takeSize_2 (by decide +kernel) ?_
  obtain ⟨u1, q2, h⟩ := bd_t h
  refine iv_callIf (As := [.int (zi 1), .int (zi 9)]) (rest := []) ⟨hx, hb, hml, hown, hts⟩ (k_X0_takeDigit l E a H.size 1 9 z u1 q2) (cwV 2 hts gX0_takeSize_X0_takeDigit rfl rfl rfl (by decide +kernel) ⟨Nat.le_of_ble_eq_true rfl, Nat.le_of_ble_eq_true rfl⟩) hK hP hD hS hA 0 0 rfl rfl rfl hl.1 (Nat.le_of_ble_eq_true rfl) ⟨Nat.zero_le _, Nat.zero_le _⟩ dX0_takeSize_4 (fun H locs hP hD hS => ?_)
  refine lv_istore_n (lv' := [(1, .int (zi u1.1)), (0, .ref (a 0))]) hx hb dX0_takeSize_7 rfl hl (by decide) rfl (fun ls hl => ?_)
  refine lv_iload_n hx hb dX0_takeSize_8 rfl (lv_at hl 0 rfl) ?_
  obtain ⟨g3, h⟩ := gd_t h
  refine iv_lt (tgt := 17) hx hb g3 dX0_takeSize_9 (by decide) (fun c4 => ?_) (fun c4 => ?_)
  · have h := it_t c4 h
    refine lv_iload_n hx hb dX0_takeSize_17 rfl (lv_at hl 0 rfl) ?_
    cases h
    exact iv_iret hx hb hr hlocks hK hP hD hS dX0_takeSize_18
  · have h := it_f c4 h
    refine lv_iload_n hx hb dX0_takeSize_12 rfl (lv_at hl 0 rfl) ?_
    refine iv_iconst hx hb dX0_takeSize_13 ?_
    refine iv_ile (tgt := 19) hx hb g3 (by decide +kernel) dX0_takeSize_14 (by decide) (fun c5 => ?_) (fun c5 => ?_)
    · have h := it_t c5 h
      refine lv_aload_n hx hb dX0_takeSize_19 rfl (lv_at hl 1 rfl) ?_
      refine iv_iconst hx hb dX0_takeSize_20 ?_
      refine lv_iload_n hx hb dX0_takeSize_21 rfl (lv_at hl 0 rfl) ?_
      refine iv_iconst hx hb dX0_takeSize_22 ?_
      refine iv_ine (tgt := 30) hx hb g3 (by decide +kernel) dX0_takeSize_23 (by decide) (fun c6 => ?_) (fun c6 => ?_)
      · have h := it_f c6 h
        refine iv_bipush hx hb dX0_takeSize_30 (by decide +kernel) ?_
        obtain ⟨u7, q8, h⟩ := bd_t h
        refine iv_callIf (As := [.int (zi 0), .int (zi 9)]) (rest := []) ⟨hx, hb, hml, hown, hts⟩ (k_X0_takeDigit l E a H.size 0 9 u1.2 u7 q8) (cwV 2 hts gX0_takeSize_X0_takeDigit rfl rfl rfl (by decide +kernel) ⟨Nat.le_of_ble_eq_true rfl, Nat.le_of_ble_eq_true rfl⟩) hK hP hD hS hA 0 0 rfl rfl rfl hl.1 (Nat.le_of_ble_eq_true rfl) ⟨Nat.zero_le _, Nat.zero_le _⟩ dX0_takeSize_32 (fun H locs hP hD hS => ?_)
        refine lv_istore_n (lv' := [(2, .int (zi u7.1)), (1, .int (zi u1.1)), (0, .ref (a 0))]) hx hb dX0_takeSize_35 rfl hl (by decide) rfl (fun ls hl => ?_)
        refine lv_iload_n hx hb dX0_takeSize_36 rfl (lv_at hl 0 rfl) ?_
        obtain ⟨g9, h⟩ := gd_t h
        refine iv_ge (tgt := 44) hx hb g9 dX0_takeSize_37 (by decide) (fun c10 => ?_) (fun c10 => ?_)
        · have h := it_t c10 h
          refine iv_bipush hx hb dX0_takeSize_44 (by decide +kernel) ?_
          refine lv_iload_n hx hb dX0_takeSize_46 rfl (lv_at hl 1 rfl) ?_
          refine iv_imul hx hb dX0_takeSize_47 ?_
          refine lv_iload_n hx hb dX0_takeSize_48 rfl (lv_at hl 0 rfl) ?_
          refine iv_iadd hx hb dX0_takeSize_49 ?_
          cases h
          exact iv_iret hx hb hr hlocks hK hP hD hS dX0_takeSize_50
        · have h := it_f c10 h
          refine lv_iload_n hx hb dX0_takeSize_40 rfl (lv_at hl 1 rfl) ?_
          refine lv_goto (tgt := 50) hx hb dX0_takeSize_41 (by decide) ?_
          cases h
          exact iv_iret hx hb hr hlocks hK hP hD hS dX0_takeSize_50
      · have h := it_t c6 h
        refine iv_iconst hx hb dX0_takeSize_26 ?_
        refine lv_goto (tgt := 32) hx hb dX0_takeSize_27 (by decide) ?_
        obtain ⟨u11, q12, h⟩ := bd_t h
        refine iv_callIf (As := [.int (zi 0), .int (zi 0)]) (rest := []) ⟨hx, hb, hml, hown, hts⟩ (k_X0_takeDigit l E a H.size 0 0 u1.2 u11 q12) (cwV 2 hts gX0_takeSize_X0_takeDigit rfl rfl rfl (by decide +kernel) ⟨Nat.le_of_ble_eq_true rfl, Nat.le_of_ble_eq_true rfl⟩) hK hP hD hS hA 0 0 rfl rfl rfl hl.1 (Nat.le_of_ble_eq_true rfl) ⟨Nat.zero_le _, Nat.zero_le _⟩ dX0_takeSize_32 (fun H locs hP hD hS => ?_)
        refine lv_istore_n (lv' := [(2, .int (zi u11.1)), (1, .int (zi u1.1)), (0, .ref (a 0))]) hx hb dX0_takeSize_35 rfl hl (by decide) rfl (fun ls hl => ?_)
        refine lv_iload_n hx hb dX0_takeSize_36 rfl (lv_at hl 0 rfl) ?_
        obtain ⟨g13, h⟩ := gd_t h
        refine iv_ge (tgt := 44) hx hb g13 dX0_takeSize_37 (by decide) (fun c14 => ?_) (fun c14 => ?_)
        · have h := it_t c14 h
          refine iv_bipush hx hb dX0_takeSize_44 (by decide +kernel) ?_
          refine lv_iload_n hx hb dX0_takeSize_46 rfl (lv_at hl 1 rfl) ?_
          refine iv_imul hx hb dX0_takeSize_47 ?_
          refine lv_iload_n hx hb dX0_takeSize_48 rfl (lv_at hl 0 rfl) ?_
          refine iv_iadd hx hb dX0_takeSize_49 ?_
          cases h
          exact iv_iret hx hb hr hlocks hK hP hD hS dX0_takeSize_50
        · have h := it_f c14 h
          refine lv_iload_n hx hb dX0_takeSize_40 rfl (lv_at hl 1 rfl) ?_
          refine lv_goto (tgt := 50) hx hb dX0_takeSize_41 (by decide) ?_
          cases h
          exact iv_iret hx hb hr hlocks hK hP hD hS dX0_takeSize_50
    · have h := it_f c5 h
      refine lv_iload_n hx hb dX0_takeSize_17 rfl (lv_at hl 0 rfl) ?_
      cases h
      exact iv_iret hx hb hr hlocks hK hP hD hS dX0_takeSize_18
set_option maxRecDepth 20000 in
theorem wd_X0_takeButton_f9 : Cond.fieldLink RX0 9 "ShirtButtons$Batch" "holes" "[I" ∈ wsX0_takeButton := by decide +kernel
set_option maxRecDepth 20000 in
theorem in_X0_takeButton_X0 : ∀ w ∈ u_ws RX0 TX0 8, w ∈ wsX0_takeButton := by decide +kernel
set_option maxRecDepth 20000 in
theorem wd_X0_takeButton_f15 : Cond.fieldLink RX0 15 "ShirtButtons$Batch" "size" "[I" ∈ wsX0_takeButton := by decide +kernel
set_option maxRecDepth 20000 in
theorem wd_X0_takeButton_f18 : Cond.fieldLink RX0 18 "ShirtButtons$Batch" "iron" "[I" ∈ wsX0_takeButton := by decide +kernel
set_option maxRecDepth 20000 in
theorem wd_X0_takeButton_f21 : Cond.fieldLink RX0 21 "ShirtButtons$Batch" "chips" "[I" ∈ wsX0_takeButton := by decide +kernel
set_option maxRecDepth 20000 in
theorem wd_X0_takeButton_f24 : Cond.fieldLink RX0 24 "ShirtButtons$Batch" "shine" "[I" ∈ wsX0_takeButton := by decide +kernel
set_option maxHeartbeats 4000000 in
set_option maxRecDepth 100000 in
theorem k_X0_takeButton (l : Launch) (E : wE) (a : Nat → Nat) (sz : Nat) (x1 : Int) (z : bBT) (u : (Int × bBT)) (hf : f_X0_takeButton x1 z = some u) : cI l yX0_takeButton wsX0_takeButton { frames := 2, cells := 0, slots := 0, locals := 45 } E sz [.ref (a 0), .int (zi x1)] (wBT a E z) (wBT a E u.2) u.1 := by
  refine met_go (cc := cX0_takeButton) (maxL := 2) (ret := (some .boolean)) (Q0 := mQi E (wBT a E u.2) u.1) (by decide +kernel) rfl (Nat.le_of_ble_eq_true rfl) ?_
  intro A p e s m below meth c hx hb hr hml hts hown hlocks hP hK hD hA hS ls hl
  have hl : lv_has ls 2 [(0, .ref (a 0)), (1, .int (zi x1))] := hl
  generalize hH : s.heap = H at hP
  have hS : va_S A s.heap H [] := by rw [← hH]; exact hS
  have hown : s.vm.findClass RX0 = some m.cls := hown
  have h := hf
  rw [f_X0_takeButton] at h
  refine lv_aload_n hx hb dX0_takeButton_0 rfl (lv_at hl 0 rfl) ?_
  refine va_get (D := E.1) (ci := 0) (v := .ref (a 1)) (C := RX0) (T := TX0) (N := 8) hx hb hts in_X0_takeButton_X0 hown hK hP 0 rfl rfl 0 (by decide) (hts _ wd_X0_takeButton_f9) (fun _ h9 => h9) rfl dX0_takeButton_1 ?_
  refine lv_iload_n hx hb dX0_takeButton_4 rfl (lv_at hl 1 rfl) ?_
  refine lv_aload_n hx hb dX0_takeButton_5 rfl (lv_at hl 0 rfl) ?_
  refine iv_iconst hx hb dX0_takeButton_6 ?_
  refine iv_iconst hx hb dX0_takeButton_7 ?_
  obtain ⟨u1, q2, h⟩ := bd_t h
  refine iv_callIf (As := [.int (zi 1), .int (zi 4)]) (rest := [.int (zi x1), .ref (a 1)]) ⟨hx, hb, hml, hown, hts⟩ (k_X0_takeDigit l E a H.size 1 4 z u1 q2) (cwV 2 hts gX0_takeButton_X0_takeDigit rfl rfl rfl (by decide +kernel) ⟨Nat.le_of_ble_eq_true rfl, Nat.le_of_ble_eq_true rfl⟩) hK hP hD hS hA 0 0 rfl rfl rfl hl.1 (Nat.le_of_ble_eq_true rfl) ⟨Nat.zero_le _, Nat.zero_le _⟩ dX0_takeButton_8 (fun H locs hP hD hS => ?_)
  obtain ⟨g3, h⟩ := gd_t h
  obtain ⟨s4, e5, h⟩ := nm_t h
  refine iv_iast (f := u1.2.1.1) (j := x1.toNat) (ws1 := wBT a E s4) hx hb hK hP hD hS 1 0 rfl rfl (by decide) g3 rfl (by rw [e5]; rfl) dX0_takeButton_11 (fun H locs hP hD hS => ?_)
  refine lv_aload_n hx hb dX0_takeButton_12 rfl (lv_at hl 0 rfl) ?_
  refine va_get (D := E.1) (ci := 0) (v := .ref (a 1)) (C := RX0) (T := TX0) (N := 8) hx hb hts in_X0_takeButton_X0 hown hK hP 0 rfl rfl 0 (by decide) (hts _ wd_X0_takeButton_f9) (fun _ h9 => h9) rfl dX0_takeButton_13 ?_
  refine lv_iload_n hx hb dX0_takeButton_16 rfl (lv_at hl 1 rfl) ?_
  refine iv_iald (f := s4.1.1) (j := x1.toNat) hx hb hK hP 1 0 rfl rfl (by decide) g3 rfl dX0_takeButton_17 ?_
  obtain ⟨g6, h⟩ := gd_t h
  refine iv_lt (tgt := 30) hx hb g6 dX0_takeButton_18 (by decide) (fun c7 => ?_) (fun c7 => ?_)
  · have h := it_t c7 h
    refine iv_iconst hx hb dX0_takeButton_30 ?_
    cases h
    exact iv_zret (r := 0) hx hb hr hlocks (by decide +kernel) hK hP hD hS dX0_takeButton_31
  · have h := it_f c7 h
    refine lv_aload_n hx hb dX0_takeButton_21 rfl (lv_at hl 0 rfl) ?_
    refine iv_bipush hx hb dX0_takeButton_22 (by decide +kernel) ?_
    obtain ⟨u8, q9, h⟩ := bd_t h
    refine iv_callIf (As := [.int (zi 104)]) (rest := []) ⟨hx, hb, hml, hown, hts⟩ (k_X0_takeSign l E a H.size 104 s4 u8 q9) (cwV 1 hts gX0_takeButton_X0_takeSign rfl rfl rfl (by decide +kernel) ⟨Nat.le_of_ble_eq_true rfl, Nat.le_of_ble_eq_true rfl⟩) hK hP hD hS hA 0 0 rfl rfl rfl hl.1 (Nat.le_of_ble_eq_true rfl) ⟨Nat.zero_le _, Nat.zero_le _⟩ dX0_takeButton_24 (fun H locs hP hD hS => ?_)
    obtain ⟨g10, h⟩ := gd_t h
    refine iv_ne (tgt := 32) hx hb g10 dX0_takeButton_27 (by decide) (fun c11 => ?_) (fun c11 => ?_)
    · have h := it_f c11 h
      refine lv_aload_n hx hb dX0_takeButton_32 rfl (lv_at hl 0 rfl) ?_
      refine va_get (D := E.1) (ci := 0) (v := .ref (a 2)) (C := RX0) (T := TX0) (N := 8) hx hb hts in_X0_takeButton_X0 hown hK hP 0 rfl rfl 1 (by decide) (hts _ wd_X0_takeButton_f15) (fun _ h9 => h9) rfl dX0_takeButton_33 ?_
      refine lv_iload_n hx hb dX0_takeButton_36 rfl (lv_at hl 1 rfl) ?_
      refine lv_aload_n hx hb dX0_takeButton_37 rfl (lv_at hl 0 rfl) ?_
      obtain ⟨u12, q13, h⟩ := bd_t h
      refine iv_callIf (As := []) (rest := [.int (zi x1), .ref (a 2)]) ⟨hx, hb, hml, hown, hts⟩ (k_X0_takeSize l E a H.size  u8.2 u12 q13) (cwV 0 hts gX0_takeButton_X0_takeSize rfl rfl rfl (by decide +kernel) ⟨Nat.le_of_ble_eq_true rfl, Nat.le_of_ble_eq_true rfl⟩) hK hP hD hS hA 0 0 rfl rfl rfl hl.1 (Nat.le_of_ble_eq_true rfl) ⟨Nat.zero_le _, Nat.zero_le _⟩ dX0_takeButton_38 (fun H locs hP hD hS => ?_)
      obtain ⟨s14, e15, h⟩ := nm_t h
      refine iv_iast (f := u12.2.1.2.1) (j := x1.toNat) (ws1 := wBT a E s14) hx hb hK hP hD hS 2 0 rfl rfl (by decide) g3 rfl (by rw [e15]; rfl) dX0_takeButton_41 (fun H locs hP hD hS => ?_)
      refine lv_aload_n hx hb dX0_takeButton_42 rfl (lv_at hl 0 rfl) ?_
      refine va_get (D := E.1) (ci := 0) (v := .ref (a 2)) (C := RX0) (T := TX0) (N := 8) hx hb hts in_X0_takeButton_X0 hown hK hP 0 rfl rfl 1 (by decide) (hts _ wd_X0_takeButton_f15) (fun _ h9 => h9) rfl dX0_takeButton_43 ?_
      refine lv_iload_n hx hb dX0_takeButton_46 rfl (lv_at hl 1 rfl) ?_
      refine iv_iald (f := s14.1.2.1) (j := x1.toNat) hx hb hK hP 2 0 rfl rfl (by decide) g3 rfl dX0_takeButton_47 ?_
      obtain ⟨g16, h⟩ := gd_t h
      refine iv_ge (tgt := 53) hx hb g16 dX0_takeButton_48 (by decide) (fun c17 => ?_) (fun c17 => ?_)
      · have h := it_t c17 h
        refine lv_aload_n hx hb dX0_takeButton_53 rfl (lv_at hl 0 rfl) ?_
        refine va_get (D := E.1) (ci := 0) (v := .ref (a 3)) (C := RX0) (T := TX0) (N := 8) hx hb hts in_X0_takeButton_X0 hown hK hP 0 rfl rfl 2 (by decide) (hts _ wd_X0_takeButton_f18) (fun _ h9 => h9) rfl dX0_takeButton_54 ?_
        refine lv_iload_n hx hb dX0_takeButton_57 rfl (lv_at hl 1 rfl) ?_
        refine lv_aload_n hx hb dX0_takeButton_58 rfl (lv_at hl 0 rfl) ?_
        refine iv_bipush hx hb dX0_takeButton_59 (by decide +kernel) ?_
        obtain ⟨u18, q19, h⟩ := bd_t h
        refine iv_callIf (As := [.int (zi 105)]) (rest := [.int (zi x1), .ref (a 3)]) ⟨hx, hb, hml, hown, hts⟩ (k_X0_takePart l E a H.size 105 s14 u18 q19) (cwV 1 hts gX0_takeButton_X0_takePart rfl rfl rfl (by decide +kernel) ⟨Nat.le_of_ble_eq_true rfl, Nat.le_of_ble_eq_true rfl⟩) hK hP hD hS hA 0 0 rfl rfl rfl hl.1 (Nat.le_of_ble_eq_true rfl) ⟨Nat.zero_le _, Nat.zero_le _⟩ dX0_takeButton_61 (fun H locs hP hD hS => ?_)
        obtain ⟨s20, e21, h⟩ := nm_t h
        refine iv_iast (f := u18.2.1.2.2.1) (j := x1.toNat) (ws1 := wBT a E s20) hx hb hK hP hD hS 3 0 rfl rfl (by decide) g3 rfl (by rw [e21]; rfl) dX0_takeButton_64 (fun H locs hP hD hS => ?_)
        refine lv_aload_n hx hb dX0_takeButton_65 rfl (lv_at hl 0 rfl) ?_
        refine va_get (D := E.1) (ci := 0) (v := .ref (a 3)) (C := RX0) (T := TX0) (N := 8) hx hb hts in_X0_takeButton_X0 hown hK hP 0 rfl rfl 2 (by decide) (hts _ wd_X0_takeButton_f18) (fun _ h9 => h9) rfl dX0_takeButton_66 ?_
        refine lv_iload_n hx hb dX0_takeButton_69 rfl (lv_at hl 1 rfl) ?_
        refine iv_iald (f := s20.1.2.2.1) (j := x1.toNat) hx hb hK hP 3 0 rfl rfl (by decide) g3 rfl dX0_takeButton_70 ?_
        obtain ⟨g22, h⟩ := gd_t h
        refine iv_ge (tgt := 76) hx hb g22 dX0_takeButton_71 (by decide) (fun c23 => ?_) (fun c23 => ?_)
        · have h := it_t c23 h
          refine lv_aload_n hx hb dX0_takeButton_76 rfl (lv_at hl 0 rfl) ?_
          refine va_get (D := E.1) (ci := 0) (v := .ref (a 4)) (C := RX0) (T := TX0) (N := 8) hx hb hts in_X0_takeButton_X0 hown hK hP 0 rfl rfl 3 (by decide) (hts _ wd_X0_takeButton_f21) (fun _ h9 => h9) rfl dX0_takeButton_77 ?_
          refine lv_iload_n hx hb dX0_takeButton_80 rfl (lv_at hl 1 rfl) ?_
          refine lv_aload_n hx hb dX0_takeButton_81 rfl (lv_at hl 0 rfl) ?_
          refine iv_bipush hx hb dX0_takeButton_82 (by decide +kernel) ?_
          obtain ⟨u24, q25, h⟩ := bd_t h
          refine iv_callIf (As := [.int (zi 99)]) (rest := [.int (zi x1), .ref (a 4)]) ⟨hx, hb, hml, hown, hts⟩ (k_X0_takePart l E a H.size 99 s20 u24 q25) (cwV 1 hts gX0_takeButton_X0_takePart rfl rfl rfl (by decide +kernel) ⟨Nat.le_of_ble_eq_true rfl, Nat.le_of_ble_eq_true rfl⟩) hK hP hD hS hA 0 0 rfl rfl rfl hl.1 (Nat.le_of_ble_eq_true rfl) ⟨Nat.zero_le _, Nat.zero_le _⟩ dX0_takeButton_84 (fun H locs hP hD hS => ?_)
          obtain ⟨s26, e27, h⟩ := nm_t h
          refine iv_iast (f := u24.2.1.2.2.2.1) (j := x1.toNat) (ws1 := wBT a E s26) hx hb hK hP hD hS 4 0 rfl rfl (by decide) g3 rfl (by rw [e27]; rfl) dX0_takeButton_87 (fun H locs hP hD hS => ?_)
          refine lv_aload_n hx hb dX0_takeButton_88 rfl (lv_at hl 0 rfl) ?_
          refine va_get (D := E.1) (ci := 0) (v := .ref (a 4)) (C := RX0) (T := TX0) (N := 8) hx hb hts in_X0_takeButton_X0 hown hK hP 0 rfl rfl 3 (by decide) (hts _ wd_X0_takeButton_f21) (fun _ h9 => h9) rfl dX0_takeButton_89 ?_
          refine lv_iload_n hx hb dX0_takeButton_92 rfl (lv_at hl 1 rfl) ?_
          refine iv_iald (f := s26.1.2.2.2.1) (j := x1.toNat) hx hb hK hP 4 0 rfl rfl (by decide) g3 rfl dX0_takeButton_93 ?_
          obtain ⟨g28, h⟩ := gd_t h
          refine iv_ge (tgt := 99) hx hb g28 dX0_takeButton_94 (by decide) (fun c29 => ?_) (fun c29 => ?_)
          · have h := it_t c29 h
            refine lv_aload_n hx hb dX0_takeButton_99 rfl (lv_at hl 0 rfl) ?_
            refine va_get (D := E.1) (ci := 0) (v := .ref (a 5)) (C := RX0) (T := TX0) (N := 8) hx hb hts in_X0_takeButton_X0 hown hK hP 0 rfl rfl 4 (by decide) (hts _ wd_X0_takeButton_f24) (fun _ h9 => h9) rfl dX0_takeButton_100 ?_
            refine lv_iload_n hx hb dX0_takeButton_103 rfl (lv_at hl 1 rfl) ?_
            refine lv_aload_n hx hb dX0_takeButton_104 rfl (lv_at hl 0 rfl) ?_
            refine iv_bipush hx hb dX0_takeButton_105 (by decide +kernel) ?_
            obtain ⟨u30, q31, h⟩ := bd_t h
            refine iv_callIf (As := [.int (zi 115)]) (rest := [.int (zi x1), .ref (a 5)]) ⟨hx, hb, hml, hown, hts⟩ (k_X0_takePart l E a H.size 115 s26 u30 q31) (cwV 1 hts gX0_takeButton_X0_takePart rfl rfl rfl (by decide +kernel) ⟨Nat.le_of_ble_eq_true rfl, Nat.le_of_ble_eq_true rfl⟩) hK hP hD hS hA 0 0 rfl rfl rfl hl.1 (Nat.le_of_ble_eq_true rfl) ⟨Nat.zero_le _, Nat.zero_le _⟩ dX0_takeButton_107 (fun H locs hP hD hS => ?_)
            obtain ⟨s32, e33, h⟩ := nm_t h
            refine iv_iast (f := u30.2.1.2.2.2.2.1) (j := x1.toNat) (ws1 := wBT a E s32) hx hb hK hP hD hS 5 0 rfl rfl (by decide) g3 rfl (by rw [e33]; rfl) dX0_takeButton_110 (fun H locs hP hD hS => ?_)
            refine lv_aload_n hx hb dX0_takeButton_111 rfl (lv_at hl 0 rfl) ?_
            refine va_get (D := E.1) (ci := 0) (v := .ref (a 5)) (C := RX0) (T := TX0) (N := 8) hx hb hts in_X0_takeButton_X0 hown hK hP 0 rfl rfl 4 (by decide) (hts _ wd_X0_takeButton_f24) (fun _ h9 => h9) rfl dX0_takeButton_112 ?_
            refine lv_iload_n hx hb dX0_takeButton_115 rfl (lv_at hl 1 rfl) ?_
            refine iv_iald (f := s32.1.2.2.2.2.1) (j := x1.toNat) hx hb hK hP 5 0 rfl rfl (by decide) g3 rfl dX0_takeButton_116 ?_
            obtain ⟨g34, h⟩ := gd_t h
            refine iv_lt (tgt := 124) hx hb g34 dX0_takeButton_117 (by decide) (fun c35 => ?_) (fun c35 => ?_)
            · have h := it_t c35 h
              refine iv_iconst hx hb dX0_takeButton_124 ?_
              cases h
              exact iv_zret (r := 0) hx hb hr hlocks (by decide +kernel) hK hP hD hS dX0_takeButton_125
            · have h := it_f c35 h
              refine iv_iconst hx hb dX0_takeButton_120 ?_
              refine lv_goto (tgt := 125) hx hb dX0_takeButton_121 (by decide) ?_
              cases h
              exact iv_zret (r := 1) hx hb hr hlocks (by decide +kernel) hK hP hD hS dX0_takeButton_125
          · have h := it_f c29 h
            refine iv_iconst hx hb dX0_takeButton_97 ?_
            cases h
            exact iv_zret (r := 0) hx hb hr hlocks (by decide +kernel) hK hP hD hS dX0_takeButton_98
        · have h := it_f c23 h
          refine iv_iconst hx hb dX0_takeButton_74 ?_
          cases h
          exact iv_zret (r := 0) hx hb hr hlocks (by decide +kernel) hK hP hD hS dX0_takeButton_75
      · have h := it_f c17 h
        refine iv_iconst hx hb dX0_takeButton_51 ?_
        cases h
        exact iv_zret (r := 0) hx hb hr hlocks (by decide +kernel) hK hP hD hS dX0_takeButton_52
    · have h := it_t c11 h
      refine iv_iconst hx hb dX0_takeButton_30 ?_
      cases h
      exact iv_zret (r := 0) hx hb hr hlocks (by decide +kernel) hK hP hD hS dX0_takeButton_31
set_option maxRecDepth 20000 in
theorem wd_X0_parse_f31 : Cond.fieldLink RX0 31 "ShirtButtons$Batch" "at" "I" ∈ wsX0_parse := by decide +kernel
set_option maxRecDepth 20000 in
theorem in_X0_parse_X0 : ∀ w ∈ u_ws RX0 TX0 8, w ∈ wsX0_parse := by decide +kernel
set_option maxRecDepth 20000 in
theorem wd_X0_parse_f27 : Cond.fieldLink RX0 27 "ShirtButtons$Batch" "count" "I" ∈ wsX0_parse := by decide +kernel
set_option maxRecDepth 20000 in
theorem wd_X0_parse_f34 : Cond.fieldLink RX0 34 "ShirtButtons$Batch" "source" "LShirtButtons$Text;" ∈ wsX0_parse := by decide +kernel
set_option maxRecDepth 20000 in
theorem wd_X0_parse_f42 : Cond.fieldLink RX0 42 "ShirtButtons$Text" "length" "I" ∈ wsX0_parse := by decide +kernel
set_option maxRecDepth 20000 in
theorem in_X0_parse_X6 : ∀ w ∈ u_ws RX6 TX6 2, w ∈ wsX0_parse := by decide +kernel
set_option maxHeartbeats 4000000 in
set_option maxRecDepth 100000 in
theorem k_X0_parse (l : Launch) (E : wE) (a : Nat → Nat) (sz : Nat) (N : Nat) (z : bBT) (u : (Int × bBT)) (hf : f_X0_parse N z = some u) : cI l yX0_parse wsX0_parse { frames := 3, cells := 0, slots := 0, locals := 66 } E sz [.ref (a 0)] (wBT a E z) (wBT a E u.2) u.1 := by
  refine met_go (cc := cX0_parse) (maxL := 2) (ret := (some .int)) (Q0 := mQi E (wBT a E u.2) u.1) (by decide +kernel) rfl (Nat.le_of_ble_eq_true rfl) ?_
  intro A p e s m below meth c hx hb hr hml hts hown hlocks hP hK hD hA hS ls hl
  have hl : lv_has ls 2 [(0, .ref (a 0))] := hl
  generalize hH : s.heap = H at hP
  have hS : va_S A s.heap H [] := by rw [← hH]; exact hS
  have hown : s.vm.findClass RX0 = some m.cls := hown
  have loop12 : ∀ (n : Nat) (v5 : Int) (s6 : bBT) (H : Heap) (locs : List Loc) (ls : Array Slot), f_X0_parse_L12 N n v5 s6 = some u → va_P E.1 vwCl (wBT a E s6) H → va_D A (wBT a E s6) → va_S A s.heap H locs → lv_has ls 2 [(0, .ref (a 0)), (1, .int (zi v5))] → W p l e ({ frames := 3, cells := 0, slots := 0, locals := 66 }) s m ([.ref (a 0)] : List Value).toArray below meth c H locs 0 0 (MQ below (mQi E (wBT a E u.2) u.1 A) ([.ref (a 0)] : List Value).toArray s 0 0 A) (F0 m 12 ls []) := by
    intro n
    induction n with
    | zero =>
      intro v5 s6 H locs ls h
      exact absurd (show (none : Option (Int × bBT)) = some u from h) (by simp)
    | succ n ih =>
      intro v5 s6 H locs ls h hP hD hS hl
      rw [f_X0_parse_L12] at h
      refine lv_iload_n hx hb dX0_parse_12 rfl (lv_at hl 1 rfl) ?_
      refine iv_bipush hx hb dX0_parse_13 (by decide +kernel) ?_
      obtain ⟨g7, h⟩ := gd_t h
      refine iv_ige (tgt := 77) hx hb g7 (by decide +kernel) dX0_parse_15 (by decide) (fun c8 => ?_) (fun c8 => ?_)
      · have h := it_t c8 h
        refine lv_aload_n hx hb dX0_parse_77 rfl (lv_at hl 0 rfl) ?_
        refine va_get (D := E.1) (ci := 0) (v := .int (zi s6.1.2.2.2.2.2.2)) (C := RX0) (T := TX0) (N := 8) hx hb hts in_X0_parse_X0 hown hK hP 0 rfl rfl 7 (by decide) (hts _ wd_X0_parse_f31) (fun _ h9 => h9) rfl dX0_parse_78 ?_
        cases h
        exact iv_iret hx hb hr hlocks hK hP hD hS dX0_parse_81
      · have h := it_f c8 h
        refine lv_aload_n hx hb dX0_parse_18 rfl (lv_at hl 0 rfl) ?_
        refine lv_iload_n hx hb dX0_parse_19 rfl (lv_at hl 1 rfl) ?_
        obtain ⟨u9, q10, h⟩ := bd_t h
        refine iv_callIf (As := [.int (zi v5)]) (rest := []) ⟨hx, hb, hml, hown, hts⟩ (k_X0_takeButton l E a H.size v5 s6 u9 q10) (cwV 1 hts gX0_parse_X0_takeButton rfl rfl rfl (by decide +kernel) ⟨Nat.le_of_ble_eq_true rfl, Nat.le_of_ble_eq_true rfl⟩) hK hP hD hS hA 0 0 rfl rfl rfl hl.1 (Nat.le_of_ble_eq_true rfl) ⟨Nat.zero_le _, Nat.zero_le _⟩ dX0_parse_20 (fun H locs hP hD hS => ?_)
        obtain ⟨g11, h⟩ := gd_t h
        refine iv_ne (tgt := 31) hx hb g11 dX0_parse_23 (by decide) (fun c12 => ?_) (fun c12 => ?_)
        · have h := it_f c12 h
          refine lv_aload_n hx hb dX0_parse_31 rfl (lv_at hl 0 rfl) ?_
          refine lv_dup hx hb dX0_parse_32 rfl ?_
          refine va_get (D := E.1) (ci := 0) (v := .int (zi u9.2.1.2.2.2.2.2.1)) (C := RX0) (T := TX0) (N := 8) hx hb hts in_X0_parse_X0 hown hK hP 0 rfl rfl 5 (by decide) (hts _ wd_X0_parse_f27) (fun _ h9 => h9) rfl dX0_parse_33 ?_
          refine iv_iconst hx hb dX0_parse_36 ?_
          refine iv_iadd hx hb dX0_parse_37 ?_
          obtain ⟨s13, e14, h⟩ := nm_t h
          refine iv_put (D := E.1) (ci := 0) (v := .int (zi (u9.2.1.2.2.2.2.2.1 + 1))) (ty := .int) (ws1 := wBT a E s13) (C := RX0) (T := TX0) (N := 8) hx hb hts in_X0_parse_X0 tyX0 tyX0_ok nmX0 hown hK hP hD hS 0 rfl rfl 5 (by decide) (hts _ wd_X0_parse_f27) (fun _ h9 => h9) rfl (by decide +kernel) rfl rfl (Nat.le_of_ble_eq_true rfl) (by rw [e14]; rfl) dX0_parse_38 (fun H locs hP hD hS => ?_)
          refine lv_aload_n hx hb dX0_parse_41 rfl (lv_at hl 0 rfl) ?_
          refine va_get (D := E.1) (ci := 0) (v := .int (zi s13.1.2.2.2.2.2.2)) (C := RX0) (T := TX0) (N := 8) hx hb hts in_X0_parse_X0 hown hK hP 0 rfl rfl 7 (by decide) (hts _ wd_X0_parse_f31) (fun _ h9 => h9) rfl dX0_parse_42 ?_
          refine lv_aload_n hx hb dX0_parse_45 rfl (lv_at hl 0 rfl) ?_
          refine va_get (D := E.1) (ci := 0) (v := .ref (a 6)) (C := RX0) (T := TX0) (N := 8) hx hb hts in_X0_parse_X0 hown hK hP 0 rfl rfl 6 (by decide) (hts _ wd_X0_parse_f34) (fun _ h9 => h9) rfl dX0_parse_46 ?_
          refine va_get (D := E.1) (ci := 6) (v := .int (zi s13.2.2)) (C := RX6) (T := TX6) (N := 2) hx hb hts in_X0_parse_X6 hown hK hP 6 rfl rfl 1 (by decide) (hts _ wd_X0_parse_f42) (fun _ h9 => h9) rfl dX0_parse_49 ?_
          obtain ⟨g15, h⟩ := gd_t h
          obtain ⟨g16, h⟩ := gd_t h
          refine iv_ilt (tgt := 57) hx hb g15 g16 dX0_parse_52 (by decide) (fun c17 => ?_) (fun c17 => ?_)
          · have h := it_t c17 h
            refine lv_aload_n hx hb dX0_parse_57 rfl (lv_at hl 0 rfl) ?_
            refine iv_bipush hx hb dX0_parse_58 (by decide +kernel) ?_
            obtain ⟨u18, q19, h⟩ := bd_t h
            refine iv_callIf (As := [.int (zi 44)]) (rest := []) ⟨hx, hb, hml, hown, hts⟩ (k_X0_takeSign l E a H.size 44 s13 u18 q19) (cwV 1 hts gX0_parse_X0_takeSign rfl rfl rfl (by decide +kernel) ⟨Nat.le_of_ble_eq_true rfl, Nat.le_of_ble_eq_true rfl⟩) hK hP hD hS hA 0 0 rfl rfl rfl hl.1 (Nat.le_of_ble_eq_true rfl) ⟨Nat.zero_le _, Nat.zero_le _⟩ dX0_parse_60 (fun H locs hP hD hS => ?_)
            obtain ⟨g20, h⟩ := gd_t h
            refine iv_ne (tgt := 71) hx hb g20 dX0_parse_63 (by decide) (fun c21 => ?_) (fun c21 => ?_)
            · have h := it_f c21 h
              refine lv_iinc (v := zi (v5 + 1)) (lv' := [(1, .int (zi (v5 + 1))), (0, .ref (a 0))]) hx hb dX0_parse_71 hl (k := 1) rfl (by rw [zi_add]; rfl) (by decide) rfl (fun ls hl => ?_)
              refine lv_goto (tgt := 12) hx hb dX0_parse_74 (by decide) ?_
              exact ih (v5 + 1) u18.2 _ _ _ h hP hD hS (lv_sub hl [1, 0] rfl)
            · have h := it_t c21 h
              refine lv_aload_n hx hb dX0_parse_66 rfl (lv_at hl 0 rfl) ?_
              refine va_get (D := E.1) (ci := 0) (v := .int (zi u18.2.1.2.2.2.2.2.2)) (C := RX0) (T := TX0) (N := 8) hx hb hts in_X0_parse_X0 hown hK hP 0 rfl rfl 7 (by decide) (hts _ wd_X0_parse_f31) (fun _ h9 => h9) rfl dX0_parse_67 ?_
              cases h
              exact iv_iret hx hb hr hlocks hK hP hD hS dX0_parse_70
          · have h := it_f c17 h
            refine iv_iconst hx hb dX0_parse_55 ?_
            cases h
            exact iv_iret hx hb hr hlocks hK hP hD hS dX0_parse_56
        · have h := it_t c12 h
          refine lv_aload_n hx hb dX0_parse_26 rfl (lv_at hl 0 rfl) ?_
          refine va_get (D := E.1) (ci := 0) (v := .int (zi u9.2.1.2.2.2.2.2.2)) (C := RX0) (T := TX0) (N := 8) hx hb hts in_X0_parse_X0 hown hK hP 0 rfl rfl 7 (by decide) (hts _ wd_X0_parse_f31) (fun _ h9 => h9) rfl dX0_parse_27 ?_
          cases h
          exact iv_iret hx hb hr hlocks hK hP hD hS dX0_parse_30
  have h := hf
  rw [f_X0_parse] at h
  refine lv_aload_n hx hb dX0_parse_0 rfl (lv_at hl 0 rfl) ?_
  refine iv_iconst hx hb dX0_parse_1 ?_
  obtain ⟨s1, e2, h⟩ := nm_t h
  refine iv_put (D := E.1) (ci := 0) (v := .int (zi 0)) (ty := .int) (ws1 := wBT a E s1) (C := RX0) (T := TX0) (N := 8) hx hb hts in_X0_parse_X0 tyX0 tyX0_ok nmX0 hown hK hP hD hS 0 rfl rfl 7 (by decide) (hts _ wd_X0_parse_f31) (fun _ h9 => h9) rfl (by decide +kernel) rfl rfl (Nat.le_of_ble_eq_true rfl) (by rw [e2]; rfl) dX0_parse_2 (fun H locs hP hD hS => ?_)
  refine lv_aload_n hx hb dX0_parse_5 rfl (lv_at hl 0 rfl) ?_
  refine iv_iconst hx hb dX0_parse_6 ?_
  obtain ⟨s3, e4, h⟩ := nm_t h
  refine iv_put (D := E.1) (ci := 0) (v := .int (zi 0)) (ty := .int) (ws1 := wBT a E s3) (C := RX0) (T := TX0) (N := 8) hx hb hts in_X0_parse_X0 tyX0 tyX0_ok nmX0 hown hK hP hD hS 0 rfl rfl 5 (by decide) (hts _ wd_X0_parse_f27) (fun _ h9 => h9) rfl (by decide +kernel) rfl rfl (Nat.le_of_ble_eq_true rfl) (by rw [e4]; rfl) dX0_parse_7 (fun H locs hP hD hS => ?_)
  refine iv_iconst hx hb dX0_parse_10 ?_
  refine lv_istore_n (lv' := [(1, .int (zi 0)), (0, .ref (a 0))]) hx hb dX0_parse_11 rfl hl (by decide) rfl (fun ls hl => ?_)
  exact loop12 N 0 s3 _ _ _ h hP hD hS (lv_sub hl [1, 0] rfl)
end
section
set_option maxRecDepth 20000 in
theorem wd_X5_takeIn_f12 : Cond.fieldLink RX5 12 "ShirtButtons$State" "buttons" "LShirtButtons$Buttons;" ∈ wsX5_takeIn := by decide +kernel
set_option maxRecDepth 20000 in
theorem in_X5_takeIn_X5 : ∀ w ∈ u_ws RX5 TX5 8, w ∈ wsX5_takeIn := by decide +kernel
set_option maxRecDepth 20000 in
theorem wd_X5_takeIn_f53 : Cond.fieldLink RX5 53 "ShirtButtons$Buttons" "count" "I" ∈ wsX5_takeIn := by decide +kernel
set_option maxRecDepth 20000 in
theorem in_X5_takeIn_X1 : ∀ w ∈ u_ws RX1 TX1 7, w ∈ wsX5_takeIn := by decide +kernel
set_option maxRecDepth 20000 in
theorem wd_X5_takeIn_f56 : Cond.fieldLink RX5 56 "ShirtButtons$Buttons" "holes" "[I" ∈ wsX5_takeIn := by decide +kernel
set_option maxRecDepth 20000 in
theorem wd_X5_takeIn_f59 : Cond.fieldLink RX5 59 "ShirtButtons$Batch" "holes" "[I" ∈ wsX5_takeIn := by decide +kernel
set_option maxRecDepth 20000 in
theorem in_X5_takeIn_X0 : ∀ w ∈ u_ws RX0 TX0 8, w ∈ wsX5_takeIn := by decide +kernel
set_option maxRecDepth 20000 in
theorem wd_X5_takeIn_f62 : Cond.fieldLink RX5 62 "ShirtButtons$Buttons" "size" "[I" ∈ wsX5_takeIn := by decide +kernel
set_option maxRecDepth 20000 in
theorem wd_X5_takeIn_f65 : Cond.fieldLink RX5 65 "ShirtButtons$Batch" "size" "[I" ∈ wsX5_takeIn := by decide +kernel
set_option maxRecDepth 20000 in
theorem wd_X5_takeIn_f66 : Cond.fieldLink RX5 66 "ShirtButtons$Buttons" "iron" "[I" ∈ wsX5_takeIn := by decide +kernel
set_option maxRecDepth 20000 in
theorem wd_X5_takeIn_f69 : Cond.fieldLink RX5 69 "ShirtButtons$Batch" "iron" "[I" ∈ wsX5_takeIn := by decide +kernel
set_option maxRecDepth 20000 in
theorem wd_X5_takeIn_f70 : Cond.fieldLink RX5 70 "ShirtButtons$Buttons" "chips" "[I" ∈ wsX5_takeIn := by decide +kernel
set_option maxRecDepth 20000 in
theorem wd_X5_takeIn_f73 : Cond.fieldLink RX5 73 "ShirtButtons$Batch" "chips" "[I" ∈ wsX5_takeIn := by decide +kernel
set_option maxRecDepth 20000 in
theorem wd_X5_takeIn_f74 : Cond.fieldLink RX5 74 "ShirtButtons$Buttons" "shine" "[I" ∈ wsX5_takeIn := by decide +kernel
set_option maxRecDepth 20000 in
theorem wd_X5_takeIn_f77 : Cond.fieldLink RX5 77 "ShirtButtons$Batch" "shine" "[I" ∈ wsX5_takeIn := by decide +kernel
set_option maxRecDepth 20000 in
theorem wd_X5_takeIn_f78 : Cond.fieldLink RX5 78 "ShirtButtons$Buttons" "sortings" "[I" ∈ wsX5_takeIn := by decide +kernel
set_option maxRecDepth 20000 in
theorem wd_X5_takeIn_f21 : Cond.fieldLink RX5 21 "ShirtButtons$State" "places" "LShirtButtons$Places;" ∈ wsX5_takeIn := by decide +kernel
set_option maxHeartbeats 4000000 in
set_option maxRecDepth 100000 in
theorem k_X5_takeIn (l : Launch) (E : wE) (a b : Nat → Nat) (sz : Nat) (x2 : Int) (z : bSB) (u : bSB) (hf : f_X5_takeIn x2 z = some u) : cV l yX5_takeIn wsX5_takeIn { frames := 2, cells := 0, slots := 0, locals := 43 } E sz [.ref (a 0), .ref (b 0), .int (zi x2)] (wSB a b E z) (wSB a b E u) := by
  refine met_go (cc := cX5_takeIn) (maxL := 4) (ret := none) (Q0 := mQv E (wSB a b E u)) (by decide +kernel) rfl (Nat.le_of_ble_eq_true rfl) ?_
  intro A p e s m below meth c hx hb hr hml hts hown hlocks hP hK hD hA hS ls hl
  have hl : lv_has ls 4 [(0, .ref (a 0)), (1, .ref (b 0)), (2, .int (zi x2))] := hl
  generalize hH : s.heap = H at hP
  have hS : va_S A s.heap H [] := by rw [← hH]; exact hS
  have hown : s.vm.findClass RX5 = some m.cls := hown
  have h := hf
  rw [f_X5_takeIn] at h
  refine lv_aload_n hx hb dX5_takeIn_0 rfl (lv_at hl 0 rfl) ?_
  refine va_get (D := E.1) (ci := 5) (v := .ref (a 1)) (C := RX5) (T := TX5) (N := 8) hx hb hts in_X5_takeIn_X5 hown hK hP 0 rfl rfl 0 (by decide) (hts _ wd_X5_takeIn_f12) (fun _ h9 => h9) rfl dX5_takeIn_1 ?_
  refine va_get (D := E.1) (ci := 1) (v := .int (zi z.1.1.2.2.2.2.2.2)) (C := RX1) (T := TX1) (N := 7) hx hb hts in_X5_takeIn_X1 hown hK hP 1 rfl rfl 6 (by decide) (hts _ wd_X5_takeIn_f53) (fun _ h9 => h9) rfl dX5_takeIn_4 ?_
  refine lv_istore_n (lv' := [(3, .int (zi z.1.1.2.2.2.2.2.2)), (0, .ref (a 0)), (1, .ref (b 0)), (2, .int (zi x2))]) hx hb dX5_takeIn_7 rfl hl (by decide) rfl (fun ls hl => ?_)
  refine lv_iload_n hx hb dX5_takeIn_8 rfl (lv_at hl 0 rfl) ?_
  refine iv_bipush hx hb dX5_takeIn_9 (by decide +kernel) ?_
  obtain ⟨g1, h⟩ := gd_t h
  refine iv_ilt (tgt := 15) hx hb g1 (by decide +kernel) dX5_takeIn_11 (by decide) (fun c2 => ?_) (fun c2 => ?_)
  · have h := it_t c2 h
    refine lv_aload_n hx hb dX5_takeIn_15 rfl (lv_at hl 1 rfl) ?_
    refine va_get (D := E.1) (ci := 5) (v := .ref (a 1)) (C := RX5) (T := TX5) (N := 8) hx hb hts in_X5_takeIn_X5 hown hK hP 0 rfl rfl 0 (by decide) (hts _ wd_X5_takeIn_f12) (fun _ h9 => h9) rfl dX5_takeIn_16 ?_
    refine va_get (D := E.1) (ci := 1) (v := .ref (a 2)) (C := RX1) (T := TX1) (N := 7) hx hb hts in_X5_takeIn_X1 hown hK hP 1 rfl rfl 0 (by decide) (hts _ wd_X5_takeIn_f56) (fun _ h9 => h9) rfl dX5_takeIn_19 ?_
    refine lv_iload_n hx hb dX5_takeIn_22 rfl (lv_at hl 0 rfl) ?_
    refine lv_aload_n hx hb dX5_takeIn_23 rfl (lv_at hl 2 rfl) ?_
    refine va_get (D := E.1) (ci := 0) (v := .ref (b 1)) (C := RX0) (T := TX0) (N := 8) hx hb hts in_X5_takeIn_X0 hown hK hP 16 rfl rfl 0 (by decide) (hts _ wd_X5_takeIn_f59) (fun _ h9 => h9) rfl dX5_takeIn_24 ?_
    refine lv_iload_n hx hb dX5_takeIn_27 rfl (lv_at hl 3 rfl) ?_
    obtain ⟨g3, h⟩ := gd_t h
    refine iv_iald (f := z.2.1) (j := x2.toNat) hx hb hK hP 17 0 rfl rfl (by decide) g3 rfl dX5_takeIn_28 ?_
    obtain ⟨g4, h⟩ := gd_t h
    obtain ⟨s5, e6, h⟩ := nm_t h
    refine iv_iast (f := z.1.1.1) (j := z.1.1.2.2.2.2.2.2.toNat) (ws1 := wSB a b E s5) hx hb hK hP hD hS 2 0 rfl rfl (by decide) g4 rfl (by rw [e6]; rfl) dX5_takeIn_29 (fun H locs hP hD hS => ?_)
    refine lv_aload_n hx hb dX5_takeIn_30 rfl (lv_at hl 1 rfl) ?_
    refine va_get (D := E.1) (ci := 5) (v := .ref (a 1)) (C := RX5) (T := TX5) (N := 8) hx hb hts in_X5_takeIn_X5 hown hK hP 0 rfl rfl 0 (by decide) (hts _ wd_X5_takeIn_f12) (fun _ h9 => h9) rfl dX5_takeIn_31 ?_
    refine va_get (D := E.1) (ci := 1) (v := .ref (a 3)) (C := RX1) (T := TX1) (N := 7) hx hb hts in_X5_takeIn_X1 hown hK hP 1 rfl rfl 1 (by decide) (hts _ wd_X5_takeIn_f62) (fun _ h9 => h9) rfl dX5_takeIn_34 ?_
    refine lv_iload_n hx hb dX5_takeIn_37 rfl (lv_at hl 0 rfl) ?_
    refine lv_aload_n hx hb dX5_takeIn_38 rfl (lv_at hl 2 rfl) ?_
    refine va_get (D := E.1) (ci := 0) (v := .ref (b 2)) (C := RX0) (T := TX0) (N := 8) hx hb hts in_X5_takeIn_X0 hown hK hP 16 rfl rfl 1 (by decide) (hts _ wd_X5_takeIn_f65) (fun _ h9 => h9) rfl dX5_takeIn_39 ?_
    refine lv_iload_n hx hb dX5_takeIn_42 rfl (lv_at hl 3 rfl) ?_
    refine iv_iald (f := s5.2.2.1) (j := x2.toNat) hx hb hK hP 18 0 rfl rfl (by decide) g3 rfl dX5_takeIn_43 ?_
    obtain ⟨s7, e8, h⟩ := nm_t h
    refine iv_iast (f := s5.1.1.2.1) (j := z.1.1.2.2.2.2.2.2.toNat) (ws1 := wSB a b E s7) hx hb hK hP hD hS 3 0 rfl rfl (by decide) g4 rfl (by rw [e8]; rfl) dX5_takeIn_44 (fun H locs hP hD hS => ?_)
    refine lv_aload_n hx hb dX5_takeIn_45 rfl (lv_at hl 1 rfl) ?_
    refine va_get (D := E.1) (ci := 5) (v := .ref (a 1)) (C := RX5) (T := TX5) (N := 8) hx hb hts in_X5_takeIn_X5 hown hK hP 0 rfl rfl 0 (by decide) (hts _ wd_X5_takeIn_f12) (fun _ h9 => h9) rfl dX5_takeIn_46 ?_
    refine va_get (D := E.1) (ci := 1) (v := .ref (a 4)) (C := RX1) (T := TX1) (N := 7) hx hb hts in_X5_takeIn_X1 hown hK hP 1 rfl rfl 2 (by decide) (hts _ wd_X5_takeIn_f66) (fun _ h9 => h9) rfl dX5_takeIn_49 ?_
    refine lv_iload_n hx hb dX5_takeIn_52 rfl (lv_at hl 0 rfl) ?_
    refine lv_aload_n hx hb dX5_takeIn_53 rfl (lv_at hl 2 rfl) ?_
    refine va_get (D := E.1) (ci := 0) (v := .ref (b 3)) (C := RX0) (T := TX0) (N := 8) hx hb hts in_X5_takeIn_X0 hown hK hP 16 rfl rfl 2 (by decide) (hts _ wd_X5_takeIn_f69) (fun _ h9 => h9) rfl dX5_takeIn_54 ?_
    refine lv_iload_n hx hb dX5_takeIn_57 rfl (lv_at hl 3 rfl) ?_
    refine iv_iald (f := s7.2.2.2.1) (j := x2.toNat) hx hb hK hP 19 0 rfl rfl (by decide) g3 rfl dX5_takeIn_58 ?_
    obtain ⟨s9, e10, h⟩ := nm_t h
    refine iv_iast (f := s7.1.1.2.2.1) (j := z.1.1.2.2.2.2.2.2.toNat) (ws1 := wSB a b E s9) hx hb hK hP hD hS 4 0 rfl rfl (by decide) g4 rfl (by rw [e10]; rfl) dX5_takeIn_59 (fun H locs hP hD hS => ?_)
    refine lv_aload_n hx hb dX5_takeIn_60 rfl (lv_at hl 1 rfl) ?_
    refine va_get (D := E.1) (ci := 5) (v := .ref (a 1)) (C := RX5) (T := TX5) (N := 8) hx hb hts in_X5_takeIn_X5 hown hK hP 0 rfl rfl 0 (by decide) (hts _ wd_X5_takeIn_f12) (fun _ h9 => h9) rfl dX5_takeIn_61 ?_
    refine va_get (D := E.1) (ci := 1) (v := .ref (a 5)) (C := RX1) (T := TX1) (N := 7) hx hb hts in_X5_takeIn_X1 hown hK hP 1 rfl rfl 3 (by decide) (hts _ wd_X5_takeIn_f70) (fun _ h9 => h9) rfl dX5_takeIn_64 ?_
    refine lv_iload_n hx hb dX5_takeIn_67 rfl (lv_at hl 0 rfl) ?_
    refine lv_aload_n hx hb dX5_takeIn_68 rfl (lv_at hl 2 rfl) ?_
    refine va_get (D := E.1) (ci := 0) (v := .ref (b 4)) (C := RX0) (T := TX0) (N := 8) hx hb hts in_X5_takeIn_X0 hown hK hP 16 rfl rfl 3 (by decide) (hts _ wd_X5_takeIn_f73) (fun _ h9 => h9) rfl dX5_takeIn_69 ?_
    refine lv_iload_n hx hb dX5_takeIn_72 rfl (lv_at hl 3 rfl) ?_
    refine iv_iald (f := s9.2.2.2.2.1) (j := x2.toNat) hx hb hK hP 20 0 rfl rfl (by decide) g3 rfl dX5_takeIn_73 ?_
    obtain ⟨s11, e12, h⟩ := nm_t h
    refine iv_iast (f := s9.1.1.2.2.2.1) (j := z.1.1.2.2.2.2.2.2.toNat) (ws1 := wSB a b E s11) hx hb hK hP hD hS 5 0 rfl rfl (by decide) g4 rfl (by rw [e12]; rfl) dX5_takeIn_74 (fun H locs hP hD hS => ?_)
    refine lv_aload_n hx hb dX5_takeIn_75 rfl (lv_at hl 1 rfl) ?_
    refine va_get (D := E.1) (ci := 5) (v := .ref (a 1)) (C := RX5) (T := TX5) (N := 8) hx hb hts in_X5_takeIn_X5 hown hK hP 0 rfl rfl 0 (by decide) (hts _ wd_X5_takeIn_f12) (fun _ h9 => h9) rfl dX5_takeIn_76 ?_
    refine va_get (D := E.1) (ci := 1) (v := .ref (a 6)) (C := RX1) (T := TX1) (N := 7) hx hb hts in_X5_takeIn_X1 hown hK hP 1 rfl rfl 4 (by decide) (hts _ wd_X5_takeIn_f74) (fun _ h9 => h9) rfl dX5_takeIn_79 ?_
    refine lv_iload_n hx hb dX5_takeIn_82 rfl (lv_at hl 0 rfl) ?_
    refine lv_aload_n hx hb dX5_takeIn_83 rfl (lv_at hl 2 rfl) ?_
    refine va_get (D := E.1) (ci := 0) (v := .ref (b 5)) (C := RX0) (T := TX0) (N := 8) hx hb hts in_X5_takeIn_X0 hown hK hP 16 rfl rfl 4 (by decide) (hts _ wd_X5_takeIn_f77) (fun _ h9 => h9) rfl dX5_takeIn_84 ?_
    refine lv_iload_n hx hb dX5_takeIn_87 rfl (lv_at hl 3 rfl) ?_
    refine iv_iald (f := s11.2.2.2.2.2.1) (j := x2.toNat) hx hb hK hP 21 0 rfl rfl (by decide) g3 rfl dX5_takeIn_88 ?_
    obtain ⟨s13, e14, h⟩ := nm_t h
    refine iv_iast (f := s11.1.1.2.2.2.2.1) (j := z.1.1.2.2.2.2.2.2.toNat) (ws1 := wSB a b E s13) hx hb hK hP hD hS 6 0 rfl rfl (by decide) g4 rfl (by rw [e14]; rfl) dX5_takeIn_89 (fun H locs hP hD hS => ?_)
    refine lv_aload_n hx hb dX5_takeIn_90 rfl (lv_at hl 1 rfl) ?_
    refine va_get (D := E.1) (ci := 5) (v := .ref (a 1)) (C := RX5) (T := TX5) (N := 8) hx hb hts in_X5_takeIn_X5 hown hK hP 0 rfl rfl 0 (by decide) (hts _ wd_X5_takeIn_f12) (fun _ h9 => h9) rfl dX5_takeIn_91 ?_
    refine va_get (D := E.1) (ci := 1) (v := .ref (a 7)) (C := RX1) (T := TX1) (N := 7) hx hb hts in_X5_takeIn_X1 hown hK hP 1 rfl rfl 5 (by decide) (hts _ wd_X5_takeIn_f78) (fun _ h9 => h9) rfl dX5_takeIn_94 ?_
    refine lv_iload_n hx hb dX5_takeIn_97 rfl (lv_at hl 0 rfl) ?_
    refine iv_iconst hx hb dX5_takeIn_98 ?_
    obtain ⟨s15, e16, h⟩ := nm_t h
    refine iv_iast (f := s13.1.1.2.2.2.2.2.1) (j := z.1.1.2.2.2.2.2.2.toNat) (ws1 := wSB a b E s15) hx hb hK hP hD hS 7 0 rfl rfl (by decide) g4 rfl (by rw [e16]; rfl) dX5_takeIn_99 (fun H locs hP hD hS => ?_)
    refine lv_aload_n hx hb dX5_takeIn_100 rfl (lv_at hl 1 rfl) ?_
    refine va_get (D := E.1) (ci := 5) (v := .ref (a 1)) (C := RX5) (T := TX5) (N := 8) hx hb hts in_X5_takeIn_X5 hown hK hP 0 rfl rfl 0 (by decide) (hts _ wd_X5_takeIn_f12) (fun _ h9 => h9) rfl dX5_takeIn_101 ?_
    refine lv_dup hx hb dX5_takeIn_104 rfl ?_
    refine va_get (D := E.1) (ci := 1) (v := .int (zi s15.1.1.2.2.2.2.2.2)) (C := RX1) (T := TX1) (N := 7) hx hb hts in_X5_takeIn_X1 hown hK hP 1 rfl rfl 6 (by decide) (hts _ wd_X5_takeIn_f53) (fun _ h9 => h9) rfl dX5_takeIn_105 ?_
    refine iv_iconst hx hb dX5_takeIn_108 ?_
    refine iv_iadd hx hb dX5_takeIn_109 ?_
    obtain ⟨s17, e18, h⟩ := nm_t h
    refine iv_put (D := E.1) (ci := 1) (v := .int (zi (s15.1.1.2.2.2.2.2.2 + 1))) (ty := .int) (ws1 := wSB a b E s17) (C := RX1) (T := TX1) (N := 7) hx hb hts in_X5_takeIn_X1 tyX1 tyX1_ok nmX1 hown hK hP hD hS 1 rfl rfl 6 (by decide) (hts _ wd_X5_takeIn_f53) (fun _ h9 => h9) rfl (by decide +kernel) rfl rfl (Nat.le_of_ble_eq_true rfl) (by rw [e18]; rfl) dX5_takeIn_110 (fun H locs hP hD hS => ?_)
    refine lv_aload_n hx hb dX5_takeIn_113 rfl (lv_at hl 1 rfl) ?_
    refine va_get (D := E.1) (ci := 5) (v := .ref (a 8)) (C := RX5) (T := TX5) (N := 8) hx hb hts in_X5_takeIn_X5 hown hK hP 0 rfl rfl 1 (by decide) (hts _ wd_X5_takeIn_f21) (fun _ h9 => h9) rfl dX5_takeIn_114 ?_
    refine lv_iload_n hx hb dX5_takeIn_117 rfl (lv_at hl 0 rfl) ?_
    obtain ⟨u19, q20, h⟩ := bd_t h
    obtain ⟨s21, e22, h⟩ := nm_t h
    refine iv_callV (As := [.int (zi z.1.1.2.2.2.2.2.2)]) (rest := []) (wr := [0, 1, 2, 3, 4, 5, 6, 7, 15, 16, 17, 18, 19, 20, 21].filterMap (fun i => (wSB a b E s17)[i]?)) (ws1 := wSB a b E s21) ⟨hx, hb, hml, hown, hts⟩ (k_X4_bringToHopper l E (fun i => a (8 + i)) H.size z.1.1.2.2.2.2.2.2 s17.1.2.1 u19 q20) (cwV 1 hts gX5_takeIn_X4_bringToHopper rfl rfl rfl (by decide +kernel) ⟨Nat.le_of_ble_eq_true rfl, Nat.le_of_ble_eq_true rfl⟩) hK hP hD hS hA 8 4 rfl rfl [8, 9, 10, 11, 12, 13, 14] [0, 1, 2, 3, 4, 5, 6, 7, 15, 16, 17, 18, 19, 20, 21] [0, 1, 2, 3, 4, 5, 6, 7, 15, 16, 17, 18, 19, 20, 21, 8, 9, 10, 11, 12, 13, 14] rfl rfl (by decide +kernel) (by decide +kernel) (by decide +kernel) (by rw [e22]; rfl) (by decide +kernel) rfl hl.1 (Nat.le_of_ble_eq_true rfl) ⟨Nat.zero_le _, Nat.zero_le _⟩ dX5_takeIn_118 (fun H locs hP hD hS => ?_)
    cases h
    exact iv_vret hx hb hr hlocks hK hP hD hS dX5_takeIn_121
  · have h := it_f c2 h
    cases h
    exact iv_vret hx hb hr hlocks hK hP hD hS dX5_takeIn_14
set_option maxRecDepth 20000 in
theorem wd_X5_meshClass_f34 : Cond.fieldLink RX5 34 "ShirtButtons$State" "settings" "[I" ∈ wsX5_meshClass := by decide +kernel
set_option maxRecDepth 20000 in
theorem in_X5_meshClass_X5 : ∀ w ∈ u_ws RX5 TX5 8, w ∈ wsX5_meshClass := by decide +kernel
set_option maxRecDepth 20000 in
theorem wd_X5_meshClass_f12 : Cond.fieldLink RX5 12 "ShirtButtons$State" "buttons" "LShirtButtons$Buttons;" ∈ wsX5_meshClass := by decide +kernel
set_option maxRecDepth 20000 in
theorem wd_X5_meshClass_f62 : Cond.fieldLink RX5 62 "ShirtButtons$Buttons" "size" "[I" ∈ wsX5_meshClass := by decide +kernel
set_option maxRecDepth 20000 in
theorem in_X5_meshClass_X1 : ∀ w ∈ u_ws RX1 TX1 7, w ∈ wsX5_meshClass := by decide +kernel
set_option maxHeartbeats 4000000 in
set_option maxRecDepth 100000 in
theorem k_X5_meshClass (l : Launch) (E : wE) (a : Nat → Nat) (sz : Nat) (N : Nat) (x1 : Int) (z : bS) (u : (Int × bS)) (hf : f_X5_meshClass N x1 z = some u) : cI l yX5_meshClass wsX5_meshClass { frames := 0, cells := 0, slots := 0, locals := 0 } E sz [.ref (a 0), .int (zi x1)] (wS a E z) (wS a E u.2) u.1 := by
  refine met_go (cc := cX5_meshClass) (maxL := 3) (ret := (some .int)) (Q0 := mQi E (wS a E u.2) u.1) (by decide +kernel) rfl (Nat.le_of_ble_eq_true rfl) ?_
  intro A p e s m below meth c hx hb hr hml hts hown hlocks hP hK hD hA hS ls hl
  have hl : lv_has ls 3 [(0, .ref (a 0)), (1, .int (zi x1))] := hl
  generalize hH : s.heap = H at hP
  have hS : va_S A s.heap H [] := by rw [← hH]; exact hS
  have hown : s.vm.findClass RX5 = some m.cls := hown
  have loop2 : ∀ (n : Nat) (v1 v2 : Int) (s3 : bS) (H : Heap) (locs : List Loc) (ls : Array Slot), f_X5_meshClass_L2 N n v1 v2 s3 = some u → va_P E.1 vwCl (wS a E s3) H → va_D A (wS a E s3) → va_S A s.heap H locs → lv_has ls 3 [(0, .ref (a 0)), (1, .int (zi v1)), (2, .int (zi v2))] → W p l e ({ frames := 0, cells := 0, slots := 0, locals := 0 }) s m ([.ref (a 0), .int (zi x1)] : List Value).toArray below meth c H locs 0 0 (MQ below (mQi E (wS a E u.2) u.1 A) ([.ref (a 0), .int (zi x1)] : List Value).toArray s 0 0 A) (F0 m 2 ls []) := by
    intro n
    induction n with
    | zero =>
      intro v1 v2 s3 H locs ls h
      exact absurd (show (none : Option (Int × bS)) = some u from h) (by simp)
    | succ n ih =>
      intro v1 v2 s3 H locs ls h hP hD hS hl
      rw [f_X5_meshClass_L2] at h
      refine lv_iload_n hx hb dX5_meshClass_2 rfl (lv_at hl 2 rfl) ?_
      refine iv_iconst hx hb dX5_meshClass_3 ?_
      obtain ⟨g4, h⟩ := gd_t h
      refine iv_ige (tgt := 31) hx hb g4 (by decide +kernel) dX5_meshClass_4 (by decide) (fun c5 => ?_) (fun c5 => ?_)
      · have h := it_t c5 h
        refine lv_iload_n hx hb dX5_meshClass_31 rfl (lv_at hl 2 rfl) ?_
        cases h
        exact iv_iret hx hb hr hlocks hK hP hD hS dX5_meshClass_32
      · have h := it_f c5 h
        refine lv_aload_n hx hb dX5_meshClass_7 rfl (lv_at hl 0 rfl) ?_
        refine va_get (D := E.1) (ci := 5) (v := .ref (a 15)) (C := RX5) (T := TX5) (N := 8) hx hb hts in_X5_meshClass_X5 hown hK hP 0 rfl rfl 2 (by decide) (hts _ wd_X5_meshClass_f34) (fun _ h9 => h9) rfl dX5_meshClass_8 ?_
        refine lv_iload_n hx hb dX5_meshClass_11 rfl (lv_at hl 2 rfl) ?_
        obtain ⟨g6, h⟩ := gd_t h
        refine iv_iald (f := s3.2.2.1) (j := v2.toNat) hx hb hK hP 15 0 rfl rfl (by decide) g6 rfl dX5_meshClass_12 ?_
        refine lv_aload_n hx hb dX5_meshClass_13 rfl (lv_at hl 0 rfl) ?_
        refine va_get (D := E.1) (ci := 5) (v := .ref (a 1)) (C := RX5) (T := TX5) (N := 8) hx hb hts in_X5_meshClass_X5 hown hK hP 0 rfl rfl 0 (by decide) (hts _ wd_X5_meshClass_f12) (fun _ h9 => h9) rfl dX5_meshClass_14 ?_
        refine va_get (D := E.1) (ci := 1) (v := .ref (a 3)) (C := RX1) (T := TX1) (N := 7) hx hb hts in_X5_meshClass_X1 hown hK hP 1 rfl rfl 1 (by decide) (hts _ wd_X5_meshClass_f62) (fun _ h9 => h9) rfl dX5_meshClass_17 ?_
        refine lv_iload_n hx hb dX5_meshClass_20 rfl (lv_at hl 1 rfl) ?_
        obtain ⟨g7, h⟩ := gd_t h
        refine iv_iald (f := s3.1.2.1) (j := v1.toNat) hx hb hK hP 3 0 rfl rfl (by decide) g7 rfl dX5_meshClass_21 ?_
        obtain ⟨g8, h⟩ := gd_t h
        obtain ⟨g9, h⟩ := gd_t h
        refine iv_ige (tgt := 31) hx hb g8 g9 dX5_meshClass_22 (by decide) (fun c10 => ?_) (fun c10 => ?_)
        · have h := it_t c10 h
          refine lv_iload_n hx hb dX5_meshClass_31 rfl (lv_at hl 2 rfl) ?_
          cases h
          exact iv_iret hx hb hr hlocks hK hP hD hS dX5_meshClass_32
        · have h := it_f c10 h
          refine lv_iinc (v := zi (v2 + 1)) (lv' := [(2, .int (zi (v2 + 1))), (0, .ref (a 0)), (1, .int (zi v1))]) hx hb dX5_meshClass_25 hl (k := 2) rfl (by rw [zi_add]; rfl) (by decide) rfl (fun ls hl => ?_)
          refine lv_goto (tgt := 2) hx hb dX5_meshClass_28 (by decide) ?_
          exact ih v1 (v2 + 1) s3 _ _ _ h hP hD hS (lv_sub hl [1, 2, 0] rfl)
  have h := hf
  rw [f_X5_meshClass] at h
  refine iv_iconst hx hb dX5_meshClass_0 ?_
  refine lv_istore_n (lv' := [(2, .int (zi 0)), (0, .ref (a 0)), (1, .int (zi x1))]) hx hb dX5_meshClass_1 rfl hl (by decide) rfl (fun ls hl => ?_)
  exact loop2 N x1 0 z _ _ _ h hP hD hS (lv_sub hl [1, 2, 0] rfl)
set_option maxRecDepth 20000 in
theorem wd_X5_binFor_f12 : Cond.fieldLink RX5 12 "ShirtButtons$State" "buttons" "LShirtButtons$Buttons;" ∈ wsX5_binFor := by decide +kernel
set_option maxRecDepth 20000 in
theorem in_X5_binFor_X5 : ∀ w ∈ u_ws RX5 TX5 8, w ∈ wsX5_binFor := by decide +kernel
set_option maxRecDepth 20000 in
theorem wd_X5_binFor_f56 : Cond.fieldLink RX5 56 "ShirtButtons$Buttons" "holes" "[I" ∈ wsX5_binFor := by decide +kernel
set_option maxRecDepth 20000 in
theorem in_X5_binFor_X1 : ∀ w ∈ u_ws RX1 TX1 7, w ∈ wsX5_binFor := by decide +kernel
set_option maxHeartbeats 4000000 in
set_option maxRecDepth 100000 in
theorem k_X5_binFor (l : Launch) (E : wE) (a : Nat → Nat) (sz : Nat) (N : Nat) (x1 : Int) (z : bS) (u : (Int × bS)) (hf : f_X5_binFor N x1 z = some u) : cI l yX5_binFor wsX5_binFor { frames := 1, cells := 0, slots := 0, locals := 22 } E sz [.ref (a 0), .int (zi x1)] (wS a E z) (wS a E u.2) u.1 := by
  refine met_go (cc := cX5_binFor) (maxL := 2) (ret := (some .int)) (Q0 := mQi E (wS a E u.2) u.1) (by decide +kernel) rfl (Nat.le_of_ble_eq_true rfl) ?_
  intro A p e s m below meth c hx hb hr hml hts hown hlocks hP hK hD hA hS ls hl
  have hl : lv_has ls 2 [(0, .ref (a 0)), (1, .int (zi x1))] := hl
  generalize hH : s.heap = H at hP
  have hS : va_S A s.heap H [] := by rw [← hH]; exact hS
  have hown : s.vm.findClass RX5 = some m.cls := hown
  have h := hf
  rw [f_X5_binFor] at h
  refine iv_iconst hx hb dX5_binFor_0 ?_
  refine lv_aload_n hx hb dX5_binFor_1 rfl (lv_at hl 0 rfl) ?_
  refine lv_iload_n hx hb dX5_binFor_2 rfl (lv_at hl 1 rfl) ?_
  obtain ⟨u1, q2, h⟩ := bd_t h
  refine iv_callIf (As := [.int (zi x1)]) (rest := [.int (zi 4)]) ⟨hx, hb, hml, hown, hts⟩ (k_X5_meshClass l E a H.size N x1 z u1 q2) (cwV 1 hts gX5_binFor_X5_meshClass rfl rfl rfl (by decide +kernel) ⟨Nat.le_of_ble_eq_true rfl, Nat.le_of_ble_eq_true rfl⟩) hK hP hD hS hA 0 5 rfl rfl rfl hl.1 (Nat.le_of_ble_eq_true rfl) ⟨Nat.zero_le _, Nat.zero_le _⟩ dX5_binFor_3 (fun H locs hP hD hS => ?_)
  refine iv_imul hx hb dX5_binFor_6 ?_
  refine lv_aload_n hx hb dX5_binFor_7 rfl (lv_at hl 0 rfl) ?_
  refine va_get (D := E.1) (ci := 5) (v := .ref (a 1)) (C := RX5) (T := TX5) (N := 8) hx hb hts in_X5_binFor_X5 hown hK hP 0 rfl rfl 0 (by decide) (hts _ wd_X5_binFor_f12) (fun _ h9 => h9) rfl dX5_binFor_8 ?_
  refine va_get (D := E.1) (ci := 1) (v := .ref (a 2)) (C := RX1) (T := TX1) (N := 7) hx hb hts in_X5_binFor_X1 hown hK hP 1 rfl rfl 0 (by decide) (hts _ wd_X5_binFor_f56) (fun _ h9 => h9) rfl dX5_binFor_11 ?_
  refine lv_iload_n hx hb dX5_binFor_14 rfl (lv_at hl 1 rfl) ?_
  obtain ⟨g3, h⟩ := gd_t h
  refine iv_iald (f := u1.2.1.1) (j := x1.toNat) hx hb hK hP 2 0 rfl rfl (by decide) g3 rfl dX5_binFor_15 ?_
  refine iv_iadd hx hb dX5_binFor_16 ?_
  refine iv_iconst hx hb dX5_binFor_17 ?_
  refine iv_isub hx hb dX5_binFor_18 ?_
  cases h
  exact iv_iret hx hb hr hlocks hK hP hD hS dX5_binFor_19
set_option maxRecDepth 20000 in
theorem wd_X5_placeFor_f12 : Cond.fieldLink RX5 12 "ShirtButtons$State" "buttons" "LShirtButtons$Buttons;" ∈ wsX5_placeFor := by decide +kernel
set_option maxRecDepth 20000 in
theorem in_X5_placeFor_X5 : ∀ w ∈ u_ws RX5 TX5 8, w ∈ wsX5_placeFor := by decide +kernel
set_option maxRecDepth 20000 in
theorem wd_X5_placeFor_f70 : Cond.fieldLink RX5 70 "ShirtButtons$Buttons" "chips" "[I" ∈ wsX5_placeFor := by decide +kernel
set_option maxRecDepth 20000 in
theorem in_X5_placeFor_X1 : ∀ w ∈ u_ws RX1 TX1 7, w ∈ wsX5_placeFor := by decide +kernel
set_option maxRecDepth 20000 in
theorem wd_X5_placeFor_f34 : Cond.fieldLink RX5 34 "ShirtButtons$State" "settings" "[I" ∈ wsX5_placeFor := by decide +kernel
set_option maxRecDepth 20000 in
theorem wd_X5_placeFor_f66 : Cond.fieldLink RX5 66 "ShirtButtons$Buttons" "iron" "[I" ∈ wsX5_placeFor := by decide +kernel
set_option maxRecDepth 20000 in
theorem wd_X5_placeFor_f62 : Cond.fieldLink RX5 62 "ShirtButtons$Buttons" "size" "[I" ∈ wsX5_placeFor := by decide +kernel
set_option maxRecDepth 20000 in
theorem wd_X5_placeFor_f21 : Cond.fieldLink RX5 21 "ShirtButtons$State" "places" "LShirtButtons$Places;" ∈ wsX5_placeFor := by decide +kernel
set_option maxRecDepth 20000 in
theorem wd_X5_placeFor_f88 : Cond.fieldLink RX5 88 "ShirtButtons$Places" "inBin" "[I" ∈ wsX5_placeFor := by decide +kernel
set_option maxRecDepth 20000 in
theorem in_X5_placeFor_X4 : ∀ w ∈ u_ws RX4 TX4 6, w ∈ wsX5_placeFor := by decide +kernel
set_option maxRecDepth 20000 in
theorem wd_X5_placeFor_f85 : Cond.fieldLink RX5 85 "ShirtButtons$Places" "at" "[I" ∈ wsX5_placeFor := by decide +kernel
set_option maxHeartbeats 4000000 in
set_option maxRecDepth 100000 in
theorem k_X5_placeFor (l : Launch) (E : wE) (a : Nat → Nat) (sz : Nat) (N : Nat) (x1 : Int) (z : bS) (u : (Int × bS)) (hf : f_X5_placeFor N x1 z = some u) : cI l yX5_placeFor wsX5_placeFor { frames := 2, cells := 0, slots := 0, locals := 43 } E sz [.ref (a 0), .int (zi x1)] (wS a E z) (wS a E u.2) u.1 := by
  refine met_go (cc := cX5_placeFor) (maxL := 2) (ret := (some .int)) (Q0 := mQi E (wS a E u.2) u.1) (by decide +kernel) rfl (Nat.le_of_ble_eq_true rfl) ?_
  intro A p e s m below meth c hx hb hr hml hts hown hlocks hP hK hD hA hS ls hl
  have hl : lv_has ls 2 [(0, .ref (a 0)), (1, .int (zi x1))] := hl
  generalize hH : s.heap = H at hP
  have hS : va_S A s.heap H [] := by rw [← hH]; exact hS
  have hown : s.vm.findClass RX5 = some m.cls := hown
  have h := hf
  rw [f_X5_placeFor] at h
  refine lv_aload_n hx hb dX5_placeFor_0 rfl (lv_at hl 0 rfl) ?_
  refine va_get (D := E.1) (ci := 5) (v := .ref (a 1)) (C := RX5) (T := TX5) (N := 8) hx hb hts in_X5_placeFor_X5 hown hK hP 0 rfl rfl 0 (by decide) (hts _ wd_X5_placeFor_f12) (fun _ h9 => h9) rfl dX5_placeFor_1 ?_
  refine va_get (D := E.1) (ci := 1) (v := .ref (a 5)) (C := RX1) (T := TX1) (N := 7) hx hb hts in_X5_placeFor_X1 hown hK hP 1 rfl rfl 3 (by decide) (hts _ wd_X5_placeFor_f70) (fun _ h9 => h9) rfl dX5_placeFor_4 ?_
  refine lv_iload_n hx hb dX5_placeFor_7 rfl (lv_at hl 1 rfl) ?_
  obtain ⟨g1, h⟩ := gd_t h
  refine iv_iald (f := z.1.2.2.2.1) (j := x1.toNat) hx hb hK hP 5 0 rfl rfl (by decide) g1 rfl dX5_placeFor_8 ?_
  refine lv_aload_n hx hb dX5_placeFor_9 rfl (lv_at hl 0 rfl) ?_
  refine va_get (D := E.1) (ci := 5) (v := .ref (a 15)) (C := RX5) (T := TX5) (N := 8) hx hb hts in_X5_placeFor_X5 hown hK hP 0 rfl rfl 2 (by decide) (hts _ wd_X5_placeFor_f34) (fun _ h9 => h9) rfl dX5_placeFor_10 ?_
  refine iv_iconst hx hb dX5_placeFor_13 ?_
  refine iv_iald (f := z.2.2.1) (j := 3) hx hb hK hP 15 0 rfl rfl (by decide) (by decide +kernel) rfl dX5_placeFor_14 ?_
  obtain ⟨g2, h⟩ := gd_t h
  obtain ⟨g3, h⟩ := gd_t h
  refine iv_ile (tgt := 20) hx hb g2 g3 dX5_placeFor_15 (by decide) (fun c4 => ?_) (fun c4 => ?_)
  · have h := it_t c4 h
    refine lv_aload_n hx hb dX5_placeFor_20 rfl (lv_at hl 0 rfl) ?_
    refine va_get (D := E.1) (ci := 5) (v := .ref (a 1)) (C := RX5) (T := TX5) (N := 8) hx hb hts in_X5_placeFor_X5 hown hK hP 0 rfl rfl 0 (by decide) (hts _ wd_X5_placeFor_f12) (fun _ h9 => h9) rfl dX5_placeFor_21 ?_
    refine va_get (D := E.1) (ci := 1) (v := .ref (a 4)) (C := RX1) (T := TX1) (N := 7) hx hb hts in_X5_placeFor_X1 hown hK hP 1 rfl rfl 2 (by decide) (hts _ wd_X5_placeFor_f66) (fun _ h9 => h9) rfl dX5_placeFor_24 ?_
    refine lv_iload_n hx hb dX5_placeFor_27 rfl (lv_at hl 1 rfl) ?_
    refine iv_iald (f := z.1.2.2.1) (j := x1.toNat) hx hb hK hP 4 0 rfl rfl (by decide) g1 rfl dX5_placeFor_28 ?_
    refine lv_aload_n hx hb dX5_placeFor_29 rfl (lv_at hl 0 rfl) ?_
    refine va_get (D := E.1) (ci := 5) (v := .ref (a 15)) (C := RX5) (T := TX5) (N := 8) hx hb hts in_X5_placeFor_X5 hown hK hP 0 rfl rfl 2 (by decide) (hts _ wd_X5_placeFor_f34) (fun _ h9 => h9) rfl dX5_placeFor_30 ?_
    refine iv_iconst hx hb dX5_placeFor_33 ?_
    refine iv_iald (f := z.2.2.1) (j := 4) hx hb hK hP 15 0 rfl rfl (by decide) (by decide +kernel) rfl dX5_placeFor_34 ?_
    obtain ⟨g5, h⟩ := gd_t h
    obtain ⟨g6, h⟩ := gd_t h
    refine iv_ilt (tgt := 64) hx hb g5 g6 dX5_placeFor_35 (by decide) (fun c7 => ?_) (fun c7 => ?_)
    · have h := it_t c7 h
      refine lv_aload_n hx hb dX5_placeFor_64 rfl (lv_at hl 0 rfl) ?_
      refine va_get (D := E.1) (ci := 5) (v := .ref (a 1)) (C := RX5) (T := TX5) (N := 8) hx hb hts in_X5_placeFor_X5 hown hK hP 0 rfl rfl 0 (by decide) (hts _ wd_X5_placeFor_f12) (fun _ h9 => h9) rfl dX5_placeFor_65 ?_
      refine va_get (D := E.1) (ci := 1) (v := .ref (a 3)) (C := RX1) (T := TX1) (N := 7) hx hb hts in_X5_placeFor_X1 hown hK hP 1 rfl rfl 1 (by decide) (hts _ wd_X5_placeFor_f62) (fun _ h9 => h9) rfl dX5_placeFor_68 ?_
      refine lv_iload_n hx hb dX5_placeFor_71 rfl (lv_at hl 1 rfl) ?_
      refine iv_iald (f := z.1.2.1) (j := x1.toNat) hx hb hK hP 3 0 rfl rfl (by decide) g1 rfl dX5_placeFor_72 ?_
      refine lv_aload_n hx hb dX5_placeFor_73 rfl (lv_at hl 0 rfl) ?_
      refine va_get (D := E.1) (ci := 5) (v := .ref (a 15)) (C := RX5) (T := TX5) (N := 8) hx hb hts in_X5_placeFor_X5 hown hK hP 0 rfl rfl 2 (by decide) (hts _ wd_X5_placeFor_f34) (fun _ h9 => h9) rfl dX5_placeFor_74 ?_
      refine iv_iconst hx hb dX5_placeFor_77 ?_
      refine iv_iald (f := z.2.2.1) (j := 2) hx hb hK hP 15 0 rfl rfl (by decide) (by decide +kernel) rfl dX5_placeFor_78 ?_
      obtain ⟨g8, h⟩ := gd_t h
      obtain ⟨g9, h⟩ := gd_t h
      refine iv_ile (tgt := 84) hx hb g8 g9 dX5_placeFor_79 (by decide) (fun c10 => ?_) (fun c10 => ?_)
      · have h := it_t c10 h
        refine lv_aload_n hx hb dX5_placeFor_84 rfl (lv_at hl 0 rfl) ?_
        refine va_get (D := E.1) (ci := 5) (v := .ref (a 8)) (C := RX5) (T := TX5) (N := 8) hx hb hts in_X5_placeFor_X5 hown hK hP 0 rfl rfl 1 (by decide) (hts _ wd_X5_placeFor_f21) (fun _ h9 => h9) rfl dX5_placeFor_85 ?_
        refine va_get (D := E.1) (ci := 4) (v := .ref (a 14)) (C := RX4) (T := TX4) (N := 6) hx hb hts in_X5_placeFor_X4 hown hK hP 8 rfl rfl 5 (by decide) (hts _ wd_X5_placeFor_f88) (fun _ h9 => h9) rfl dX5_placeFor_88 ?_
        refine lv_aload_n hx hb dX5_placeFor_91 rfl (lv_at hl 0 rfl) ?_
        refine lv_iload_n hx hb dX5_placeFor_92 rfl (lv_at hl 1 rfl) ?_
        obtain ⟨u11, q12, h⟩ := bd_t h
        refine iv_callIf (As := [.int (zi x1)]) (rest := [.ref (a 14)]) ⟨hx, hb, hml, hown, hts⟩ (k_X5_binFor l E a H.size N x1 z u11 q12) (cwV 1 hts gX5_placeFor_X5_binFor rfl rfl rfl (by decide +kernel) ⟨Nat.le_of_ble_eq_true rfl, Nat.le_of_ble_eq_true rfl⟩) hK hP hD hS hA 0 5 rfl rfl rfl hl.1 (Nat.le_of_ble_eq_true rfl) ⟨Nat.zero_le _, Nat.zero_le _⟩ dX5_placeFor_93 (fun H locs hP hD hS => ?_)
        obtain ⟨g13, h⟩ := gd_t h
        refine iv_iald (f := u11.2.2.1.2.2.2.2.2) (j := u11.1.toNat) hx hb hK hP 14 0 rfl rfl (by decide) g13 rfl dX5_placeFor_96 ?_
        refine lv_aload_n hx hb dX5_placeFor_97 rfl (lv_at hl 0 rfl) ?_
        refine va_get (D := E.1) (ci := 5) (v := .ref (a 15)) (C := RX5) (T := TX5) (N := 8) hx hb hts in_X5_placeFor_X5 hown hK hP 0 rfl rfl 2 (by decide) (hts _ wd_X5_placeFor_f34) (fun _ h9 => h9) rfl dX5_placeFor_98 ?_
        refine iv_bipush hx hb dX5_placeFor_101 (by decide +kernel) ?_
        refine iv_iald (f := u11.2.2.2.1) (j := 6) hx hb hK hP 15 0 rfl rfl (by decide) (by decide +kernel) rfl dX5_placeFor_103 ?_
        obtain ⟨g14, h⟩ := gd_t h
        obtain ⟨g15, h⟩ := gd_t h
        refine iv_ige (tgt := 111) hx hb g14 g15 dX5_placeFor_104 (by decide) (fun c16 => ?_) (fun c16 => ?_)
        · have h := it_t c16 h
          refine iv_iconst hx hb dX5_placeFor_111 ?_
          cases h
          exact iv_iret hx hb hr hlocks hK hP hD hS dX5_placeFor_112
        · have h := it_f c16 h
          refine iv_iconst hx hb dX5_placeFor_107 ?_
          refine lv_goto (tgt := 112) hx hb dX5_placeFor_108 (by decide) ?_
          cases h
          exact iv_iret hx hb hr hlocks hK hP hD hS dX5_placeFor_112
      · have h := it_f c10 h
        refine iv_iconst hx hb dX5_placeFor_82 ?_
        cases h
        exact iv_iret hx hb hr hlocks hK hP hD hS dX5_placeFor_83
    · have h := it_f c7 h
      refine lv_aload_n hx hb dX5_placeFor_38 rfl (lv_at hl 0 rfl) ?_
      refine va_get (D := E.1) (ci := 5) (v := .ref (a 8)) (C := RX5) (T := TX5) (N := 8) hx hb hts in_X5_placeFor_X5 hown hK hP 0 rfl rfl 1 (by decide) (hts _ wd_X5_placeFor_f21) (fun _ h9 => h9) rfl dX5_placeFor_39 ?_
      refine va_get (D := E.1) (ci := 4) (v := .ref (a 13)) (C := RX4) (T := TX4) (N := 6) hx hb hts in_X5_placeFor_X4 hown hK hP 8 rfl rfl 4 (by decide) (hts _ wd_X5_placeFor_f85) (fun _ h9 => h9) rfl dX5_placeFor_42 ?_
      refine iv_iconst hx hb dX5_placeFor_45 ?_
      refine iv_iald (f := z.2.1.2.2.2.2.1) (j := 2) hx hb hK hP 13 0 rfl rfl (by decide) (by decide +kernel) rfl dX5_placeFor_46 ?_
      refine iv_iconst hx hb dX5_placeFor_47 ?_
      refine iv_iadd hx hb dX5_placeFor_48 ?_
      refine lv_aload_n hx hb dX5_placeFor_49 rfl (lv_at hl 0 rfl) ?_
      refine va_get (D := E.1) (ci := 5) (v := .ref (a 15)) (C := RX5) (T := TX5) (N := 8) hx hb hts in_X5_placeFor_X5 hown hK hP 0 rfl rfl 2 (by decide) (hts _ wd_X5_placeFor_f34) (fun _ h9 => h9) rfl dX5_placeFor_50 ?_
      refine iv_iconst hx hb dX5_placeFor_53 ?_
      refine iv_iald (f := z.2.2.1) (j := 5) hx hb hK hP 15 0 rfl rfl (by decide) (by decide +kernel) rfl dX5_placeFor_54 ?_
      obtain ⟨g17, h⟩ := gd_t h
      obtain ⟨g18, h⟩ := gd_t h
      refine iv_ilt (tgt := 62) hx hb g17 g18 dX5_placeFor_55 (by decide) (fun c19 => ?_) (fun c19 => ?_)
      · have h := it_t c19 h
        refine iv_iconst hx hb dX5_placeFor_62 ?_
        cases h
        exact iv_iret hx hb hr hlocks hK hP hD hS dX5_placeFor_63
      · have h := it_f c19 h
        refine iv_iconst hx hb dX5_placeFor_58 ?_
        refine lv_goto (tgt := 63) hx hb dX5_placeFor_59 (by decide) ?_
        cases h
        exact iv_iret hx hb hr hlocks hK hP hD hS dX5_placeFor_63
  · have h := it_f c4 h
    refine iv_iconst hx hb dX5_placeFor_18 ?_
    cases h
    exact iv_iret hx hb hr hlocks hK hP hD hS dX5_placeFor_19
set_option maxRecDepth 20000 in
theorem wd_X5_emptyMagnet_f12 : Cond.fieldLink RX5 12 "ShirtButtons$State" "buttons" "LShirtButtons$Buttons;" ∈ wsX5_emptyMagnet := by decide +kernel
set_option maxRecDepth 20000 in
theorem in_X5_emptyMagnet_X5 : ∀ w ∈ u_ws RX5 TX5 8, w ∈ wsX5_emptyMagnet := by decide +kernel
set_option maxRecDepth 20000 in
theorem wd_X5_emptyMagnet_f53 : Cond.fieldLink RX5 53 "ShirtButtons$Buttons" "count" "I" ∈ wsX5_emptyMagnet := by decide +kernel
set_option maxRecDepth 20000 in
theorem in_X5_emptyMagnet_X1 : ∀ w ∈ u_ws RX1 TX1 7, w ∈ wsX5_emptyMagnet := by decide +kernel
set_option maxRecDepth 20000 in
theorem wd_X5_emptyMagnet_f21 : Cond.fieldLink RX5 21 "ShirtButtons$State" "places" "LShirtButtons$Places;" ∈ wsX5_emptyMagnet := by decide +kernel
set_option maxRecDepth 20000 in
theorem wd_X5_emptyMagnet_f121 : Cond.fieldLink RX5 121 "ShirtButtons$Places" "place" "[I" ∈ wsX5_emptyMagnet := by decide +kernel
set_option maxRecDepth 20000 in
theorem in_X5_emptyMagnet_X4 : ∀ w ∈ u_ws RX4 TX4 6, w ∈ wsX5_emptyMagnet := by decide +kernel
set_option maxHeartbeats 4000000 in
set_option maxRecDepth 100000 in
theorem k_X5_emptyMagnet (l : Launch) (E : wE) (a : Nat → Nat) (sz : Nat) (N : Nat) (z : bS) (u : bS) (hf : f_X5_emptyMagnet N z = some u) : cV l yX5_emptyMagnet wsX5_emptyMagnet { frames := 1, cells := 0, slots := 0, locals := 22 } E sz [.ref (a 0)] (wS a E z) (wS a E u) := by
  refine met_go (cc := cX5_emptyMagnet) (maxL := 2) (ret := none) (Q0 := mQv E (wS a E u)) (by decide +kernel) rfl (Nat.le_of_ble_eq_true rfl) ?_
  intro A p e s m below meth c hx hb hr hml hts hown hlocks hP hK hD hA hS ls hl
  have hl : lv_has ls 2 [(0, .ref (a 0))] := hl
  generalize hH : s.heap = H at hP
  have hS : va_S A s.heap H [] := by rw [← hH]; exact hS
  have hown : s.vm.findClass RX5 = some m.cls := hown
  have loop2 : ∀ (n : Nat) (v1 : Int) (s2 : bS) (H : Heap) (locs : List Loc) (ls : Array Slot), f_X5_emptyMagnet_L2 N n v1 s2 = some u → va_P E.1 vwCl (wS a E s2) H → va_D A (wS a E s2) → va_S A s.heap H locs → lv_has ls 2 [(0, .ref (a 0)), (1, .int (zi v1))] → W p l e ({ frames := 1, cells := 0, slots := 0, locals := 22 }) s m ([.ref (a 0)] : List Value).toArray below meth c H locs 0 0 (MQ below (mQv E (wS a E u) A) ([.ref (a 0)] : List Value).toArray s 0 0 A) (F0 m 2 ls []) := by
    intro n
    induction n with
    | zero =>
      intro v1 s2 H locs ls h
      exact absurd (show (none : Option bS) = some u from h) (by simp)
    | succ n ih =>
      intro v1 s2 H locs ls h hP hD hS hl
      rw [f_X5_emptyMagnet_L2] at h
      refine lv_iload_n hx hb dX5_emptyMagnet_2 rfl (lv_at hl 1 rfl) ?_
      refine lv_aload_n hx hb dX5_emptyMagnet_3 rfl (lv_at hl 0 rfl) ?_
      refine va_get (D := E.1) (ci := 5) (v := .ref (a 1)) (C := RX5) (T := TX5) (N := 8) hx hb hts in_X5_emptyMagnet_X5 hown hK hP 0 rfl rfl 0 (by decide) (hts _ wd_X5_emptyMagnet_f12) (fun _ h9 => h9) rfl dX5_emptyMagnet_4 ?_
      refine va_get (D := E.1) (ci := 1) (v := .int (zi s2.1.2.2.2.2.2.2)) (C := RX1) (T := TX1) (N := 7) hx hb hts in_X5_emptyMagnet_X1 hown hK hP 1 rfl rfl 6 (by decide) (hts _ wd_X5_emptyMagnet_f53) (fun _ h9 => h9) rfl dX5_emptyMagnet_7 ?_
      obtain ⟨g3, h⟩ := gd_t h
      obtain ⟨g4, h⟩ := gd_t h
      refine iv_ige (tgt := 49) hx hb g3 g4 dX5_emptyMagnet_10 (by decide) (fun c5 => ?_) (fun c5 => ?_)
      · have h := it_t c5 h
        cases h
        exact iv_vret hx hb hr hlocks hK hP hD hS dX5_emptyMagnet_49
      · have h := it_f c5 h
        refine lv_aload_n hx hb dX5_emptyMagnet_13 rfl (lv_at hl 0 rfl) ?_
        refine va_get (D := E.1) (ci := 5) (v := .ref (a 8)) (C := RX5) (T := TX5) (N := 8) hx hb hts in_X5_emptyMagnet_X5 hown hK hP 0 rfl rfl 1 (by decide) (hts _ wd_X5_emptyMagnet_f21) (fun _ h9 => h9) rfl dX5_emptyMagnet_14 ?_
        refine va_get (D := E.1) (ci := 4) (v := .ref (a 9)) (C := RX4) (T := TX4) (N := 6) hx hb hts in_X5_emptyMagnet_X4 hown hK hP 8 rfl rfl 0 (by decide) (hts _ wd_X5_emptyMagnet_f121) (fun _ h9 => h9) rfl dX5_emptyMagnet_17 ?_
        refine lv_iload_n hx hb dX5_emptyMagnet_20 rfl (lv_at hl 1 rfl) ?_
        obtain ⟨g6, h⟩ := gd_t h
        refine iv_iald (f := s2.2.1.1) (j := v1.toNat) hx hb hK hP 9 0 rfl rfl (by decide) g6 rfl dX5_emptyMagnet_21 ?_
        refine iv_iconst hx hb dX5_emptyMagnet_22 ?_
        obtain ⟨g7, h⟩ := gd_t h
        refine iv_ine (tgt := 43) hx hb g7 (by decide +kernel) dX5_emptyMagnet_23 (by decide) (fun c8 => ?_) (fun c8 => ?_)
        · have h := it_f c8 h
          refine lv_iinc (v := zi (v1 + 1)) (lv' := [(1, .int (zi (v1 + 1))), (0, .ref (a 0))]) hx hb dX5_emptyMagnet_43 hl (k := 1) rfl (by rw [zi_add]; rfl) (by decide) rfl (fun ls hl => ?_)
          refine lv_goto (tgt := 2) hx hb dX5_emptyMagnet_46 (by decide) ?_
          exact ih (v1 + 1) s2 _ _ _ h hP hD hS (lv_sub hl [1, 0] rfl)
        · have h := it_t c8 h
          refine lv_aload_n hx hb dX5_emptyMagnet_26 rfl (lv_at hl 0 rfl) ?_
          refine va_get (D := E.1) (ci := 5) (v := .ref (a 8)) (C := RX5) (T := TX5) (N := 8) hx hb hts in_X5_emptyMagnet_X5 hown hK hP 0 rfl rfl 1 (by decide) (hts _ wd_X5_emptyMagnet_f21) (fun _ h9 => h9) rfl dX5_emptyMagnet_27 ?_
          refine lv_iload_n hx hb dX5_emptyMagnet_30 rfl (lv_at hl 1 rfl) ?_
          obtain ⟨u9, q10, h⟩ := bd_t h
          obtain ⟨s11, e12, h⟩ := nm_t h
          refine iv_callV (As := [.int (zi v1)]) (rest := []) (wr := [0, 1, 2, 3, 4, 5, 6, 7, 15].filterMap (fun i => (wS a E s2)[i]?)) (ws1 := wS a E s11) ⟨hx, hb, hml, hown, hts⟩ (k_X4_leave l E (fun i => a (8 + i)) H.size v1 s2.2.1 u9 q10) (cwV 1 hts gX5_emptyMagnet_X4_leave rfl rfl rfl (by decide +kernel) ⟨Nat.le_of_ble_eq_true rfl, Nat.le_of_ble_eq_true rfl⟩) hK hP hD hS hA 8 4 rfl rfl [8, 9, 10, 11, 12, 13, 14] [0, 1, 2, 3, 4, 5, 6, 7, 15] [0, 1, 2, 3, 4, 5, 6, 7, 9, 10, 11, 12, 13, 14, 15, 8] rfl rfl (by decide +kernel) (by decide +kernel) (by decide +kernel) (by rw [e12]; rfl) (by decide +kernel) rfl hl.1 (Nat.le_of_ble_eq_true rfl) ⟨Nat.zero_le _, Nat.zero_le _⟩ dX5_emptyMagnet_31 (fun H locs hP hD hS => ?_)
          refine lv_aload_n hx hb dX5_emptyMagnet_34 rfl (lv_at hl 0 rfl) ?_
          refine va_get (D := E.1) (ci := 5) (v := .ref (a 8)) (C := RX5) (T := TX5) (N := 8) hx hb hts in_X5_emptyMagnet_X5 hown hK hP 0 rfl rfl 1 (by decide) (hts _ wd_X5_emptyMagnet_f21) (fun _ h9 => h9) rfl dX5_emptyMagnet_35 ?_
          refine lv_iload_n hx hb dX5_emptyMagnet_38 rfl (lv_at hl 1 rfl) ?_
          refine iv_iconst hx hb dX5_emptyMagnet_39 ?_
          obtain ⟨u13, q14, h⟩ := bd_t h
          obtain ⟨s15, e16, h⟩ := nm_t h
          refine iv_callV (As := [.int (zi v1), .int (zi 3)]) (rest := []) (wr := [0, 1, 2, 3, 4, 5, 6, 7, 15].filterMap (fun i => (wS a E s11)[i]?)) (ws1 := wS a E s15) ⟨hx, hb, hml, hown, hts⟩ (k_X4_bring l E (fun i => a (8 + i)) H.size v1 3 s11.2.1 u13 q14) (cwV 2 hts gX5_emptyMagnet_X4_bring rfl rfl rfl (by decide +kernel) ⟨Nat.le_of_ble_eq_true rfl, Nat.le_of_ble_eq_true rfl⟩) hK hP hD hS hA 8 4 rfl rfl [8, 9, 10, 11, 12, 13, 14] [0, 1, 2, 3, 4, 5, 6, 7, 15] [0, 1, 2, 3, 4, 5, 6, 7, 9, 10, 11, 12, 13, 14, 15, 8] rfl rfl (by decide +kernel) (by decide +kernel) (by decide +kernel) (by rw [e16]; rfl) (by decide +kernel) rfl hl.1 (Nat.le_of_ble_eq_true rfl) ⟨Nat.zero_le _, Nat.zero_le _⟩ dX5_emptyMagnet_40 (fun H locs hP hD hS => ?_)
          refine lv_iinc (v := zi (v1 + 1)) (lv' := [(1, .int (zi (v1 + 1))), (0, .ref (a 0))]) hx hb dX5_emptyMagnet_43 hl (k := 1) rfl (by rw [zi_add]; rfl) (by decide) rfl (fun ls hl => ?_)
          refine lv_goto (tgt := 2) hx hb dX5_emptyMagnet_46 (by decide) ?_
          exact ih (v1 + 1) s15 _ _ _ h hP hD hS (lv_sub hl [1, 0] rfl)
  have h := hf
  rw [f_X5_emptyMagnet] at h
  refine iv_iconst hx hb dX5_emptyMagnet_0 ?_
  refine lv_istore_n (lv' := [(1, .int (zi 0)), (0, .ref (a 0))]) hx hb dX5_emptyMagnet_1 rfl hl (by decide) rfl (fun ls hl => ?_)
  exact loop2 N 0 z _ _ _ h hP hD hS (lv_sub hl [1, 0] rfl)
set_option maxRecDepth 20000 in
theorem wd_X5_rub_f12 : Cond.fieldLink RX5 12 "ShirtButtons$State" "buttons" "LShirtButtons$Buttons;" ∈ wsX5_rub := by decide +kernel
set_option maxRecDepth 20000 in
theorem in_X5_rub_X5 : ∀ w ∈ u_ws RX5 TX5 8, w ∈ wsX5_rub := by decide +kernel
set_option maxRecDepth 20000 in
theorem wd_X5_rub_f62 : Cond.fieldLink RX5 62 "ShirtButtons$Buttons" "size" "[I" ∈ wsX5_rub := by decide +kernel
set_option maxRecDepth 20000 in
theorem in_X5_rub_X1 : ∀ w ∈ u_ws RX1 TX1 7, w ∈ wsX5_rub := by decide +kernel
set_option maxRecDepth 20000 in
theorem wd_X5_rub_f34 : Cond.fieldLink RX5 34 "ShirtButtons$State" "settings" "[I" ∈ wsX5_rub := by decide +kernel
set_option maxRecDepth 20000 in
theorem wd_X5_rub_f50 : Cond.fieldLink RX5 50 "ShirtButtons$State" "rubbed" "I" ∈ wsX5_rub := by decide +kernel
set_option maxHeartbeats 4000000 in
set_option maxRecDepth 100000 in
theorem k_X5_rub (l : Launch) (E : wE) (a : Nat → Nat) (sz : Nat) (N : Nat) (x1 : Int) (z : bS) (u : bS) (hf : f_X5_rub N x1 z = some u) : cV l yX5_rub wsX5_rub { frames := 1, cells := 0, slots := 0, locals := 22 } E sz [.ref (a 0), .int (zi x1)] (wS a E z) (wS a E u) := by
  refine met_go (cc := cX5_rub) (maxL := 2) (ret := none) (Q0 := mQv E (wS a E u)) (by decide +kernel) rfl (Nat.le_of_ble_eq_true rfl) ?_
  intro A p e s m below meth c hx hb hr hml hts hown hlocks hP hK hD hA hS ls hl
  have hl : lv_has ls 2 [(0, .ref (a 0)), (1, .int (zi x1))] := hl
  generalize hH : s.heap = H at hP
  have hS : va_S A s.heap H [] := by rw [← hH]; exact hS
  have hown : s.vm.findClass RX5 = some m.cls := hown
  have h := hf
  rw [f_X5_rub] at h
  refine lv_aload_n hx hb dX5_rub_0 rfl (lv_at hl 0 rfl) ?_
  refine va_get (D := E.1) (ci := 5) (v := .ref (a 1)) (C := RX5) (T := TX5) (N := 8) hx hb hts in_X5_rub_X5 hown hK hP 0 rfl rfl 0 (by decide) (hts _ wd_X5_rub_f12) (fun _ h9 => h9) rfl dX5_rub_1 ?_
  refine va_get (D := E.1) (ci := 1) (v := .ref (a 3)) (C := RX1) (T := TX1) (N := 7) hx hb hts in_X5_rub_X1 hown hK hP 1 rfl rfl 1 (by decide) (hts _ wd_X5_rub_f62) (fun _ h9 => h9) rfl dX5_rub_4 ?_
  refine lv_iload_n hx hb dX5_rub_7 rfl (lv_at hl 1 rfl) ?_
  obtain ⟨g1, h⟩ := gd_t h
  refine iv_iald (f := z.1.2.1) (j := x1.toNat) hx hb hK hP 3 0 rfl rfl (by decide) g1 rfl dX5_rub_8 ?_
  refine lv_aload_n hx hb dX5_rub_9 rfl (lv_at hl 0 rfl) ?_
  refine va_get (D := E.1) (ci := 5) (v := .ref (a 15)) (C := RX5) (T := TX5) (N := 8) hx hb hts in_X5_rub_X5 hown hK hP 0 rfl rfl 2 (by decide) (hts _ wd_X5_rub_f34) (fun _ h9 => h9) rfl dX5_rub_10 ?_
  refine lv_aload_n hx hb dX5_rub_13 rfl (lv_at hl 0 rfl) ?_
  refine lv_iload_n hx hb dX5_rub_14 rfl (lv_at hl 1 rfl) ?_
  obtain ⟨u2, q3, h⟩ := bd_t h
  refine iv_callIf (As := [.int (zi x1)]) (rest := [.ref (a 15), .int (zi (z.1.2.1 x1.toNat))]) ⟨hx, hb, hml, hown, hts⟩ (k_X5_meshClass l E a H.size N x1 z u2 q3) (cwV 1 hts gX5_rub_X5_meshClass rfl rfl rfl (by decide +kernel) ⟨Nat.le_of_ble_eq_true rfl, Nat.le_of_ble_eq_true rfl⟩) hK hP hD hS hA 0 5 rfl rfl rfl hl.1 (Nat.le_of_ble_eq_true rfl) ⟨Nat.zero_le _, Nat.zero_le _⟩ dX5_rub_15 (fun H locs hP hD hS => ?_)
  obtain ⟨g4, h⟩ := gd_t h
  refine iv_iald (f := u2.2.2.2.1) (j := u2.1.toNat) hx hb hK hP 15 0 rfl rfl (by decide) g4 rfl dX5_rub_18 ?_
  obtain ⟨g5, h⟩ := gd_t h
  obtain ⟨g6, h⟩ := gd_t h
  refine iv_ine (tgt := 40) hx hb g5 g6 dX5_rub_19 (by decide) (fun c7 => ?_) (fun c7 => ?_)
  · have h := it_f c7 h
    cases h
    exact iv_vret hx hb hr hlocks hK hP hD hS dX5_rub_40
  · have h := it_t c7 h
    refine lv_aload_n hx hb dX5_rub_22 rfl (lv_at hl 0 rfl) ?_
    refine lv_dup hx hb dX5_rub_23 rfl ?_
    refine va_get (D := E.1) (ci := 5) (v := .int (zi u2.2.2.2.2.2.2.2.2)) (C := RX5) (T := TX5) (N := 8) hx hb hts in_X5_rub_X5 hown hK hP 0 rfl rfl 7 (by decide) (hts _ wd_X5_rub_f50) (fun _ h9 => h9) rfl dX5_rub_24 ?_
    refine iv_iconst hx hb dX5_rub_27 ?_
    refine iv_iadd hx hb dX5_rub_28 ?_
    obtain ⟨s8, e9, h⟩ := nm_t h
    refine iv_put (D := E.1) (ci := 5) (v := .int (zi (u2.2.2.2.2.2.2.2.2 + 1))) (ty := .int) (ws1 := wS a E s8) (C := RX5) (T := TX5) (N := 8) hx hb hts in_X5_rub_X5 tyX5 tyX5_ok nmX5 hown hK hP hD hS 0 rfl rfl 7 (by decide) (hts _ wd_X5_rub_f50) (fun _ h9 => h9) rfl (by decide +kernel) rfl rfl (Nat.le_of_ble_eq_true rfl) (by rw [e9]; rfl) dX5_rub_29 (fun H locs hP hD hS => ?_)
    refine lv_aload_n hx hb dX5_rub_32 rfl (lv_at hl 0 rfl) ?_
    refine va_get (D := E.1) (ci := 5) (v := .ref (a 1)) (C := RX5) (T := TX5) (N := 8) hx hb hts in_X5_rub_X5 hown hK hP 0 rfl rfl 0 (by decide) (hts _ wd_X5_rub_f12) (fun _ h9 => h9) rfl dX5_rub_33 ?_
    refine lv_iload_n hx hb dX5_rub_36 rfl (lv_at hl 1 rfl) ?_
    obtain ⟨u10, q11, h⟩ := bd_t h
    obtain ⟨s12, e13, h⟩ := nm_t h
    refine iv_callV (As := [.int (zi x1)]) (rest := []) (wr := [0, 8, 9, 10, 11, 12, 13, 14, 15].filterMap (fun i => (wS a E s8)[i]?)) (ws1 := wS a E s12) ⟨hx, hb, hml, hown, hts⟩ (k_X1_chip l E (fun i => a (1 + i)) H.size x1 s8.1 u10 q11) (cwV 1 hts gX5_rub_X1_chip rfl rfl rfl (by decide +kernel) ⟨Nat.le_of_ble_eq_true rfl, Nat.le_of_ble_eq_true rfl⟩) hK hP hD hS hA 1 1 rfl rfl [1, 2, 3, 4, 5, 6, 7] [0, 8, 9, 10, 11, 12, 13, 14, 15] [0, 9, 10, 11, 12, 13, 14, 15, 1, 2, 3, 4, 5, 6, 7, 8] rfl rfl (by decide +kernel) (by decide +kernel) (by decide +kernel) (by rw [e13]; rfl) (by decide +kernel) rfl hl.1 (Nat.le_of_ble_eq_true rfl) ⟨Nat.zero_le _, Nat.zero_le _⟩ dX5_rub_37 (fun H locs hP hD hS => ?_)
    cases h
    exact iv_vret hx hb hr hlocks hK hP hD hS dX5_rub_40
set_option maxRecDepth 20000 in
theorem wd_X5_sortFirst_f21 : Cond.fieldLink RX5 21 "ShirtButtons$State" "places" "LShirtButtons$Places;" ∈ wsX5_sortFirst := by decide +kernel
set_option maxRecDepth 20000 in
theorem in_X5_sortFirst_X5 : ∀ w ∈ u_ws RX5 TX5 8, w ∈ wsX5_sortFirst := by decide +kernel
set_option maxRecDepth 20000 in
theorem wd_X5_sortFirst_f85 : Cond.fieldLink RX5 85 "ShirtButtons$Places" "at" "[I" ∈ wsX5_sortFirst := by decide +kernel
set_option maxRecDepth 20000 in
theorem in_X5_sortFirst_X4 : ∀ w ∈ u_ws RX4 TX4 6, w ∈ wsX5_sortFirst := by decide +kernel
set_option maxRecDepth 20000 in
theorem wd_X5_sortFirst_f12 : Cond.fieldLink RX5 12 "ShirtButtons$State" "buttons" "LShirtButtons$Buttons;" ∈ wsX5_sortFirst := by decide +kernel
set_option maxRecDepth 20000 in
theorem wd_X5_sortFirst_f78 : Cond.fieldLink RX5 78 "ShirtButtons$Buttons" "sortings" "[I" ∈ wsX5_sortFirst := by decide +kernel
set_option maxRecDepth 20000 in
theorem in_X5_sortFirst_X1 : ∀ w ∈ u_ws RX1 TX1 7, w ∈ wsX5_sortFirst := by decide +kernel
set_option maxRecDepth 20000 in
theorem wd_X5_sortFirst_f44 : Cond.fieldLink RX5 44 "ShirtButtons$State" "sortingsDone" "I" ∈ wsX5_sortFirst := by decide +kernel
set_option maxRecDepth 20000 in
theorem wd_X5_sortFirst_f47 : Cond.fieldLink RX5 47 "ShirtButtons$State" "goneBack" "I" ∈ wsX5_sortFirst := by decide +kernel
set_option maxHeartbeats 4000000 in
set_option maxRecDepth 100000 in
theorem k_X5_sortFirst (l : Launch) (E : wE) (a : Nat → Nat) (sz : Nat) (N : Nat) (z : bS) (u : bS) (hf : f_X5_sortFirst N z = some u) : cV l yX5_sortFirst wsX5_sortFirst { frames := 3, cells := 0, slots := 0, locals := 64 } E sz [.ref (a 0)] (wS a E z) (wS a E u) := by
  refine met_go (cc := cX5_sortFirst) (maxL := 3) (ret := none) (Q0 := mQv E (wS a E u)) (by decide +kernel) rfl (Nat.le_of_ble_eq_true rfl) ?_
  intro A p e s m below meth c hx hb hr hml hts hown hlocks hP hK hD hA hS ls hl
  have hl : lv_has ls 3 [(0, .ref (a 0))] := hl
  generalize hH : s.heap = H at hP
  have hS : va_S A s.heap H [] := by rw [← hH]; exact hS
  have hown : s.vm.findClass RX5 = some m.cls := hown
  have h := hf
  rw [f_X5_sortFirst] at h
  refine lv_aload_n hx hb dX5_sortFirst_0 rfl (lv_at hl 0 rfl) ?_
  refine va_get (D := E.1) (ci := 5) (v := .ref (a 8)) (C := RX5) (T := TX5) (N := 8) hx hb hts in_X5_sortFirst_X5 hown hK hP 0 rfl rfl 1 (by decide) (hts _ wd_X5_sortFirst_f21) (fun _ h9 => h9) rfl dX5_sortFirst_1 ?_
  refine va_get (D := E.1) (ci := 4) (v := .ref (a 13)) (C := RX4) (T := TX4) (N := 6) hx hb hts in_X5_sortFirst_X4 hown hK hP 8 rfl rfl 4 (by decide) (hts _ wd_X5_sortFirst_f85) (fun _ h9 => h9) rfl dX5_sortFirst_4 ?_
  refine iv_iconst hx hb dX5_sortFirst_7 ?_
  refine iv_iald (f := z.2.1.2.2.2.2.1) (j := 0) hx hb hK hP 13 0 rfl rfl (by decide) (by decide +kernel) rfl dX5_sortFirst_8 ?_
  refine iv_iconst hx hb dX5_sortFirst_9 ?_
  obtain ⟨g1, h⟩ := gd_t h
  refine iv_ige (tgt := 14) hx hb g1 (by decide +kernel) dX5_sortFirst_10 (by decide) (fun c2 => ?_) (fun c2 => ?_)
  · have h := it_t c2 h
    refine lv_aload_n hx hb dX5_sortFirst_14 rfl (lv_at hl 0 rfl) ?_
    refine va_get (D := E.1) (ci := 5) (v := .ref (a 8)) (C := RX5) (T := TX5) (N := 8) hx hb hts in_X5_sortFirst_X5 hown hK hP 0 rfl rfl 1 (by decide) (hts _ wd_X5_sortFirst_f21) (fun _ h9 => h9) rfl dX5_sortFirst_15 ?_
    obtain ⟨u3, q4, h⟩ := bd_t h
    obtain ⟨s5, e6, h⟩ := nm_t h
    refine iv_callI (As := []) (rest := []) (wr := [0, 1, 2, 3, 4, 5, 6, 7, 15].filterMap (fun i => (wS a E z)[i]?)) (ws1 := wS a E s5) ⟨hx, hb, hml, hown, hts⟩ (k_X4_takeFirst l E (fun i => a (8 + i)) H.size  z.2.1 u3 q4) (cwV 0 hts gX5_sortFirst_X4_takeFirst rfl rfl rfl (by decide +kernel) ⟨Nat.le_of_ble_eq_true rfl, Nat.le_of_ble_eq_true rfl⟩) hK hP hD hS hA 8 4 rfl rfl [8, 9, 10, 11, 12, 13, 14] [0, 1, 2, 3, 4, 5, 6, 7, 15] [0, 1, 2, 3, 4, 5, 6, 7, 9, 10, 11, 12, 13, 14, 15, 8] rfl rfl (by decide +kernel) (by decide +kernel) (by decide +kernel) (by rw [e6]; rfl) (by decide +kernel) rfl hl.1 (Nat.le_of_ble_eq_true rfl) ⟨Nat.zero_le _, Nat.zero_le _⟩ dX5_sortFirst_18 (fun H locs hP hD hS => ?_)
    refine lv_istore_n (lv' := [(1, .int (zi u3.1)), (0, .ref (a 0))]) hx hb dX5_sortFirst_21 rfl hl (by decide) rfl (fun ls hl => ?_)
    refine lv_aload_n hx hb dX5_sortFirst_22 rfl (lv_at hl 1 rfl) ?_
    refine va_get (D := E.1) (ci := 5) (v := .ref (a 1)) (C := RX5) (T := TX5) (N := 8) hx hb hts in_X5_sortFirst_X5 hown hK hP 0 rfl rfl 0 (by decide) (hts _ wd_X5_sortFirst_f12) (fun _ h9 => h9) rfl dX5_sortFirst_23 ?_
    refine va_get (D := E.1) (ci := 1) (v := .ref (a 7)) (C := RX1) (T := TX1) (N := 7) hx hb hts in_X5_sortFirst_X1 hown hK hP 1 rfl rfl 5 (by decide) (hts _ wd_X5_sortFirst_f78) (fun _ h9 => h9) rfl dX5_sortFirst_26 ?_
    refine lv_iload_n hx hb dX5_sortFirst_29 rfl (lv_at hl 0 rfl) ?_
    refine lv_dup2_11 hx hb dX5_sortFirst_30 rfl rfl ?_
    obtain ⟨g7, h⟩ := gd_t h
    refine iv_iald (f := s5.1.2.2.2.2.2.1) (j := u3.1.toNat) hx hb hK hP 7 0 rfl rfl (by decide) g7 rfl dX5_sortFirst_31 ?_
    refine iv_iconst hx hb dX5_sortFirst_32 ?_
    refine iv_iadd hx hb dX5_sortFirst_33 ?_
    obtain ⟨s8, e9, h⟩ := nm_t h
    refine iv_iast (f := s5.1.2.2.2.2.2.1) (j := u3.1.toNat) (ws1 := wS a E s8) hx hb hK hP hD hS 7 0 rfl rfl (by decide) g7 rfl (by rw [e9]; rfl) dX5_sortFirst_34 (fun H locs hP hD hS => ?_)
    refine lv_aload_n hx hb dX5_sortFirst_35 rfl (lv_at hl 1 rfl) ?_
    refine lv_dup hx hb dX5_sortFirst_36 rfl ?_
    refine va_get (D := E.1) (ci := 5) (v := .int (zi s8.2.2.2.2.2.1)) (C := RX5) (T := TX5) (N := 8) hx hb hts in_X5_sortFirst_X5 hown hK hP 0 rfl rfl 5 (by decide) (hts _ wd_X5_sortFirst_f44) (fun _ h9 => h9) rfl dX5_sortFirst_37 ?_
    refine iv_iconst hx hb dX5_sortFirst_40 ?_
    refine iv_iadd hx hb dX5_sortFirst_41 ?_
    obtain ⟨s10, e11, h⟩ := nm_t h
    refine iv_put (D := E.1) (ci := 5) (v := .int (zi (s8.2.2.2.2.2.1 + 1))) (ty := .int) (ws1 := wS a E s10) (C := RX5) (T := TX5) (N := 8) hx hb hts in_X5_sortFirst_X5 tyX5 tyX5_ok nmX5 hown hK hP hD hS 0 rfl rfl 5 (by decide) (hts _ wd_X5_sortFirst_f44) (fun _ h9 => h9) rfl (by decide +kernel) rfl rfl (Nat.le_of_ble_eq_true rfl) (by rw [e11]; rfl) dX5_sortFirst_42 (fun H locs hP hD hS => ?_)
    refine lv_aload_n hx hb dX5_sortFirst_45 rfl (lv_at hl 1 rfl) ?_
    refine lv_iload_n hx hb dX5_sortFirst_46 rfl (lv_at hl 0 rfl) ?_
    obtain ⟨u12, q13, h⟩ := bd_t h
    refine iv_callIf (As := [.int (zi u3.1)]) (rest := []) ⟨hx, hb, hml, hown, hts⟩ (k_X5_placeFor l E a H.size N u3.1 s10 u12 q13) (cwV 1 hts gX5_sortFirst_X5_placeFor rfl rfl rfl (by decide +kernel) ⟨Nat.le_of_ble_eq_true rfl, Nat.le_of_ble_eq_true rfl⟩) hK hP hD hS hA 0 5 rfl rfl rfl hl.1 (Nat.le_of_ble_eq_true rfl) ⟨Nat.zero_le _, Nat.zero_le _⟩ dX5_sortFirst_47 (fun H locs hP hD hS => ?_)
    refine lv_istore_n (lv' := [(2, .int (zi u12.1)), (1, .int (zi u3.1)), (0, .ref (a 0))]) hx hb dX5_sortFirst_50 rfl hl (by decide) rfl (fun ls hl => ?_)
    refine lv_iload_n hx hb dX5_sortFirst_51 rfl (lv_at hl 0 rfl) ?_
    obtain ⟨g14, h⟩ := gd_t h
    by_cases c15 : u12.1 = 0
    · have h := it_t c15 h
      refine lv_lookup (tgt := 125) (off := 73) hx hb dX5_sortFirst_52 (by decide +kernel) (by rw [zi_toInt g14, c15]; decide +kernel) (by decide) ?_
      refine lv_aload_n hx hb dX5_sortFirst_125 rfl (lv_at hl 2 rfl) ?_
      refine lv_iload_n hx hb dX5_sortFirst_126 rfl (lv_at hl 1 rfl) ?_
      obtain ⟨u16, q17, h⟩ := bd_t h
      refine iv_callVf (As := [.int (zi u3.1)]) (rest := []) ⟨hx, hb, hml, hown, hts⟩ (k_X5_rub l E a H.size N u3.1 u12.2 u16 q17) (cwV 1 hts gX5_sortFirst_X5_rub rfl rfl rfl (by decide +kernel) ⟨Nat.le_of_ble_eq_true rfl, Nat.le_of_ble_eq_true rfl⟩) hK hP hD hS hA 0 5 rfl rfl rfl hl.1 (Nat.le_of_ble_eq_true rfl) ⟨Nat.zero_le _, Nat.zero_le _⟩ dX5_sortFirst_127 (fun H locs hP hD hS => ?_)
      refine lv_aload_n hx hb dX5_sortFirst_130 rfl (lv_at hl 2 rfl) ?_
      refine lv_dup hx hb dX5_sortFirst_131 rfl ?_
      refine va_get (D := E.1) (ci := 5) (v := .int (zi u16.2.2.2.2.2.2.1)) (C := RX5) (T := TX5) (N := 8) hx hb hts in_X5_sortFirst_X5 hown hK hP 0 rfl rfl 6 (by decide) (hts _ wd_X5_sortFirst_f47) (fun _ h9 => h9) rfl dX5_sortFirst_132 ?_
      refine iv_iconst hx hb dX5_sortFirst_135 ?_
      refine iv_iadd hx hb dX5_sortFirst_136 ?_
      obtain ⟨s18, e19, h⟩ := nm_t h
      refine iv_put (D := E.1) (ci := 5) (v := .int (zi (u16.2.2.2.2.2.2.1 + 1))) (ty := .int) (ws1 := wS a E s18) (C := RX5) (T := TX5) (N := 8) hx hb hts in_X5_sortFirst_X5 tyX5 tyX5_ok nmX5 hown hK hP hD hS 0 rfl rfl 6 (by decide) (hts _ wd_X5_sortFirst_f47) (fun _ h9 => h9) rfl (by decide +kernel) rfl rfl (Nat.le_of_ble_eq_true rfl) (by rw [e19]; rfl) dX5_sortFirst_137 (fun H locs hP hD hS => ?_)
      refine lv_aload_n hx hb dX5_sortFirst_140 rfl (lv_at hl 2 rfl) ?_
      refine va_get (D := E.1) (ci := 5) (v := .ref (a 8)) (C := RX5) (T := TX5) (N := 8) hx hb hts in_X5_sortFirst_X5 hown hK hP 0 rfl rfl 1 (by decide) (hts _ wd_X5_sortFirst_f21) (fun _ h9 => h9) rfl dX5_sortFirst_141 ?_
      refine lv_iload_n hx hb dX5_sortFirst_144 rfl (lv_at hl 1 rfl) ?_
      obtain ⟨u20, q21, h⟩ := bd_t h
      obtain ⟨s22, e23, h⟩ := nm_t h
      refine iv_callV (As := [.int (zi u3.1)]) (rest := []) (wr := [0, 1, 2, 3, 4, 5, 6, 7, 15].filterMap (fun i => (wS a E s18)[i]?)) (ws1 := wS a E s22) ⟨hx, hb, hml, hown, hts⟩ (k_X4_bringToHopper l E (fun i => a (8 + i)) H.size u3.1 s18.2.1 u20 q21) (cwV 1 hts gX5_sortFirst_X4_bringToHopper rfl rfl rfl (by decide +kernel) ⟨Nat.le_of_ble_eq_true rfl, Nat.le_of_ble_eq_true rfl⟩) hK hP hD hS hA 8 4 rfl rfl [8, 9, 10, 11, 12, 13, 14] [0, 1, 2, 3, 4, 5, 6, 7, 15] [0, 1, 2, 3, 4, 5, 6, 7, 9, 10, 11, 12, 13, 14, 15, 8] rfl rfl (by decide +kernel) (by decide +kernel) (by decide +kernel) (by rw [e23]; rfl) (by decide +kernel) rfl hl.1 (Nat.le_of_ble_eq_true rfl) ⟨Nat.zero_le _, Nat.zero_le _⟩ dX5_sortFirst_145 (fun H locs hP hD hS => ?_)
      refine lv_goto (tgt := 160) hx hb dX5_sortFirst_148 (by decide) ?_
      cases h
      exact iv_vret hx hb hr hlocks hK hP hD hS dX5_sortFirst_160
    have h := it_f c15 h
    by_cases c24 : u12.1 = 3
    · have h := it_t c24 h
      refine lv_lookup (tgt := 88) (off := 36) hx hb dX5_sortFirst_52 (by decide +kernel) (by rw [zi_toInt g14, c24]; decide +kernel) (by decide) ?_
      refine lv_aload_n hx hb dX5_sortFirst_88 rfl (lv_at hl 2 rfl) ?_
      refine va_get (D := E.1) (ci := 5) (v := .ref (a 8)) (C := RX5) (T := TX5) (N := 8) hx hb hts in_X5_sortFirst_X5 hown hK hP 0 rfl rfl 1 (by decide) (hts _ wd_X5_sortFirst_f21) (fun _ h9 => h9) rfl dX5_sortFirst_89 ?_
      refine lv_iload_n hx hb dX5_sortFirst_92 rfl (lv_at hl 1 rfl) ?_
      refine iv_iconst hx hb dX5_sortFirst_93 ?_
      obtain ⟨u25, q26, h⟩ := bd_t h
      obtain ⟨s27, e28, h⟩ := nm_t h
      refine iv_callV (As := [.int (zi u3.1), .int (zi 2)]) (rest := []) (wr := [0, 1, 2, 3, 4, 5, 6, 7, 15].filterMap (fun i => (wS a E u12.2)[i]?)) (ws1 := wS a E s27) ⟨hx, hb, hml, hown, hts⟩ (k_X4_bring l E (fun i => a (8 + i)) H.size u3.1 2 u12.2.2.1 u25 q26) (cwV 2 hts gX5_sortFirst_X4_bring rfl rfl rfl (by decide +kernel) ⟨Nat.le_of_ble_eq_true rfl, Nat.le_of_ble_eq_true rfl⟩) hK hP hD hS hA 8 4 rfl rfl [8, 9, 10, 11, 12, 13, 14] [0, 1, 2, 3, 4, 5, 6, 7, 15] [0, 1, 2, 3, 4, 5, 6, 7, 9, 10, 11, 12, 13, 14, 15, 8] rfl rfl (by decide +kernel) (by decide +kernel) (by decide +kernel) (by rw [e28]; rfl) (by decide +kernel) rfl hl.1 (Nat.le_of_ble_eq_true rfl) ⟨Nat.zero_le _, Nat.zero_le _⟩ dX5_sortFirst_94 (fun H locs hP hD hS => ?_)
      refine lv_aload_n hx hb dX5_sortFirst_97 rfl (lv_at hl 2 rfl) ?_
      obtain ⟨u29, q30, h⟩ := bd_t h
      refine iv_callVf (As := []) (rest := []) ⟨hx, hb, hml, hown, hts⟩ (k_X5_emptyMagnet l E a H.size N  s27 u29 q30) (cwV 0 hts gX5_sortFirst_X5_emptyMagnet rfl rfl rfl (by decide +kernel) ⟨Nat.le_of_ble_eq_true rfl, Nat.le_of_ble_eq_true rfl⟩) hK hP hD hS hA 0 5 rfl rfl rfl hl.1 (Nat.le_of_ble_eq_true rfl) ⟨Nat.zero_le _, Nat.zero_le _⟩ dX5_sortFirst_98 (fun H locs hP hD hS => ?_)
      refine lv_goto (tgt := 160) hx hb dX5_sortFirst_101 (by decide) ?_
      cases h
      exact iv_vret hx hb hr hlocks hK hP hD hS dX5_sortFirst_160
    have h := it_f c24 h
    by_cases c31 : u12.1 = 5
    · have h := it_t c31 h
      refine lv_lookup (tgt := 104) (off := 52) hx hb dX5_sortFirst_52 (by decide +kernel) (by rw [zi_toInt g14, c31]; decide +kernel) (by decide) ?_
      refine lv_aload_n hx hb dX5_sortFirst_104 rfl (lv_at hl 2 rfl) ?_
      refine lv_iload_n hx hb dX5_sortFirst_105 rfl (lv_at hl 1 rfl) ?_
      obtain ⟨u32, q33, h⟩ := bd_t h
      refine iv_callVf (As := [.int (zi u3.1)]) (rest := []) ⟨hx, hb, hml, hown, hts⟩ (k_X5_rub l E a H.size N u3.1 u12.2 u32 q33) (cwV 1 hts gX5_sortFirst_X5_rub rfl rfl rfl (by decide +kernel) ⟨Nat.le_of_ble_eq_true rfl, Nat.le_of_ble_eq_true rfl⟩) hK hP hD hS hA 0 5 rfl rfl rfl hl.1 (Nat.le_of_ble_eq_true rfl) ⟨Nat.zero_le _, Nat.zero_le _⟩ dX5_sortFirst_106 (fun H locs hP hD hS => ?_)
      refine lv_aload_n hx hb dX5_sortFirst_109 rfl (lv_at hl 2 rfl) ?_
      refine va_get (D := E.1) (ci := 5) (v := .ref (a 8)) (C := RX5) (T := TX5) (N := 8) hx hb hts in_X5_sortFirst_X5 hown hK hP 0 rfl rfl 1 (by decide) (hts _ wd_X5_sortFirst_f21) (fun _ h9 => h9) rfl dX5_sortFirst_110 ?_
      refine lv_iload_n hx hb dX5_sortFirst_113 rfl (lv_at hl 1 rfl) ?_
      refine lv_aload_n hx hb dX5_sortFirst_114 rfl (lv_at hl 2 rfl) ?_
      refine lv_iload_n hx hb dX5_sortFirst_115 rfl (lv_at hl 1 rfl) ?_
      obtain ⟨u34, q35, h⟩ := bd_t h
      refine iv_callIf (As := [.int (zi u3.1)]) (rest := [.int (zi u3.1), .ref (a 8)]) ⟨hx, hb, hml, hown, hts⟩ (k_X5_binFor l E a H.size N u3.1 u32 u34 q35) (cwV 1 hts gX5_sortFirst_X5_binFor rfl rfl rfl (by decide +kernel) ⟨Nat.le_of_ble_eq_true rfl, Nat.le_of_ble_eq_true rfl⟩) hK hP hD hS hA 0 5 rfl rfl rfl hl.1 (Nat.le_of_ble_eq_true rfl) ⟨Nat.zero_le _, Nat.zero_le _⟩ dX5_sortFirst_116 (fun H locs hP hD hS => ?_)
      obtain ⟨u36, q37, h⟩ := bd_t h
      obtain ⟨s38, e39, h⟩ := nm_t h
      refine iv_callV (As := [.int (zi u3.1), .int (zi u34.1)]) (rest := []) (wr := [0, 1, 2, 3, 4, 5, 6, 7, 15].filterMap (fun i => (wS a E u34.2)[i]?)) (ws1 := wS a E s38) ⟨hx, hb, hml, hown, hts⟩ (k_X4_bringToBin l E (fun i => a (8 + i)) H.size u3.1 u34.1 u34.2.2.1 u36 q37) (cwV 2 hts gX5_sortFirst_X4_bringToBin rfl rfl rfl (by decide +kernel) ⟨Nat.le_of_ble_eq_true rfl, Nat.le_of_ble_eq_true rfl⟩) hK hP hD hS hA 8 4 rfl rfl [8, 9, 10, 11, 12, 13, 14] [0, 1, 2, 3, 4, 5, 6, 7, 15] [0, 1, 2, 3, 4, 5, 6, 7, 9, 10, 11, 12, 13, 14, 15, 8] rfl rfl (by decide +kernel) (by decide +kernel) (by decide +kernel) (by rw [e39]; rfl) (by decide +kernel) rfl hl.1 (Nat.le_of_ble_eq_true rfl) ⟨Nat.zero_le _, Nat.zero_le _⟩ dX5_sortFirst_119 (fun H locs hP hD hS => ?_)
      refine lv_goto (tgt := 160) hx hb dX5_sortFirst_122 (by decide) ?_
      cases h
      exact iv_vret hx hb hr hlocks hK hP hD hS dX5_sortFirst_160
    have h := it_f c31 h
    refine lv_lookup (tgt := 151) (off := 99) hx hb dX5_sortFirst_52 (by decide +kernel) (by rw [zi_toInt g14]; simp only [Op.lookupswitch.offset_cons, if_neg (show ¬ (0 = u12.1) from fun q => c15 q.symm), if_neg (show ¬ (3 = u12.1) from fun q => c24 q.symm), if_neg (show ¬ (5 = u12.1) from fun q => c31 q.symm)]; rfl) (by decide) ?_
    refine lv_aload_n hx hb dX5_sortFirst_151 rfl (lv_at hl 2 rfl) ?_
    refine va_get (D := E.1) (ci := 5) (v := .ref (a 8)) (C := RX5) (T := TX5) (N := 8) hx hb hts in_X5_sortFirst_X5 hown hK hP 0 rfl rfl 1 (by decide) (hts _ wd_X5_sortFirst_f21) (fun _ h9 => h9) rfl dX5_sortFirst_152 ?_
    refine lv_iload_n hx hb dX5_sortFirst_155 rfl (lv_at hl 1 rfl) ?_
    refine lv_iload_n hx hb dX5_sortFirst_156 rfl (lv_at hl 0 rfl) ?_
    obtain ⟨u40, q41, h⟩ := bd_t h
    obtain ⟨s42, e43, h⟩ := nm_t h
    refine iv_callV (As := [.int (zi u3.1), .int (zi u12.1)]) (rest := []) (wr := [0, 1, 2, 3, 4, 5, 6, 7, 15].filterMap (fun i => (wS a E u12.2)[i]?)) (ws1 := wS a E s42) ⟨hx, hb, hml, hown, hts⟩ (k_X4_bring l E (fun i => a (8 + i)) H.size u3.1 u12.1 u12.2.2.1 u40 q41) (cwV 2 hts gX5_sortFirst_X4_bring rfl rfl rfl (by decide +kernel) ⟨Nat.le_of_ble_eq_true rfl, Nat.le_of_ble_eq_true rfl⟩) hK hP hD hS hA 8 4 rfl rfl [8, 9, 10, 11, 12, 13, 14] [0, 1, 2, 3, 4, 5, 6, 7, 15] [0, 1, 2, 3, 4, 5, 6, 7, 9, 10, 11, 12, 13, 14, 15, 8] rfl rfl (by decide +kernel) (by decide +kernel) (by decide +kernel) (by rw [e43]; rfl) (by decide +kernel) rfl hl.1 (Nat.le_of_ble_eq_true rfl) ⟨Nat.zero_le _, Nat.zero_le _⟩ dX5_sortFirst_157 (fun H locs hP hD hS => ?_)
    cases h
    exact iv_vret hx hb hr hlocks hK hP hD hS dX5_sortFirst_160
  · have h := it_f c2 h
    cases h
    exact iv_vret hx hb hr hlocks hK hP hD hS dX5_sortFirst_13
set_option maxRecDepth 20000 in
theorem wd_X5_emptyBin_f12 : Cond.fieldLink RX5 12 "ShirtButtons$State" "buttons" "LShirtButtons$Buttons;" ∈ wsX5_emptyBin := by decide +kernel
set_option maxRecDepth 20000 in
theorem in_X5_emptyBin_X5 : ∀ w ∈ u_ws RX5 TX5 8, w ∈ wsX5_emptyBin := by decide +kernel
set_option maxRecDepth 20000 in
theorem wd_X5_emptyBin_f53 : Cond.fieldLink RX5 53 "ShirtButtons$Buttons" "count" "I" ∈ wsX5_emptyBin := by decide +kernel
set_option maxRecDepth 20000 in
theorem in_X5_emptyBin_X1 : ∀ w ∈ u_ws RX1 TX1 7, w ∈ wsX5_emptyBin := by decide +kernel
set_option maxRecDepth 20000 in
theorem wd_X5_emptyBin_f21 : Cond.fieldLink RX5 21 "ShirtButtons$State" "places" "LShirtButtons$Places;" ∈ wsX5_emptyBin := by decide +kernel
set_option maxRecDepth 20000 in
theorem wd_X5_emptyBin_f127 : Cond.fieldLink RX5 127 "ShirtButtons$Places" "binOf" "[I" ∈ wsX5_emptyBin := by decide +kernel
set_option maxRecDepth 20000 in
theorem in_X5_emptyBin_X4 : ∀ w ∈ u_ws RX4 TX4 6, w ∈ wsX5_emptyBin := by decide +kernel
set_option maxHeartbeats 4000000 in
set_option maxRecDepth 100000 in
theorem k_X5_emptyBin (l : Launch) (E : wE) (a : Nat → Nat) (sz : Nat) (N : Nat) (x1 : Int) (z : bS) (u : bS) (hf : f_X5_emptyBin N x1 z = some u) : cV l yX5_emptyBin wsX5_emptyBin { frames := 2, cells := 0, slots := 0, locals := 43 } E sz [.ref (a 0), .int (zi x1)] (wS a E z) (wS a E u) := by
  refine met_go (cc := cX5_emptyBin) (maxL := 3) (ret := none) (Q0 := mQv E (wS a E u)) (by decide +kernel) rfl (Nat.le_of_ble_eq_true rfl) ?_
  intro A p e s m below meth c hx hb hr hml hts hown hlocks hP hK hD hA hS ls hl
  have hl : lv_has ls 3 [(0, .ref (a 0)), (1, .int (zi x1))] := hl
  generalize hH : s.heap = H at hP
  have hS : va_S A s.heap H [] := by rw [← hH]; exact hS
  have hown : s.vm.findClass RX5 = some m.cls := hown
  have loop2 : ∀ (n : Nat) (v1 v2 : Int) (s3 : bS) (H : Heap) (locs : List Loc) (ls : Array Slot), f_X5_emptyBin_L2 N n v1 v2 s3 = some u → va_P E.1 vwCl (wS a E s3) H → va_D A (wS a E s3) → va_S A s.heap H locs → lv_has ls 3 [(0, .ref (a 0)), (1, .int (zi v1)), (2, .int (zi v2))] → W p l e ({ frames := 2, cells := 0, slots := 0, locals := 43 }) s m ([.ref (a 0), .int (zi x1)] : List Value).toArray below meth c H locs 0 0 (MQ below (mQv E (wS a E u) A) ([.ref (a 0), .int (zi x1)] : List Value).toArray s 0 0 A) (F0 m 2 ls []) := by
    intro n
    induction n with
    | zero =>
      intro v1 v2 s3 H locs ls h
      exact absurd (show (none : Option bS) = some u from h) (by simp)
    | succ n ih =>
      intro v1 v2 s3 H locs ls h hP hD hS hl
      rw [f_X5_emptyBin_L2] at h
      refine lv_iload_n hx hb dX5_emptyBin_2 rfl (lv_at hl 2 rfl) ?_
      refine lv_aload_n hx hb dX5_emptyBin_3 rfl (lv_at hl 0 rfl) ?_
      refine va_get (D := E.1) (ci := 5) (v := .ref (a 1)) (C := RX5) (T := TX5) (N := 8) hx hb hts in_X5_emptyBin_X5 hown hK hP 0 rfl rfl 0 (by decide) (hts _ wd_X5_emptyBin_f12) (fun _ h9 => h9) rfl dX5_emptyBin_4 ?_
      refine va_get (D := E.1) (ci := 1) (v := .int (zi s3.1.2.2.2.2.2.2)) (C := RX1) (T := TX1) (N := 7) hx hb hts in_X5_emptyBin_X1 hown hK hP 1 rfl rfl 6 (by decide) (hts _ wd_X5_emptyBin_f53) (fun _ h9 => h9) rfl dX5_emptyBin_7 ?_
      obtain ⟨g4, h⟩ := gd_t h
      obtain ⟨g5, h⟩ := gd_t h
      refine iv_ige (tgt := 48) hx hb g4 g5 dX5_emptyBin_10 (by decide) (fun c6 => ?_) (fun c6 => ?_)
      · have h := it_t c6 h
        cases h
        exact iv_vret hx hb hr hlocks hK hP hD hS dX5_emptyBin_48
      · have h := it_f c6 h
        refine lv_aload_n hx hb dX5_emptyBin_13 rfl (lv_at hl 0 rfl) ?_
        refine va_get (D := E.1) (ci := 5) (v := .ref (a 8)) (C := RX5) (T := TX5) (N := 8) hx hb hts in_X5_emptyBin_X5 hown hK hP 0 rfl rfl 1 (by decide) (hts _ wd_X5_emptyBin_f21) (fun _ h9 => h9) rfl dX5_emptyBin_14 ?_
        refine va_get (D := E.1) (ci := 4) (v := .ref (a 10)) (C := RX4) (T := TX4) (N := 6) hx hb hts in_X5_emptyBin_X4 hown hK hP 8 rfl rfl 1 (by decide) (hts _ wd_X5_emptyBin_f127) (fun _ h9 => h9) rfl dX5_emptyBin_17 ?_
        refine lv_iload_n hx hb dX5_emptyBin_20 rfl (lv_at hl 2 rfl) ?_
        obtain ⟨g7, h⟩ := gd_t h
        refine iv_iald (f := s3.2.1.2.1) (j := v2.toNat) hx hb hK hP 10 0 rfl rfl (by decide) g7 rfl dX5_emptyBin_21 ?_
        refine lv_iload_n hx hb dX5_emptyBin_22 rfl (lv_at hl 1 rfl) ?_
        obtain ⟨g8, h⟩ := gd_t h
        obtain ⟨g9, h⟩ := gd_t h
        refine iv_ine (tgt := 42) hx hb g8 g9 dX5_emptyBin_23 (by decide) (fun c10 => ?_) (fun c10 => ?_)
        · have h := it_f c10 h
          refine lv_iinc (v := zi (v2 + 1)) (lv' := [(2, .int (zi (v2 + 1))), (0, .ref (a 0)), (1, .int (zi v1))]) hx hb dX5_emptyBin_42 hl (k := 2) rfl (by rw [zi_add]; rfl) (by decide) rfl (fun ls hl => ?_)
          refine lv_goto (tgt := 2) hx hb dX5_emptyBin_45 (by decide) ?_
          exact ih v1 (v2 + 1) s3 _ _ _ h hP hD hS (lv_sub hl [1, 2, 0] rfl)
        · have h := it_t c10 h
          refine lv_aload_n hx hb dX5_emptyBin_26 rfl (lv_at hl 0 rfl) ?_
          refine va_get (D := E.1) (ci := 5) (v := .ref (a 8)) (C := RX5) (T := TX5) (N := 8) hx hb hts in_X5_emptyBin_X5 hown hK hP 0 rfl rfl 1 (by decide) (hts _ wd_X5_emptyBin_f21) (fun _ h9 => h9) rfl dX5_emptyBin_27 ?_
          refine lv_iload_n hx hb dX5_emptyBin_30 rfl (lv_at hl 2 rfl) ?_
          obtain ⟨u11, q12, h⟩ := bd_t h
          obtain ⟨s13, e14, h⟩ := nm_t h
          refine iv_callV (As := [.int (zi v2)]) (rest := []) (wr := [0, 1, 2, 3, 4, 5, 6, 7, 15].filterMap (fun i => (wS a E s3)[i]?)) (ws1 := wS a E s13) ⟨hx, hb, hml, hown, hts⟩ (k_X4_leave l E (fun i => a (8 + i)) H.size v2 s3.2.1 u11 q12) (cwV 1 hts gX5_emptyBin_X4_leave rfl rfl rfl (by decide +kernel) ⟨Nat.le_of_ble_eq_true rfl, Nat.le_of_ble_eq_true rfl⟩) hK hP hD hS hA 8 4 rfl rfl [8, 9, 10, 11, 12, 13, 14] [0, 1, 2, 3, 4, 5, 6, 7, 15] [0, 1, 2, 3, 4, 5, 6, 7, 9, 10, 11, 12, 13, 14, 15, 8] rfl rfl (by decide +kernel) (by decide +kernel) (by decide +kernel) (by rw [e14]; rfl) (by decide +kernel) rfl hl.1 (Nat.le_of_ble_eq_true rfl) ⟨Nat.zero_le _, Nat.zero_le _⟩ dX5_emptyBin_31 (fun H locs hP hD hS => ?_)
          refine lv_aload_n hx hb dX5_emptyBin_34 rfl (lv_at hl 0 rfl) ?_
          refine va_get (D := E.1) (ci := 5) (v := .ref (a 8)) (C := RX5) (T := TX5) (N := 8) hx hb hts in_X5_emptyBin_X5 hown hK hP 0 rfl rfl 1 (by decide) (hts _ wd_X5_emptyBin_f21) (fun _ h9 => h9) rfl dX5_emptyBin_35 ?_
          refine lv_iload_n hx hb dX5_emptyBin_38 rfl (lv_at hl 2 rfl) ?_
          obtain ⟨u15, q16, h⟩ := bd_t h
          obtain ⟨s17, e18, h⟩ := nm_t h
          refine iv_callV (As := [.int (zi v2)]) (rest := []) (wr := [0, 1, 2, 3, 4, 5, 6, 7, 15].filterMap (fun i => (wS a E s13)[i]?)) (ws1 := wS a E s17) ⟨hx, hb, hml, hown, hts⟩ (k_X4_bringToHopper l E (fun i => a (8 + i)) H.size v2 s13.2.1 u15 q16) (cwV 1 hts gX5_emptyBin_X4_bringToHopper rfl rfl rfl (by decide +kernel) ⟨Nat.le_of_ble_eq_true rfl, Nat.le_of_ble_eq_true rfl⟩) hK hP hD hS hA 8 4 rfl rfl [8, 9, 10, 11, 12, 13, 14] [0, 1, 2, 3, 4, 5, 6, 7, 15] [0, 1, 2, 3, 4, 5, 6, 7, 9, 10, 11, 12, 13, 14, 15, 8] rfl rfl (by decide +kernel) (by decide +kernel) (by decide +kernel) (by rw [e18]; rfl) (by decide +kernel) rfl hl.1 (Nat.le_of_ble_eq_true rfl) ⟨Nat.zero_le _, Nat.zero_le _⟩ dX5_emptyBin_39 (fun H locs hP hD hS => ?_)
          refine lv_iinc (v := zi (v2 + 1)) (lv' := [(2, .int (zi (v2 + 1))), (0, .ref (a 0)), (1, .int (zi v1))]) hx hb dX5_emptyBin_42 hl (k := 2) rfl (by rw [zi_add]; rfl) (by decide) rfl (fun ls hl => ?_)
          refine lv_goto (tgt := 2) hx hb dX5_emptyBin_45 (by decide) ?_
          exact ih v1 (v2 + 1) s17 _ _ _ h hP hD hS (lv_sub hl [1, 2, 0] rfl)
  have h := hf
  rw [f_X5_emptyBin] at h
  refine iv_iconst hx hb dX5_emptyBin_0 ?_
  refine lv_istore_n (lv' := [(2, .int (zi 0)), (0, .ref (a 0)), (1, .int (zi x1))]) hx hb dX5_emptyBin_1 rfl hl (by decide) rfl (fun ls hl => ?_)
  exact loop2 N x1 0 z _ _ _ h hP hD hS (lv_sub hl [1, 2, 0] rfl)
set_option maxRecDepth 20000 in
theorem wd_X5_makeShirt_m138 : Cond.methodLink RX5 138 Lib.Math.max.name ∈ wsX5_makeShirt := by decide +kernel
set_option maxRecDepth 20000 in
theorem wd_X5_makeShirt_maxs : Cond.static Lib.Math.max.name ∈ wsX5_makeShirt := by decide +kernel
set_option maxRecDepth 20000 in
theorem wd_X5_makeShirt_maxi : Cond.initialized "java/lang/Math" ∈ wsX5_makeShirt := by decide +kernel
set_option maxRecDepth 20000 in
theorem wd_X5_makeShirt_maxc : Cond.code Lib.Math.max.name Lib.Math.max.code 2 (some .int) ∈ wsX5_makeShirt := by decide +kernel
set_option maxRecDepth 20000 in
theorem wd_X5_makeShirt_f37 : Cond.fieldLink RX5 37 "ShirtButtons$State" "shirtsMade" "I" ∈ wsX5_makeShirt := by decide +kernel
set_option maxRecDepth 20000 in
theorem in_X5_makeShirt_X5 : ∀ w ∈ u_ws RX5 TX5 8, w ∈ wsX5_makeShirt := by decide +kernel
set_option maxRecDepth 20000 in
theorem wd_X5_makeShirt_f41 : Cond.fieldLink RX5 41 "ShirtButtons$State" "worthMade" "I" ∈ wsX5_makeShirt := by decide +kernel
set_option maxRecDepth 20000 in
theorem wd_X5_makeShirt_f130 : Cond.fieldLink RX5 130 "ShirtButtons$Order" "numbers" "[I" ∈ wsX5_makeShirt := by decide +kernel
set_option maxRecDepth 20000 in
theorem in_X5_makeShirt_X3 : ∀ w ∈ u_ws RX3 TX3 3, w ∈ wsX5_makeShirt := by decide +kernel
set_option maxRecDepth 20000 in
theorem wd_X5_makeShirt_f12 : Cond.fieldLink RX5 12 "ShirtButtons$State" "buttons" "LShirtButtons$Buttons;" ∈ wsX5_makeShirt := by decide +kernel
set_option maxRecDepth 20000 in
theorem wd_X5_makeShirt_f74 : Cond.fieldLink RX5 74 "ShirtButtons$Buttons" "shine" "[I" ∈ wsX5_makeShirt := by decide +kernel
set_option maxRecDepth 20000 in
theorem in_X5_makeShirt_X1 : ∀ w ∈ u_ws RX1 TX1 7, w ∈ wsX5_makeShirt := by decide +kernel
set_option maxRecDepth 20000 in
theorem wd_X5_makeShirt_f70 : Cond.fieldLink RX5 70 "ShirtButtons$Buttons" "chips" "[I" ∈ wsX5_makeShirt := by decide +kernel
set_option maxRecDepth 20000 in
theorem wd_X5_makeShirt_f21 : Cond.fieldLink RX5 21 "ShirtButtons$State" "places" "LShirtButtons$Places;" ∈ wsX5_makeShirt := by decide +kernel
set_option maxHeartbeats 4000000 in
set_option maxRecDepth 100000 in
theorem k_X5_makeShirt (l : Launch) (E : wE) (a b : Nat → Nat) (sz : Nat) (N : Nat) (x2 x3 : Int) (z : bSO) (u : (Int × bSO)) (hf : f_X5_makeShirt N x2 x3 z = some u) : cI l yX5_makeShirt wsX5_makeShirt { frames := 2, cells := 0, slots := 0, locals := 44 } E sz [.ref (a 0), .ref (b 0), .int (zi x2), .int (zi x3)] (wSO a b E z) (wSO a b E u.2) u.1 := by
  refine met_go (cc := cX5_makeShirt) (maxL := 7) (ret := (some .int)) (Q0 := mQi E (wSO a b E u.2) u.1) (by decide +kernel) rfl (Nat.le_of_ble_eq_true rfl) ?_
  intro A p e s m below meth c hx hb hr hml hts hown hlocks hP hK hD hA hS ls hl
  have hl : lv_has ls 7 [(0, .ref (a 0)), (1, .ref (b 0)), (2, .int (zi x2)), (3, .int (zi x3))] := hl
  generalize hH : s.heap = H at hP
  have hS : va_S A s.heap H [] := by rw [← hH]; exact hS
  have hown : s.vm.findClass RX5 = some m.cls := hown
  have loop6 : ∀ (n : Nat) (v1 v2 v3 v4 : Int) (s5 : bSO) (H : Heap) (locs : List Loc) (ls : Array Slot), f_X5_makeShirt_L6 N n v1 v2 v3 v4 s5 = some u → va_P E.1 vwCl (wSO a b E s5) H → va_D A (wSO a b E s5) → va_S A s.heap H locs → lv_has ls 7 [(0, .ref (a 0)), (1, .ref (b 0)), (2, .int (zi v1)), (3, .int (zi v2)), (4, .int (zi v3)), (5, .int (zi v4))] → W p l e ({ frames := 2, cells := 0, slots := 0, locals := 44 }) s m ([.ref (a 0), .ref (b 0), .int (zi x2), .int (zi x3)] : List Value).toArray below meth c H locs 0 0 (MQ below (mQi E (wSO a b E u.2) u.1 A) ([.ref (a 0), .ref (b 0), .int (zi x2), .int (zi x3)] : List Value).toArray s 0 0 A) (F0 m 6 ls []) := by
    intro n
    induction n with
    | zero =>
      intro v1 v2 v3 v4 s5 H locs ls h
      exact absurd (show (none : Option (Int × bSO)) = some u from h) (by simp)
    | succ n ih =>
      intro v1 v2 v3 v4 s5 H locs ls h hP hD hS hl
      rw [f_X5_makeShirt_L6] at h
      refine lv_iload hx hb dX5_makeShirt_6 (lv_at hl 5 rfl) ?_
      refine lv_iload_n hx hb dX5_makeShirt_8 rfl (lv_at hl 3 rfl) ?_
      obtain ⟨g6, h⟩ := gd_t h
      obtain ⟨g7, h⟩ := gd_t h
      refine iv_ige (tgt := 77) hx hb g6 g7 dX5_makeShirt_9 (by decide) (fun c8 => ?_) (fun c8 => ?_)
      · have h := it_t c8 h
        refine lv_iload hx hb dX5_makeShirt_77 (lv_at hl 4 rfl) ?_
        refine iv_iconst hx hb dX5_makeShirt_79 ?_
        obtain ⟨g9, h⟩ := gd_t h
        refine iv_max hx hb (hml.trans hl.1.symm) hown (hts _ wd_X5_makeShirt_m138) (hts _ wd_X5_makeShirt_maxs) (hts _ wd_X5_makeShirt_maxi) (hts _ wd_X5_makeShirt_maxc) (by decide) (Nat.le_of_ble_eq_true rfl) (Nat.zero_le _) (Nat.zero_le _) g9 (by decide +kernel) dX5_makeShirt_80 ?_
        obtain ⟨v10, e11, h⟩ := nm_t h
        refine iv_nm e11 ?_
        refine lv_istore (lv' := [(4, .int (zi v10)), (0, .ref (a 0)), (1, .ref (b 0)), (2, .int (zi v1)), (3, .int (zi v2)), (5, .int (zi v4))]) hx hb dX5_makeShirt_83 hl (by decide) rfl (fun ls hl => ?_)
        refine lv_aload_n hx hb dX5_makeShirt_85 rfl (lv_at hl 1 rfl) ?_
        refine lv_dup hx hb dX5_makeShirt_86 rfl ?_
        refine va_get (D := E.1) (ci := 5) (v := .int (zi s5.1.2.2.2.1)) (C := RX5) (T := TX5) (N := 8) hx hb hts in_X5_makeShirt_X5 hown hK hP 0 rfl rfl 3 (by decide) (hts _ wd_X5_makeShirt_f37) (fun _ h9 => h9) rfl dX5_makeShirt_87 ?_
        refine iv_iconst hx hb dX5_makeShirt_90 ?_
        refine iv_iadd hx hb dX5_makeShirt_91 ?_
        obtain ⟨s12, e13, h⟩ := nm_t h
        refine iv_put (D := E.1) (ci := 5) (v := .int (zi (s5.1.2.2.2.1 + 1))) (ty := .int) (ws1 := wSO a b E s12) (C := RX5) (T := TX5) (N := 8) hx hb hts in_X5_makeShirt_X5 tyX5 tyX5_ok nmX5 hown hK hP hD hS 0 rfl rfl 3 (by decide) (hts _ wd_X5_makeShirt_f37) (fun _ h9 => h9) rfl (by decide +kernel) rfl rfl (Nat.le_of_ble_eq_true rfl) (by rw [e13]; rfl) dX5_makeShirt_92 (fun H locs hP hD hS => ?_)
        refine lv_aload_n hx hb dX5_makeShirt_95 rfl (lv_at hl 1 rfl) ?_
        refine lv_dup hx hb dX5_makeShirt_96 rfl ?_
        refine va_get (D := E.1) (ci := 5) (v := .int (zi s12.1.2.2.2.2.1)) (C := RX5) (T := TX5) (N := 8) hx hb hts in_X5_makeShirt_X5 hown hK hP 0 rfl rfl 4 (by decide) (hts _ wd_X5_makeShirt_f41) (fun _ h9 => h9) rfl dX5_makeShirt_97 ?_
        refine lv_iload hx hb dX5_makeShirt_100 (lv_at hl 0 rfl) ?_
        refine iv_iadd hx hb dX5_makeShirt_102 ?_
        obtain ⟨s14, e15, h⟩ := nm_t h
        refine iv_put (D := E.1) (ci := 5) (v := .int (zi (s12.1.2.2.2.2.1 + v10))) (ty := .int) (ws1 := wSO a b E s14) (C := RX5) (T := TX5) (N := 8) hx hb hts in_X5_makeShirt_X5 tyX5 tyX5_ok nmX5 hown hK hP hD hS 0 rfl rfl 4 (by decide) (hts _ wd_X5_makeShirt_f41) (fun _ h9 => h9) rfl (by decide +kernel) rfl rfl (Nat.le_of_ble_eq_true rfl) (by rw [e15]; rfl) dX5_makeShirt_103 (fun H locs hP hD hS => ?_)
        refine lv_iload hx hb dX5_makeShirt_106 (lv_at hl 0 rfl) ?_
        cases h
        exact iv_iret hx hb hr hlocks hK hP hD hS dX5_makeShirt_108
      · have h := it_f c8 h
        refine lv_aload_n hx hb dX5_makeShirt_12 rfl (lv_at hl 1 rfl) ?_
        refine va_get (D := E.1) (ci := 3) (v := .ref (b 1)) (C := RX3) (T := TX3) (N := 3) hx hb hts in_X5_makeShirt_X3 hown hK hP 16 rfl rfl 0 (by decide) (hts _ wd_X5_makeShirt_f130) (fun _ h9 => h9) rfl dX5_makeShirt_13 ?_
        refine lv_iload_n hx hb dX5_makeShirt_16 rfl (lv_at hl 2 rfl) ?_
        refine lv_iload hx hb dX5_makeShirt_17 (lv_at hl 5 rfl) ?_
        refine iv_iadd hx hb dX5_makeShirt_19 ?_
        obtain ⟨g16, h⟩ := gd_t h
        refine iv_iald (f := s5.2.1) (j := (v1 + v4).toNat) hx hb hK hP 17 0 rfl rfl (by decide) g16 rfl dX5_makeShirt_20 ?_
        obtain ⟨v17, e18, h⟩ := nm_t h
        refine iv_nm e18 ?_
        refine lv_istore (lv' := [(6, .int (zi v17)), (0, .ref (a 0)), (1, .ref (b 0)), (2, .int (zi v1)), (3, .int (zi v2)), (4, .int (zi v3)), (5, .int (zi v4))]) hx hb dX5_makeShirt_21 hl (by decide) rfl (fun ls hl => ?_)
        refine lv_iload hx hb dX5_makeShirt_23 (lv_at hl 5 rfl) ?_
        refine lv_aload_n hx hb dX5_makeShirt_25 rfl (lv_at hl 1 rfl) ?_
        refine va_get (D := E.1) (ci := 5) (v := .ref (a 1)) (C := RX5) (T := TX5) (N := 8) hx hb hts in_X5_makeShirt_X5 hown hK hP 0 rfl rfl 0 (by decide) (hts _ wd_X5_makeShirt_f12) (fun _ h9 => h9) rfl dX5_makeShirt_26 ?_
        refine va_get (D := E.1) (ci := 1) (v := .ref (a 6)) (C := RX1) (T := TX1) (N := 7) hx hb hts in_X5_makeShirt_X1 hown hK hP 1 rfl rfl 4 (by decide) (hts _ wd_X5_makeShirt_f74) (fun _ h9 => h9) rfl dX5_makeShirt_29 ?_
        refine lv_iload hx hb dX5_makeShirt_32 (lv_at hl 0 rfl) ?_
        obtain ⟨g19, h⟩ := gd_t h
        refine iv_iald (f := s5.1.1.2.2.2.2.1) (j := v17.toNat) hx hb hK hP 6 0 rfl rfl (by decide) g19 rfl dX5_makeShirt_34 ?_
        refine lv_aload_n hx hb dX5_makeShirt_35 rfl (lv_at hl 1 rfl) ?_
        refine va_get (D := E.1) (ci := 5) (v := .ref (a 1)) (C := RX5) (T := TX5) (N := 8) hx hb hts in_X5_makeShirt_X5 hown hK hP 0 rfl rfl 0 (by decide) (hts _ wd_X5_makeShirt_f12) (fun _ h9 => h9) rfl dX5_makeShirt_36 ?_
        refine va_get (D := E.1) (ci := 1) (v := .ref (a 5)) (C := RX1) (T := TX1) (N := 7) hx hb hts in_X5_makeShirt_X1 hown hK hP 1 rfl rfl 3 (by decide) (hts _ wd_X5_makeShirt_f70) (fun _ h9 => h9) rfl dX5_makeShirt_39 ?_
        refine lv_iload hx hb dX5_makeShirt_42 (lv_at hl 0 rfl) ?_
        refine iv_iald (f := s5.1.1.2.2.2.1) (j := v17.toNat) hx hb hK hP 5 0 rfl rfl (by decide) g19 rfl dX5_makeShirt_44 ?_
        refine iv_isub hx hb dX5_makeShirt_45 ?_
        refine iv_iadd hx hb dX5_makeShirt_46 ?_
        obtain ⟨v20, e21, h⟩ := nm_t h
        refine iv_nm e21 ?_
        refine lv_istore (lv' := [(4, .int (zi v20)), (6, .int (zi v17)), (0, .ref (a 0)), (1, .ref (b 0)), (2, .int (zi v1)), (3, .int (zi v2)), (5, .int (zi v4))]) hx hb dX5_makeShirt_47 hl (by decide) rfl (fun ls hl => ?_)
        refine lv_aload_n hx hb dX5_makeShirt_49 rfl (lv_at hl 2 rfl) ?_
        refine va_get (D := E.1) (ci := 5) (v := .ref (a 8)) (C := RX5) (T := TX5) (N := 8) hx hb hts in_X5_makeShirt_X5 hown hK hP 0 rfl rfl 1 (by decide) (hts _ wd_X5_makeShirt_f21) (fun _ h9 => h9) rfl dX5_makeShirt_50 ?_
        refine lv_iload hx hb dX5_makeShirt_53 (lv_at hl 1 rfl) ?_
        obtain ⟨u22, q23, h⟩ := bd_t h
        obtain ⟨s24, e25, h⟩ := nm_t h
        refine iv_callV (As := [.int (zi v17)]) (rest := []) (wr := [0, 1, 2, 3, 4, 5, 6, 7, 15, 16, 17, 18].filterMap (fun i => (wSO a b E s5)[i]?)) (ws1 := wSO a b E s24) ⟨hx, hb, hml, hown, hts⟩ (k_X4_leave l E (fun i => a (8 + i)) H.size v17 s5.1.2.1 u22 q23) (cwV 1 hts gX5_makeShirt_X4_leave rfl rfl rfl (by decide +kernel) ⟨Nat.le_of_ble_eq_true rfl, Nat.le_of_ble_eq_true rfl⟩) hK hP hD hS hA 8 4 rfl rfl [8, 9, 10, 11, 12, 13, 14] [0, 1, 2, 3, 4, 5, 6, 7, 15, 16, 17, 18] [0, 1, 2, 3, 4, 5, 6, 7, 12, 13, 14, 15, 16, 17, 18, 8, 9, 10, 11] rfl rfl (by decide +kernel) (by decide +kernel) (by decide +kernel) (by rw [e25]; rfl) (by decide +kernel) rfl hl.1 (Nat.le_of_ble_eq_true rfl) ⟨Nat.zero_le _, Nat.zero_le _⟩ dX5_makeShirt_55 (fun H locs hP hD hS => ?_)
        refine lv_aload_n hx hb dX5_makeShirt_58 rfl (lv_at hl 2 rfl) ?_
        refine va_get (D := E.1) (ci := 5) (v := .ref (a 8)) (C := RX5) (T := TX5) (N := 8) hx hb hts in_X5_makeShirt_X5 hown hK hP 0 rfl rfl 1 (by decide) (hts _ wd_X5_makeShirt_f21) (fun _ h9 => h9) rfl dX5_makeShirt_59 ?_
        refine lv_iload hx hb dX5_makeShirt_62 (lv_at hl 1 rfl) ?_
        refine lv_aload_n hx hb dX5_makeShirt_64 rfl (lv_at hl 2 rfl) ?_
        refine va_get (D := E.1) (ci := 5) (v := .int (zi s24.1.2.2.2.1)) (C := RX5) (T := TX5) (N := 8) hx hb hts in_X5_makeShirt_X5 hown hK hP 0 rfl rfl 3 (by decide) (hts _ wd_X5_makeShirt_f37) (fun _ h9 => h9) rfl dX5_makeShirt_65 ?_
        obtain ⟨u26, q27, h⟩ := bd_t h
        obtain ⟨s28, e29, h⟩ := nm_t h
        refine iv_callV (As := [.int (zi v17), .int (zi s24.1.2.2.2.1)]) (rest := []) (wr := [0, 1, 2, 3, 4, 5, 6, 7, 15, 16, 17, 18].filterMap (fun i => (wSO a b E s24)[i]?)) (ws1 := wSO a b E s28) ⟨hx, hb, hml, hown, hts⟩ (k_X4_bringToShirt l E (fun i => a (8 + i)) H.size v17 s24.1.2.2.2.1 s24.1.2.1 u26 q27) (cwV 2 hts gX5_makeShirt_X4_bringToShirt rfl rfl rfl (by decide +kernel) ⟨Nat.le_of_ble_eq_true rfl, Nat.le_of_ble_eq_true rfl⟩) hK hP hD hS hA 8 4 rfl rfl [8, 9, 10, 11, 12, 13, 14] [0, 1, 2, 3, 4, 5, 6, 7, 15, 16, 17, 18] [0, 1, 2, 3, 4, 5, 6, 7, 12, 13, 14, 15, 16, 17, 18, 8, 9, 10, 11] rfl rfl (by decide +kernel) (by decide +kernel) (by decide +kernel) (by rw [e29]; rfl) (by decide +kernel) rfl hl.1 (Nat.le_of_ble_eq_true rfl) ⟨Nat.zero_le _, Nat.zero_le _⟩ dX5_makeShirt_68 (fun H locs hP hD hS => ?_)
        refine lv_iinc (v := zi (v4 + 1)) (lv' := [(5, .int (zi (v4 + 1))), (4, .int (zi v20)), (6, .int (zi v17)), (0, .ref (a 0)), (1, .ref (b 0)), (2, .int (zi v1)), (3, .int (zi v2))]) hx hb dX5_makeShirt_71 hl (k := 6) rfl (by rw [zi_add]; rfl) (by decide) rfl (fun ls hl => ?_)
        refine lv_goto (tgt := 6) hx hb dX5_makeShirt_74 (by decide) ?_
        exact ih v1 v2 v20 (v4 + 1) s28 _ _ _ h hP hD hS (lv_sub hl [3, 4, 5, 6, 1, 0] rfl)
  have h := hf
  rw [f_X5_makeShirt] at h
  refine iv_iconst hx hb dX5_makeShirt_0 ?_
  refine lv_istore (lv' := [(4, .int (zi 0)), (0, .ref (a 0)), (1, .ref (b 0)), (2, .int (zi x2)), (3, .int (zi x3))]) hx hb dX5_makeShirt_1 hl (by decide) rfl (fun ls hl => ?_)
  refine iv_iconst hx hb dX5_makeShirt_3 ?_
  refine lv_istore (lv' := [(5, .int (zi 0)), (4, .int (zi 0)), (0, .ref (a 0)), (1, .ref (b 0)), (2, .int (zi x2)), (3, .int (zi x3))]) hx hb dX5_makeShirt_4 hl (by decide) rfl (fun ls hl => ?_)
  exact loop6 N x2 x3 0 0 z _ _ _ h hP hD hS (lv_sub hl [2, 3, 4, 5, 1, 0] rfl)
set_option maxRecDepth 20000 in
theorem wd_X5_meshesAllow_f34 : Cond.fieldLink RX5 34 "ShirtButtons$State" "settings" "[I" ∈ wsX5_meshesAllow := by decide +kernel
set_option maxRecDepth 20000 in
theorem in_X5_meshesAllow_X5 : ∀ w ∈ u_ws RX5 TX5 8, w ∈ wsX5_meshesAllow := by decide +kernel
set_option maxHeartbeats 4000000 in
set_option maxRecDepth 100000 in
theorem k_X5_meshesAllow (l : Launch) (E : wE) (a : Nat → Nat) (sz : Nat) (x1 x2 : Int) (z : bS) (u : (Int × bS)) (hf : f_X5_meshesAllow x1 x2 z = some u) : cI l yX5_meshesAllow wsX5_meshesAllow { frames := 0, cells := 0, slots := 0, locals := 0 } E sz [.ref (a 0), .int (zi x1), .int (zi x2)] (wS a E z) (wS a E u.2) u.1 := by
  refine met_go (cc := cX5_meshesAllow) (maxL := 3) (ret := (some .boolean)) (Q0 := mQi E (wS a E u.2) u.1) (by decide +kernel) rfl (Nat.le_of_ble_eq_true rfl) ?_
  intro A p e s m below meth c hx hb hr hml hts hown hlocks hP hK hD hA hS ls hl
  have hl : lv_has ls 3 [(0, .ref (a 0)), (1, .int (zi x1)), (2, .int (zi x2))] := hl
  generalize hH : s.heap = H at hP
  have hS : va_S A s.heap H [] := by rw [← hH]; exact hS
  have hown : s.vm.findClass RX5 = some m.cls := hown
  have h := hf
  rw [f_X5_meshesAllow] at h
  refine lv_iload_n hx hb dX5_meshesAllow_0 rfl (lv_at hl 1 rfl) ?_
  refine iv_iconst hx hb dX5_meshesAllow_1 ?_
  obtain ⟨g1, h⟩ := gd_t h
  refine iv_ilt (tgt := 7) hx hb g1 (by decide +kernel) dX5_meshesAllow_2 (by decide) (fun c2 => ?_) (fun c2 => ?_)
  · have h := it_t c2 h
    refine lv_iload_n hx hb dX5_meshesAllow_7 rfl (lv_at hl 1 rfl) ?_
    refine iv_le (tgt := 25) hx hb g1 dX5_meshesAllow_8 (by decide) (fun c3 => ?_) (fun c3 => ?_)
    · have h := it_t c3 h
      refine lv_iload_n hx hb dX5_meshesAllow_25 rfl (lv_at hl 1 rfl) ?_
      refine iv_iconst hx hb dX5_meshesAllow_26 ?_
      refine iv_ieq (tgt := 42) hx hb g1 (by decide +kernel) dX5_meshesAllow_27 (by decide) (fun c4 => ?_) (fun c4 => ?_)
      · have h := it_t c4 h
        refine iv_iconst hx hb dX5_meshesAllow_42 ?_
        refine lv_goto (tgt := 47) hx hb dX5_meshesAllow_43 (by decide) ?_
        cases h
        exact iv_zret (r := 1) hx hb hr hlocks (by decide +kernel) hK hP hD hS dX5_meshesAllow_47
      · have h := it_f c4 h
        refine lv_iload_n hx hb dX5_meshesAllow_30 rfl (lv_at hl 2 rfl) ?_
        refine lv_aload_n hx hb dX5_meshesAllow_31 rfl (lv_at hl 0 rfl) ?_
        refine va_get (D := E.1) (ci := 5) (v := .ref (a 15)) (C := RX5) (T := TX5) (N := 8) hx hb hts in_X5_meshesAllow_X5 hown hK hP 0 rfl rfl 2 (by decide) (hts _ wd_X5_meshesAllow_f34) (fun _ h9 => h9) rfl dX5_meshesAllow_32 ?_
        refine lv_iload_n hx hb dX5_meshesAllow_35 rfl (lv_at hl 1 rfl) ?_
        refine iv_iconst hx hb dX5_meshesAllow_36 ?_
        refine iv_iadd hx hb dX5_meshesAllow_37 ?_
        obtain ⟨g5, h⟩ := gd_t h
        refine iv_iald (f := z.2.2.1) (j := (x1 + 1).toNat) hx hb hK hP 15 0 rfl rfl (by decide) g5 rfl dX5_meshesAllow_38 ?_
        obtain ⟨g6, h⟩ := gd_t h
        obtain ⟨g7, h⟩ := gd_t h
        refine iv_igt (tgt := 46) hx hb g6 g7 dX5_meshesAllow_39 (by decide) (fun c8 => ?_) (fun c8 => ?_)
        · have h := it_t c8 h
          refine iv_iconst hx hb dX5_meshesAllow_46 ?_
          cases h
          exact iv_zret (r := 0) hx hb hr hlocks (by decide +kernel) hK hP hD hS dX5_meshesAllow_47
        · have h := it_f c8 h
          refine iv_iconst hx hb dX5_meshesAllow_42 ?_
          refine lv_goto (tgt := 47) hx hb dX5_meshesAllow_43 (by decide) ?_
          cases h
          exact iv_zret (r := 1) hx hb hr hlocks (by decide +kernel) hK hP hD hS dX5_meshesAllow_47
    · have h := it_f c3 h
      refine lv_aload_n hx hb dX5_meshesAllow_11 rfl (lv_at hl 0 rfl) ?_
      refine va_get (D := E.1) (ci := 5) (v := .ref (a 15)) (C := RX5) (T := TX5) (N := 8) hx hb hts in_X5_meshesAllow_X5 hown hK hP 0 rfl rfl 2 (by decide) (hts _ wd_X5_meshesAllow_f34) (fun _ h9 => h9) rfl dX5_meshesAllow_12 ?_
      refine lv_iload_n hx hb dX5_meshesAllow_15 rfl (lv_at hl 1 rfl) ?_
      refine iv_iconst hx hb dX5_meshesAllow_16 ?_
      refine iv_isub hx hb dX5_meshesAllow_17 ?_
      obtain ⟨g9, h⟩ := gd_t h
      refine iv_iald (f := z.2.2.1) (j := (x1 - 1).toNat) hx hb hK hP 15 0 rfl rfl (by decide) g9 rfl dX5_meshesAllow_18 ?_
      refine lv_iload_n hx hb dX5_meshesAllow_19 rfl (lv_at hl 2 rfl) ?_
      obtain ⟨g10, h⟩ := gd_t h
      obtain ⟨g11, h⟩ := gd_t h
      refine iv_ile (tgt := 25) hx hb g10 g11 dX5_meshesAllow_20 (by decide) (fun c12 => ?_) (fun c12 => ?_)
      · have h := it_t c12 h
        refine lv_iload_n hx hb dX5_meshesAllow_25 rfl (lv_at hl 1 rfl) ?_
        refine iv_iconst hx hb dX5_meshesAllow_26 ?_
        refine iv_ieq (tgt := 42) hx hb g1 (by decide +kernel) dX5_meshesAllow_27 (by decide) (fun c13 => ?_) (fun c13 => ?_)
        · have h := it_t c13 h
          refine iv_iconst hx hb dX5_meshesAllow_42 ?_
          refine lv_goto (tgt := 47) hx hb dX5_meshesAllow_43 (by decide) ?_
          cases h
          exact iv_zret (r := 1) hx hb hr hlocks (by decide +kernel) hK hP hD hS dX5_meshesAllow_47
        · have h := it_f c13 h
          refine lv_iload_n hx hb dX5_meshesAllow_30 rfl (lv_at hl 2 rfl) ?_
          refine lv_aload_n hx hb dX5_meshesAllow_31 rfl (lv_at hl 0 rfl) ?_
          refine va_get (D := E.1) (ci := 5) (v := .ref (a 15)) (C := RX5) (T := TX5) (N := 8) hx hb hts in_X5_meshesAllow_X5 hown hK hP 0 rfl rfl 2 (by decide) (hts _ wd_X5_meshesAllow_f34) (fun _ h9 => h9) rfl dX5_meshesAllow_32 ?_
          refine lv_iload_n hx hb dX5_meshesAllow_35 rfl (lv_at hl 1 rfl) ?_
          refine iv_iconst hx hb dX5_meshesAllow_36 ?_
          refine iv_iadd hx hb dX5_meshesAllow_37 ?_
          obtain ⟨g14, h⟩ := gd_t h
          refine iv_iald (f := z.2.2.1) (j := (x1 + 1).toNat) hx hb hK hP 15 0 rfl rfl (by decide) g14 rfl dX5_meshesAllow_38 ?_
          obtain ⟨g15, h⟩ := gd_t h
          refine iv_igt (tgt := 46) hx hb g11 g15 dX5_meshesAllow_39 (by decide) (fun c16 => ?_) (fun c16 => ?_)
          · have h := it_t c16 h
            refine iv_iconst hx hb dX5_meshesAllow_46 ?_
            cases h
            exact iv_zret (r := 0) hx hb hr hlocks (by decide +kernel) hK hP hD hS dX5_meshesAllow_47
          · have h := it_f c16 h
            refine iv_iconst hx hb dX5_meshesAllow_42 ?_
            refine lv_goto (tgt := 47) hx hb dX5_meshesAllow_43 (by decide) ?_
            cases h
            exact iv_zret (r := 1) hx hb hr hlocks (by decide +kernel) hK hP hD hS dX5_meshesAllow_47
      · have h := it_f c12 h
        refine iv_iconst hx hb dX5_meshesAllow_23 ?_
        cases h
        exact iv_zret (r := 0) hx hb hr hlocks (by decide +kernel) hK hP hD hS dX5_meshesAllow_24
  · have h := it_f c2 h
    refine iv_iconst hx hb dX5_meshesAllow_5 ?_
    cases h
    exact iv_zret (r := 1) hx hb hr hlocks (by decide +kernel) hK hP hD hS dX5_meshesAllow_6
set_option maxRecDepth 20000 in
theorem wd_X5_copyFrom_f12 : Cond.fieldLink RX5 12 "ShirtButtons$State" "buttons" "LShirtButtons$Buttons;" ∈ wsX5_copyFrom := by decide +kernel
set_option maxRecDepth 20000 in
theorem in_X5_copyFrom_X5 : ∀ w ∈ u_ws RX5 TX5 8, w ∈ wsX5_copyFrom := by decide +kernel
set_option maxRecDepth 20000 in
theorem wd_X5_copyFrom_f21 : Cond.fieldLink RX5 21 "ShirtButtons$State" "places" "LShirtButtons$Places;" ∈ wsX5_copyFrom := by decide +kernel
set_option maxRecDepth 20000 in
theorem wd_X5_copyFrom_f53 : Cond.fieldLink RX5 53 "ShirtButtons$Buttons" "count" "I" ∈ wsX5_copyFrom := by decide +kernel
set_option maxRecDepth 20000 in
theorem in_X5_copyFrom_X1 : ∀ w ∈ u_ws RX1 TX1 7, w ∈ wsX5_copyFrom := by decide +kernel
set_option maxRecDepth 20000 in
theorem wd_X5_copyFrom_f34 : Cond.fieldLink RX5 34 "ShirtButtons$State" "settings" "[I" ∈ wsX5_copyFrom := by decide +kernel
set_option maxRecDepth 20000 in
theorem wd_X5_copyFrom_m151 : Cond.methodLink RX5 151 arraycopyName ∈ wsX5_copyFrom := by decide +kernel
set_option maxRecDepth 20000 in
theorem wd_X5_copyFrom_acn : Cond.native arraycopyName ∈ wsX5_copyFrom := by decide +kernel
set_option maxRecDepth 20000 in
theorem wd_X5_copyFrom_acs : Cond.static arraycopyName ∈ wsX5_copyFrom := by decide +kernel
set_option maxRecDepth 20000 in
theorem wd_X5_copyFrom_aci : Cond.initialized "java/lang/System" ∈ wsX5_copyFrom := by decide +kernel
set_option maxRecDepth 20000 in
theorem wd_X5_copyFrom_f37 : Cond.fieldLink RX5 37 "ShirtButtons$State" "shirtsMade" "I" ∈ wsX5_copyFrom := by decide +kernel
set_option maxRecDepth 20000 in
theorem wd_X5_copyFrom_f41 : Cond.fieldLink RX5 41 "ShirtButtons$State" "worthMade" "I" ∈ wsX5_copyFrom := by decide +kernel
set_option maxRecDepth 20000 in
theorem wd_X5_copyFrom_f44 : Cond.fieldLink RX5 44 "ShirtButtons$State" "sortingsDone" "I" ∈ wsX5_copyFrom := by decide +kernel
set_option maxRecDepth 20000 in
theorem wd_X5_copyFrom_f47 : Cond.fieldLink RX5 47 "ShirtButtons$State" "goneBack" "I" ∈ wsX5_copyFrom := by decide +kernel
set_option maxRecDepth 20000 in
theorem wd_X5_copyFrom_f50 : Cond.fieldLink RX5 50 "ShirtButtons$State" "rubbed" "I" ∈ wsX5_copyFrom := by decide +kernel
set_option maxHeartbeats 4000000 in
set_option maxRecDepth 100000 in
theorem k_X5_copyFrom (l : Launch) (E : wE) (a b : Nat → Nat) (sz : Nat) (z : bSS) (u : bSS) (hf : f_X5_copyFrom z = some u) : cV l yX5_copyFrom wsX5_copyFrom { frames := 2, cells := 0, slots := 0, locals := 48 } E sz [.ref (a 0), .ref (b 0)] (wSS a b E z) (wSS a b E u) := by
  refine met_go (cc := cX5_copyFrom) (maxL := 2) (ret := none) (Q0 := mQv E (wSS a b E u)) (by decide +kernel) rfl (Nat.le_of_ble_eq_true rfl) ?_
  intro A p e s m below meth c hx hb hr hml hts hown hlocks hP hK hD hA hS ls hl
  have hl : lv_has ls 2 [(0, .ref (a 0)), (1, .ref (b 0))] := hl
  generalize hH : s.heap = H at hP
  have hS : va_S A s.heap H [] := by rw [← hH]; exact hS
  have hown : s.vm.findClass RX5 = some m.cls := hown
  have h := hf
  rw [f_X5_copyFrom] at h
  refine lv_aload_n hx hb dX5_copyFrom_0 rfl (lv_at hl 0 rfl) ?_
  refine va_get (D := E.1) (ci := 5) (v := .ref (a 1)) (C := RX5) (T := TX5) (N := 8) hx hb hts in_X5_copyFrom_X5 hown hK hP 0 rfl rfl 0 (by decide) (hts _ wd_X5_copyFrom_f12) (fun _ h9 => h9) rfl dX5_copyFrom_1 ?_
  refine lv_aload_n hx hb dX5_copyFrom_4 rfl (lv_at hl 1 rfl) ?_
  refine va_get (D := E.1) (ci := 5) (v := .ref (b 1)) (C := RX5) (T := TX5) (N := 8) hx hb hts in_X5_copyFrom_X5 hown hK hP 16 rfl rfl 0 (by decide) (hts _ wd_X5_copyFrom_f12) (fun _ h9 => h9) rfl dX5_copyFrom_5 ?_
  obtain ⟨u1, q2, h⟩ := bd_t h
  obtain ⟨s3, e4, h⟩ := nm_t h
  obtain ⟨s5, e6, h⟩ := nm_t h
  refine iv_callV (As := [.ref (b 1)]) (rest := []) (wr := [0, 8, 9, 10, 11, 12, 13, 14, 15, 16, 24, 25, 26, 27, 28, 29, 30, 31].filterMap (fun i => (wSS a b E z)[i]?)) (ws1 := wSS a b E s5) ⟨hx, hb, hml, hown, hts⟩ (k_X1_copyFrom l E (fun i => a (1 + i)) (fun i => b (1 + i)) H.size  (z.1.1, z.2.1) u1 q2) (cwV 1 hts gX5_copyFrom_X1_copyFrom rfl rfl rfl (by decide +kernel) ⟨Nat.le_of_ble_eq_true rfl, Nat.le_of_ble_eq_true rfl⟩) hK hP hD hS hA 1 1 rfl rfl [1, 2, 3, 4, 5, 6, 7, 17, 18, 19, 20, 21, 22, 23] [0, 8, 9, 10, 11, 12, 13, 14, 15, 16, 24, 25, 26, 27, 28, 29, 30, 31] [0, 18, 19, 20, 21, 22, 23, 24, 1, 2, 3, 4, 5, 6, 7, 8, 9, 25, 26, 27, 28, 29, 30, 31, 10, 11, 12, 13, 14, 15, 16, 17] rfl rfl (by decide +kernel) (by decide +kernel) (by decide +kernel) (by rw [e6, e4]; rfl) (by decide +kernel) rfl hl.1 (Nat.le_of_ble_eq_true rfl) ⟨Nat.zero_le _, Nat.zero_le _⟩ dX5_copyFrom_8 (fun H locs hP hD hS => ?_)
  refine lv_aload_n hx hb dX5_copyFrom_11 rfl (lv_at hl 0 rfl) ?_
  refine va_get (D := E.1) (ci := 5) (v := .ref (a 8)) (C := RX5) (T := TX5) (N := 8) hx hb hts in_X5_copyFrom_X5 hown hK hP 0 rfl rfl 1 (by decide) (hts _ wd_X5_copyFrom_f21) (fun _ h9 => h9) rfl dX5_copyFrom_12 ?_
  refine lv_aload_n hx hb dX5_copyFrom_15 rfl (lv_at hl 1 rfl) ?_
  refine va_get (D := E.1) (ci := 5) (v := .ref (b 8)) (C := RX5) (T := TX5) (N := 8) hx hb hts in_X5_copyFrom_X5 hown hK hP 16 rfl rfl 1 (by decide) (hts _ wd_X5_copyFrom_f21) (fun _ h9 => h9) rfl dX5_copyFrom_16 ?_
  refine lv_aload_n hx hb dX5_copyFrom_19 rfl (lv_at hl 1 rfl) ?_
  refine va_get (D := E.1) (ci := 5) (v := .ref (b 1)) (C := RX5) (T := TX5) (N := 8) hx hb hts in_X5_copyFrom_X5 hown hK hP 16 rfl rfl 0 (by decide) (hts _ wd_X5_copyFrom_f12) (fun _ h9 => h9) rfl dX5_copyFrom_20 ?_
  refine va_get (D := E.1) (ci := 1) (v := .int (zi s5.2.1.2.2.2.2.2.2)) (C := RX1) (T := TX1) (N := 7) hx hb hts in_X5_copyFrom_X1 hown hK hP 17 rfl rfl 6 (by decide) (hts _ wd_X5_copyFrom_f53) (fun _ h9 => h9) rfl dX5_copyFrom_23 ?_
  obtain ⟨u7, q8, h⟩ := bd_t h
  obtain ⟨s9, e10, h⟩ := nm_t h
  obtain ⟨s11, e12, h⟩ := nm_t h
  refine iv_callV (As := [.ref (b 8), .int (zi s5.2.1.2.2.2.2.2.2)]) (rest := []) (wr := [0, 1, 2, 3, 4, 5, 6, 7, 15, 16, 17, 18, 19, 20, 21, 22, 23, 31].filterMap (fun i => (wSS a b E s5)[i]?)) (ws1 := wSS a b E s11) ⟨hx, hb, hml, hown, hts⟩ (k_X4_copyFrom l E (fun i => a (8 + i)) (fun i => b (8 + i)) H.size s5.2.1.2.2.2.2.2.2 (s5.1.2.1, s5.2.2.1) u7 q8) (cwV 2 hts gX5_copyFrom_X4_copyFrom rfl rfl rfl (by decide +kernel) ⟨Nat.le_of_ble_eq_true rfl, Nat.le_of_ble_eq_true rfl⟩) hK hP hD hS hA 8 4 rfl rfl [8, 9, 10, 11, 12, 13, 14, 24, 25, 26, 27, 28, 29, 30] [0, 1, 2, 3, 4, 5, 6, 7, 15, 16, 17, 18, 19, 20, 21, 22, 23, 31] [0, 1, 2, 3, 4, 5, 6, 7, 18, 19, 20, 21, 22, 23, 24, 8, 9, 10, 11, 12, 13, 14, 15, 16, 25, 26, 27, 28, 29, 30, 31, 17] rfl rfl (by decide +kernel) (by decide +kernel) (by decide +kernel) (by rw [e12, e10]; rfl) (by decide +kernel) rfl hl.1 (Nat.le_of_ble_eq_true rfl) ⟨Nat.zero_le _, Nat.zero_le _⟩ dX5_copyFrom_26 (fun H locs hP hD hS => ?_)
  refine lv_aload_n hx hb dX5_copyFrom_29 rfl (lv_at hl 1 rfl) ?_
  refine va_get (D := E.1) (ci := 5) (v := .ref (b 15)) (C := RX5) (T := TX5) (N := 8) hx hb hts in_X5_copyFrom_X5 hown hK hP 16 rfl rfl 2 (by decide) (hts _ wd_X5_copyFrom_f34) (fun _ h9 => h9) rfl dX5_copyFrom_30 ?_
  refine iv_iconst hx hb dX5_copyFrom_33 ?_
  refine lv_aload_n hx hb dX5_copyFrom_34 rfl (lv_at hl 0 rfl) ?_
  refine va_get (D := E.1) (ci := 5) (v := .ref (a 15)) (C := RX5) (T := TX5) (N := 8) hx hb hts in_X5_copyFrom_X5 hown hK hP 0 rfl rfl 2 (by decide) (hts _ wd_X5_copyFrom_f34) (fun _ h9 => h9) rfl dX5_copyFrom_35 ?_
  refine iv_iconst hx hb dX5_copyFrom_38 ?_
  refine iv_bipush hx hb dX5_copyFrom_39 (by decide +kernel) ?_
  obtain ⟨s13, e14, h⟩ := nm_t h
  refine iv_copy (f := s11.2.2.2.1) (g := s11.1.2.2.1) (sp' := 0) (dp' := 0) (K := 9) (ws1 := wSS a b E s13) hx hb (hml.trans hl.1.symm) hown (hts _ wd_X5_copyFrom_m151) (hts _ wd_X5_copyFrom_acn) (hts _ wd_X5_copyFrom_acs) (hts _ wd_X5_copyFrom_aci) hK hP hD hS 31 15 0 0 rfl rfl rfl rfl (by decide +kernel) (by decide +kernel) rfl rfl (by decide +kernel) (by decide) (by decide) (by decide) (by decide) (Nat.le_of_ble_eq_true (by decide +kernel)) (by rw [e14]; rfl) dX5_copyFrom_41 (fun H locs hP hD hS => ?_)
  refine lv_aload_n hx hb dX5_copyFrom_44 rfl (lv_at hl 0 rfl) ?_
  refine lv_aload_n hx hb dX5_copyFrom_45 rfl (lv_at hl 1 rfl) ?_
  refine va_get (D := E.1) (ci := 5) (v := .int (zi s13.2.2.2.2.1)) (C := RX5) (T := TX5) (N := 8) hx hb hts in_X5_copyFrom_X5 hown hK hP 16 rfl rfl 3 (by decide) (hts _ wd_X5_copyFrom_f37) (fun _ h9 => h9) rfl dX5_copyFrom_46 ?_
  obtain ⟨s15, e16, h⟩ := nm_t h
  refine iv_put (D := E.1) (ci := 5) (v := .int (zi s13.2.2.2.2.1)) (ty := .int) (ws1 := wSS a b E s15) (C := RX5) (T := TX5) (N := 8) hx hb hts in_X5_copyFrom_X5 tyX5 tyX5_ok nmX5 hown hK hP hD hS 0 rfl rfl 3 (by decide) (hts _ wd_X5_copyFrom_f37) (fun _ h9 => h9) rfl (by decide +kernel) rfl rfl (Nat.le_of_ble_eq_true rfl) (by rw [e16]; rfl) dX5_copyFrom_49 (fun H locs hP hD hS => ?_)
  refine lv_aload_n hx hb dX5_copyFrom_52 rfl (lv_at hl 0 rfl) ?_
  refine lv_aload_n hx hb dX5_copyFrom_53 rfl (lv_at hl 1 rfl) ?_
  refine va_get (D := E.1) (ci := 5) (v := .int (zi s15.2.2.2.2.2.1)) (C := RX5) (T := TX5) (N := 8) hx hb hts in_X5_copyFrom_X5 hown hK hP 16 rfl rfl 4 (by decide) (hts _ wd_X5_copyFrom_f41) (fun _ h9 => h9) rfl dX5_copyFrom_54 ?_
  obtain ⟨s17, e18, h⟩ := nm_t h
  refine iv_put (D := E.1) (ci := 5) (v := .int (zi s15.2.2.2.2.2.1)) (ty := .int) (ws1 := wSS a b E s17) (C := RX5) (T := TX5) (N := 8) hx hb hts in_X5_copyFrom_X5 tyX5 tyX5_ok nmX5 hown hK hP hD hS 0 rfl rfl 4 (by decide) (hts _ wd_X5_copyFrom_f41) (fun _ h9 => h9) rfl (by decide +kernel) rfl rfl (Nat.le_of_ble_eq_true rfl) (by rw [e18]; rfl) dX5_copyFrom_57 (fun H locs hP hD hS => ?_)
  refine lv_aload_n hx hb dX5_copyFrom_60 rfl (lv_at hl 0 rfl) ?_
  refine lv_aload_n hx hb dX5_copyFrom_61 rfl (lv_at hl 1 rfl) ?_
  refine va_get (D := E.1) (ci := 5) (v := .int (zi s17.2.2.2.2.2.2.1)) (C := RX5) (T := TX5) (N := 8) hx hb hts in_X5_copyFrom_X5 hown hK hP 16 rfl rfl 5 (by decide) (hts _ wd_X5_copyFrom_f44) (fun _ h9 => h9) rfl dX5_copyFrom_62 ?_
  obtain ⟨s19, e20, h⟩ := nm_t h
  refine iv_put (D := E.1) (ci := 5) (v := .int (zi s17.2.2.2.2.2.2.1)) (ty := .int) (ws1 := wSS a b E s19) (C := RX5) (T := TX5) (N := 8) hx hb hts in_X5_copyFrom_X5 tyX5 tyX5_ok nmX5 hown hK hP hD hS 0 rfl rfl 5 (by decide) (hts _ wd_X5_copyFrom_f44) (fun _ h9 => h9) rfl (by decide +kernel) rfl rfl (Nat.le_of_ble_eq_true rfl) (by rw [e20]; rfl) dX5_copyFrom_65 (fun H locs hP hD hS => ?_)
  refine lv_aload_n hx hb dX5_copyFrom_68 rfl (lv_at hl 0 rfl) ?_
  refine lv_aload_n hx hb dX5_copyFrom_69 rfl (lv_at hl 1 rfl) ?_
  refine va_get (D := E.1) (ci := 5) (v := .int (zi s19.2.2.2.2.2.2.2.1)) (C := RX5) (T := TX5) (N := 8) hx hb hts in_X5_copyFrom_X5 hown hK hP 16 rfl rfl 6 (by decide) (hts _ wd_X5_copyFrom_f47) (fun _ h9 => h9) rfl dX5_copyFrom_70 ?_
  obtain ⟨s21, e22, h⟩ := nm_t h
  refine iv_put (D := E.1) (ci := 5) (v := .int (zi s19.2.2.2.2.2.2.2.1)) (ty := .int) (ws1 := wSS a b E s21) (C := RX5) (T := TX5) (N := 8) hx hb hts in_X5_copyFrom_X5 tyX5 tyX5_ok nmX5 hown hK hP hD hS 0 rfl rfl 6 (by decide) (hts _ wd_X5_copyFrom_f47) (fun _ h9 => h9) rfl (by decide +kernel) rfl rfl (Nat.le_of_ble_eq_true rfl) (by rw [e22]; rfl) dX5_copyFrom_73 (fun H locs hP hD hS => ?_)
  refine lv_aload_n hx hb dX5_copyFrom_76 rfl (lv_at hl 0 rfl) ?_
  refine lv_aload_n hx hb dX5_copyFrom_77 rfl (lv_at hl 1 rfl) ?_
  refine va_get (D := E.1) (ci := 5) (v := .int (zi s21.2.2.2.2.2.2.2.2)) (C := RX5) (T := TX5) (N := 8) hx hb hts in_X5_copyFrom_X5 hown hK hP 16 rfl rfl 7 (by decide) (hts _ wd_X5_copyFrom_f50) (fun _ h9 => h9) rfl dX5_copyFrom_78 ?_
  obtain ⟨s23, e24, h⟩ := nm_t h
  refine iv_put (D := E.1) (ci := 5) (v := .int (zi s21.2.2.2.2.2.2.2.2)) (ty := .int) (ws1 := wSS a b E s23) (C := RX5) (T := TX5) (N := 8) hx hb hts in_X5_copyFrom_X5 tyX5 tyX5_ok nmX5 hown hK hP hD hS 0 rfl rfl 7 (by decide) (hts _ wd_X5_copyFrom_f50) (fun _ h9 => h9) rfl (by decide +kernel) rfl rfl (Nat.le_of_ble_eq_true rfl) (by rw [e24]; rfl) dX5_copyFrom_81 (fun H locs hP hD hS => ?_)
  cases h
  exact iv_vret hx hb hr hlocks hK hP hD hS dX5_copyFrom_84
set_option maxRecDepth 20000 in
theorem wd_X3_insert_f18 : Cond.fieldLink RX3 18 "ShirtButtons$Order" "count" "I" ∈ wsX3_insert := by decide +kernel
set_option maxRecDepth 20000 in
theorem in_X3_insert_X3 : ∀ w ∈ u_ws RX3 TX3 3, w ∈ wsX3_insert := by decide +kernel
set_option maxRecDepth 20000 in
theorem wd_X3_insert_f9 : Cond.fieldLink RX3 9 "ShirtButtons$Order" "numbers" "[I" ∈ wsX3_insert := by decide +kernel
set_option maxRecDepth 20000 in
theorem wd_X3_insert_f15 : Cond.fieldLink RX3 15 "ShirtButtons$Order" "shine" "[I" ∈ wsX3_insert := by decide +kernel
set_option maxHeartbeats 4000000 in
set_option maxRecDepth 100000 in
theorem k_X3_insert (l : Launch) (E : wE) (a : Nat → Nat) (sz : Nat) (N : Nat) (x1 x2 : Int) (z : bO) (u : bO) (hf : f_X3_insert N x1 x2 z = some u) : cV l yX3_insert wsX3_insert { frames := 0, cells := 0, slots := 0, locals := 0 } E sz [.ref (a 0), .int (zi x1), .int (zi x2)] (wO a E z) (wO a E u) := by
  refine met_go (cc := cX3_insert) (maxL := 4) (ret := none) (Q0 := mQv E (wO a E u)) (by decide +kernel) rfl (Nat.le_of_ble_eq_true rfl) ?_
  intro A p e s m below meth c hx hb hr hml hts hown hlocks hP hK hD hA hS ls hl
  have hl : lv_has ls 4 [(0, .ref (a 0)), (1, .int (zi x1)), (2, .int (zi x2))] := hl
  generalize hH : s.heap = H at hP
  have hS : va_S A s.heap H [] := by rw [← hH]; exact hS
  have hown : s.vm.findClass RX3 = some m.cls := hown
  have loop5 : ∀ (n : Nat) (v1 v2 v3 : Int) (s4 : bO) (H : Heap) (locs : List Loc) (ls : Array Slot), f_X3_insert_L5 N n v1 v2 v3 s4 = some u → va_P E.1 vwCl (wO a E s4) H → va_D A (wO a E s4) → va_S A s.heap H locs → lv_has ls 4 [(0, .ref (a 0)), (1, .int (zi v1)), (2, .int (zi v2)), (3, .int (zi v3))] → W p l e ({ frames := 0, cells := 0, slots := 0, locals := 0 }) s m ([.ref (a 0), .int (zi x1), .int (zi x2)] : List Value).toArray below meth c H locs 0 0 (MQ below (mQv E (wO a E u) A) ([.ref (a 0), .int (zi x1), .int (zi x2)] : List Value).toArray s 0 0 A) (F0 m 5 ls []) := by
    intro n
    induction n with
    | zero =>
      intro v1 v2 v3 s4 H locs ls h
      exact absurd (show (none : Option bO) = some u from h) (by simp)
    | succ n ih =>
      intro v1 v2 v3 s4 H locs ls h hP hD hS hl
      rw [f_X3_insert_L5] at h
      refine lv_iload_n hx hb dX3_insert_5 rfl (lv_at hl 3 rfl) ?_
      obtain ⟨g5, h⟩ := gd_t h
      refine iv_le (tgt := 55) hx hb g5 dX3_insert_6 (by decide) (fun c6 => ?_) (fun c6 => ?_)
      · have h := it_t c6 h
        refine lv_aload_n hx hb dX3_insert_55 rfl (lv_at hl 0 rfl) ?_
        refine va_get (D := E.1) (ci := 3) (v := .ref (a 1)) (C := RX3) (T := TX3) (N := 3) hx hb hts in_X3_insert_X3 hown hK hP 0 rfl rfl 0 (by decide) (hts _ wd_X3_insert_f9) (fun _ h9 => h9) rfl dX3_insert_56 ?_
        refine lv_iload_n hx hb dX3_insert_59 rfl (lv_at hl 3 rfl) ?_
        refine lv_iload_n hx hb dX3_insert_60 rfl (lv_at hl 1 rfl) ?_
        obtain ⟨g7, h⟩ := gd_t h
        obtain ⟨s8, e9, h⟩ := nm_t h
        refine iv_iast (f := s4.1) (j := v3.toNat) (ws1 := wO a E s8) hx hb hK hP hD hS 1 0 rfl rfl (by decide) g7 rfl (by rw [e9]; rfl) dX3_insert_61 (fun H locs hP hD hS => ?_)
        refine lv_aload_n hx hb dX3_insert_62 rfl (lv_at hl 0 rfl) ?_
        refine va_get (D := E.1) (ci := 3) (v := .ref (a 2)) (C := RX3) (T := TX3) (N := 3) hx hb hts in_X3_insert_X3 hown hK hP 0 rfl rfl 1 (by decide) (hts _ wd_X3_insert_f15) (fun _ h9 => h9) rfl dX3_insert_63 ?_
        refine lv_iload_n hx hb dX3_insert_66 rfl (lv_at hl 3 rfl) ?_
        refine lv_iload_n hx hb dX3_insert_67 rfl (lv_at hl 2 rfl) ?_
        obtain ⟨s10, e11, h⟩ := nm_t h
        refine iv_iast (f := s8.2.1) (j := v3.toNat) (ws1 := wO a E s10) hx hb hK hP hD hS 2 0 rfl rfl (by decide) g7 rfl (by rw [e11]; rfl) dX3_insert_68 (fun H locs hP hD hS => ?_)
        refine lv_aload_n hx hb dX3_insert_69 rfl (lv_at hl 0 rfl) ?_
        refine lv_dup hx hb dX3_insert_70 rfl ?_
        refine va_get (D := E.1) (ci := 3) (v := .int (zi s10.2.2)) (C := RX3) (T := TX3) (N := 3) hx hb hts in_X3_insert_X3 hown hK hP 0 rfl rfl 2 (by decide) (hts _ wd_X3_insert_f18) (fun _ h9 => h9) rfl dX3_insert_71 ?_
        refine iv_iconst hx hb dX3_insert_74 ?_
        refine iv_iadd hx hb dX3_insert_75 ?_
        obtain ⟨s12, e13, h⟩ := nm_t h
        refine iv_put (D := E.1) (ci := 3) (v := .int (zi (s10.2.2 + 1))) (ty := .int) (ws1 := wO a E s12) (C := RX3) (T := TX3) (N := 3) hx hb hts in_X3_insert_X3 tyX3 tyX3_ok nmX3 hown hK hP hD hS 0 rfl rfl 2 (by decide) (hts _ wd_X3_insert_f18) (fun _ h9 => h9) rfl (by decide +kernel) rfl rfl (Nat.le_of_ble_eq_true rfl) (by rw [e13]; rfl) dX3_insert_76 (fun H locs hP hD hS => ?_)
        cases h
        exact iv_vret hx hb hr hlocks hK hP hD hS dX3_insert_79
      · have h := it_f c6 h
        refine lv_aload_n hx hb dX3_insert_9 rfl (lv_at hl 0 rfl) ?_
        refine va_get (D := E.1) (ci := 3) (v := .ref (a 2)) (C := RX3) (T := TX3) (N := 3) hx hb hts in_X3_insert_X3 hown hK hP 0 rfl rfl 1 (by decide) (hts _ wd_X3_insert_f15) (fun _ h9 => h9) rfl dX3_insert_10 ?_
        refine lv_iload_n hx hb dX3_insert_13 rfl (lv_at hl 3 rfl) ?_
        refine iv_iconst hx hb dX3_insert_14 ?_
        refine iv_isub hx hb dX3_insert_15 ?_
        obtain ⟨g14, h⟩ := gd_t h
        refine iv_iald (f := s4.2.1) (j := (v3 - 1).toNat) hx hb hK hP 2 0 rfl rfl (by decide) g14 rfl dX3_insert_16 ?_
        refine lv_iload_n hx hb dX3_insert_17 rfl (lv_at hl 2 rfl) ?_
        obtain ⟨g15, h⟩ := gd_t h
        obtain ⟨g16, h⟩ := gd_t h
        refine iv_ile (tgt := 55) hx hb g15 g16 dX3_insert_18 (by decide) (fun c17 => ?_) (fun c17 => ?_)
        · have h := it_t c17 h
          refine lv_aload_n hx hb dX3_insert_55 rfl (lv_at hl 0 rfl) ?_
          refine va_get (D := E.1) (ci := 3) (v := .ref (a 1)) (C := RX3) (T := TX3) (N := 3) hx hb hts in_X3_insert_X3 hown hK hP 0 rfl rfl 0 (by decide) (hts _ wd_X3_insert_f9) (fun _ h9 => h9) rfl dX3_insert_56 ?_
          refine lv_iload_n hx hb dX3_insert_59 rfl (lv_at hl 3 rfl) ?_
          refine lv_iload_n hx hb dX3_insert_60 rfl (lv_at hl 1 rfl) ?_
          obtain ⟨g18, h⟩ := gd_t h
          obtain ⟨s19, e20, h⟩ := nm_t h
          refine iv_iast (f := s4.1) (j := v3.toNat) (ws1 := wO a E s19) hx hb hK hP hD hS 1 0 rfl rfl (by decide) g18 rfl (by rw [e20]; rfl) dX3_insert_61 (fun H locs hP hD hS => ?_)
          refine lv_aload_n hx hb dX3_insert_62 rfl (lv_at hl 0 rfl) ?_
          refine va_get (D := E.1) (ci := 3) (v := .ref (a 2)) (C := RX3) (T := TX3) (N := 3) hx hb hts in_X3_insert_X3 hown hK hP 0 rfl rfl 1 (by decide) (hts _ wd_X3_insert_f15) (fun _ h9 => h9) rfl dX3_insert_63 ?_
          refine lv_iload_n hx hb dX3_insert_66 rfl (lv_at hl 3 rfl) ?_
          refine lv_iload_n hx hb dX3_insert_67 rfl (lv_at hl 2 rfl) ?_
          obtain ⟨s21, e22, h⟩ := nm_t h
          refine iv_iast (f := s19.2.1) (j := v3.toNat) (ws1 := wO a E s21) hx hb hK hP hD hS 2 0 rfl rfl (by decide) g18 rfl (by rw [e22]; rfl) dX3_insert_68 (fun H locs hP hD hS => ?_)
          refine lv_aload_n hx hb dX3_insert_69 rfl (lv_at hl 0 rfl) ?_
          refine lv_dup hx hb dX3_insert_70 rfl ?_
          refine va_get (D := E.1) (ci := 3) (v := .int (zi s21.2.2)) (C := RX3) (T := TX3) (N := 3) hx hb hts in_X3_insert_X3 hown hK hP 0 rfl rfl 2 (by decide) (hts _ wd_X3_insert_f18) (fun _ h9 => h9) rfl dX3_insert_71 ?_
          refine iv_iconst hx hb dX3_insert_74 ?_
          refine iv_iadd hx hb dX3_insert_75 ?_
          obtain ⟨s23, e24, h⟩ := nm_t h
          refine iv_put (D := E.1) (ci := 3) (v := .int (zi (s21.2.2 + 1))) (ty := .int) (ws1 := wO a E s23) (C := RX3) (T := TX3) (N := 3) hx hb hts in_X3_insert_X3 tyX3 tyX3_ok nmX3 hown hK hP hD hS 0 rfl rfl 2 (by decide) (hts _ wd_X3_insert_f18) (fun _ h9 => h9) rfl (by decide +kernel) rfl rfl (Nat.le_of_ble_eq_true rfl) (by rw [e24]; rfl) dX3_insert_76 (fun H locs hP hD hS => ?_)
          cases h
          exact iv_vret hx hb hr hlocks hK hP hD hS dX3_insert_79
        · have h := it_f c17 h
          refine lv_aload_n hx hb dX3_insert_21 rfl (lv_at hl 0 rfl) ?_
          refine va_get (D := E.1) (ci := 3) (v := .ref (a 1)) (C := RX3) (T := TX3) (N := 3) hx hb hts in_X3_insert_X3 hown hK hP 0 rfl rfl 0 (by decide) (hts _ wd_X3_insert_f9) (fun _ h9 => h9) rfl dX3_insert_22 ?_
          refine lv_iload_n hx hb dX3_insert_25 rfl (lv_at hl 3 rfl) ?_
          refine lv_aload_n hx hb dX3_insert_26 rfl (lv_at hl 0 rfl) ?_
          refine va_get (D := E.1) (ci := 3) (v := .ref (a 1)) (C := RX3) (T := TX3) (N := 3) hx hb hts in_X3_insert_X3 hown hK hP 0 rfl rfl 0 (by decide) (hts _ wd_X3_insert_f9) (fun _ h9 => h9) rfl dX3_insert_27 ?_
          refine lv_iload_n hx hb dX3_insert_30 rfl (lv_at hl 3 rfl) ?_
          refine iv_iconst hx hb dX3_insert_31 ?_
          refine iv_isub hx hb dX3_insert_32 ?_
          refine iv_iald (f := s4.1) (j := (v3 - 1).toNat) hx hb hK hP 1 0 rfl rfl (by decide) g14 rfl dX3_insert_33 ?_
          obtain ⟨g25, h⟩ := gd_t h
          obtain ⟨s26, e27, h⟩ := nm_t h
          refine iv_iast (f := s4.1) (j := v3.toNat) (ws1 := wO a E s26) hx hb hK hP hD hS 1 0 rfl rfl (by decide) g25 rfl (by rw [e27]; rfl) dX3_insert_34 (fun H locs hP hD hS => ?_)
          refine lv_aload_n hx hb dX3_insert_35 rfl (lv_at hl 0 rfl) ?_
          refine va_get (D := E.1) (ci := 3) (v := .ref (a 2)) (C := RX3) (T := TX3) (N := 3) hx hb hts in_X3_insert_X3 hown hK hP 0 rfl rfl 1 (by decide) (hts _ wd_X3_insert_f15) (fun _ h9 => h9) rfl dX3_insert_36 ?_
          refine lv_iload_n hx hb dX3_insert_39 rfl (lv_at hl 3 rfl) ?_
          refine lv_aload_n hx hb dX3_insert_40 rfl (lv_at hl 0 rfl) ?_
          refine va_get (D := E.1) (ci := 3) (v := .ref (a 2)) (C := RX3) (T := TX3) (N := 3) hx hb hts in_X3_insert_X3 hown hK hP 0 rfl rfl 1 (by decide) (hts _ wd_X3_insert_f15) (fun _ h9 => h9) rfl dX3_insert_41 ?_
          refine lv_iload_n hx hb dX3_insert_44 rfl (lv_at hl 3 rfl) ?_
          refine iv_iconst hx hb dX3_insert_45 ?_
          refine iv_isub hx hb dX3_insert_46 ?_
          refine iv_iald (f := s26.2.1) (j := (v3 - 1).toNat) hx hb hK hP 2 0 rfl rfl (by decide) g14 rfl dX3_insert_47 ?_
          obtain ⟨s28, e29, h⟩ := nm_t h
          refine iv_iast (f := s26.2.1) (j := v3.toNat) (ws1 := wO a E s28) hx hb hK hP hD hS 2 0 rfl rfl (by decide) g25 rfl (by rw [e29]; rfl) dX3_insert_48 (fun H locs hP hD hS => ?_)
          refine lv_iinc (v := zi (v3 + (-1))) (lv' := [(3, .int (zi (v3 + (-1)))), (0, .ref (a 0)), (1, .int (zi v1)), (2, .int (zi v2))]) hx hb dX3_insert_49 hl (k := 3) rfl (by rw [zi_add]; rfl) (by decide) rfl (fun ls hl => ?_)
          refine lv_goto (tgt := 5) hx hb dX3_insert_52 (by decide) ?_
          exact ih v1 v2 (v3 + (-1)) s28 _ _ _ h hP hD hS (lv_sub hl [1, 2, 3, 0] rfl)
  have h := hf
  rw [f_X3_insert] at h
  refine lv_aload_n hx hb dX3_insert_0 rfl (lv_at hl 0 rfl) ?_
  refine va_get (D := E.1) (ci := 3) (v := .int (zi z.2.2)) (C := RX3) (T := TX3) (N := 3) hx hb hts in_X3_insert_X3 hown hK hP 0 rfl rfl 2 (by decide) (hts _ wd_X3_insert_f18) (fun _ h9 => h9) rfl dX3_insert_1 ?_
  refine lv_istore_n (lv' := [(3, .int (zi z.2.2)), (0, .ref (a 0)), (1, .int (zi x1)), (2, .int (zi x2))]) hx hb dX3_insert_4 rfl hl (by decide) rfl (fun ls hl => ?_)
  exact loop5 N x1 x2 z.2.2 z _ _ _ h hP hD hS (lv_sub hl [1, 2, 3, 0] rfl)
set_option maxRecDepth 20000 in
theorem wd_X3_fill_f18 : Cond.fieldLink RX3 18 "ShirtButtons$Order" "count" "I" ∈ wsX3_fill := by decide +kernel
set_option maxRecDepth 20000 in
theorem in_X3_fill_X3 : ∀ w ∈ u_ws RX3 TX3 3, w ∈ wsX3_fill := by decide +kernel
set_option maxRecDepth 20000 in
theorem wd_X3_fill_f22 : Cond.fieldLink RX3 22 "ShirtButtons$State" "buttons" "LShirtButtons$Buttons;" ∈ wsX3_fill := by decide +kernel
set_option maxRecDepth 20000 in
theorem in_X3_fill_X5 : ∀ w ∈ u_ws RX5 TX5 8, w ∈ wsX3_fill := by decide +kernel
set_option maxRecDepth 20000 in
theorem wd_X3_fill_f28 : Cond.fieldLink RX3 28 "ShirtButtons$Buttons" "count" "I" ∈ wsX3_fill := by decide +kernel
set_option maxRecDepth 20000 in
theorem in_X3_fill_X1 : ∀ w ∈ u_ws RX1 TX1 7, w ∈ wsX3_fill := by decide +kernel
set_option maxRecDepth 20000 in
theorem wd_X3_fill_f31 : Cond.fieldLink RX3 31 "ShirtButtons$State" "places" "LShirtButtons$Places;" ∈ wsX3_fill := by decide +kernel
set_option maxRecDepth 20000 in
theorem wd_X3_fill_f35 : Cond.fieldLink RX3 35 "ShirtButtons$Places" "binOf" "[I" ∈ wsX3_fill := by decide +kernel
set_option maxRecDepth 20000 in
theorem in_X3_fill_X4 : ∀ w ∈ u_ws RX4 TX4 6, w ∈ wsX3_fill := by decide +kernel
set_option maxRecDepth 20000 in
theorem wd_X3_fill_f40 : Cond.fieldLink RX3 40 "ShirtButtons$Buttons" "shine" "[I" ∈ wsX3_fill := by decide +kernel
set_option maxHeartbeats 4000000 in
set_option maxRecDepth 100000 in
theorem k_X3_fill (l : Launch) (E : wE) (a b : Nat → Nat) (sz : Nat) (N : Nat) (x2 : Int) (z : bOS) (u : bOS) (hf : f_X3_fill N x2 z = some u) : cV l yX3_fill wsX3_fill { frames := 1, cells := 0, slots := 0, locals := 23 } E sz [.ref (a 0), .ref (b 0), .int (zi x2)] (wOS a b E z) (wOS a b E u) := by
  refine met_go (cc := cX3_fill) (maxL := 4) (ret := none) (Q0 := mQv E (wOS a b E u)) (by decide +kernel) rfl (Nat.le_of_ble_eq_true rfl) ?_
  intro A p e s m below meth c hx hb hr hml hts hown hlocks hP hK hD hA hS ls hl
  have hl : lv_has ls 4 [(0, .ref (a 0)), (1, .ref (b 0)), (2, .int (zi x2))] := hl
  generalize hH : s.heap = H at hP
  have hS : va_S A s.heap H [] := by rw [← hH]; exact hS
  have hown : s.vm.findClass RX3 = some m.cls := hown
  have loop7 : ∀ (n : Nat) (v3 v4 : Int) (s5 : bOS) (H : Heap) (locs : List Loc) (ls : Array Slot), f_X3_fill_L7 N n v3 v4 s5 = some u → va_P E.1 vwCl (wOS a b E s5) H → va_D A (wOS a b E s5) → va_S A s.heap H locs → lv_has ls 4 [(0, .ref (a 0)), (1, .ref (b 0)), (2, .int (zi v3)), (3, .int (zi v4))] → W p l e ({ frames := 1, cells := 0, slots := 0, locals := 23 }) s m ([.ref (a 0), .ref (b 0), .int (zi x2)] : List Value).toArray below meth c H locs 0 0 (MQ below (mQv E (wOS a b E u) A) ([.ref (a 0), .ref (b 0), .int (zi x2)] : List Value).toArray s 0 0 A) (F0 m 7 ls []) := by
    intro n
    induction n with
    | zero =>
      intro v3 v4 s5 H locs ls h
      exact absurd (show (none : Option bOS) = some u from h) (by simp)
    | succ n ih =>
      intro v3 v4 s5 H locs ls h hP hD hS hl
      rw [f_X3_fill_L7] at h
      refine lv_iload_n hx hb dX3_fill_7 rfl (lv_at hl 3 rfl) ?_
      refine lv_aload_n hx hb dX3_fill_8 rfl (lv_at hl 1 rfl) ?_
      refine va_get (D := E.1) (ci := 5) (v := .ref (b 1)) (C := RX5) (T := TX5) (N := 8) hx hb hts in_X3_fill_X5 hown hK hP 3 rfl rfl 0 (by decide) (hts _ wd_X3_fill_f22) (fun _ h9 => h9) rfl dX3_fill_9 ?_
      refine va_get (D := E.1) (ci := 1) (v := .int (zi s5.2.1.2.2.2.2.2.2)) (C := RX1) (T := TX1) (N := 7) hx hb hts in_X3_fill_X1 hown hK hP 4 rfl rfl 6 (by decide) (hts _ wd_X3_fill_f28) (fun _ h9 => h9) rfl dX3_fill_12 ?_
      obtain ⟨g6, h⟩ := gd_t h
      obtain ⟨g7, h⟩ := gd_t h
      refine iv_ige (tgt := 51) hx hb g6 g7 dX3_fill_15 (by decide) (fun c8 => ?_) (fun c8 => ?_)
      · have h := it_t c8 h
        cases h
        exact iv_vret hx hb hr hlocks hK hP hD hS dX3_fill_51
      · have h := it_f c8 h
        refine lv_aload_n hx hb dX3_fill_18 rfl (lv_at hl 1 rfl) ?_
        refine va_get (D := E.1) (ci := 5) (v := .ref (b 8)) (C := RX5) (T := TX5) (N := 8) hx hb hts in_X3_fill_X5 hown hK hP 3 rfl rfl 1 (by decide) (hts _ wd_X3_fill_f31) (fun _ h9 => h9) rfl dX3_fill_19 ?_
        refine va_get (D := E.1) (ci := 4) (v := .ref (b 10)) (C := RX4) (T := TX4) (N := 6) hx hb hts in_X3_fill_X4 hown hK hP 11 rfl rfl 1 (by decide) (hts _ wd_X3_fill_f35) (fun _ h9 => h9) rfl dX3_fill_22 ?_
        refine lv_iload_n hx hb dX3_fill_25 rfl (lv_at hl 3 rfl) ?_
        obtain ⟨g9, h⟩ := gd_t h
        refine iv_iald (f := s5.2.2.1.2.1) (j := v4.toNat) hx hb hK hP 13 0 rfl rfl (by decide) g9 rfl dX3_fill_26 ?_
        refine lv_iload_n hx hb dX3_fill_27 rfl (lv_at hl 2 rfl) ?_
        obtain ⟨g10, h⟩ := gd_t h
        obtain ⟨g11, h⟩ := gd_t h
        refine iv_ine (tgt := 45) hx hb g10 g11 dX3_fill_28 (by decide) (fun c12 => ?_) (fun c12 => ?_)
        · have h := it_f c12 h
          refine lv_iinc (v := zi (v4 + 1)) (lv' := [(3, .int (zi (v4 + 1))), (0, .ref (a 0)), (1, .ref (b 0)), (2, .int (zi v3))]) hx hb dX3_fill_45 hl (k := 3) rfl (by rw [zi_add]; rfl) (by decide) rfl (fun ls hl => ?_)
          refine lv_goto (tgt := 7) hx hb dX3_fill_48 (by decide) ?_
          exact ih v3 (v4 + 1) s5 _ _ _ h hP hD hS (lv_sub hl [1, 2, 3, 0] rfl)
        · have h := it_t c12 h
          refine lv_aload_n hx hb dX3_fill_31 rfl (lv_at hl 0 rfl) ?_
          refine lv_iload_n hx hb dX3_fill_32 rfl (lv_at hl 3 rfl) ?_
          refine lv_aload_n hx hb dX3_fill_33 rfl (lv_at hl 1 rfl) ?_
          refine va_get (D := E.1) (ci := 5) (v := .ref (b 1)) (C := RX5) (T := TX5) (N := 8) hx hb hts in_X3_fill_X5 hown hK hP 3 rfl rfl 0 (by decide) (hts _ wd_X3_fill_f22) (fun _ h9 => h9) rfl dX3_fill_34 ?_
          refine va_get (D := E.1) (ci := 1) (v := .ref (b 6)) (C := RX1) (T := TX1) (N := 7) hx hb hts in_X3_fill_X1 hown hK hP 4 rfl rfl 4 (by decide) (hts _ wd_X3_fill_f40) (fun _ h9 => h9) rfl dX3_fill_37 ?_
          refine lv_iload_n hx hb dX3_fill_40 rfl (lv_at hl 3 rfl) ?_
          refine iv_iald (f := s5.2.1.2.2.2.2.1) (j := v4.toNat) hx hb hK hP 9 0 rfl rfl (by decide) g9 rfl dX3_fill_41 ?_
          obtain ⟨u13, q14, h⟩ := bd_t h
          obtain ⟨s15, e16, h⟩ := nm_t h
          refine iv_callV (As := [.int (zi v4), .int (zi (s5.2.1.2.2.2.2.1 v4.toNat))]) (rest := []) (wr := [3, 4, 5, 6, 7, 8, 9, 10, 11, 12, 13, 14, 15, 16, 17, 18].filterMap (fun i => (wOS a b E s5)[i]?)) (ws1 := wOS a b E s15) ⟨hx, hb, hml, hown, hts⟩ (k_X3_insert l E a H.size N v4 (s5.2.1.2.2.2.2.1 v4.toNat) s5.1 u13 q14) (cwV 2 hts gX3_fill_X3_insert rfl rfl rfl (by decide +kernel) ⟨Nat.le_of_ble_eq_true rfl, Nat.le_of_ble_eq_true rfl⟩) hK hP hD hS hA 0 3 rfl rfl [0, 1, 2] [3, 4, 5, 6, 7, 8, 9, 10, 11, 12, 13, 14, 15, 16, 17, 18] [16, 17, 18, 0, 1, 2, 3, 4, 5, 6, 7, 8, 9, 10, 11, 12, 13, 14, 15] rfl rfl (by decide +kernel) (by decide +kernel) (by decide +kernel) (by rw [e16]; rfl) (by decide +kernel) rfl hl.1 (Nat.le_of_ble_eq_true rfl) ⟨Nat.zero_le _, Nat.zero_le _⟩ dX3_fill_42 (fun H locs hP hD hS => ?_)
          refine lv_iinc (v := zi (v4 + 1)) (lv' := [(3, .int (zi (v4 + 1))), (0, .ref (a 0)), (1, .ref (b 0)), (2, .int (zi v3))]) hx hb dX3_fill_45 hl (k := 3) rfl (by rw [zi_add]; rfl) (by decide) rfl (fun ls hl => ?_)
          refine lv_goto (tgt := 7) hx hb dX3_fill_48 (by decide) ?_
          exact ih v3 (v4 + 1) s15 _ _ _ h hP hD hS (lv_sub hl [1, 2, 3, 0] rfl)
  have h := hf
  rw [f_X3_fill] at h
  refine lv_aload_n hx hb dX3_fill_0 rfl (lv_at hl 0 rfl) ?_
  refine iv_iconst hx hb dX3_fill_1 ?_
  obtain ⟨s1, e2, h⟩ := nm_t h
  refine iv_put (D := E.1) (ci := 3) (v := .int (zi 0)) (ty := .int) (ws1 := wOS a b E s1) (C := RX3) (T := TX3) (N := 3) hx hb hts in_X3_fill_X3 tyX3 tyX3_ok nmX3 hown hK hP hD hS 0 rfl rfl 2 (by decide) (hts _ wd_X3_fill_f18) (fun _ h9 => h9) rfl (by decide +kernel) rfl rfl (Nat.le_of_ble_eq_true rfl) (by rw [e2]; rfl) dX3_fill_2 (fun H locs hP hD hS => ?_)
  refine iv_iconst hx hb dX3_fill_5 ?_
  refine lv_istore_n (lv' := [(3, .int (zi 0)), (0, .ref (a 0)), (1, .ref (b 0)), (2, .int (zi x2))]) hx hb dX3_fill_6 rfl hl (by decide) rfl (fun ls hl => ?_)
  exact loop7 N x2 0 s1 _ _ _ h hP hD hS (lv_sub hl [1, 2, 3, 0] rfl)
set_option maxRecDepth 20000 in
theorem wd_X3_spreadFrom_f15 : Cond.fieldLink RX3 15 "ShirtButtons$Order" "shine" "[I" ∈ wsX3_spreadFrom := by decide +kernel
set_option maxRecDepth 20000 in
theorem in_X3_spreadFrom_X3 : ∀ w ∈ u_ws RX3 TX3 3, w ∈ wsX3_spreadFrom := by decide +kernel
set_option maxHeartbeats 4000000 in
set_option maxRecDepth 100000 in
theorem k_X3_spreadFrom (l : Launch) (E : wE) (a : Nat → Nat) (sz : Nat) (x1 x2 : Int) (z : bO) (u : (Int × bO)) (hf : f_X3_spreadFrom x1 x2 z = some u) : cI l yX3_spreadFrom wsX3_spreadFrom { frames := 0, cells := 0, slots := 0, locals := 0 } E sz [.ref (a 0), .int (zi x1), .int (zi x2)] (wO a E z) (wO a E u.2) u.1 := by
  refine met_go (cc := cX3_spreadFrom) (maxL := 3) (ret := (some .int)) (Q0 := mQi E (wO a E u.2) u.1) (by decide +kernel) rfl (Nat.le_of_ble_eq_true rfl) ?_
  intro A p e s m below meth c hx hb hr hml hts hown hlocks hP hK hD hA hS ls hl
  have hl : lv_has ls 3 [(0, .ref (a 0)), (1, .int (zi x1)), (2, .int (zi x2))] := hl
  generalize hH : s.heap = H at hP
  have hS : va_S A s.heap H [] := by rw [← hH]; exact hS
  have hown : s.vm.findClass RX3 = some m.cls := hown
  have h := hf
  rw [f_X3_spreadFrom] at h
  refine lv_aload_n hx hb dX3_spreadFrom_0 rfl (lv_at hl 0 rfl) ?_
  refine va_get (D := E.1) (ci := 3) (v := .ref (a 2)) (C := RX3) (T := TX3) (N := 3) hx hb hts in_X3_spreadFrom_X3 hown hK hP 0 rfl rfl 1 (by decide) (hts _ wd_X3_spreadFrom_f15) (fun _ h9 => h9) rfl dX3_spreadFrom_1 ?_
  refine lv_iload_n hx hb dX3_spreadFrom_4 rfl (lv_at hl 1 rfl) ?_
  refine lv_iload_n hx hb dX3_spreadFrom_5 rfl (lv_at hl 2 rfl) ?_
  refine iv_iadd hx hb dX3_spreadFrom_6 ?_
  refine iv_iconst hx hb dX3_spreadFrom_7 ?_
  refine iv_isub hx hb dX3_spreadFrom_8 ?_
  obtain ⟨g1, h⟩ := gd_t h
  refine iv_iald (f := z.2.1) (j := ((x1 + x2) - 1).toNat) hx hb hK hP 2 0 rfl rfl (by decide) g1 rfl dX3_spreadFrom_9 ?_
  refine lv_aload_n hx hb dX3_spreadFrom_10 rfl (lv_at hl 0 rfl) ?_
  refine va_get (D := E.1) (ci := 3) (v := .ref (a 2)) (C := RX3) (T := TX3) (N := 3) hx hb hts in_X3_spreadFrom_X3 hown hK hP 0 rfl rfl 1 (by decide) (hts _ wd_X3_spreadFrom_f15) (fun _ h9 => h9) rfl dX3_spreadFrom_11 ?_
  refine lv_iload_n hx hb dX3_spreadFrom_14 rfl (lv_at hl 1 rfl) ?_
  obtain ⟨g2, h⟩ := gd_t h
  refine iv_iald (f := z.2.1) (j := x1.toNat) hx hb hK hP 2 0 rfl rfl (by decide) g2 rfl dX3_spreadFrom_15 ?_
  refine iv_isub hx hb dX3_spreadFrom_16 ?_
  cases h
  exact iv_iret hx hb hr hlocks hK hP hD hS dX3_spreadFrom_17
set_option maxRecDepth 20000 in
theorem wd_X3_firstAlike_f18 : Cond.fieldLink RX3 18 "ShirtButtons$Order" "count" "I" ∈ wsX3_firstAlike := by decide +kernel
set_option maxRecDepth 20000 in
theorem in_X3_firstAlike_X3 : ∀ w ∈ u_ws RX3 TX3 3, w ∈ wsX3_firstAlike := by decide +kernel
set_option maxHeartbeats 4000000 in
set_option maxRecDepth 100000 in
theorem k_X3_firstAlike (l : Launch) (E : wE) (a : Nat → Nat) (sz : Nat) (N : Nat) (x1 x2 : Int) (z : bO) (u : (Int × bO)) (hf : f_X3_firstAlike N x1 x2 z = some u) : cI l yX3_firstAlike wsX3_firstAlike { frames := 1, cells := 0, slots := 0, locals := 22 } E sz [.ref (a 0), .int (zi x1), .int (zi x2)] (wO a E z) (wO a E u.2) u.1 := by
  refine met_go (cc := cX3_firstAlike) (maxL := 4) (ret := (some .int)) (Q0 := mQi E (wO a E u.2) u.1) (by decide +kernel) rfl (Nat.le_of_ble_eq_true rfl) ?_
  intro A p e s m below meth c hx hb hr hml hts hown hlocks hP hK hD hA hS ls hl
  have hl : lv_has ls 4 [(0, .ref (a 0)), (1, .int (zi x1)), (2, .int (zi x2))] := hl
  generalize hH : s.heap = H at hP
  have hS : va_S A s.heap H [] := by rw [← hH]; exact hS
  have hown : s.vm.findClass RX3 = some m.cls := hown
  have loop2 : ∀ (n : Nat) (v1 v2 v3 : Int) (s4 : bO) (H : Heap) (locs : List Loc) (ls : Array Slot), f_X3_firstAlike_L2 N n v1 v2 v3 s4 = some u → va_P E.1 vwCl (wO a E s4) H → va_D A (wO a E s4) → va_S A s.heap H locs → lv_has ls 4 [(0, .ref (a 0)), (1, .int (zi v1)), (2, .int (zi v2)), (3, .int (zi v3))] → W p l e ({ frames := 1, cells := 0, slots := 0, locals := 22 }) s m ([.ref (a 0), .int (zi x1), .int (zi x2)] : List Value).toArray below meth c H locs 0 0 (MQ below (mQi E (wO a E u.2) u.1 A) ([.ref (a 0), .int (zi x1), .int (zi x2)] : List Value).toArray s 0 0 A) (F0 m 2 ls []) := by
    intro n
    induction n with
    | zero =>
      intro v1 v2 v3 s4 H locs ls h
      exact absurd (show (none : Option (Int × bO)) = some u from h) (by simp)
    | succ n ih =>
      intro v1 v2 v3 s4 H locs ls h hP hD hS hl
      rw [f_X3_firstAlike_L2] at h
      refine lv_iload_n hx hb dX3_firstAlike_2 rfl (lv_at hl 3 rfl) ?_
      refine lv_iload_n hx hb dX3_firstAlike_3 rfl (lv_at hl 1 rfl) ?_
      refine iv_iadd hx hb dX3_firstAlike_4 ?_
      refine lv_aload_n hx hb dX3_firstAlike_5 rfl (lv_at hl 0 rfl) ?_
      refine va_get (D := E.1) (ci := 3) (v := .int (zi s4.2.2)) (C := RX3) (T := TX3) (N := 3) hx hb hts in_X3_firstAlike_X3 hown hK hP 0 rfl rfl 2 (by decide) (hts _ wd_X3_firstAlike_f18) (fun _ h9 => h9) rfl dX3_firstAlike_6 ?_
      obtain ⟨g5, h⟩ := gd_t h
      obtain ⟨g6, h⟩ := gd_t h
      refine iv_igt (tgt := 30) hx hb g5 g6 dX3_firstAlike_9 (by decide) (fun c7 => ?_) (fun c7 => ?_)
      · have h := it_t c7 h
        refine iv_iconst hx hb dX3_firstAlike_30 ?_
        cases h
        exact iv_iret hx hb hr hlocks hK hP hD hS dX3_firstAlike_31
      · have h := it_f c7 h
        refine lv_aload_n hx hb dX3_firstAlike_12 rfl (lv_at hl 0 rfl) ?_
        refine lv_iload_n hx hb dX3_firstAlike_13 rfl (lv_at hl 3 rfl) ?_
        refine lv_iload_n hx hb dX3_firstAlike_14 rfl (lv_at hl 1 rfl) ?_
        obtain ⟨u8, q9, h⟩ := bd_t h
        refine iv_callIf (As := [.int (zi v3), .int (zi v1)]) (rest := []) ⟨hx, hb, hml, hown, hts⟩ (k_X3_spreadFrom l E a H.size v3 v1 s4 u8 q9) (cwV 2 hts gX3_firstAlike_X3_spreadFrom rfl rfl rfl (by decide +kernel) ⟨Nat.le_of_ble_eq_true rfl, Nat.le_of_ble_eq_true rfl⟩) hK hP hD hS hA 0 3 rfl rfl rfl hl.1 (Nat.le_of_ble_eq_true rfl) ⟨Nat.zero_le _, Nat.zero_le _⟩ dX3_firstAlike_15 (fun H locs hP hD hS => ?_)
        refine lv_iload_n hx hb dX3_firstAlike_18 rfl (lv_at hl 2 rfl) ?_
        obtain ⟨g10, h⟩ := gd_t h
        obtain ⟨g11, h⟩ := gd_t h
        refine iv_igt (tgt := 24) hx hb g10 g11 dX3_firstAlike_19 (by decide) (fun c12 => ?_) (fun c12 => ?_)
        · have h := it_t c12 h
          refine lv_iinc (v := zi (v3 + 1)) (lv' := [(3, .int (zi (v3 + 1))), (0, .ref (a 0)), (1, .int (zi v1)), (2, .int (zi v2))]) hx hb dX3_firstAlike_24 hl (k := 3) rfl (by rw [zi_add]; rfl) (by decide) rfl (fun ls hl => ?_)
          refine lv_goto (tgt := 2) hx hb dX3_firstAlike_27 (by decide) ?_
          exact ih v1 v2 (v3 + 1) u8.2 _ _ _ h hP hD hS (lv_sub hl [1, 2, 3, 0] rfl)
        · have h := it_f c12 h
          refine lv_iload_n hx hb dX3_firstAlike_22 rfl (lv_at hl 3 rfl) ?_
          cases h
          exact iv_iret hx hb hr hlocks hK hP hD hS dX3_firstAlike_23
  have h := hf
  rw [f_X3_firstAlike] at h
  refine iv_iconst hx hb dX3_firstAlike_0 ?_
  refine lv_istore_n (lv' := [(3, .int (zi 0)), (0, .ref (a 0)), (1, .int (zi x1)), (2, .int (zi x2))]) hx hb dX3_firstAlike_1 rfl hl (by decide) rfl (fun ls hl => ?_)
  exact loop2 N x1 x2 0 z _ _ _ h hP hD hS (lv_sub hl [1, 2, 3, 0] rfl)
set_option maxRecDepth 20000 in
theorem wd_X3_narrowest_f18 : Cond.fieldLink RX3 18 "ShirtButtons$Order" "count" "I" ∈ wsX3_narrowest := by decide +kernel
set_option maxRecDepth 20000 in
theorem in_X3_narrowest_X3 : ∀ w ∈ u_ws RX3 TX3 3, w ∈ wsX3_narrowest := by decide +kernel
set_option maxRecDepth 20000 in
theorem wd_X3_narrowest_m49 : Cond.methodLink RX3 49 Lib.Math.min.name ∈ wsX3_narrowest := by decide +kernel
set_option maxRecDepth 20000 in
theorem wd_X3_narrowest_mins : Cond.static Lib.Math.min.name ∈ wsX3_narrowest := by decide +kernel
set_option maxRecDepth 20000 in
theorem wd_X3_narrowest_mini : Cond.initialized "java/lang/Math" ∈ wsX3_narrowest := by decide +kernel
set_option maxRecDepth 20000 in
theorem wd_X3_narrowest_minc : Cond.code Lib.Math.min.name Lib.Math.min.code 2 (some .int) ∈ wsX3_narrowest := by decide +kernel
set_option maxHeartbeats 4000000 in
set_option maxRecDepth 100000 in
theorem k_X3_narrowest (l : Launch) (E : wE) (a : Nat → Nat) (sz : Nat) (N : Nat) (x1 : Int) (z : bO) (u : (Int × bO)) (hf : f_X3_narrowest N x1 z = some u) : cI l yX3_narrowest wsX3_narrowest { frames := 1, cells := 0, slots := 0, locals := 24 } E sz [.ref (a 0), .int (zi x1)] (wO a E z) (wO a E u.2) u.1 := by
  refine met_go (cc := cX3_narrowest) (maxL := 4) (ret := (some .int)) (Q0 := mQi E (wO a E u.2) u.1) (by decide +kernel) rfl (Nat.le_of_ble_eq_true rfl) ?_
  intro A p e s m below meth c hx hb hr hml hts hown hlocks hP hK hD hA hS ls hl
  have hl : lv_has ls 4 [(0, .ref (a 0)), (1, .int (zi x1))] := hl
  generalize hH : s.heap = H at hP
  have hS : va_S A s.heap H [] := by rw [← hH]; exact hS
  have hown : s.vm.findClass RX3 = some m.cls := hown
  have loop5 : ∀ (n : Nat) (v1 v2 v3 : Int) (s4 : bO) (H : Heap) (locs : List Loc) (ls : Array Slot), f_X3_narrowest_L5 N n v1 v2 v3 s4 = some u → va_P E.1 vwCl (wO a E s4) H → va_D A (wO a E s4) → va_S A s.heap H locs → lv_has ls 4 [(0, .ref (a 0)), (1, .int (zi v1)), (2, .int (zi v2)), (3, .int (zi v3))] → W p l e ({ frames := 1, cells := 0, slots := 0, locals := 24 }) s m ([.ref (a 0), .int (zi x1)] : List Value).toArray below meth c H locs 0 0 (MQ below (mQi E (wO a E u.2) u.1 A) ([.ref (a 0), .int (zi x1)] : List Value).toArray s 0 0 A) (F0 m 5 ls []) := by
    intro n
    induction n with
    | zero =>
      intro v1 v2 v3 s4 H locs ls h
      exact absurd (show (none : Option (Int × bO)) = some u from h) (by simp)
    | succ n ih =>
      intro v1 v2 v3 s4 H locs ls h hP hD hS hl
      rw [f_X3_narrowest_L5] at h
      refine lv_iload_n hx hb dX3_narrowest_5 rfl (lv_at hl 3 rfl) ?_
      refine lv_iload_n hx hb dX3_narrowest_6 rfl (lv_at hl 1 rfl) ?_
      refine iv_iadd hx hb dX3_narrowest_7 ?_
      refine lv_aload_n hx hb dX3_narrowest_8 rfl (lv_at hl 0 rfl) ?_
      refine va_get (D := E.1) (ci := 3) (v := .int (zi s4.2.2)) (C := RX3) (T := TX3) (N := 3) hx hb hts in_X3_narrowest_X3 hown hK hP 0 rfl rfl 2 (by decide) (hts _ wd_X3_narrowest_f18) (fun _ h9 => h9) rfl dX3_narrowest_9 ?_
      obtain ⟨g5, h⟩ := gd_t h
      obtain ⟨g6, h⟩ := gd_t h
      refine iv_igt (tgt := 32) hx hb g5 g6 dX3_narrowest_12 (by decide) (fun c7 => ?_) (fun c7 => ?_)
      · have h := it_t c7 h
        refine lv_iload_n hx hb dX3_narrowest_32 rfl (lv_at hl 2 rfl) ?_
        cases h
        exact iv_iret hx hb hr hlocks hK hP hD hS dX3_narrowest_33
      · have h := it_f c7 h
        refine lv_iload_n hx hb dX3_narrowest_15 rfl (lv_at hl 2 rfl) ?_
        refine lv_aload_n hx hb dX3_narrowest_16 rfl (lv_at hl 0 rfl) ?_
        refine lv_iload_n hx hb dX3_narrowest_17 rfl (lv_at hl 3 rfl) ?_
        refine lv_iload_n hx hb dX3_narrowest_18 rfl (lv_at hl 1 rfl) ?_
        obtain ⟨u8, q9, h⟩ := bd_t h
        refine iv_callIf (As := [.int (zi v3), .int (zi v1)]) (rest := [.int (zi v2)]) ⟨hx, hb, hml, hown, hts⟩ (k_X3_spreadFrom l E a H.size v3 v1 s4 u8 q9) (cwV 2 hts gX3_narrowest_X3_spreadFrom rfl rfl rfl (by decide +kernel) ⟨Nat.le_of_ble_eq_true rfl, Nat.le_of_ble_eq_true rfl⟩) hK hP hD hS hA 0 3 rfl rfl rfl hl.1 (Nat.le_of_ble_eq_true rfl) ⟨Nat.zero_le _, Nat.zero_le _⟩ dX3_narrowest_19 (fun H locs hP hD hS => ?_)
        obtain ⟨g10, h⟩ := gd_t h
        obtain ⟨g11, h⟩ := gd_t h
        refine iv_min hx hb (hml.trans hl.1.symm) hown (hts _ wd_X3_narrowest_m49) (hts _ wd_X3_narrowest_mins) (hts _ wd_X3_narrowest_mini) (hts _ wd_X3_narrowest_minc) (by decide) (Nat.le_of_ble_eq_true rfl) (Nat.zero_le _) (Nat.zero_le _) g10 g11 dX3_narrowest_22 ?_
        obtain ⟨v12, e13, h⟩ := nm_t h
        refine iv_nm e13 ?_
        refine lv_istore_n (lv' := [(2, .int (zi v12)), (0, .ref (a 0)), (1, .int (zi v1)), (3, .int (zi v3))]) hx hb dX3_narrowest_25 rfl hl (by decide) rfl (fun ls hl => ?_)
        refine lv_iinc (v := zi (v3 + 1)) (lv' := [(3, .int (zi (v3 + 1))), (2, .int (zi v12)), (0, .ref (a 0)), (1, .int (zi v1))]) hx hb dX3_narrowest_26 hl (k := 3) rfl (by rw [zi_add]; rfl) (by decide) rfl (fun ls hl => ?_)
        refine lv_goto (tgt := 5) hx hb dX3_narrowest_29 (by decide) ?_
        exact ih v1 v12 (v3 + 1) u8.2 _ _ _ h hP hD hS (lv_sub hl [2, 3, 1, 0] rfl)
  have h := hf
  rw [f_X3_narrowest] at h
  refine iv_bipush hx hb dX3_narrowest_0 (by decide +kernel) ?_
  refine lv_istore_n (lv' := [(2, .int (zi 9)), (0, .ref (a 0)), (1, .int (zi x1))]) hx hb dX3_narrowest_2 rfl hl (by decide) rfl (fun ls hl => ?_)
  refine iv_iconst hx hb dX3_narrowest_3 ?_
  refine lv_istore_n (lv' := [(3, .int (zi 0)), (2, .int (zi 9)), (0, .ref (a 0)), (1, .int (zi x1))]) hx hb dX3_narrowest_4 rfl hl (by decide) rfl (fun ls hl => ?_)
  exact loop5 N x1 9 0 z _ _ _ h hP hD hS (lv_sub hl [2, 3, 1, 0] rfl)
set_option maxHeartbeats 4000000 in
set_option maxRecDepth 100000 in
theorem k_X3_mostAlike (l : Launch) (E : wE) (a : Nat → Nat) (sz : Nat) (N : Nat) (x1 : Int) (z : bO) (u : (Int × bO)) (hf : f_X3_mostAlike N x1 z = some u) : cI l yX3_mostAlike wsX3_mostAlike { frames := 2, cells := 0, slots := 0, locals := 45 } E sz [.ref (a 0), .int (zi x1)] (wO a E z) (wO a E u.2) u.1 := by
  refine met_go (cc := cX3_mostAlike) (maxL := 3) (ret := (some .int)) (Q0 := mQi E (wO a E u.2) u.1) (by decide +kernel) rfl (Nat.le_of_ble_eq_true rfl) ?_
  intro A p e s m below meth c hx hb hr hml hts hown hlocks hP hK hD hA hS ls hl
  have hl : lv_has ls 3 [(0, .ref (a 0)), (1, .int (zi x1))] := hl
  generalize hH : s.heap = H at hP
  have hS : va_S A s.heap H [] := by rw [← hH]; exact hS
  have hown : s.vm.findClass RX3 = some m.cls := hown
  have loop3 : ∀ (n : Nat) (v1 v2 : Int) (s3 : bO) (H : Heap) (locs : List Loc) (ls : Array Slot), f_X3_mostAlike_L3 N n v1 v2 s3 = some u → va_P E.1 vwCl (wO a E s3) H → va_D A (wO a E s3) → va_S A s.heap H locs → lv_has ls 3 [(0, .ref (a 0)), (1, .int (zi v1)), (2, .int (zi v2))] → W p l e ({ frames := 2, cells := 0, slots := 0, locals := 45 }) s m ([.ref (a 0), .int (zi x1)] : List Value).toArray below meth c H locs 0 0 (MQ below (mQi E (wO a E u.2) u.1 A) ([.ref (a 0), .int (zi x1)] : List Value).toArray s 0 0 A) (F0 m 3 ls []) := by
    intro n
    induction n with
    | zero =>
      intro v1 v2 s3 H locs ls h
      exact absurd (show (none : Option (Int × bO)) = some u from h) (by simp)
    | succ n ih =>
      intro v1 v2 s3 H locs ls h hP hD hS hl
      rw [f_X3_mostAlike_L3] at h
      refine lv_iload_n hx hb dX3_mostAlike_3 rfl (lv_at hl 2 rfl) ?_
      obtain ⟨g4, h⟩ := gd_t h
      refine iv_le (tgt := 24) hx hb g4 dX3_mostAlike_4 (by decide) (fun c5 => ?_) (fun c5 => ?_)
      · have h := it_t c5 h
        refine iv_iconst hx hb dX3_mostAlike_24 ?_
        cases h
        exact iv_iret hx hb hr hlocks hK hP hD hS dX3_mostAlike_25
      · have h := it_f c5 h
        refine lv_aload_n hx hb dX3_mostAlike_7 rfl (lv_at hl 0 rfl) ?_
        refine lv_iload_n hx hb dX3_mostAlike_8 rfl (lv_at hl 2 rfl) ?_
        refine lv_iload_n hx hb dX3_mostAlike_9 rfl (lv_at hl 1 rfl) ?_
        obtain ⟨u6, q7, h⟩ := bd_t h
        refine iv_callIf (As := [.int (zi v2), .int (zi v1)]) (rest := []) ⟨hx, hb, hml, hown, hts⟩ (k_X3_firstAlike l E a H.size N v2 v1 s3 u6 q7) (cwV 2 hts gX3_mostAlike_X3_firstAlike rfl rfl rfl (by decide +kernel) ⟨Nat.le_of_ble_eq_true rfl, Nat.le_of_ble_eq_true rfl⟩) hK hP hD hS hA 0 3 rfl rfl rfl hl.1 (Nat.le_of_ble_eq_true rfl) ⟨Nat.zero_le _, Nat.zero_le _⟩ dX3_mostAlike_10 (fun H locs hP hD hS => ?_)
        obtain ⟨g8, h⟩ := gd_t h
        refine iv_lt (tgt := 18) hx hb g8 dX3_mostAlike_13 (by decide) (fun c9 => ?_) (fun c9 => ?_)
        · have h := it_t c9 h
          refine lv_iinc (v := zi (v2 + (-1))) (lv' := [(2, .int (zi (v2 + (-1)))), (0, .ref (a 0)), (1, .int (zi v1))]) hx hb dX3_mostAlike_18 hl (k := 2) rfl (by rw [zi_add]; rfl) (by decide) rfl (fun ls hl => ?_)
          refine lv_goto (tgt := 3) hx hb dX3_mostAlike_21 (by decide) ?_
          exact ih v1 (v2 + (-1)) u6.2 _ _ _ h hP hD hS (lv_sub hl [1, 2, 0] rfl)
        · have h := it_f c9 h
          refine lv_iload_n hx hb dX3_mostAlike_16 rfl (lv_at hl 2 rfl) ?_
          cases h
          exact iv_iret hx hb hr hlocks hK hP hD hS dX3_mostAlike_17
  have h := hf
  rw [f_X3_mostAlike] at h
  refine iv_bipush hx hb dX3_mostAlike_0 (by decide +kernel) ?_
  refine lv_istore_n (lv' := [(2, .int (zi 9)), (0, .ref (a 0)), (1, .int (zi x1))]) hx hb dX3_mostAlike_2 rfl hl (by decide) rfl (fun ls hl => ?_)
  exact loop3 N x1 9 z _ _ _ h hP hD hS (lv_sub hl [1, 2, 0] rfl)
set_option maxRecDepth 20000 in
theorem wd_X3_groups_f18 : Cond.fieldLink RX3 18 "ShirtButtons$Order" "count" "I" ∈ wsX3_groups := by decide +kernel
set_option maxRecDepth 20000 in
theorem in_X3_groups_X3 : ∀ w ∈ u_ws RX3 TX3 3, w ∈ wsX3_groups := by decide +kernel
set_option maxHeartbeats 4000000 in
set_option maxRecDepth 100000 in
theorem k_X3_groups (l : Launch) (E : wE) (a : Nat → Nat) (sz : Nat) (N : Nat) (x1 x2 : Int) (z : bO) (u : (Int × bO)) (hf : f_X3_groups N x1 x2 z = some u) : cI l yX3_groups wsX3_groups { frames := 1, cells := 0, slots := 0, locals := 22 } E sz [.ref (a 0), .int (zi x1), .int (zi x2)] (wO a E z) (wO a E u.2) u.1 := by
  refine met_go (cc := cX3_groups) (maxL := 5) (ret := (some .int)) (Q0 := mQi E (wO a E u.2) u.1) (by decide +kernel) rfl (Nat.le_of_ble_eq_true rfl) ?_
  intro A p e s m below meth c hx hb hr hml hts hown hlocks hP hK hD hA hS ls hl
  have hl : lv_has ls 5 [(0, .ref (a 0)), (1, .int (zi x1)), (2, .int (zi x2))] := hl
  generalize hH : s.heap = H at hP
  have hS : va_S A s.heap H [] := by rw [← hH]; exact hS
  have hown : s.vm.findClass RX3 = some m.cls := hown
  have loop5 : ∀ (n : Nat) (v1 v2 v3 v4 : Int) (s5 : bO) (H : Heap) (locs : List Loc) (ls : Array Slot), f_X3_groups_L5 N n v1 v2 v3 v4 s5 = some u → va_P E.1 vwCl (wO a E s5) H → va_D A (wO a E s5) → va_S A s.heap H locs → lv_has ls 5 [(0, .ref (a 0)), (1, .int (zi v1)), (2, .int (zi v2)), (3, .int (zi v3)), (4, .int (zi v4))] → W p l e ({ frames := 1, cells := 0, slots := 0, locals := 22 }) s m ([.ref (a 0), .int (zi x1), .int (zi x2)] : List Value).toArray below meth c H locs 0 0 (MQ below (mQi E (wO a E u.2) u.1 A) ([.ref (a 0), .int (zi x1), .int (zi x2)] : List Value).toArray s 0 0 A) (F0 m 5 ls []) := by
    intro n
    induction n with
    | zero =>
      intro v1 v2 v3 v4 s5 H locs ls h
      exact absurd (show (none : Option (Int × bO)) = some u from h) (by simp)
    | succ n ih =>
      intro v1 v2 v3 v4 s5 H locs ls h hP hD hS hl
      rw [f_X3_groups_L5] at h
      refine lv_iload hx hb dX3_groups_5 (lv_at hl 4 rfl) ?_
      refine lv_iload_n hx hb dX3_groups_7 rfl (lv_at hl 1 rfl) ?_
      refine iv_iadd hx hb dX3_groups_8 ?_
      refine lv_aload_n hx hb dX3_groups_9 rfl (lv_at hl 0 rfl) ?_
      refine va_get (D := E.1) (ci := 3) (v := .int (zi s5.2.2)) (C := RX3) (T := TX3) (N := 3) hx hb hts in_X3_groups_X3 hown hK hP 0 rfl rfl 2 (by decide) (hts _ wd_X3_groups_f18) (fun _ h9 => h9) rfl dX3_groups_10 ?_
      obtain ⟨g6, h⟩ := gd_t h
      obtain ⟨g7, h⟩ := gd_t h
      refine iv_igt (tgt := 45) hx hb g6 g7 dX3_groups_13 (by decide) (fun c8 => ?_) (fun c8 => ?_)
      · have h := it_t c8 h
        refine lv_iload_n hx hb dX3_groups_45 rfl (lv_at hl 3 rfl) ?_
        cases h
        exact iv_iret hx hb hr hlocks hK hP hD hS dX3_groups_46
      · have h := it_f c8 h
        refine lv_aload_n hx hb dX3_groups_16 rfl (lv_at hl 0 rfl) ?_
        refine lv_iload hx hb dX3_groups_17 (lv_at hl 4 rfl) ?_
        refine lv_iload_n hx hb dX3_groups_19 rfl (lv_at hl 1 rfl) ?_
        obtain ⟨u9, q10, h⟩ := bd_t h
        refine iv_callIf (As := [.int (zi v4), .int (zi v1)]) (rest := []) ⟨hx, hb, hml, hown, hts⟩ (k_X3_spreadFrom l E a H.size v4 v1 s5 u9 q10) (cwV 2 hts gX3_groups_X3_spreadFrom rfl rfl rfl (by decide +kernel) ⟨Nat.le_of_ble_eq_true rfl, Nat.le_of_ble_eq_true rfl⟩) hK hP hD hS hA 0 3 rfl rfl rfl hl.1 (Nat.le_of_ble_eq_true rfl) ⟨Nat.zero_le _, Nat.zero_le _⟩ dX3_groups_20 (fun H locs hP hD hS => ?_)
        refine lv_iload_n hx hb dX3_groups_23 rfl (lv_at hl 2 rfl) ?_
        obtain ⟨g11, h⟩ := gd_t h
        obtain ⟨g12, h⟩ := gd_t h
        refine iv_igt (tgt := 39) hx hb g11 g12 dX3_groups_24 (by decide) (fun c13 => ?_) (fun c13 => ?_)
        · have h := it_t c13 h
          refine lv_iinc (v := zi (v4 + 1)) (lv' := [(4, .int (zi (v4 + 1))), (0, .ref (a 0)), (1, .int (zi v1)), (2, .int (zi v2)), (3, .int (zi v3))]) hx hb dX3_groups_39 hl (k := 4) rfl (by rw [zi_add]; rfl) (by decide) rfl (fun ls hl => ?_)
          refine lv_goto (tgt := 5) hx hb dX3_groups_42 (by decide) ?_
          exact ih v1 v2 v3 (v4 + 1) u9.2 _ _ _ h hP hD hS (lv_sub hl [1, 2, 3, 4, 0] rfl)
        · have h := it_f c13 h
          refine lv_iinc (v := zi (v3 + 1)) (lv' := [(3, .int (zi (v3 + 1))), (0, .ref (a 0)), (1, .int (zi v1)), (2, .int (zi v2)), (4, .int (zi v4))]) hx hb dX3_groups_27 hl (k := 3) rfl (by rw [zi_add]; rfl) (by decide) rfl (fun ls hl => ?_)
          refine lv_iload hx hb dX3_groups_30 (lv_at hl 4 rfl) ?_
          refine lv_iload_n hx hb dX3_groups_32 rfl (lv_at hl 2 rfl) ?_
          refine iv_iadd hx hb dX3_groups_33 ?_
          obtain ⟨v14, e15, h⟩ := nm_t h
          refine iv_nm e15 ?_
          refine lv_istore (lv' := [(4, .int (zi v14)), (3, .int (zi (v3 + 1))), (0, .ref (a 0)), (1, .int (zi v1)), (2, .int (zi v2))]) hx hb dX3_groups_34 hl (by decide) rfl (fun ls hl => ?_)
          refine lv_goto (tgt := 5) hx hb dX3_groups_36 (by decide) ?_
          exact ih v1 v2 (v3 + 1) v14 u9.2 _ _ _ h hP hD hS (lv_sub hl [2, 3, 4, 1, 0] rfl)
  have h := hf
  rw [f_X3_groups] at h
  refine iv_iconst hx hb dX3_groups_0 ?_
  refine lv_istore_n (lv' := [(3, .int (zi 0)), (0, .ref (a 0)), (1, .int (zi x1)), (2, .int (zi x2))]) hx hb dX3_groups_1 rfl hl (by decide) rfl (fun ls hl => ?_)
  refine iv_iconst hx hb dX3_groups_2 ?_
  refine lv_istore (lv' := [(4, .int (zi 0)), (3, .int (zi 0)), (0, .ref (a 0)), (1, .int (zi x1)), (2, .int (zi x2))]) hx hb dX3_groups_3 hl (by decide) rfl (fun ls hl => ?_)
  exact loop5 N x1 x2 0 0 z _ _ _ h hP hD hS (lv_sub hl [2, 3, 4, 1, 0] rfl)
set_option maxRecDepth 20000 in
theorem wd_X3_shineSum_f18 : Cond.fieldLink RX3 18 "ShirtButtons$Order" "count" "I" ∈ wsX3_shineSum := by decide +kernel
set_option maxRecDepth 20000 in
theorem in_X3_shineSum_X3 : ∀ w ∈ u_ws RX3 TX3 3, w ∈ wsX3_shineSum := by decide +kernel
set_option maxRecDepth 20000 in
theorem wd_X3_shineSum_f15 : Cond.fieldLink RX3 15 "ShirtButtons$Order" "shine" "[I" ∈ wsX3_shineSum := by decide +kernel
set_option maxHeartbeats 4000000 in
set_option maxRecDepth 100000 in
theorem k_X3_shineSum (l : Launch) (E : wE) (a : Nat → Nat) (sz : Nat) (N : Nat) (z : bO) (u : (Int × bO)) (hf : f_X3_shineSum N z = some u) : cI l yX3_shineSum wsX3_shineSum { frames := 0, cells := 0, slots := 0, locals := 0 } E sz [.ref (a 0)] (wO a E z) (wO a E u.2) u.1 := by
  refine met_go (cc := cX3_shineSum) (maxL := 3) (ret := (some .int)) (Q0 := mQi E (wO a E u.2) u.1) (by decide +kernel) rfl (Nat.le_of_ble_eq_true rfl) ?_
  intro A p e s m below meth c hx hb hr hml hts hown hlocks hP hK hD hA hS ls hl
  have hl : lv_has ls 3 [(0, .ref (a 0))] := hl
  generalize hH : s.heap = H at hP
  have hS : va_S A s.heap H [] := by rw [← hH]; exact hS
  have hown : s.vm.findClass RX3 = some m.cls := hown
  have loop4 : ∀ (n : Nat) (v1 v2 : Int) (s3 : bO) (H : Heap) (locs : List Loc) (ls : Array Slot), f_X3_shineSum_L4 N n v1 v2 s3 = some u → va_P E.1 vwCl (wO a E s3) H → va_D A (wO a E s3) → va_S A s.heap H locs → lv_has ls 3 [(0, .ref (a 0)), (1, .int (zi v1)), (2, .int (zi v2))] → W p l e ({ frames := 0, cells := 0, slots := 0, locals := 0 }) s m ([.ref (a 0)] : List Value).toArray below meth c H locs 0 0 (MQ below (mQi E (wO a E u.2) u.1 A) ([.ref (a 0)] : List Value).toArray s 0 0 A) (F0 m 4 ls []) := by
    intro n
    induction n with
    | zero =>
      intro v1 v2 s3 H locs ls h
      exact absurd (show (none : Option (Int × bO)) = some u from h) (by simp)
    | succ n ih =>
      intro v1 v2 s3 H locs ls h hP hD hS hl
      rw [f_X3_shineSum_L4] at h
      refine lv_iload_n hx hb dX3_shineSum_4 rfl (lv_at hl 2 rfl) ?_
      refine lv_aload_n hx hb dX3_shineSum_5 rfl (lv_at hl 0 rfl) ?_
      refine va_get (D := E.1) (ci := 3) (v := .int (zi s3.2.2)) (C := RX3) (T := TX3) (N := 3) hx hb hts in_X3_shineSum_X3 hown hK hP 0 rfl rfl 2 (by decide) (hts _ wd_X3_shineSum_f18) (fun _ h9 => h9) rfl dX3_shineSum_6 ?_
      obtain ⟨g4, h⟩ := gd_t h
      obtain ⟨g5, h⟩ := gd_t h
      refine iv_ige (tgt := 27) hx hb g4 g5 dX3_shineSum_9 (by decide) (fun c6 => ?_) (fun c6 => ?_)
      · have h := it_t c6 h
        refine lv_iload_n hx hb dX3_shineSum_27 rfl (lv_at hl 1 rfl) ?_
        cases h
        exact iv_iret hx hb hr hlocks hK hP hD hS dX3_shineSum_28
      · have h := it_f c6 h
        refine lv_iload_n hx hb dX3_shineSum_12 rfl (lv_at hl 1 rfl) ?_
        refine lv_aload_n hx hb dX3_shineSum_13 rfl (lv_at hl 0 rfl) ?_
        refine va_get (D := E.1) (ci := 3) (v := .ref (a 2)) (C := RX3) (T := TX3) (N := 3) hx hb hts in_X3_shineSum_X3 hown hK hP 0 rfl rfl 1 (by decide) (hts _ wd_X3_shineSum_f15) (fun _ h9 => h9) rfl dX3_shineSum_14 ?_
        refine lv_iload_n hx hb dX3_shineSum_17 rfl (lv_at hl 2 rfl) ?_
        obtain ⟨g7, h⟩ := gd_t h
        refine iv_iald (f := s3.2.1) (j := v2.toNat) hx hb hK hP 2 0 rfl rfl (by decide) g7 rfl dX3_shineSum_18 ?_
        refine iv_iadd hx hb dX3_shineSum_19 ?_
        obtain ⟨v8, e9, h⟩ := nm_t h
        refine iv_nm e9 ?_
        refine lv_istore_n (lv' := [(1, .int (zi v8)), (0, .ref (a 0)), (2, .int (zi v2))]) hx hb dX3_shineSum_20 rfl hl (by decide) rfl (fun ls hl => ?_)
        refine lv_iinc (v := zi (v2 + 1)) (lv' := [(2, .int (zi (v2 + 1))), (1, .int (zi v8)), (0, .ref (a 0))]) hx hb dX3_shineSum_21 hl (k := 2) rfl (by rw [zi_add]; rfl) (by decide) rfl (fun ls hl => ?_)
        refine lv_goto (tgt := 4) hx hb dX3_shineSum_24 (by decide) ?_
        exact ih v8 (v2 + 1) s3 _ _ _ h hP hD hS (lv_sub hl [2, 1, 0] rfl)
  have h := hf
  rw [f_X3_shineSum] at h
  refine iv_iconst hx hb dX3_shineSum_0 ?_
  refine lv_istore_n (lv' := [(1, .int (zi 0)), (0, .ref (a 0))]) hx hb dX3_shineSum_1 rfl hl (by decide) rfl (fun ls hl => ?_)
  refine iv_iconst hx hb dX3_shineSum_2 ?_
  refine lv_istore_n (lv' := [(2, .int (zi 0)), (1, .int (zi 0)), (0, .ref (a 0))]) hx hb dX3_shineSum_3 rfl hl (by decide) rfl (fun ls hl => ?_)
  exact loop4 N 0 0 z _ _ _ h hP hD hS (lv_sub hl [2, 1, 0] rfl)
end
