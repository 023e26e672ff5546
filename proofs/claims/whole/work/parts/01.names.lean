-- ===== PART A: goes FIRST, ahead of the names: the tables' words, and 'selects' of the private methods out of them =====
/-- a private method of a class that the tables say can be made, by its rows of tables_1 -/
def lw_okq (q : MethodName × Nat) : Prop := (q.1.cls ≠ "java/lang/invoke/MethodHandle" ∧ q.1.cls ≠ "java/lang/invoke/VarHandle") ∧ Cond.instantiable q.1.cls q.2 ∈ tables_1 ∧ Cond.privateMethod q.1 ∈ tables_1 ∧ Cond.instanceMethod q.1 ∈ tables_1
theorem lw_p0 : lw_okq (⟨"SandPiano", "refuse", "(I)I"⟩, 15) := ⟨⟨by decide +kernel, by decide +kernel⟩, List.mem_of_getElem? (i := 15) (by decide +kernel), List.mem_of_getElem? (i := 252) (by decide +kernel), List.mem_of_getElem? (i := 253) (by decide +kernel)⟩
theorem lw_p1 : lw_okq (⟨"SandPiano$Reader", "readKeys", "(LSandPiano$Shelf;II)I"⟩, 3) := ⟨⟨by decide +kernel, by decide +kernel⟩, List.mem_of_getElem? (i := 175) (by decide +kernel), List.mem_of_getElem? (i := 343) (by decide +kernel), List.mem_of_getElem? (i := 344) (by decide +kernel)⟩
theorem lw_p2 : lw_okq (⟨"SandPiano$Reader", "readKey", "(LSandPiano$Shelf;III)I"⟩, 3) := ⟨⟨by decide +kernel, by decide +kernel⟩, List.mem_of_getElem? (i := 175) (by decide +kernel), List.mem_of_getElem? (i := 347) (by decide +kernel), List.mem_of_getElem? (i := 348) (by decide +kernel)⟩
theorem lw_p3 : lw_okq (⟨"SandPiano$Story", "write", "(LSandPiano$Sand;)V"⟩, 4) := ⟨⟨by decide +kernel, by decide +kernel⟩, List.mem_of_getElem? (i := 152) (by decide +kernel), List.mem_of_getElem? (i := 374) (by decide +kernel), List.mem_of_getElem? (i := 375) (by decide +kernel)⟩
theorem lw_p4 : lw_okq (⟨"SandPiano", "keyTells", "(II)I"⟩, 15) := ⟨⟨by decide +kernel, by decide +kernel⟩, List.mem_of_getElem? (i := 15) (by decide +kernel), List.mem_of_getElem? (i := 387) (by decide +kernel), List.mem_of_getElem? (i := 388) (by decide +kernel)⟩
theorem lw_p5 : lw_okq (⟨"SandPiano", "pieceWrong", "(I)I"⟩, 15) := ⟨⟨by decide +kernel, by decide +kernel⟩, List.mem_of_getElem? (i := 15) (by decide +kernel), List.mem_of_getElem? (i := 508) (by decide +kernel), List.mem_of_getElem? (i := 509) (by decide +kernel)⟩
theorem lw_p6 : lw_okq (⟨"SandPiano$Search", "begin", "(LSandPiano$Sand;)V"⟩, 8) := ⟨⟨by decide +kernel, by decide +kernel⟩, List.mem_of_getElem? (i := 42) (by decide +kernel), List.mem_of_getElem? (i := 531) (by decide +kernel), List.mem_of_getElem? (i := 532) (by decide +kernel)⟩
theorem lw_p7 : lw_okq (⟨"SandPiano$Search", "digOn", "(IIIILSandPiano$Shelf;I)Z"⟩, 8) := ⟨⟨by decide +kernel, by decide +kernel⟩, List.mem_of_getElem? (i := 42) (by decide +kernel), List.mem_of_getElem? (i := 536) (by decide +kernel), List.mem_of_getElem? (i := 537) (by decide +kernel)⟩
theorem lw_p8 : lw_okq (⟨"SandPiano$Search", "remember", "(I)V"⟩, 8) := ⟨⟨by decide +kernel, by decide +kernel⟩, List.mem_of_getElem? (i := 42) (by decide +kernel), List.mem_of_getElem? (i := 543) (by decide +kernel), List.mem_of_getElem? (i := 544) (by decide +kernel)⟩
theorem lw_p9 : lw_okq (⟨"SandPiano$Search", "hasFound", "()Z"⟩, 8) := ⟨⟨by decide +kernel, by decide +kernel⟩, List.mem_of_getElem? (i := 42) (by decide +kernel), List.mem_of_getElem? (i := 552) (by decide +kernel), List.mem_of_getElem? (i := 553) (by decide +kernel)⟩
theorem lw_p10 : lw_okq (⟨"SandPiano$Search", "onceOn", "(II)V"⟩, 8) := ⟨⟨by decide +kernel, by decide +kernel⟩, List.mem_of_getElem? (i := 42) (by decide +kernel), List.mem_of_getElem? (i := 574) (by decide +kernel), List.mem_of_getElem? (i := 575) (by decide +kernel)⟩
theorem lw_p11 : lw_okq (⟨"SandPiano$Search", "step", "(II)Z"⟩, 8) := ⟨⟨by decide +kernel, by decide +kernel⟩, List.mem_of_getElem? (i := 42) (by decide +kernel), List.mem_of_getElem? (i := 578) (by decide +kernel), List.mem_of_getElem? (i := 579) (by decide +kernel)⟩
theorem lw_p12 : lw_okq (⟨"SandPiano$Search", "paidOn", "(II)V"⟩, 8) := ⟨⟨by decide +kernel, by decide +kernel⟩, List.mem_of_getElem? (i := 42) (by decide +kernel), List.mem_of_getElem? (i := 597) (by decide +kernel), List.mem_of_getElem? (i := 598) (by decide +kernel)⟩
theorem lw_p13 : lw_okq (⟨"SandPiano$Search", "countOn", "(II)I"⟩, 8) := ⟨⟨by decide +kernel, by decide +kernel⟩, List.mem_of_getElem? (i := 42) (by decide +kernel), List.mem_of_getElem? (i := 617) (by decide +kernel), List.mem_of_getElem? (i := 618) (by decide +kernel)⟩
theorem lw_p14 : lw_okq (⟨"SandPiano", "sandWrong", "(I)I"⟩, 15) := ⟨⟨by decide +kernel, by decide +kernel⟩, List.mem_of_getElem? (i := 15) (by decide +kernel), List.mem_of_getElem? (i := 634) (by decide +kernel), List.mem_of_getElem? (i := 635) (by decide +kernel)⟩
theorem lw_p15 : lw_okq (⟨"SandPiano$Search", "countTo", "(IILSandPiano$Sand;)I"⟩, 8) := ⟨⟨by decide +kernel, by decide +kernel⟩, List.mem_of_getElem? (i := 42) (by decide +kernel), List.mem_of_getElem? (i := 643) (by decide +kernel), List.mem_of_getElem? (i := 644) (by decide +kernel)⟩
def lw_privs_1 : List (MethodName × Nat) := [(⟨"SandPiano", "refuse", "(I)I"⟩, 15), (⟨"SandPiano$Reader", "readKeys", "(LSandPiano$Shelf;II)I"⟩, 3), (⟨"SandPiano$Reader", "readKey", "(LSandPiano$Shelf;III)I"⟩, 3), (⟨"SandPiano$Story", "write", "(LSandPiano$Sand;)V"⟩, 4), (⟨"SandPiano", "keyTells", "(II)I"⟩, 15), (⟨"SandPiano", "pieceWrong", "(I)I"⟩, 15), (⟨"SandPiano$Search", "begin", "(LSandPiano$Sand;)V"⟩, 8), (⟨"SandPiano$Search", "digOn", "(IIIILSandPiano$Shelf;I)Z"⟩, 8), (⟨"SandPiano$Search", "remember", "(I)V"⟩, 8), (⟨"SandPiano$Search", "hasFound", "()Z"⟩, 8), (⟨"SandPiano$Search", "onceOn", "(II)V"⟩, 8), (⟨"SandPiano$Search", "step", "(II)Z"⟩, 8), (⟨"SandPiano$Search", "paidOn", "(II)V"⟩, 8), (⟨"SandPiano$Search", "countOn", "(II)I"⟩, 8), (⟨"SandPiano", "sandWrong", "(I)I"⟩, 15), (⟨"SandPiano$Search", "countTo", "(IILSandPiano$Sand;)I"⟩, 8)]
theorem lw_r1 : ∀ q ∈ lw_privs_1, lw_okq q := List.forall_mem_cons.mpr ⟨lw_p0, List.forall_mem_cons.mpr ⟨lw_p1, List.forall_mem_cons.mpr ⟨lw_p2, List.forall_mem_cons.mpr ⟨lw_p3, List.forall_mem_cons.mpr ⟨lw_p4, List.forall_mem_cons.mpr ⟨lw_p5, List.forall_mem_cons.mpr ⟨lw_p6, List.forall_mem_cons.mpr ⟨lw_p7, List.forall_mem_cons.mpr ⟨lw_p8, List.forall_mem_cons.mpr ⟨lw_p9, List.forall_mem_cons.mpr ⟨lw_p10, List.forall_mem_cons.mpr ⟨lw_p11, List.forall_mem_cons.mpr ⟨lw_p12, List.forall_mem_cons.mpr ⟨lw_p13, List.forall_mem_cons.mpr ⟨lw_p14, List.forall_mem_cons.mpr ⟨lw_p15, fun _ h => absurd h List.not_mem_nil⟩⟩⟩⟩⟩⟩⟩⟩⟩⟩⟩⟩⟩⟩⟩⟩
theorem lw_p16 : lw_okq (⟨"SandPiano", "songWrong", "(I)I"⟩, 15) := ⟨⟨by decide +kernel, by decide +kernel⟩, List.mem_of_getElem? (i := 15) (by decide +kernel), List.mem_of_getElem? (i := 655) (by decide +kernel), List.mem_of_getElem? (i := 656) (by decide +kernel)⟩
theorem lw_p17 : lw_okq (⟨"SandPiano", "ringPlaces", "(I)I"⟩, 15) := ⟨⟨by decide +kernel, by decide +kernel⟩, List.mem_of_getElem? (i := 15) (by decide +kernel), List.mem_of_getElem? (i := 659) (by decide +kernel), List.mem_of_getElem? (i := 660) (by decide +kernel)⟩
theorem lw_p18 : lw_okq (⟨"SandPiano", "tellChances", "(JJ)I"⟩, 15) := ⟨⟨by decide +kernel, by decide +kernel⟩, List.mem_of_getElem? (i := 15) (by decide +kernel), List.mem_of_getElem? (i := 680) (by decide +kernel), List.mem_of_getElem? (i := 681) (by decide +kernel)⟩
theorem lw_p19 : lw_okq (⟨"SandPiano$Search", "sharesOn", "(III)J"⟩, 8) := ⟨⟨by decide +kernel, by decide +kernel⟩, List.mem_of_getElem? (i := 42) (by decide +kernel), List.mem_of_getElem? (i := 695) (by decide +kernel), List.mem_of_getElem? (i := 696) (by decide +kernel)⟩
theorem lw_p20 : lw_okq (⟨"SandPiano", "countOf", "(I)I"⟩, 15) := ⟨⟨by decide +kernel, by decide +kernel⟩, List.mem_of_getElem? (i := 15) (by decide +kernel), List.mem_of_getElem? (i := 730) (by decide +kernel), List.mem_of_getElem? (i := 731) (by decide +kernel)⟩
theorem lw_p21 : lw_okq (⟨"SandPiano", "countKept", "()I"⟩, 15) := ⟨⟨by decide +kernel, by decide +kernel⟩, List.mem_of_getElem? (i := 15) (by decide +kernel), List.mem_of_getElem? (i := 743) (by decide +kernel), List.mem_of_getElem? (i := 744) (by decide +kernel)⟩
theorem lw_p22 : lw_okq (⟨"SandPianoModel", "meets", "(I)I"⟩, 36) := ⟨⟨by decide +kernel, by decide +kernel⟩, List.mem_of_getElem? (i := 766) (by decide +kernel), List.mem_of_getElem? (i := 913) (by decide +kernel), List.mem_of_getElem? (i := 914) (by decide +kernel)⟩
theorem lw_p23 : lw_okq (⟨"SandPianoModel", "rowAt", "(II)I"⟩, 36) := ⟨⟨by decide +kernel, by decide +kernel⟩, List.mem_of_getElem? (i := 766) (by decide +kernel), List.mem_of_getElem? (i := 921) (by decide +kernel), List.mem_of_getElem? (i := 922) (by decide +kernel)⟩
theorem lw_p24 : lw_okq (⟨"SandPianoModel", "tells", "(II)I"⟩, 36) := ⟨⟨by decide +kernel, by decide +kernel⟩, List.mem_of_getElem? (i := 766) (by decide +kernel), List.mem_of_getElem? (i := 925) (by decide +kernel), List.mem_of_getElem? (i := 926) (by decide +kernel)⟩
theorem lw_p25 : lw_okq (⟨"SandPianoModel", "faultOf", "(I)I"⟩, 36) := ⟨⟨by decide +kernel, by decide +kernel⟩, List.mem_of_getElem? (i := 766) (by decide +kernel), List.mem_of_getElem? (i := 960) (by decide +kernel), List.mem_of_getElem? (i := 961) (by decide +kernel)⟩
theorem lw_p26 : lw_okq (⟨"SandPianoModel", "byteAt", "(II)I"⟩, 36) := ⟨⟨by decide +kernel, by decide +kernel⟩, List.mem_of_getElem? (i := 766) (by decide +kernel), List.mem_of_getElem? (i := 964) (by decide +kernel), List.mem_of_getElem? (i := 965) (by decide +kernel)⟩
theorem lw_p27 : lw_okq (⟨"SandPianoModel", "readsSpade", "(I)Z"⟩, 36) := ⟨⟨by decide +kernel, by decide +kernel⟩, List.mem_of_getElem? (i := 766) (by decide +kernel), List.mem_of_getElem? (i := 968) (by decide +kernel), List.mem_of_getElem? (i := 969) (by decide +kernel)⟩
theorem lw_p28 : lw_okq (⟨"SandPianoModel", "figure", "(II)Z"⟩, 36) := ⟨⟨by decide +kernel, by decide +kernel⟩, List.mem_of_getElem? (i := 766) (by decide +kernel), List.mem_of_getElem? (i := 972) (by decide +kernel), List.mem_of_getElem? (i := 973) (by decide +kernel)⟩
theorem lw_p29 : lw_okq (⟨"SandPianoModel", "readsKey", "(I)Z"⟩, 36) := ⟨⟨by decide +kernel, by decide +kernel⟩, List.mem_of_getElem? (i := 766) (by decide +kernel), List.mem_of_getElem? (i := 976) (by decide +kernel), List.mem_of_getElem? (i := 977) (by decide +kernel)⟩
theorem lw_p30 : lw_okq (⟨"SandPianoModel", "place", "(III)V"⟩, 36) := ⟨⟨by decide +kernel, by decide +kernel⟩, List.mem_of_getElem? (i := 766) (by decide +kernel), List.mem_of_getElem? (i := 987) (by decide +kernel), List.mem_of_getElem? (i := 988) (by decide +kernel)⟩
theorem lw_p31 : lw_okq (⟨"SandPianoModel", "isKey", "(I)Z"⟩, 36) := ⟨⟨by decide +kernel, by decide +kernel⟩, List.mem_of_getElem? (i := 766) (by decide +kernel), List.mem_of_getElem? (i := 995) (by decide +kernel), List.mem_of_getElem? (i := 996) (by decide +kernel)⟩
def lw_privs_2 : List (MethodName × Nat) := [(⟨"SandPiano", "songWrong", "(I)I"⟩, 15), (⟨"SandPiano", "ringPlaces", "(I)I"⟩, 15), (⟨"SandPiano", "tellChances", "(JJ)I"⟩, 15), (⟨"SandPiano$Search", "sharesOn", "(III)J"⟩, 8), (⟨"SandPiano", "countOf", "(I)I"⟩, 15), (⟨"SandPiano", "countKept", "()I"⟩, 15), (⟨"SandPianoModel", "meets", "(I)I"⟩, 36), (⟨"SandPianoModel", "rowAt", "(II)I"⟩, 36), (⟨"SandPianoModel", "tells", "(II)I"⟩, 36), (⟨"SandPianoModel", "faultOf", "(I)I"⟩, 36), (⟨"SandPianoModel", "byteAt", "(II)I"⟩, 36), (⟨"SandPianoModel", "readsSpade", "(I)Z"⟩, 36), (⟨"SandPianoModel", "figure", "(II)Z"⟩, 36), (⟨"SandPianoModel", "readsKey", "(I)Z"⟩, 36), (⟨"SandPianoModel", "place", "(III)V"⟩, 36), (⟨"SandPianoModel", "isKey", "(I)Z"⟩, 36)]
theorem lw_r2 : ∀ q ∈ lw_privs_2, lw_okq q := List.forall_mem_cons.mpr ⟨lw_p16, List.forall_mem_cons.mpr ⟨lw_p17, List.forall_mem_cons.mpr ⟨lw_p18, List.forall_mem_cons.mpr ⟨lw_p19, List.forall_mem_cons.mpr ⟨lw_p20, List.forall_mem_cons.mpr ⟨lw_p21, List.forall_mem_cons.mpr ⟨lw_p22, List.forall_mem_cons.mpr ⟨lw_p23, List.forall_mem_cons.mpr ⟨lw_p24, List.forall_mem_cons.mpr ⟨lw_p25, List.forall_mem_cons.mpr ⟨lw_p26, List.forall_mem_cons.mpr ⟨lw_p27, List.forall_mem_cons.mpr ⟨lw_p28, List.forall_mem_cons.mpr ⟨lw_p29, List.forall_mem_cons.mpr ⟨lw_p30, List.forall_mem_cons.mpr ⟨lw_p31, fun _ h => absurd h List.not_mem_nil⟩⟩⟩⟩⟩⟩⟩⟩⟩⟩⟩⟩⟩⟩⟩⟩
theorem lw_p32 : lw_okq (⟨"SandPianoModel", "keyTells", "(II)I"⟩, 36) := ⟨⟨by decide +kernel, by decide +kernel⟩, List.mem_of_getElem? (i := 766) (by decide +kernel), List.mem_of_getElem? (i := 999) (by decide +kernel), List.mem_of_getElem? (i := 1000) (by decide +kernel)⟩
theorem lw_p33 : lw_okq (⟨"SandPianoModel", "v", "(II)I"⟩, 36) := ⟨⟨by decide +kernel, by decide +kernel⟩, List.mem_of_getElem? (i := 766) (by decide +kernel), List.mem_of_getElem? (i := 1003) (by decide +kernel), List.mem_of_getElem? (i := 1004) (by decide +kernel)⟩
theorem lw_p34 : lw_okq (⟨"SandPianoModel", "canPlay", "(II)Z"⟩, 36) := ⟨⟨by decide +kernel, by decide +kernel⟩, List.mem_of_getElem? (i := 766) (by decide +kernel), List.mem_of_getElem? (i := 1007) (by decide +kernel), List.mem_of_getElem? (i := 1008) (by decide +kernel)⟩
theorem lw_p35 : lw_okq (⟨"SandPianoModel", "leftOf", "(I)I"⟩, 36) := ⟨⟨by decide +kernel, by decide +kernel⟩, List.mem_of_getElem? (i := 766) (by decide +kernel), List.mem_of_getElem? (i := 1021) (by decide +kernel), List.mem_of_getElem? (i := 1022) (by decide +kernel)⟩
theorem lw_p36 : lw_okq (⟨"SandPianoModel", "canSet", "(I)I"⟩, 36) := ⟨⟨by decide +kernel, by decide +kernel⟩, List.mem_of_getElem? (i := 766) (by decide +kernel), List.mem_of_getElem? (i := 1025) (by decide +kernel), List.mem_of_getElem? (i := 1026) (by decide +kernel)⟩
theorem lw_p37 : lw_okq (⟨"SandPianoModel", "remember", "()V"⟩, 36) := ⟨⟨by decide +kernel, by decide +kernel⟩, List.mem_of_getElem? (i := 766) (by decide +kernel), List.mem_of_getElem? (i := 1040) (by decide +kernel), List.mem_of_getElem? (i := 1041) (by decide +kernel)⟩
theorem lw_p38 : lw_okq (⟨"SandPianoModel", "plays", "(II)V"⟩, 36) := ⟨⟨by decide +kernel, by decide +kernel⟩, List.mem_of_getElem? (i := 766) (by decide +kernel), List.mem_of_getElem? (i := 1044) (by decide +kernel), List.mem_of_getElem? (i := 1045) (by decide +kernel)⟩
theorem lw_p39 : lw_okq (⟨"SandPianoModel", "rightOf", "(I)I"⟩, 36) := ⟨⟨by decide +kernel, by decide +kernel⟩, List.mem_of_getElem? (i := 766) (by decide +kernel), List.mem_of_getElem? (i := 1048) (by decide +kernel), List.mem_of_getElem? (i := 1049) (by decide +kernel)⟩
theorem lw_p40 : lw_okq (⟨"SandPianoModel", "moves", "(IIII)I"⟩, 36) := ⟨⟨by decide +kernel, by decide +kernel⟩, List.mem_of_getElem? (i := 766) (by decide +kernel), List.mem_of_getElem? (i := 1052) (by decide +kernel), List.mem_of_getElem? (i := 1053) (by decide +kernel)⟩
theorem lw_p41 : lw_okq (⟨"SandPianoModel", "add", "(III)V"⟩, 36) := ⟨⟨by decide +kernel, by decide +kernel⟩, List.mem_of_getElem? (i := 766) (by decide +kernel), List.mem_of_getElem? (i := 1056) (by decide +kernel), List.mem_of_getElem? (i := 1057) (by decide +kernel)⟩
theorem lw_p42 : lw_okq (⟨"SandPianoModel", "needDeed", "()I"⟩, 36) := ⟨⟨by decide +kernel, by decide +kernel⟩, List.mem_of_getElem? (i := 766) (by decide +kernel), List.mem_of_getElem? (i := 1064) (by decide +kernel), List.mem_of_getElem? (i := 1065) (by decide +kernel)⟩
theorem lw_p43 : lw_okq (⟨"SandPianoModel", "tides", "(II)I"⟩, 36) := ⟨⟨by decide +kernel, by decide +kernel⟩, List.mem_of_getElem? (i := 766) (by decide +kernel), List.mem_of_getElem? (i := 1068) (by decide +kernel), List.mem_of_getElem? (i := 1069) (by decide +kernel)⟩
theorem lw_p44 : lw_okq (⟨"SandPianoModel", "storms", "(II)I"⟩, 36) := ⟨⟨by decide +kernel, by decide +kernel⟩, List.mem_of_getElem? (i := 766) (by decide +kernel), List.mem_of_getElem? (i := 1076) (by decide +kernel), List.mem_of_getElem? (i := 1077) (by decide +kernel)⟩
theorem lw_p45 : lw_okq (⟨"SandPianoModel", "needPiece", "(I)I"⟩, 36) := ⟨⟨by decide +kernel, by decide +kernel⟩, List.mem_of_getElem? (i := 766) (by decide +kernel), List.mem_of_getElem? (i := 1104) (by decide +kernel), List.mem_of_getElem? (i := 1105) (by decide +kernel)⟩
theorem lw_p46 : lw_okq (⟨"SandPianoModel", "pieceOf", "(I)I"⟩, 36) := ⟨⟨by decide +kernel, by decide +kernel⟩, List.mem_of_getElem? (i := 766) (by decide +kernel), List.mem_of_getElem? (i := 1108) (by decide +kernel), List.mem_of_getElem? (i := 1109) (by decide +kernel)⟩
theorem lw_p47 : lw_okq (⟨"SandPianoModel", "copyTo", "(II)V"⟩, 36) := ⟨⟨by decide +kernel, by decide +kernel⟩, List.mem_of_getElem? (i := 766) (by decide +kernel), List.mem_of_getElem? (i := 1112) (by decide +kernel), List.mem_of_getElem? (i := 1113) (by decide +kernel)⟩
def lw_privs_3 : List (MethodName × Nat) := [(⟨"SandPianoModel", "keyTells", "(II)I"⟩, 36), (⟨"SandPianoModel", "v", "(II)I"⟩, 36), (⟨"SandPianoModel", "canPlay", "(II)Z"⟩, 36), (⟨"SandPianoModel", "leftOf", "(I)I"⟩, 36), (⟨"SandPianoModel", "canSet", "(I)I"⟩, 36), (⟨"SandPianoModel", "remember", "()V"⟩, 36), (⟨"SandPianoModel", "plays", "(II)V"⟩, 36), (⟨"SandPianoModel", "rightOf", "(I)I"⟩, 36), (⟨"SandPianoModel", "moves", "(IIII)I"⟩, 36), (⟨"SandPianoModel", "add", "(III)V"⟩, 36), (⟨"SandPianoModel", "needDeed", "()I"⟩, 36), (⟨"SandPianoModel", "tides", "(II)I"⟩, 36), (⟨"SandPianoModel", "storms", "(II)I"⟩, 36), (⟨"SandPianoModel", "needPiece", "(I)I"⟩, 36), (⟨"SandPianoModel", "pieceOf", "(I)I"⟩, 36), (⟨"SandPianoModel", "copyTo", "(II)V"⟩, 36)]
theorem lw_r3 : ∀ q ∈ lw_privs_3, lw_okq q := List.forall_mem_cons.mpr ⟨lw_p32, List.forall_mem_cons.mpr ⟨lw_p33, List.forall_mem_cons.mpr ⟨lw_p34, List.forall_mem_cons.mpr ⟨lw_p35, List.forall_mem_cons.mpr ⟨lw_p36, List.forall_mem_cons.mpr ⟨lw_p37, List.forall_mem_cons.mpr ⟨lw_p38, List.forall_mem_cons.mpr ⟨lw_p39, List.forall_mem_cons.mpr ⟨lw_p40, List.forall_mem_cons.mpr ⟨lw_p41, List.forall_mem_cons.mpr ⟨lw_p42, List.forall_mem_cons.mpr ⟨lw_p43, List.forall_mem_cons.mpr ⟨lw_p44, List.forall_mem_cons.mpr ⟨lw_p45, List.forall_mem_cons.mpr ⟨lw_p46, List.forall_mem_cons.mpr ⟨lw_p47, fun _ h => absurd h List.not_mem_nil⟩⟩⟩⟩⟩⟩⟩⟩⟩⟩⟩⟩⟩⟩⟩⟩
theorem lw_p48 : lw_okq (⟨"SandPianoModel", "firstAgainst", "(II)I"⟩, 36) := ⟨⟨by decide +kernel, by decide +kernel⟩, List.mem_of_getElem? (i := 766) (by decide +kernel), List.mem_of_getElem? (i := 1116) (by decide +kernel), List.mem_of_getElem? (i := 1117) (by decide +kernel)⟩
theorem lw_p49 : lw_okq (⟨"SandPianoModel", "digsOn", "(III)Z"⟩, 36) := ⟨⟨by decide +kernel, by decide +kernel⟩, List.mem_of_getElem? (i := 766) (by decide +kernel), List.mem_of_getElem? (i := 1128) (by decide +kernel), List.mem_of_getElem? (i := 1129) (by decide +kernel)⟩
theorem lw_p50 : lw_okq (⟨"SandPianoModel", "layRow", "(I[II)V"⟩, 36) := ⟨⟨by decide +kernel, by decide +kernel⟩, List.mem_of_getElem? (i := 766) (by decide +kernel), List.mem_of_getElem? (i := 1132) (by decide +kernel), List.mem_of_getElem? (i := 1133) (by decide +kernel)⟩
theorem lw_p51 : lw_okq (⟨"SandPianoModel", "layMost", "(II)V"⟩, 36) := ⟨⟨by decide +kernel, by decide +kernel⟩, List.mem_of_getElem? (i := 766) (by decide +kernel), List.mem_of_getElem? (i := 1148) (by decide +kernel), List.mem_of_getElem? (i := 1149) (by decide +kernel)⟩
theorem lw_p52 : lw_okq (⟨"SandPianoModel", "takeTried", "(I)V"⟩, 36) := ⟨⟨by decide +kernel, by decide +kernel⟩, List.mem_of_getElem? (i := 766) (by decide +kernel), List.mem_of_getElem? (i := 1152) (by decide +kernel), List.mem_of_getElem? (i := 1153) (by decide +kernel)⟩
theorem lw_p53 : lw_okq (⟨"SandPianoModel", "layBest", "(II)V"⟩, 36) := ⟨⟨by decide +kernel, by decide +kernel⟩, List.mem_of_getElem? (i := 766) (by decide +kernel), List.mem_of_getElem? (i := 1163) (by decide +kernel), List.mem_of_getElem? (i := 1164) (by decide +kernel)⟩
theorem lw_p54 : lw_okq (⟨"SandPianoModel", "layRows", "(II)V"⟩, 36) := ⟨⟨by decide +kernel, by decide +kernel⟩, List.mem_of_getElem? (i := 766) (by decide +kernel), List.mem_of_getElem? (i := 1171) (by decide +kernel), List.mem_of_getElem? (i := 1172) (by decide +kernel)⟩
theorem lw_p55 : lw_okq (⟨"SandPianoModel", "meetSand", "(I)V"⟩, 36) := ⟨⟨by decide +kernel, by decide +kernel⟩, List.mem_of_getElem? (i := 766) (by decide +kernel), List.mem_of_getElem? (i := 1175) (by decide +kernel), List.mem_of_getElem? (i := 1176) (by decide +kernel)⟩
theorem lw_p56 : lw_okq (⟨"SandPianoModel", "layBack", "(II)V"⟩, 36) := ⟨⟨by decide +kernel, by decide +kernel⟩, List.mem_of_getElem? (i := 766) (by decide +kernel), List.mem_of_getElem? (i := 1183) (by decide +kernel), List.mem_of_getElem? (i := 1184) (by decide +kernel)⟩
theorem lw_p57 : lw_okq (⟨"SandPianoModel", "isNow", "(I)Z"⟩, 36) := ⟨⟨by decide +kernel, by decide +kernel⟩, List.mem_of_getElem? (i := 766) (by decide +kernel), List.mem_of_getElem? (i := 1187) (by decide +kernel), List.mem_of_getElem? (i := 1188) (by decide +kernel)⟩
theorem lw_p58 : lw_okq (⟨"SandPianoModel", "needPairs", "(I)I"⟩, 36) := ⟨⟨by decide +kernel, by decide +kernel⟩, List.mem_of_getElem? (i := 766) (by decide +kernel), List.mem_of_getElem? (i := 1195) (by decide +kernel), List.mem_of_getElem? (i := 1196) (by decide +kernel)⟩
theorem lw_p59 : lw_okq (⟨"SandPianoModel", "underSet", "(I)I"⟩, 36) := ⟨⟨by decide +kernel, by decide +kernel⟩, List.mem_of_getElem? (i := 766) (by decide +kernel), List.mem_of_getElem? (i := 1199) (by decide +kernel), List.mem_of_getElem? (i := 1200) (by decide +kernel)⟩
theorem lw_p60 : lw_okq (⟨"SandPianoModel", "part", "(JJ)I"⟩, 36) := ⟨⟨by decide +kernel, by decide +kernel⟩, List.mem_of_getElem? (i := 766) (by decide +kernel), List.mem_of_getElem? (i := 1214) (by decide +kernel), List.mem_of_getElem? (i := 1215) (by decide +kernel)⟩
theorem lw_p61 : lw_okq (⟨"SandPianoModel", "betFrom", "(IIIJ)J"⟩, 36) := ⟨⟨by decide +kernel, by decide +kernel⟩, List.mem_of_getElem? (i := 766) (by decide +kernel), List.mem_of_getElem? (i := 1223) (by decide +kernel), List.mem_of_getElem? (i := 1224) (by decide +kernel)⟩
theorem lw_p62 : lw_okq (⟨"SandPianoModel", "counted", "(I)I"⟩, 36) := ⟨⟨by decide +kernel, by decide +kernel⟩, List.mem_of_getElem? (i := 766) (by decide +kernel), List.mem_of_getElem? (i := 1238) (by decide +kernel), List.mem_of_getElem? (i := 1239) (by decide +kernel)⟩
theorem lw_p63 : lw_okq (⟨"SandPianoModel", "mix", "(J)V"⟩, 36) := ⟨⟨by decide +kernel, by decide +kernel⟩, List.mem_of_getElem? (i := 766) (by decide +kernel), List.mem_of_getElem? (i := 1247) (by decide +kernel), List.mem_of_getElem? (i := 1248) (by decide +kernel)⟩
def lw_privs_4 : List (MethodName × Nat) := [(⟨"SandPianoModel", "firstAgainst", "(II)I"⟩, 36), (⟨"SandPianoModel", "digsOn", "(III)Z"⟩, 36), (⟨"SandPianoModel", "layRow", "(I[II)V"⟩, 36), (⟨"SandPianoModel", "layMost", "(II)V"⟩, 36), (⟨"SandPianoModel", "takeTried", "(I)V"⟩, 36), (⟨"SandPianoModel", "layBest", "(II)V"⟩, 36), (⟨"SandPianoModel", "layRows", "(II)V"⟩, 36), (⟨"SandPianoModel", "meetSand", "(I)V"⟩, 36), (⟨"SandPianoModel", "layBack", "(II)V"⟩, 36), (⟨"SandPianoModel", "isNow", "(I)Z"⟩, 36), (⟨"SandPianoModel", "needPairs", "(I)I"⟩, 36), (⟨"SandPianoModel", "underSet", "(I)I"⟩, 36), (⟨"SandPianoModel", "part", "(JJ)I"⟩, 36), (⟨"SandPianoModel", "betFrom", "(IIIJ)J"⟩, 36), (⟨"SandPianoModel", "counted", "(I)I"⟩, 36), (⟨"SandPianoModel", "mix", "(J)V"⟩, 36)]
theorem lw_r4 : ∀ q ∈ lw_privs_4, lw_okq q := List.forall_mem_cons.mpr ⟨lw_p48, List.forall_mem_cons.mpr ⟨lw_p49, List.forall_mem_cons.mpr ⟨lw_p50, List.forall_mem_cons.mpr ⟨lw_p51, List.forall_mem_cons.mpr ⟨lw_p52, List.forall_mem_cons.mpr ⟨lw_p53, List.forall_mem_cons.mpr ⟨lw_p54, List.forall_mem_cons.mpr ⟨lw_p55, List.forall_mem_cons.mpr ⟨lw_p56, List.forall_mem_cons.mpr ⟨lw_p57, List.forall_mem_cons.mpr ⟨lw_p58, List.forall_mem_cons.mpr ⟨lw_p59, List.forall_mem_cons.mpr ⟨lw_p60, List.forall_mem_cons.mpr ⟨lw_p61, List.forall_mem_cons.mpr ⟨lw_p62, List.forall_mem_cons.mpr ⟨lw_p63, fun _ h => absurd h List.not_mem_nil⟩⟩⟩⟩⟩⟩⟩⟩⟩⟩⟩⟩⟩⟩⟩⟩
theorem lw_p64 : lw_okq (⟨"SandPianoModel", "mixPiano", "()V"⟩, 36) := ⟨⟨by decide +kernel, by decide +kernel⟩, List.mem_of_getElem? (i := 766) (by decide +kernel), List.mem_of_getElem? (i := 1252) (by decide +kernel), List.mem_of_getElem? (i := 1253) (by decide +kernel)⟩
def lw_privs_5 : List (MethodName × Nat) := [(⟨"SandPianoModel", "mixPiano", "()V"⟩, 36)]
theorem lw_r5 : ∀ q ∈ lw_privs_5, lw_okq q := List.forall_mem_cons.mpr ⟨lw_p64, fun _ h => absurd h List.not_mem_nil⟩
def lw_privs : List (MethodName × Nat) := lw_privs_1 ++ (lw_privs_2 ++ (lw_privs_3 ++ (lw_privs_4 ++ (lw_privs_5))))
def lw_tbl : List Cond := k2_sels lw_privs ++ tables_1
theorem lw_privs_ok : ∀ q ∈ lw_privs, lw_okq q := by
  show ∀ q ∈ lw_privs_1 ++ (lw_privs_2 ++ (lw_privs_3 ++ (lw_privs_4 ++ (lw_privs_5)))), lw_okq q
  exact List.forall_mem_append.mpr ⟨lw_r1, List.forall_mem_append.mpr ⟨lw_r2, List.forall_mem_append.mpr ⟨lw_r3, List.forall_mem_append.mpr ⟨lw_r4, lw_r5⟩⟩⟩⟩

def RX0 : String := "SandPiano$Keys"
def TX0 : u_T := fun k => match k with
  | 0 => ("SandPiano$Keys", "kind", "[I", true)
  | 1 => ("SandPiano$Keys", "strength", "[I", true)
  | 2 => ("SandPiano$Keys", "pay", "[I", true)
  | _ => ("SandPiano$Keys", "size", "I", false)
def tyX0 : Nat → FieldType := fun k => match k with
  | 0 => .array .int
  | 1 => .array .int
  | 2 => .array .int
  | _ => .int
abbrev wsX00 : List Cond := u_ws RX0 TX0 4
theorem nmX0 : ∀ a, a < 4 → ∀ b, b < 4 → a ≠ b → (TX0 a).2.1 ≠ (TX0 b).2.1 := by decide +kernel
theorem tyX0_ok : ∀ k, k < 4 → parseFieldDescriptor (TX0 k).2.2.1 = some (tyX0 k) := by decide +kernel
def RX1 : String := "SandPiano$Reader"
def TX1 : u_T := fun k => match k with
  | 0 => ("SandPiano$Reader", "keys", "LSandPiano$Keys;", true)
  | 1 => ("SandPiano$Reader", "sand", "LSandPiano$Sand;", true)
  | _ => ("SandPiano$Reader", "spade", "I", false)
def tyX1 : Nat → FieldType := fun k => match k with
  | 0 => .object "SandPiano$Keys"
  | 1 => .object "SandPiano$Sand"
  | _ => .int
abbrev wsX10 : List Cond := u_ws RX1 TX1 3
theorem nmX1 : ∀ a, a < 3 → ∀ b, b < 3 → a ≠ b → (TX1 a).2.1 ≠ (TX1 b).2.1 := by decide +kernel
theorem tyX1_ok : ∀ k, k < 3 → parseFieldDescriptor (TX1 k).2.2.1 = some (tyX1 k) := by decide +kernel
def RX2 : String := "SandPiano$Sand"
def TX2 : u_T := fun k => match k with
  | 0 => ("SandPiano$Sand", "on", "[I", true)
  | 1 => ("SandPiano$Sand", "beach", "I", false)
  | 2 => ("SandPiano$Sand", "sea", "I", false)
  | _ => ("SandPiano$Sand", "earned", "I", false)
def tyX2 : Nat → FieldType := fun k => match k with
  | 0 => .array .int
  | 1 => .int
  | 2 => .int
  | _ => .int
abbrev wsX20 : List Cond := u_ws RX2 TX2 4
theorem nmX2 : ∀ a, a < 4 → ∀ b, b < 4 → a ≠ b → (TX2 a).2.1 ≠ (TX2 b).2.1 := by decide +kernel
theorem tyX2_ok : ∀ k, k < 4 → parseFieldDescriptor (TX2 k).2.2.1 = some (tyX2 k) := by decide +kernel
def RX3 : String := "SandPiano$SandSet"
def TX3 : u_T := fun k => match k with
  | 0 => ("SandPiano$SandSet", "slots", "[J", true)
  | _ => ("SandPiano$SandSet", "size", "I", false)
def tyX3 : Nat → FieldType := fun k => match k with
  | 0 => .array .long
  | _ => .int
abbrev wsX30 : List Cond := u_ws RX3 TX3 2
theorem nmX3 : ∀ a, a < 2 → ∀ b, b < 2 → a ≠ b → (TX3 a).2.1 ≠ (TX3 b).2.1 := by decide +kernel
theorem tyX3_ok : ∀ k, k < 2 → parseFieldDescriptor (TX3 k).2.2.1 = some (tyX3 k) := by decide +kernel
def RX4 : String := "SandPiano$Search"
def TX4 : u_T := fun k => match k with
  | 0 => ("SandPiano$Search", "keys", "LSandPiano$Keys;", true)
  | 1 => ("SandPiano$Search", "behind", "[LSandPiano$Sand;", true)
  | 2 => ("SandPiano$Search", "way", "[I", true)
  | 3 => ("SandPiano$Search", "first", "[I", true)
  | 4 => ("SandPiano$Search", "unlike", "LSandPiano$SandSet;", true)
  | 5 => ("SandPiano$Search", "firstSize", "I", false)
  | 6 => ("SandPiano$Search", "top", "I", false)
  | _ => ("SandPiano$Search", "topPay", "I", false)
def tyX4 : Nat → FieldType := fun k => match k with
  | 0 => .object "SandPiano$Keys"
  | 1 => .array (.object "SandPiano$Sand")
  | 2 => .array .int
  | 3 => .array .int
  | 4 => .object "SandPiano$SandSet"
  | 5 => .int
  | 6 => .int
  | _ => .int
abbrev wsX40 : List Cond := u_ws RX4 TX4 8
theorem nmX4 : ∀ a, a < 8 → ∀ b, b < 8 → a ≠ b → (TX4 a).2.1 ≠ (TX4 b).2.1 := by decide +kernel
theorem tyX4_ok : ∀ k, k < 8 → parseFieldDescriptor (TX4 k).2.2.1 = some (tyX4 k) := by decide +kernel
def RX5 : String := "SandPiano$Shelf"
def TX5 : u_T := fun k => match k with
  | 0 => ("SandPiano$Shelf", "places", "[[I", true)
  | _ => ("SandPiano$Shelf", "sizes", "[I", true)
def tyX5 : Nat → FieldType := fun k => match k with
  | 0 => .array (.array .int)
  | _ => .array .int
abbrev wsX50 : List Cond := u_ws RX5 TX5 2
theorem nmX5 : ∀ a, a < 2 → ∀ b, b < 2 → a ≠ b → (TX5 a).2.1 ≠ (TX5 b).2.1 := by decide +kernel
theorem tyX5_ok : ∀ k, k < 2 → parseFieldDescriptor (TX5 k).2.2.1 = some (tyX5 k) := by decide +kernel
def RX6 : String := "SandPiano$Story"
def TX6 : u_T := fun k => match k with
  | 0 => ("SandPiano$Story", "pages", "[I", true)
  | 1 => ("SandPiano$Story", "deeds", "I", false)
  | 2 => ("SandPiano$Story", "spade", "I", false)
  | _ => ("SandPiano$Story", "there", "Z", false)
def tyX6 : Nat → FieldType := fun k => match k with
  | 0 => .array .int
  | 1 => .int
  | 2 => .int
  | _ => .boolean
abbrev wsX60 : List Cond := u_ws RX6 TX6 4
theorem nmX6 : ∀ a, a < 4 → ∀ b, b < 4 → a ≠ b → (TX6 a).2.1 ≠ (TX6 b).2.1 := by decide +kernel
theorem tyX6_ok : ∀ k, k < 4 → parseFieldDescriptor (TX6 k).2.2.1 = some (tyX6 k) := by decide +kernel
def RX7 : String := "SandPiano"
def TX7 : u_T := fun k => match k with
  | 0 => ("SandPiano", "rows", "LSandPiano$Shelf;", true)
  | 1 => ("SandPiano", "texts", "LSandPiano$Shelf;", true)
  | 2 => ("SandPiano", "search", "LSandPiano$Search;", true)
  | 3 => ("SandPiano", "keys", "LSandPiano$Keys;", true)
  | 4 => ("SandPiano", "now", "LSandPiano$Sand;", true)
  | 5 => ("SandPiano", "aside", "LSandPiano$Sand;", true)
  | 6 => ("SandPiano", "asideToo", "LSandPiano$Sand;", true)
  | 7 => ("SandPiano", "story", "LSandPiano$Story;", true)
  | 8 => ("SandPiano", "kept", "[LSandPiano$Story;", true)
  | 9 => ("SandPiano", "reader", "LSandPiano$Reader;", true)
  | 10 => ("SandPiano", "found", "[I", true)
  | 11 => ("SandPiano", "lastFound", "I", false)
  | 12 => ("SandPiano", "told", "I", false)
  | 13 => ("SandPiano", "chanceUpper", "J", false)
  | _ => ("SandPiano", "chanceLower", "J", false)
def tyX7 : Nat → FieldType := fun k => match k with
  | 0 => .object "SandPiano$Shelf"
  | 1 => .object "SandPiano$Shelf"
  | 2 => .object "SandPiano$Search"
  | 3 => .object "SandPiano$Keys"
  | 4 => .object "SandPiano$Sand"
  | 5 => .object "SandPiano$Sand"
  | 6 => .object "SandPiano$Sand"
  | 7 => .object "SandPiano$Story"
  | 8 => .array (.object "SandPiano$Story")
  | 9 => .object "SandPiano$Reader"
  | 10 => .array .int
  | 11 => .int
  | 12 => .int
  | 13 => .long
  | _ => .long
abbrev wsX70 : List Cond := u_ws RX7 TX7 15
theorem nmX7 : ∀ a, a < 15 → ∀ b, b < 15 → a ≠ b → (TX7 a).2.1 ≠ (TX7 b).2.1 := by decide +kernel
theorem tyX7_ok : ∀ k, k < 15 → parseFieldDescriptor (TX7 k).2.2.1 = some (tyX7 k) := by decide +kernel
def RX8 : String := "SandPianoModel"
def TX8 : u_T := fun k => match k with
  | 0 => ("SandPianoModel", "latest", "I", false)
  | 1 => ("SandPianoModel", "came", "[I", true)
  | 2 => ("SandPianoModel", "asked", "I", false)
  | 3 => ("SandPianoModel", "upper", "J", false)
  | 4 => ("SandPianoModel", "lower", "J", false)
  | 5 => ("SandPianoModel", "sizes", "[I", true)
  | 6 => ("SandPianoModel", "rows", "[I", true)
  | 7 => ("SandPianoModel", "copied", "[I", true)
  | 8 => ("SandPianoModel", "textSizes", "[I", true)
  | 9 => ("SandPianoModel", "bytes", "[B", true)
  | 10 => ("SandPianoModel", "spadeNow", "I", false)
  | 11 => ("SandPianoModel", "n", "I", false)
  | 12 => ("SandPianoModel", "kinds", "[I", true)
  | 13 => ("SandPianoModel", "strengths", "[I", true)
  | 14 => ("SandPianoModel", "pays", "[I", true)
  | 15 => ("SandPianoModel", "readAt", "I", false)
  | 16 => ("SandPianoModel", "readNumber", "I", false)
  | 17 => ("SandPianoModel", "readSpade", "I", false)
  | 18 => ("SandPianoModel", "readMany", "I", false)
  | 19 => ("SandPianoModel", "readKeys", "[I", true)
  | 20 => ("SandPianoModel", "pianos", "[I", true)
  | 21 => ("SandPianoModel", "deedMany", "I", false)
  | 22 => ("SandPianoModel", "deeds", "[I", true)
  | 23 => ("SandPianoModel", "isKept", "[Z", true)
  | 24 => ("SandPianoModel", "keptMany", "[I", true)
  | 25 => ("SandPianoModel", "keptSpade", "[I", true)
  | 26 => ("SandPianoModel", "keptNow", "[I", true)
  | 27 => ("SandPianoModel", "keptDeeds", "[I", true)
  | 28 => ("SandPianoModel", "tried", "[I", true)
  | 29 => ("SandPianoModel", "bestTried", "[I", true)
  | 30 => ("SandPianoModel", "bestMany", "I", false)
  | 31 => ("SandPianoModel", "bestEarned", "I", false)
  | 32 => ("SandPianoModel", "rowMany", "I", false)
  | 33 => ("SandPianoModel", "sandMany", "I", false)
  | 34 => ("SandPianoModel", "sands", "[I", true)
  | _ => ("SandPianoModel", "hash", "J", false)
def tyX8 : Nat → FieldType := fun k => match k with
  | 0 => .int
  | 1 => .array .int
  | 2 => .int
  | 3 => .long
  | 4 => .long
  | 5 => .array .int
  | 6 => .array .int
  | 7 => .array .int
  | 8 => .array .int
  | 9 => .array .byte
  | 10 => .int
  | 11 => .int
  | 12 => .array .int
  | 13 => .array .int
  | 14 => .array .int
  | 15 => .int
  | 16 => .int
  | 17 => .int
  | 18 => .int
  | 19 => .array .int
  | 20 => .array .int
  | 21 => .int
  | 22 => .array .int
  | 23 => .array .boolean
  | 24 => .array .int
  | 25 => .array .int
  | 26 => .array .int
  | 27 => .array .int
  | 28 => .array .int
  | 29 => .array .int
  | 30 => .int
  | 31 => .int
  | 32 => .int
  | 33 => .int
  | 34 => .array .int
  | _ => .long
abbrev wsX80 : List Cond := u_ws RX8 TX8 36
theorem nmX8 : ∀ a, a < 36 → ∀ b, b < 36 → a ≠ b → (TX8 a).2.1 ≠ (TX8 b).2.1 := by decide +kernel
theorem tyX8_ok : ∀ k, k < 36 → parseFieldDescriptor (TX8 k).2.2.1 = some (tyX8 k) := by decide +kernel
abbrev vwCl : List vw_C := [(RX0, TX0, 4), (RX1, TX1, 3), (RX2, TX2, 4), (RX3, TX3, 2), (RX4, TX4, 8), (RX5, TX5, 2), (RX6, TX6, 4), (RX7, TX7, 15), (RX8, TX8, 36)]
/-- the methods: name, bytes, places for locals, answer -/
def sp_mt0 : List (MethodName × ByteArray × Nat × Option FieldType) := [(⟨"SandPiano", "<init>", "()V"⟩, prog_1_method_1_code, 2, none), (⟨"java/lang/Object", "<init>", "()V"⟩, object_method_1_code, 1, none), (⟨"SandPiano$Shelf", "<init>", "(II)V"⟩, prog_7_method_1_code, 3, none), (⟨"java/util/Arrays", "fill", "([II)V"⟩, prog_14_method_103_code, 4, none), (⟨"SandPiano$Search", "<init>", "()V"⟩, prog_6_method_1_code, 2, none), (⟨"SandPiano$Keys", "<init>", "()V"⟩, prog_2_method_1_code, 1, none), (⟨"SandPiano$SandSet", "<init>", "()V"⟩, prog_5_method_1_code, 1, none), (⟨"SandPiano$Sand", "<init>", "()V"⟩, prog_4_method_1_code, 1, none), (⟨"SandPiano$Story", "<init>", "()V"⟩, prog_8_method_1_code, 1, none), (⟨"SandPiano$Reader", "<init>", "()V"⟩, prog_3_method_1_code, 1, none), (⟨"SandPiano", "row", "(II)I"⟩, prog_1_method_2_code, 3, (some .int)), (⟨"SandPiano$Shelf", "isNumber", "(I)Z"⟩, prog_7_method_2_code, 2, (some .boolean)), (⟨"SandPiano", "refuse", "(I)I"⟩, prog_1_method_44_code, 2, (some .int)), (⟨"SandPiano$Shelf", "make", "(III)V"⟩, prog_7_method_8_code, 4, none), (⟨"SandPiano", "lay", "(III)I"⟩, prog_1_method_3_code, 5, (some .int)), (⟨"SandPiano", "placeWrong", "(LSandPiano$Shelf;II)I"⟩, prog_1_method_45_code, 3, (some .int)), (⟨"SandPiano$Shelf", "isThere", "(I)Z"⟩, prog_7_method_3_code, 2, (some .boolean)), (⟨"SandPiano$Shelf", "hasSpan", "(III)Z"⟩, prog_7_method_5_code, 4, (some .boolean)), (⟨"SandPiano$Shelf", "get", "(II)I"⟩, prog_7_method_6_code, 3, (some .int)), (⟨"SandPiano$Shelf", "set", "(III)V"⟩, prog_7_method_7_code, 4, none), (⟨"SandPiano", "at", "(II)I"⟩, prog_1_method_4_code, 4, (some .int)), (⟨"SandPiano", "tear", "(I)I"⟩, prog_1_method_5_code, 2, (some .int)), (⟨"SandPiano$Shelf", "drop", "(I)V"⟩, prog_7_method_9_code, 2, none), (⟨"SandPiano", "copy", "(IIIII)I"⟩, prog_1_method_6_code, 6, (some .int)), (⟨"SandPiano$Shelf", "move", "(IIIII)V"⟩, prog_7_method_10_code, 6, none), (⟨"SandPiano", "mean", "(I)I"⟩, prog_1_method_7_code, 6, (some .int)), (⟨"SandPiano$Shelf", "sizeOf", "(I)I"⟩, prog_7_method_4_code, 2, (some .int)), (⟨"SandPiano", "text", "(II)I"⟩, prog_1_method_8_code, 3, (some .int)), (⟨"SandPiano", "put", "(III)I"⟩, prog_1_method_9_code, 6, (some .int)), (⟨"SandPiano", "fault", "(I)I"⟩, prog_1_method_10_code, 2, (some .int)), (⟨"SandPiano$Reader", "read", "(LSandPiano$Shelf;I)I"⟩, prog_3_method_2_code, 5, (some .int)), (⟨"SandPiano$Sand", "clear", "()V"⟩, prog_4_method_2_code, 1, none), (⟨"SandPiano$Reader", "skipBlanks", "(LSandPiano$Shelf;II)I"⟩, prog_3_method_5_code, 4, (some .int)), (⟨"SandPiano$Reader", "figure", "(LSandPiano$Shelf;II)I"⟩, prog_3_method_6_code, 4, (some .int)), (⟨"SandPiano$Reader", "readKeys", "(LSandPiano$Shelf;II)I"⟩, prog_3_method_3_code, 8, (some .int)), (⟨"SandPiano$Reader", "readKey", "(LSandPiano$Shelf;III)I"⟩, prog_3_method_4_code, 9, (some .int)), (⟨"SandPiano$Reader", "kindOf", "(I)I"⟩, prog_3_method_7_code, 2, (some .int)), (⟨"SandPiano", "piano", "(I)I"⟩, prog_1_method_11_code, 3, (some .int)), (⟨"SandPiano$Keys", "take", "(LSandPiano$Keys;)V"⟩, prog_2_method_2_code, 2, none), (⟨"SandPiano$Sand", "take", "(LSandPiano$Sand;)V"⟩, prog_4_method_3_code, 2, none)]
def sp_mt1 : List (MethodName × ByteArray × Nat × Option FieldType) := [(⟨"SandPiano$Story", "begin", "(LSandPiano$Sand;I)V"⟩, prog_8_method_2_code, 3, none), (⟨"SandPiano$Story", "write", "(LSandPiano$Sand;)V"⟩, prog_8_method_5_code, 3, none), (⟨"SandPiano", "key", "(II)I"⟩, prog_1_method_12_code, 3, (some .int)), (⟨"SandPiano$Keys", "isKey", "(I)Z"⟩, prog_2_method_3_code, 2, (some .boolean)), (⟨"SandPiano", "keyTells", "(II)I"⟩, prog_1_method_50_code, 3, (some .int)), (⟨"SandPiano$Keys", "bears", "(ILSandPiano$Sand;)Z"⟩, prog_2_method_9_code, 3, (some .boolean)), (⟨"SandPiano", "mark", "(II)I"⟩, prog_1_method_13_code, 3, (some .int)), (⟨"SandPiano$Keys", "isOf", "(II)Z"⟩, prog_2_method_4_code, 3, (some .boolean)), (⟨"java/lang/Math", "min", "(II)I"⟩, prog_12_method_69_code, 2, (some .int)), (⟨"java/lang/Math", "max", "(II)I"⟩, prog_12_method_65_code, 2, (some .int)), (⟨"SandPiano$Keys", "playable", "(LSandPiano$Sand;)I"⟩, prog_2_method_10_code, 4, (some .int)), (⟨"java/lang/Integer", "bitCount", "(I)I"⟩, prog_11_method_49_code, 1, (some .int)), (⟨"SandPiano", "spade", "(I)I"⟩, prog_1_method_14_code, 3, (some .int)), (⟨"SandPiano", "play", "(I)I"⟩, prog_1_method_15_code, 2, (some .int)), (⟨"SandPiano$Story", "isFull", "(I)Z"⟩, prog_8_method_3_code, 2, (some .boolean)), (⟨"SandPiano$Keys", "sound", "(ILSandPiano$Sand;)V"⟩, prog_2_method_11_code, 3, none), (⟨"SandPiano$Sand", "toss", "(IIII)V"⟩, prog_4_method_5_code, 6, none), (⟨"SandPiano$Sand", "fetchFromBeach", "()V"⟩, prog_4_method_6_code, 1, none), (⟨"SandPiano$Story", "add", "(LSandPiano$Sand;)V"⟩, prog_8_method_4_code, 2, none), (⟨"SandPiano", "tide", "(I)I"⟩, prog_1_method_16_code, 3, (some .int)), (⟨"SandPiano$Sand", "flood", "(II)I"⟩, prog_4_method_7_code, 5, (some .int)), (⟨"SandPiano", "storm", "(I)I"⟩, prog_1_method_17_code, 3, (some .int)), (⟨"SandPiano$Sand", "blowLeft", "(I)I"⟩, prog_4_method_8_code, 4, (some .int)), (⟨"SandPiano$Sand", "blowRight", "(I)I"⟩, prog_4_method_9_code, 4, (some .int)), (⟨"SandPiano", "dig", "(I)I"⟩, prog_1_method_18_code, 3, (some .int)), (⟨"SandPiano$Sand", "scoop", "(II)I"⟩, prog_4_method_10_code, 4, (some .int)), (⟨"SandPiano", "undo", "(I)I"⟩, prog_1_method_19_code, 3, (some .int)), (⟨"SandPiano$Story", "tell", "(LSandPiano$Sand;)V"⟩, prog_8_method_6_code, 3, none), (⟨"SandPiano", "can", "()I"⟩, prog_1_method_20_code, 1, (some .int)), (⟨"SandPiano", "keep", "(I)I"⟩, prog_1_method_21_code, 2, (some .int)), (⟨"SandPiano$Story", "take", "(LSandPiano$Story;)V"⟩, prog_8_method_7_code, 2, none), (⟨"SandPiano", "on", "(I)I"⟩, prog_1_method_22_code, 2, (some .int)), (⟨"SandPiano", "judge", "(I)I"⟩, prog_1_method_23_code, 4, (some .int)), (⟨"SandPiano", "pieceWrong", "(I)I"⟩, prog_1_method_46_code, 4, (some .int)), (⟨"SandPiano$Keys", "soundPiece", "(LSandPiano$Shelf;ILSandPiano$Sand;)I"⟩, prog_2_method_12_code, 7, (some .int)), (⟨"SandPiano", "earns", "(I)I"⟩, prog_1_method_24_code, 3, (some .int)), (⟨"SandPiano", "digs", "(II)I"⟩, prog_1_method_25_code, 5, (some .int)), (⟨"SandPiano$Search", "fewestDigs", "(LSandPiano$Sand;ILSandPiano$Shelf;I)I"⟩, prog_6_method_7_code, 6, (some .int)), (⟨"SandPiano$Search", "begin", "(LSandPiano$Sand;)V"⟩, prog_6_method_4_code, 2, none), (⟨"SandPiano$Search", "digOn", "(IIIILSandPiano$Shelf;I)Z"⟩, prog_6_method_8_code, 9, (some .boolean))]
def sp_mt2 : List (MethodName × ByteArray × Nat × Option FieldType) := [(⟨"SandPiano$Search", "remember", "(I)V"⟩, prog_6_method_5_code, 2, none), (⟨"SandPiano$Search", "layFound", "(LSandPiano$Shelf;I)V"⟩, prog_6_method_3_code, 4, none), (⟨"SandPiano$Search", "hasFound", "()Z"⟩, prog_6_method_2_code, 1, (some .boolean)), (⟨"SandPiano", "lasts", "(II)I"⟩, prog_1_method_26_code, 5, (some .int)), (⟨"SandPiano", "duet", "(II)I"⟩, prog_1_method_27_code, 8, (some .int)), (⟨"SandPiano", "most", "(I)I"⟩, prog_1_method_28_code, 3, (some .int)), (⟨"SandPiano$Search", "mostOnce", "(LSandPiano$Sand;)I"⟩, prog_6_method_9_code, 2, (some .int)), (⟨"SandPiano$Search", "onceOn", "(II)V"⟩, prog_6_method_10_code, 4, none), (⟨"SandPiano$Search", "step", "(II)Z"⟩, prog_6_method_6_code, 3, (some .boolean)), (⟨"SandPiano", "best", "(II)I"⟩, prog_1_method_29_code, 4, (some .int)), (⟨"SandPiano$Search", "bestPaid", "(LSandPiano$Sand;I)I"⟩, prog_6_method_11_code, 3, (some .int)), (⟨"SandPiano$Keys", "topPay", "()I"⟩, prog_2_method_6_code, 3, (some .int)), (⟨"SandPiano$Search", "paidOn", "(II)V"⟩, prog_6_method_12_code, 5, none), (⟨"SandPiano", "rows", "(I)I"⟩, prog_1_method_30_code, 3, (some .int)), (⟨"SandPiano$Search", "countWays", "(LSandPiano$Sand;I)I"⟩, prog_6_method_13_code, 3, (some .int)), (⟨"SandPiano$SandSet", "clear", "()V"⟩, prog_5_method_2_code, 1, none), (⟨"java/util/Arrays", "fill", "([JJ)V"⟩, prog_14_method_101_code, 5, none), (⟨"SandPiano$Search", "countOn", "(II)I"⟩, prog_6_method_15_code, 5, (some .int)), (⟨"SandPiano$SandSet", "add", "(LSandPiano$Sand;)V"⟩, prog_5_method_3_code, 6, none), (⟨"SandPiano$Search", "unlikeSands", "()I"⟩, prog_6_method_14_code, 1, (some .int)), (⟨"SandPiano", "back", "(III)I"⟩, prog_1_method_31_code, 6, (some .int)), (⟨"SandPiano", "sandWrong", "(I)I"⟩, prog_1_method_47_code, 5, (some .int)), (⟨"SandPiano$Search", "countWaysTo", "(LSandPiano$Sand;LSandPiano$Sand;I)I"⟩, prog_6_method_16_code, 4, (some .int)), (⟨"SandPiano$Search", "countTo", "(IILSandPiano$Sand;)I"⟩, prog_6_method_17_code, 6, (some .int)), (⟨"SandPiano$Sand", "liesLike", "(LSandPiano$Sand;I)Z"⟩, prog_4_method_4_code, 4, (some .boolean)), (⟨"SandPiano", "ring", "(I)I"⟩, prog_1_method_32_code, 3, (some .int)), (⟨"SandPiano", "songWrong", "(I)I"⟩, prog_1_method_48_code, 5, (some .int)), (⟨"SandPiano", "ringPlaces", "(I)I"⟩, prog_1_method_49_code, 5, (some .int)), (⟨"SandPiano$Keys", "all", "()I"⟩, prog_2_method_7_code, 1, (some .int)), (⟨"SandPiano$Keys", "near", "(I)I"⟩, prog_2_method_8_code, 2, (some .int)), (⟨"SandPiano", "strike", "(I)I"⟩, prog_1_method_33_code, 9, (some .int)), (⟨"SandPiano", "tune", "(I)I"⟩, prog_1_method_34_code, 7, (some .int)), (⟨"SandPiano", "tellChances", "(JJ)I"⟩, prog_1_method_53_code, 7, (some .int)), (⟨"SandPiano", "commonDivisor", "(JJ)J"⟩, prog_1_method_54_code, 11, (some .long)), (⟨"SandPiano", "bet", "(II)I"⟩, prog_1_method_35_code, 3, (some .int)), (⟨"SandPiano$Search", "windShares", "(LSandPiano$Sand;II)J"⟩, prog_6_method_19_code, 4, (some .long)), (⟨"SandPiano$Search", "sharesOn", "(III)J"⟩, prog_6_method_20_code, 8, (some .long)), (⟨"SandPiano$Search", "wholeShares", "(I)J"⟩, prog_6_method_18_code, 4, (some .long)), (⟨"SandPiano", "wind", "(II)I"⟩, prog_1_method_36_code, 8, (some .int)), (⟨"SandPiano", "bitAt", "(II)I"⟩, prog_1_method_55_code, 4, (some .int))]
def sp_mt3 : List (MethodName × ByteArray × Nat × Option FieldType) := [(⟨"SandPiano", "asked", "()I"⟩, prog_1_method_37_code, 1, (some .int)), (⟨"SandPiano", "upper", "()J"⟩, prog_1_method_38_code, 1, (some .long)), (⟨"SandPiano", "lower", "()J"⟩, prog_1_method_39_code, 1, (some .long)), (⟨"SandPiano", "count", "(I)I"⟩, prog_1_method_40_code, 2, (some .int)), (⟨"SandPiano", "countOf", "(I)I"⟩, prog_1_method_51_code, 2, (some .int)), (⟨"SandPiano$Keys", "countOf", "(I)I"⟩, prog_2_method_5_code, 4, (some .int)), (⟨"SandPiano$Shelf", "countThere", "()I"⟩, prog_7_method_11_code, 3, (some .int)), (⟨"SandPiano", "countKept", "()I"⟩, prog_1_method_52_code, 3, (some .int)), (⟨"SandPiano", "finding", "()I"⟩, prog_1_method_41_code, 1, (some .int)), (⟨"SandPiano", "findings", "(I)I"⟩, prog_1_method_42_code, 2, (some .int)), (⟨"SandPiano", "digest", "()J"⟩, prog_1_method_43_code, 5, (some .long)), (⟨"SandPiano$Shelf", "mix", "(J)J"⟩, prog_7_method_12_code, 7, (some .long)), (⟨"SandPianoModel", "<init>", "()V"⟩, prog_10_method_1_code, 2, none), (⟨"SandPianoModel", "finding", "()I"⟩, prog_10_method_8_code, 1, (some .int)), (⟨"SandPianoModel", "findings", "(I)I"⟩, prog_10_method_9_code, 2, (some .int)), (⟨"SandPianoModel", "in", "(III)Z"⟩, prog_10_method_2_code, 3, (some .boolean)), (⟨"SandPianoModel", "asked", "()I"⟩, prog_10_method_11_code, 1, (some .int)), (⟨"SandPianoModel", "upper", "()J"⟩, prog_10_method_13_code, 1, (some .long)), (⟨"SandPianoModel", "lower", "()J"⟩, prog_10_method_14_code, 1, (some .long)), (⟨"SandPianoModel", "row", "(II)I"⟩, prog_10_method_17_code, 4, (some .int)), (⟨"SandPianoModel", "isRow", "(I)Z"⟩, prog_10_method_15_code, 1, (some .boolean)), (⟨"SandPianoModel", "meets", "(I)I"⟩, prog_10_method_7_code, 2, (some .int)), (⟨"SandPianoModel", "lay", "(III)I"⟩, prog_10_method_18_code, 5, (some .int)), (⟨"SandPianoModel", "rowAt", "(II)I"⟩, prog_10_method_16_code, 3, (some .int)), (⟨"SandPianoModel", "tells", "(II)I"⟩, prog_10_method_10_code, 3, (some .int)), (⟨"SandPianoModel", "at", "(II)I"⟩, prog_10_method_19_code, 3, (some .int)), (⟨"SandPianoModel", "tear", "(I)I"⟩, prog_10_method_20_code, 2, (some .int)), (⟨"SandPianoModel", "copy", "(IIIII)I"⟩, prog_10_method_21_code, 7, (some .int)), (⟨"SandPianoModel", "mean", "(I)I"⟩, prog_10_method_22_code, 5, (some .int)), (⟨"SandPianoModel", "text", "(II)I"⟩, prog_10_method_24_code, 4, (some .int)), (⟨"SandPianoModel", "isText", "(I)Z"⟩, prog_10_method_23_code, 1, (some .boolean)), (⟨"SandPianoModel", "put", "(III)I"⟩, prog_10_method_25_code, 5, (some .int)), (⟨"SandPianoModel", "fault", "(I)I"⟩, prog_10_method_33_code, 2, (some .int)), (⟨"SandPianoModel", "faultOf", "(I)I"⟩, prog_10_method_32_code, 2, (some .int)), (⟨"SandPianoModel", "byteAt", "(II)I"⟩, prog_10_method_26_code, 3, (some .int)), (⟨"SandPianoModel", "readsSpade", "(I)Z"⟩, prog_10_method_30_code, 3, (some .boolean)), (⟨"SandPianoModel", "figure", "(II)Z"⟩, prog_10_method_29_code, 4, (some .boolean)), (⟨"SandPianoModel", "readsKey", "(I)Z"⟩, prog_10_method_31_code, 5, (some .boolean)), (⟨"SandPianoModel", "kindOf", "(I)I"⟩, prog_10_method_28_code, 1, (some .int)), (⟨"SandPianoModel", "piano", "(I)I"⟩, prog_10_method_34_code, 3, (some .int))]
def sp_mt4 : List (MethodName × ByteArray × Nat × Option FieldType) := [(⟨"SandPianoModel", "place", "(III)V"⟩, prog_10_method_37_code, 4, none), (⟨"SandPianoModel", "key", "(II)I"⟩, prog_10_method_49_code, 3, (some .int)), (⟨"SandPianoModel", "isKey", "(I)Z"⟩, prog_10_method_35_code, 2, (some .boolean)), (⟨"SandPianoModel", "keyTells", "(II)I"⟩, prog_10_method_48_code, 3, (some .int)), (⟨"SandPianoModel", "v", "(II)I"⟩, prog_10_method_36_code, 3, (some .int)), (⟨"SandPianoModel", "canPlay", "(II)Z"⟩, prog_10_method_40_code, 4, (some .boolean)), (⟨"SandPianoModel", "mark", "(II)I"⟩, prog_10_method_50_code, 4, (some .int)), (⟨"SandPianoModel", "lesser", "(II)I"⟩, prog_10_method_5_code, 2, (some .int)), (⟨"SandPianoModel", "greater", "(II)I"⟩, prog_10_method_6_code, 2, (some .int)), (⟨"SandPianoModel", "leftOf", "(I)I"⟩, prog_10_method_43_code, 2, (some .int)), (⟨"SandPianoModel", "canSet", "(I)I"⟩, prog_10_method_41_code, 4, (some .int)), (⟨"SandPianoModel", "bits", "(I)I"⟩, prog_10_method_4_code, 3, (some .int)), (⟨"SandPianoModel", "spade", "(I)I"⟩, prog_10_method_51_code, 3, (some .int)), (⟨"SandPianoModel", "play", "(I)I"⟩, prog_10_method_53_code, 2, (some .int)), (⟨"SandPianoModel", "remember", "()V"⟩, prog_10_method_52_code, 2, none), (⟨"SandPianoModel", "plays", "(II)V"⟩, prog_10_method_45_code, 3, none), (⟨"SandPianoModel", "rightOf", "(I)I"⟩, prog_10_method_44_code, 2, (some .int)), (⟨"SandPianoModel", "moves", "(IIII)I"⟩, prog_10_method_42_code, 6, (some .int)), (⟨"SandPianoModel", "add", "(III)V"⟩, prog_10_method_38_code, 4, none), (⟨"SandPianoModel", "tide", "(I)I"⟩, prog_10_method_55_code, 3, (some .int)), (⟨"SandPianoModel", "needDeed", "()I"⟩, prog_10_method_54_code, 1, (some .int)), (⟨"SandPianoModel", "tides", "(II)I"⟩, prog_10_method_46_code, 5, (some .int)), (⟨"SandPianoModel", "storm", "(I)I"⟩, prog_10_method_56_code, 3, (some .int)), (⟨"SandPianoModel", "storms", "(II)I"⟩, prog_10_method_47_code, 8, (some .int)), (⟨"SandPianoModel", "dig", "(I)I"⟩, prog_10_method_57_code, 2, (some .int)), (⟨"SandPianoModel", "undo", "(I)I"⟩, prog_10_method_58_code, 4, (some .int)), (⟨"SandPianoModel", "can", "()I"⟩, prog_10_method_59_code, 1, (some .int)), (⟨"SandPianoModel", "keep", "(I)I"⟩, prog_10_method_60_code, 3, (some .int)), (⟨"SandPianoModel", "on", "(I)I"⟩, prog_10_method_61_code, 3, (some .int)), (⟨"SandPianoModel", "judge", "(I)I"⟩, prog_10_method_65_code, 4, (some .int)), (⟨"SandPianoModel", "needPiece", "(I)I"⟩, prog_10_method_63_code, 2, (some .int)), (⟨"SandPianoModel", "pieceOf", "(I)I"⟩, prog_10_method_62_code, 4, (some .int)), (⟨"SandPianoModel", "copyTo", "(II)V"⟩, prog_10_method_39_code, 4, none), (⟨"SandPianoModel", "firstAgainst", "(II)I"⟩, prog_10_method_64_code, 4, (some .int)), (⟨"SandPianoModel", "earns", "(I)I"⟩, prog_10_method_66_code, 3, (some .int)), (⟨"SandPianoModel", "digs", "(II)I"⟩, prog_10_method_68_code, 5, (some .int)), (⟨"SandPianoModel", "digsOn", "(III)Z"⟩, prog_10_method_67_code, 5, (some .boolean)), (⟨"SandPianoModel", "layRow", "(I[II)V"⟩, prog_10_method_27_code, 5, none), (⟨"SandPianoModel", "lasts", "(II)I"⟩, prog_10_method_69_code, 5, (some .int)), (⟨"SandPianoModel", "duet", "(II)I"⟩, prog_10_method_70_code, 5, (some .int))]
def sp_mt5 : List (MethodName × ByteArray × Nat × Option FieldType) := [(⟨"SandPianoModel", "most", "(I)I"⟩, prog_10_method_73_code, 2, (some .int)), (⟨"SandPianoModel", "layMost", "(II)V"⟩, prog_10_method_72_code, 4, none), (⟨"SandPianoModel", "takeTried", "(I)V"⟩, prog_10_method_71_code, 3, none), (⟨"SandPianoModel", "has", "(II)Z"⟩, prog_10_method_3_code, 2, (some .boolean)), (⟨"SandPianoModel", "best", "(II)I"⟩, prog_10_method_75_code, 3, (some .int)), (⟨"SandPianoModel", "layBest", "(II)V"⟩, prog_10_method_74_code, 4, none), (⟨"SandPianoModel", "rows", "(I)I"⟩, prog_10_method_78_code, 2, (some .int)), (⟨"SandPianoModel", "layRows", "(II)V"⟩, prog_10_method_77_code, 4, none), (⟨"SandPianoModel", "meetSand", "(I)V"⟩, prog_10_method_76_code, 6, none), (⟨"SandPianoModel", "back", "(III)I"⟩, prog_10_method_81_code, 6, (some .int)), (⟨"SandPianoModel", "layBack", "(II)V"⟩, prog_10_method_80_code, 4, none), (⟨"SandPianoModel", "isNow", "(I)Z"⟩, prog_10_method_79_code, 4, (some .boolean)), (⟨"SandPianoModel", "ring", "(I)I"⟩, prog_10_method_85_code, 3, (some .int)), (⟨"SandPianoModel", "needPairs", "(I)I"⟩, prog_10_method_82_code, 4, (some .int)), (⟨"SandPianoModel", "underSet", "(I)I"⟩, prog_10_method_84_code, 6, (some .int)), (⟨"SandPianoModel", "sings", "(II)Z"⟩, prog_10_method_83_code, 2, (some .boolean)), (⟨"SandPianoModel", "strike", "(I)I"⟩, prog_10_method_86_code, 9, (some .int)), (⟨"SandPianoModel", "tune", "(I)I"⟩, prog_10_method_87_code, 6, (some .int)), (⟨"SandPianoModel", "part", "(JJ)I"⟩, prog_10_method_12_code, 11, (some .int)), (⟨"SandPianoModel", "bet", "(II)I"⟩, prog_10_method_89_code, 6, (some .int)), (⟨"SandPianoModel", "betFrom", "(IIIJ)J"⟩, prog_10_method_88_code, 10, (some .long)), (⟨"SandPianoModel", "wind", "(II)I"⟩, prog_10_method_90_code, 9, (some .int)), (⟨"SandPianoModel", "count", "(I)I"⟩, prog_10_method_92_code, 2, (some .int)), (⟨"SandPianoModel", "counted", "(I)I"⟩, prog_10_method_91_code, 4, (some .int)), (⟨"SandPianoModel", "digest", "()J"⟩, prog_10_method_95_code, 3, (some .long)), (⟨"SandPianoModel", "mix", "(J)V"⟩, prog_10_method_93_code, 3, none), (⟨"SandPianoModel", "mixPiano", "()V"⟩, prog_10_method_94_code, 3, none), (⟨"SandPianoLaw", "law", "([I)Z"⟩, code, 4, (some .boolean))]
def sp_mt : List (MethodName × ByteArray × Nat × Option FieldType) := sp_mt0 ++ sp_mt1 ++ sp_mt2 ++ sp_mt3 ++ sp_mt4 ++ sp_mt5
def sp_me (M : Nat) : MethodName × ByteArray × Nat × Option FieldType := sp_mt.getD M (⟨"", "", ""⟩, ⟨#[]⟩, 0, none)
def sp_y (M : Nat) : MethodName := (sp_me M).1
def sp_b (M : Nat) : ByteArray := (sp_me M).2.1
def sp_l (M : Nat) : Nat := (sp_me M).2.2.1
def sp_r (M : Nat) : Option FieldType := (sp_me M).2.2.2
/-- the words that hold at every entry -/
def sp_T : List Cond := lw_tbl.filter goodWord
def sp_has (i : Nat) (w : Cond) : Bool := decide (lw_tbl[i]? = some w) && goodWord w
theorem sp_in {i : Nat} {w : Cond} (h : sp_has i w = true) : w ∈ sp_T := by
  unfold sp_has at h
  rw [Bool.and_eq_true, decide_eq_true_eq] at h
  exact List.mem_filter.mpr ⟨List.mem_of_getElem? h.1, h.2⟩
theorem sp_T_good : ∀ w ∈ sp_T, goodWord w = true := fun w h => (List.mem_filter.mp h).2
theorem sp_T_tbl : ∀ w ∈ sp_T, w ∈ lw_tbl := fun w h => (List.mem_filter.mp h).1
/-- a method's words: its code, and the tables' -/
def sp_w (M : Nat) : List Cond := .code (sp_y M) (sp_b M) (sp_l M) (sp_r M) :: sp_T
/-- what is asked of a method that is called: by the places of its words -/
def sp_okV (M n i1 i2 i3 i4 : Nat) : Bool := sp_has i1 (.code (sp_y M) (sp_b M) (sp_l M) (sp_r M)) && sp_has i2 (.instanceMethod (sp_y M)) && sp_has i3 (.selects (sp_y M).cls (sp_y M) (sp_y M)) && sp_has i4 (.initialized (sp_y M).cls) && decide ((sp_y M).cls ≠ "java/lang/invoke/MethodHandle") && decide ((sp_y M).cls ≠ "java/lang/invoke/VarHandle") && decide ((parseMethodDescriptor (sp_y M).desc).map (fun d => d.parameters.length) = some n) && decide (sp_l M ≤ 40) && plainName (sp_y M).cls
def sp_okS (M n i1 i2 i4 : Nat) : Bool := sp_has i1 (.code (sp_y M) (sp_b M) (sp_l M) (sp_r M)) && sp_has i2 (.static (sp_y M)) && sp_has i4 (.initialized (sp_y M).cls) && decide ((sp_y M).cls ≠ "java/lang/invoke/MethodHandle") && decide ((sp_y M).cls ≠ "java/lang/invoke/VarHandle") && decide ((parseMethodDescriptor (sp_y M).desc).map (fun d => d.parameters.length) = some n) && decide (sp_l M ≤ 40) && plainName (sp_y M).cls
def sp_okL (M idx N i : Nat) : Bool := sp_has i (.methodLink (sp_y M).cls idx (sp_y N))
def sp_cl (ci : Nat) : vw_C := vwCl.getD ci ("", TX0, 0)
def sp_okF (M idx ci k i : Nat) : Bool := sp_has i (.fieldLink (sp_y M).cls idx ((sp_cl ci).2.1 k).1 ((sp_cl ci).2.1 k).2.1 ((sp_cl ci).2.1 k).2.2.1) && decide (k < (sp_cl ci).2.2)
def sp_okC (M idx i : Nat) (v : Int32) : Bool := sp_has i (.constant (sp_y M).cls idx v)
def sp_okCL (M idx i : Nat) (v : Int64) : Bool := sp_has i (.constantLong (sp_y M).cls idx v)
theorem sp_lay0 : ∀ w ∈ u_ws RX0 TX0 4, w ∈ sp_T := by
  have h : (u_ws RX0 TX0 4).zip [()] = (u_ws RX0 TX0 4).zip [()] := rfl
  intro w hw
  have h2 : ((u_ws RX0 TX0 4).zipIdx.all (fun q => sp_has (([131, 133, 135, 137] : List Nat).getD q.2 0) q.1)) = true := by decide +kernel
  obtain ⟨k, hk⟩ := List.getElem?_of_mem hw
  exact sp_in (List.all_eq_true.mp h2 (w, k) (List.mk_mem_zipIdx_iff_getElem?.mpr hk))
theorem sp_lay1 : ∀ w ∈ u_ws RX1 TX1 3, w ∈ sp_T := by
  have h : (u_ws RX1 TX1 3).zip [()] = (u_ws RX1 TX1 3).zip [()] := rfl
  intro w hw
  have h2 : ((u_ws RX1 TX1 3).zipIdx.all (fun q => sp_has (([255, 257, 259] : List Nat).getD q.2 0) q.1)) = true := by decide +kernel
  obtain ⟨k, hk⟩ := List.getElem?_of_mem hw
  exact sp_in (List.all_eq_true.mp h2 (w, k) (List.mk_mem_zipIdx_iff_getElem?.mpr hk))
theorem sp_lay2 : ∀ w ∈ u_ws RX2 TX2 4, w ∈ sp_T := by
  have h : (u_ws RX2 TX2 4).zip [()] = (u_ws RX2 TX2 4).zip [()] := rfl
  intro w hw
  have h2 : ((u_ws RX2 TX2 4).zipIdx.all (fun q => sp_has (([179, 181, 183, 185] : List Nat).getD q.2 0) q.1)) = true := by decide +kernel
  obtain ⟨k, hk⟩ := List.getElem?_of_mem hw
  exact sp_in (List.all_eq_true.mp h2 (w, k) (List.mk_mem_zipIdx_iff_getElem?.mpr hk))
theorem sp_lay3 : ∀ w ∈ u_ws RX3 TX3 2, w ∈ sp_T := by
  have h : (u_ws RX3 TX3 2).zip [()] = (u_ws RX3 TX3 2).zip [()] := rfl
  intro w hw
  have h2 : ((u_ws RX3 TX3 2).zipIdx.all (fun q => sp_has (([151, 153] : List Nat).getD q.2 0) q.1)) = true := by decide +kernel
  obtain ⟨k, hk⟩ := List.getElem?_of_mem hw
  exact sp_in (List.all_eq_true.mp h2 (w, k) (List.mk_mem_zipIdx_iff_getElem?.mpr hk))
theorem sp_lay4 : ∀ w ∈ u_ws RX4 TX4 8, w ∈ sp_T := by
  have h : (u_ws RX4 TX4 8).zip [()] = (u_ws RX4 TX4 8).zip [()] := rfl
  intro w hw
  have h2 : ((u_ws RX4 TX4 8).zipIdx.all (fun q => sp_has (([197, 199, 201, 203, 205, 207, 209, 211] : List Nat).getD q.2 0) q.1)) = true := by decide +kernel
  obtain ⟨k, hk⟩ := List.getElem?_of_mem hw
  exact sp_in (List.all_eq_true.mp h2 (w, k) (List.mk_mem_zipIdx_iff_getElem?.mpr hk))
theorem sp_lay5 : ∀ w ∈ u_ws RX5 TX5 2, w ∈ sp_T := by
  have h : (u_ws RX5 TX5 2).zip [()] = (u_ws RX5 TX5 2).zip [()] := rfl
  intro w hw
  have h2 : ((u_ws RX5 TX5 2).zipIdx.all (fun q => sp_has (([100, 102] : List Nat).getD q.2 0) q.1)) = true := by decide +kernel
  obtain ⟨k, hk⟩ := List.getElem?_of_mem hw
  exact sp_in (List.all_eq_true.mp h2 (w, k) (List.mk_mem_zipIdx_iff_getElem?.mpr hk))
theorem sp_lay6 : ∀ w ∈ u_ws RX6 TX6 4, w ∈ sp_T := by
  have h : (u_ws RX6 TX6 4).zip [()] = (u_ws RX6 TX6 4).zip [()] := rfl
  intro w hw
  have h2 : ((u_ws RX6 TX6 4).zipIdx.all (fun q => sp_has (([229, 231, 233, 235] : List Nat).getD q.2 0) q.1)) = true := by decide +kernel
  obtain ⟨k, hk⟩ := List.getElem?_of_mem hw
  exact sp_in (List.all_eq_true.mp h2 (w, k) (List.mk_mem_zipIdx_iff_getElem?.mpr hk))
theorem sp_lay7 : ∀ w ∈ u_ws RX7 TX7 15, w ∈ sp_T := by
  have h : (u_ws RX7 TX7 15).zip [()] = (u_ws RX7 TX7 15).zip [()] := rfl
  intro w hw
  have h2 : ((u_ws RX7 TX7 15).zipIdx.all (fun q => sp_has (([277, 279, 281, 283, 285, 287, 289, 291, 293, 295, 297, 299, 301, 303, 305] : List Nat).getD q.2 0) q.1)) = true := by decide +kernel
  obtain ⟨k, hk⟩ := List.getElem?_of_mem hw
  exact sp_in (List.all_eq_true.mp h2 (w, k) (List.mk_mem_zipIdx_iff_getElem?.mpr hk))
theorem sp_lay8 : ∀ w ∈ u_ws RX8 TX8 36, w ∈ sp_T := by
  have h : (u_ws RX8 TX8 36).zip [()] = (u_ws RX8 TX8 36).zip [()] := rfl
  intro w hw
  have h2 : ((u_ws RX8 TX8 36).zipIdx.all (fun q => sp_has (([872, 874, 876, 878, 880, 882, 884, 886, 888, 890, 892, 894, 896, 898, 900, 902, 904, 906, 908, 910, 912, 914, 916, 918, 920, 922, 924, 926, 928, 930, 932, 934, 936, 938, 940, 942] : List Nat).getD q.2 0) q.1)) = true := by decide +kernel
  obtain ⟨k, hk⟩ := List.getElem?_of_mem hw
  exact sp_in (List.all_eq_true.mp h2 (w, k) (List.mk_mem_zipIdx_iff_getElem?.mpr hk))
