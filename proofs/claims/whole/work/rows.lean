section
-- ===== PART A: goes FIRST, ahead of the names: the tables' words, and 'selects' of the private methods out of them =====
/-- a private method of a class that the tables say can be made, by its rows of tables_1 -/
def lw_okq (q : MethodName × Nat) : Prop := (q.1.cls ≠ "java/lang/invoke/MethodHandle" ∧ q.1.cls ≠ "java/lang/invoke/VarHandle") ∧ Cond.instantiable q.1.cls q.2 ∈ tables_1 ∧ Cond.privateMethod q.1 ∈ tables_1 ∧ Cond.instanceMethod q.1 ∈ tables_1
theorem lw_p0 : lw_okq (⟨"PropertyTests$Terms", "allows", "(II)Z"⟩, 6) := ⟨⟨by decide +kernel, by decide +kernel⟩, List.mem_of_getElem? (i := 27) (by decide +kernel), List.mem_of_getElem? (i := 210) (by decide +kernel), List.mem_of_getElem? (i := 211) (by decide +kernel)⟩
theorem lw_p1 : lw_okq (⟨"PropertyTests$Terms", "hasParts", "(IIII)Z"⟩, 6) := ⟨⟨by decide +kernel, by decide +kernel⟩, List.mem_of_getElem? (i := 27) (by decide +kernel), List.mem_of_getElem? (i := 214) (by decide +kernel), List.mem_of_getElem? (i := 215) (by decide +kernel)⟩
theorem lw_p2 : lw_okq (⟨"PropertyTests$Terms", "has", "(I)Z"⟩, 6) := ⟨⟨by decide +kernel, by decide +kernel⟩, List.mem_of_getElem? (i := 27) (by decide +kernel), List.mem_of_getElem? (i := 220) (by decide +kernel), List.mem_of_getElem? (i := 221) (by decide +kernel)⟩
theorem lw_p3 : lw_okq (⟨"PropertyTests$Terms", "add", "(IIIII)I"⟩, 6) := ⟨⟨by decide +kernel, by decide +kernel⟩, List.mem_of_getElem? (i := 27) (by decide +kernel), List.mem_of_getElem? (i := 224) (by decide +kernel), List.mem_of_getElem? (i := 225) (by decide +kernel)⟩
theorem lw_p4 : lw_okq (⟨"PropertyTests$Terms", "hasOrNone", "(I)Z"⟩, 6) := ⟨⟨by decide +kernel, by decide +kernel⟩, List.mem_of_getElem? (i := 27) (by decide +kernel), List.mem_of_getElem? (i := 235) (by decide +kernel), List.mem_of_getElem? (i := 236) (by decide +kernel)⟩
theorem lw_p5 : lw_okq (⟨"PropertyTests$Property", "setTypes", "(III)V"⟩, 5) := ⟨⟨by decide +kernel, by decide +kernel⟩, List.mem_of_getElem? (i := 110) (by decide +kernel), List.mem_of_getElem? (i := 240) (by decide +kernel), List.mem_of_getElem? (i := 241) (by decide +kernel)⟩
theorem lw_p6 : lw_okq (⟨"PropertyTests$Property", "setTerms", "(IIII)V"⟩, 5) := ⟨⟨by decide +kernel, by decide +kernel⟩, List.mem_of_getElem? (i := 110) (by decide +kernel), List.mem_of_getElem? (i := 244) (by decide +kernel), List.mem_of_getElem? (i := 245) (by decide +kernel)⟩
theorem lw_p7 : lw_okq (⟨"PropertyTests", "isProperty", "(I)Z"⟩, 9) := ⟨⟨by decide +kernel, by decide +kernel⟩, List.mem_of_getElem? (i := 13) (by decide +kernel), List.mem_of_getElem? (i := 252) (by decide +kernel), List.mem_of_getElem? (i := 253) (by decide +kernel)⟩
theorem lw_p8 : lw_okq (⟨"PropertyTests", "forgetLatest", "()V"⟩, 9) := ⟨⟨by decide +kernel, by decide +kernel⟩, List.mem_of_getElem? (i := 13) (by decide +kernel), List.mem_of_getElem? (i := 256) (by decide +kernel), List.mem_of_getElem? (i := 257) (by decide +kernel)⟩
theorem lw_p9 : lw_okq (⟨"PropertyTests$Tally", "clear", "()V"⟩, 9) := ⟨⟨by decide +kernel, by decide +kernel⟩, List.mem_of_getElem? (i := 138) (by decide +kernel), List.mem_of_getElem? (i := 260) (by decide +kernel), List.mem_of_getElem? (i := 261) (by decide +kernel)⟩
theorem lw_p10 : lw_okq (⟨"PropertyTests$Value", "setWhole", "(I)V"⟩, 4) := ⟨⟨by decide +kernel, by decide +kernel⟩, List.mem_of_getElem? (i := 63) (by decide +kernel), List.mem_of_getElem? (i := 279) (by decide +kernel), List.mem_of_getElem? (i := 280) (by decide +kernel)⟩
theorem lw_p11 : lw_okq (⟨"PropertyTests$Value", "setRow", "(I)V"⟩, 4) := ⟨⟨by decide +kernel, by decide +kernel⟩, List.mem_of_getElem? (i := 63) (by decide +kernel), List.mem_of_getElem? (i := 283) (by decide +kernel), List.mem_of_getElem? (i := 284) (by decide +kernel)⟩
theorem lw_p12 : lw_okq (⟨"PropertyTests$Value", "setNothing", "()V"⟩, 4) := ⟨⟨by decide +kernel, by decide +kernel⟩, List.mem_of_getElem? (i := 63) (by decide +kernel), List.mem_of_getElem? (i := 287) (by decide +kernel), List.mem_of_getElem? (i := 288) (by decide +kernel)⟩
theorem lw_p13 : lw_okq (⟨"PropertyTests", "tryCase", "(I)V"⟩, 9) := ⟨⟨by decide +kernel, by decide +kernel⟩, List.mem_of_getElem? (i := 13) (by decide +kernel), List.mem_of_getElem? (i := 291) (by decide +kernel), List.mem_of_getElem? (i := 292) (by decide +kernel)⟩
theorem lw_p14 : lw_okq (⟨"PropertyTests$Worker", "outcome", "(LPropertyTests$Property;)I"⟩, 5) := ⟨⟨by decide +kernel, by decide +kernel⟩, List.mem_of_getElem? (i := 21) (by decide +kernel), List.mem_of_getElem? (i := 295) (by decide +kernel), List.mem_of_getElem? (i := 296) (by decide +kernel)⟩
theorem lw_p15 : lw_okq (⟨"PropertyTests$Worker", "work", "(I)I"⟩, 5) := ⟨⟨by decide +kernel, by decide +kernel⟩, List.mem_of_getElem? (i := 21) (by decide +kernel), List.mem_of_getElem? (i := 299) (by decide +kernel), List.mem_of_getElem? (i := 300) (by decide +kernel)⟩
def lw_privs_1 : List (MethodName × Nat) := [(⟨"PropertyTests$Terms", "allows", "(II)Z"⟩, 6), (⟨"PropertyTests$Terms", "hasParts", "(IIII)Z"⟩, 6), (⟨"PropertyTests$Terms", "has", "(I)Z"⟩, 6), (⟨"PropertyTests$Terms", "add", "(IIIII)I"⟩, 6), (⟨"PropertyTests$Terms", "hasOrNone", "(I)Z"⟩, 6), (⟨"PropertyTests$Property", "setTypes", "(III)V"⟩, 5), (⟨"PropertyTests$Property", "setTerms", "(IIII)V"⟩, 5), (⟨"PropertyTests", "isProperty", "(I)Z"⟩, 9), (⟨"PropertyTests", "forgetLatest", "()V"⟩, 9), (⟨"PropertyTests$Tally", "clear", "()V"⟩, 9), (⟨"PropertyTests$Value", "setWhole", "(I)V"⟩, 4), (⟨"PropertyTests$Value", "setRow", "(I)V"⟩, 4), (⟨"PropertyTests$Value", "setNothing", "()V"⟩, 4), (⟨"PropertyTests", "tryCase", "(I)V"⟩, 9), (⟨"PropertyTests$Worker", "outcome", "(LPropertyTests$Property;)I"⟩, 5), (⟨"PropertyTests$Worker", "work", "(I)I"⟩, 5)]
theorem lw_r1 : ∀ q ∈ lw_privs_1, lw_okq q := List.forall_mem_cons.mpr ⟨lw_p0, List.forall_mem_cons.mpr ⟨lw_p1, List.forall_mem_cons.mpr ⟨lw_p2, List.forall_mem_cons.mpr ⟨lw_p3, List.forall_mem_cons.mpr ⟨lw_p4, List.forall_mem_cons.mpr ⟨lw_p5, List.forall_mem_cons.mpr ⟨lw_p6, List.forall_mem_cons.mpr ⟨lw_p7, List.forall_mem_cons.mpr ⟨lw_p8, List.forall_mem_cons.mpr ⟨lw_p9, List.forall_mem_cons.mpr ⟨lw_p10, List.forall_mem_cons.mpr ⟨lw_p11, List.forall_mem_cons.mpr ⟨lw_p12, List.forall_mem_cons.mpr ⟨lw_p13, List.forall_mem_cons.mpr ⟨lw_p14, List.forall_mem_cons.mpr ⟨lw_p15, fun _ h => absurd h List.not_mem_nil⟩⟩⟩⟩⟩⟩⟩⟩⟩⟩⟩⟩⟩⟩⟩⟩
theorem lw_p16 : lw_okq (⟨"PropertyTests$Worker", "asWhole", "(I)I"⟩, 5) := ⟨⟨by decide +kernel, by decide +kernel⟩, List.mem_of_getElem? (i := 21) (by decide +kernel), List.mem_of_getElem? (i := 304) (by decide +kernel), List.mem_of_getElem? (i := 305) (by decide +kernel)⟩
theorem lw_p17 : lw_okq (⟨"PropertyTests$Worker", "workChosen", "(III)I"⟩, 5) := ⟨⟨by decide +kernel, by decide +kernel⟩, List.mem_of_getElem? (i := 21) (by decide +kernel), List.mem_of_getElem? (i := 311) (by decide +kernel), List.mem_of_getElem? (i := 312) (by decide +kernel)⟩
theorem lw_p18 : lw_okq (⟨"PropertyTests$Worker", "comeTo", "(ILPropertyTests$Value;LPropertyTests$Value;LPropertyTests$Value;LPropertyTests$Value;)I"⟩, 5) := ⟨⟨by decide +kernel, by decide +kernel⟩, List.mem_of_getElem? (i := 21) (by decide +kernel), List.mem_of_getElem? (i := 328) (by decide +kernel), List.mem_of_getElem? (i := 329) (by decide +kernel)⟩
theorem lw_p19 : lw_okq (⟨"PropertyTests$Value", "copy", "(LPropertyTests$Value;)V"⟩, 4) := ⟨⟨by decide +kernel, by decide +kernel⟩, List.mem_of_getElem? (i := 63) (by decide +kernel), List.mem_of_getElem? (i := 332) (by decide +kernel), List.mem_of_getElem? (i := 333) (by decide +kernel)⟩
theorem lw_p20 : lw_okq (⟨"PropertyTests$Value", "hasPlace", "(I)Z"⟩, 4) := ⟨⟨by decide +kernel, by decide +kernel⟩, List.mem_of_getElem? (i := 63) (by decide +kernel), List.mem_of_getElem? (i := 343) (by decide +kernel), List.mem_of_getElem? (i := 344) (by decide +kernel)⟩
theorem lw_p21 : lw_okq (⟨"PropertyTests$Tally", "countCase", "(I)V"⟩, 9) := ⟨⟨by decide +kernel, by decide +kernel⟩, List.mem_of_getElem? (i := 138) (by decide +kernel), List.mem_of_getElem? (i := 375) (by decide +kernel), List.mem_of_getElem? (i := 376) (by decide +kernel)⟩
theorem lw_p22 : lw_okq (⟨"PropertyTests$Worker", "labelled", "(LPropertyTests$Property;)I"⟩, 5) := ⟨⟨by decide +kernel, by decide +kernel⟩, List.mem_of_getElem? (i := 21) (by decide +kernel), List.mem_of_getElem? (i := 379) (by decide +kernel), List.mem_of_getElem? (i := 380) (by decide +kernel)⟩
theorem lw_p23 : lw_okq (⟨"PropertyTests", "makeSmaller", "()V"⟩, 9) := ⟨⟨by decide +kernel, by decide +kernel⟩, List.mem_of_getElem? (i := 13) (by decide +kernel), List.mem_of_getElem? (i := 387) (by decide +kernel), List.mem_of_getElem? (i := 388) (by decide +kernel)⟩
theorem lw_p24 : lw_okq (⟨"PropertyTests", "takeCandidate", "(I)Z"⟩, 9) := ⟨⟨by decide +kernel, by decide +kernel⟩, List.mem_of_getElem? (i := 13) (by decide +kernel), List.mem_of_getElem? (i := 391) (by decide +kernel), List.mem_of_getElem? (i := 392) (by decide +kernel)⟩
theorem lw_p25 : lw_okq (⟨"PropertyTests$Value", "candidateCount", "()I"⟩, 4) := ⟨⟨by decide +kernel, by decide +kernel⟩, List.mem_of_getElem? (i := 63) (by decide +kernel), List.mem_of_getElem? (i := 395) (by decide +kernel), List.mem_of_getElem? (i := 396) (by decide +kernel)⟩
theorem lw_p26 : lw_okq (⟨"PropertyTests$Value", "becomeCandidate", "(I)V"⟩, 4) := ⟨⟨by decide +kernel, by decide +kernel⟩, List.mem_of_getElem? (i := 63) (by decide +kernel), List.mem_of_getElem? (i := 399) (by decide +kernel), List.mem_of_getElem? (i := 400) (by decide +kernel)⟩
theorem lw_p27 : lw_okq (⟨"PropertyTests$Value", "dropPlace", "(I)V"⟩, 4) := ⟨⟨by decide +kernel, by decide +kernel⟩, List.mem_of_getElem? (i := 63) (by decide +kernel), List.mem_of_getElem? (i := 406) (by decide +kernel), List.mem_of_getElem? (i := 407) (by decide +kernel)⟩
theorem lw_p28 : lw_okq (⟨"PropertyTests$Value", "shrinkAnInt", "(I)V"⟩, 4) := ⟨⟨by decide +kernel, by decide +kernel⟩, List.mem_of_getElem? (i := 63) (by decide +kernel), List.mem_of_getElem? (i := 410) (by decide +kernel), List.mem_of_getElem? (i := 411) (by decide +kernel)⟩
theorem lw_p29 : lw_okq (⟨"PropertyTests$Value", "read", "(I)I"⟩, 4) := ⟨⟨by decide +kernel, by decide +kernel⟩, List.mem_of_getElem? (i := 63) (by decide +kernel), List.mem_of_getElem? (i := 458) (by decide +kernel), List.mem_of_getElem? (i := 459) (by decide +kernel)⟩
theorem lw_p30 : lw_okq (⟨"PropertyTests$Tally", "read", "(I)I"⟩, 9) := ⟨⟨by decide +kernel, by decide +kernel⟩, List.mem_of_getElem? (i := 138) (by decide +kernel), List.mem_of_getElem? (i := 471) (by decide +kernel), List.mem_of_getElem? (i := 472) (by decide +kernel)⟩
theorem lw_p31 : lw_okq (⟨"PropertyTestsModel", "isTerm", "(I)Z"⟩, 45) := ⟨⟨by decide +kernel, by decide +kernel⟩, List.mem_of_getElem? (i := 479) (by decide +kernel), List.mem_of_getElem? (i := 631) (by decide +kernel), List.mem_of_getElem? (i := 632) (by decide +kernel)⟩
def lw_privs_2 : List (MethodName × Nat) := [(⟨"PropertyTests$Worker", "asWhole", "(I)I"⟩, 5), (⟨"PropertyTests$Worker", "workChosen", "(III)I"⟩, 5), (⟨"PropertyTests$Worker", "comeTo", "(ILPropertyTests$Value;LPropertyTests$Value;LPropertyTests$Value;LPropertyTests$Value;)I"⟩, 5), (⟨"PropertyTests$Value", "copy", "(LPropertyTests$Value;)V"⟩, 4), (⟨"PropertyTests$Value", "hasPlace", "(I)Z"⟩, 4), (⟨"PropertyTests$Tally", "countCase", "(I)V"⟩, 9), (⟨"PropertyTests$Worker", "labelled", "(LPropertyTests$Property;)I"⟩, 5), (⟨"PropertyTests", "makeSmaller", "()V"⟩, 9), (⟨"PropertyTests", "takeCandidate", "(I)Z"⟩, 9), (⟨"PropertyTests$Value", "candidateCount", "()I"⟩, 4), (⟨"PropertyTests$Value", "becomeCandidate", "(I)V"⟩, 4), (⟨"PropertyTests$Value", "dropPlace", "(I)V"⟩, 4), (⟨"PropertyTests$Value", "shrinkAnInt", "(I)V"⟩, 4), (⟨"PropertyTests$Value", "read", "(I)I"⟩, 4), (⟨"PropertyTests$Tally", "read", "(I)I"⟩, 9), (⟨"PropertyTestsModel", "isTerm", "(I)Z"⟩, 45)]
theorem lw_r2 : ∀ q ∈ lw_privs_2, lw_okq q := List.forall_mem_cons.mpr ⟨lw_p16, List.forall_mem_cons.mpr ⟨lw_p17, List.forall_mem_cons.mpr ⟨lw_p18, List.forall_mem_cons.mpr ⟨lw_p19, List.forall_mem_cons.mpr ⟨lw_p20, List.forall_mem_cons.mpr ⟨lw_p21, List.forall_mem_cons.mpr ⟨lw_p22, List.forall_mem_cons.mpr ⟨lw_p23, List.forall_mem_cons.mpr ⟨lw_p24, List.forall_mem_cons.mpr ⟨lw_p25, List.forall_mem_cons.mpr ⟨lw_p26, List.forall_mem_cons.mpr ⟨lw_p27, List.forall_mem_cons.mpr ⟨lw_p28, List.forall_mem_cons.mpr ⟨lw_p29, List.forall_mem_cons.mpr ⟨lw_p30, List.forall_mem_cons.mpr ⟨lw_p31, fun _ h => absurd h List.not_mem_nil⟩⟩⟩⟩⟩⟩⟩⟩⟩⟩⟩⟩⟩⟩⟩⟩
theorem lw_p32 : lw_okq (⟨"PropertyTestsModel", "draw", "(IIII)V"⟩, 45) := ⟨⟨by decide +kernel, by decide +kernel⟩, List.mem_of_getElem? (i := 479) (by decide +kernel), List.mem_of_getElem? (i := 644) (by decide +kernel), List.mem_of_getElem? (i := 645) (by decide +kernel)⟩
theorem lw_p33 : lw_okq (⟨"PropertyTestsModel", "isProperty", "(I)Z"⟩, 45) := ⟨⟨by decide +kernel, by decide +kernel⟩, List.mem_of_getElem? (i := 479) (by decide +kernel), List.mem_of_getElem? (i := 661) (by decide +kernel), List.mem_of_getElem? (i := 662) (by decide +kernel)⟩
theorem lw_p34 : lw_okq (⟨"PropertyTestsModel", "anew", "()V"⟩, 45) := ⟨⟨by decide +kernel, by decide +kernel⟩, List.mem_of_getElem? (i := 479) (by decide +kernel), List.mem_of_getElem? (i := 665) (by decide +kernel), List.mem_of_getElem? (i := 666) (by decide +kernel)⟩
theorem lw_p35 : lw_okq (⟨"PropertyTestsModel", "isFailed", "(I)Z"⟩, 45) := ⟨⟨by decide +kernel, by decide +kernel⟩, List.mem_of_getElem? (i := 479) (by decide +kernel), List.mem_of_getElem? (i := 669) (by decide +kernel), List.mem_of_getElem? (i := 670) (by decide +kernel)⟩
theorem lw_p36 : lw_okq (⟨"PropertyTestsModel", "outcome", "(IZ)I"⟩, 45) := ⟨⟨by decide +kernel, by decide +kernel⟩, List.mem_of_getElem? (i := 479) (by decide +kernel), List.mem_of_getElem? (i := 673) (by decide +kernel), List.mem_of_getElem? (i := 674) (by decide +kernel)⟩
theorem lw_p37 : lw_okq (⟨"PropertyTestsModel", "work", "(I)Z"⟩, 45) := ⟨⟨by decide +kernel, by decide +kernel⟩, List.mem_of_getElem? (i := 479) (by decide +kernel), List.mem_of_getElem? (i := 677) (by decide +kernel), List.mem_of_getElem? (i := 678) (by decide +kernel)⟩
theorem lw_p38 : lw_okq (⟨"PropertyTestsModel", "begin", "(I)V"⟩, 45) := ⟨⟨by decide +kernel, by decide +kernel⟩, List.mem_of_getElem? (i := 479) (by decide +kernel), List.mem_of_getElem? (i := 681) (by decide +kernel), List.mem_of_getElem? (i := 682) (by decide +kernel)⟩
theorem lw_p39 : lw_okq (⟨"PropertyTestsModel", "nextPart", "(II)I"⟩, 45) := ⟨⟨by decide +kernel, by decide +kernel⟩, List.mem_of_getElem? (i := 479) (by decide +kernel), List.mem_of_getElem? (i := 685) (by decide +kernel), List.mem_of_getElem? (i := 686) (by decide +kernel)⟩
theorem lw_p40 : lw_okq (⟨"PropertyTestsModel", "nextOfChoice", "(III)I"⟩, 45) := ⟨⟨by decide +kernel, by decide +kernel⟩, List.mem_of_getElem? (i := 479) (by decide +kernel), List.mem_of_getElem? (i := 689) (by decide +kernel), List.mem_of_getElem? (i := 690) (by decide +kernel)⟩
theorem lw_p41 : lw_okq (⟨"PropertyTestsModel", "wrong", "(II)I"⟩, 45) := ⟨⟨by decide +kernel, by decide +kernel⟩, List.mem_of_getElem? (i := 479) (by decide +kernel), List.mem_of_getElem? (i := 693) (by decide +kernel), List.mem_of_getElem? (i := 694) (by decide +kernel)⟩
theorem lw_p42 : lw_okq (⟨"PropertyTestsModel", "end", "(II)V"⟩, 45) := ⟨⟨by decide +kernel, by decide +kernel⟩, List.mem_of_getElem? (i := 479) (by decide +kernel), List.mem_of_getElem? (i := 697) (by decide +kernel), List.mem_of_getElem? (i := 698) (by decide +kernel)⟩
theorem lw_p43 : lw_okq (⟨"PropertyTestsModel", "input", "(I)V"⟩, 45) := ⟨⟨by decide +kernel, by decide +kernel⟩, List.mem_of_getElem? (i := 479) (by decide +kernel), List.mem_of_getElem? (i := 701) (by decide +kernel), List.mem_of_getElem? (i := 702) (by decide +kernel)⟩
theorem lw_p44 : lw_okq (⟨"PropertyTestsModel", "whole", "(I)V"⟩, 45) := ⟨⟨by decide +kernel, by decide +kernel⟩, List.mem_of_getElem? (i := 479) (by decide +kernel), List.mem_of_getElem? (i := 705) (by decide +kernel), List.mem_of_getElem? (i := 706) (by decide +kernel)⟩
theorem lw_p45 : lw_okq (⟨"PropertyTestsModel", "numbers", "(II)V"⟩, 45) := ⟨⟨by decide +kernel, by decide +kernel⟩, List.mem_of_getElem? (i := 479) (by decide +kernel), List.mem_of_getElem? (i := 709) (by decide +kernel), List.mem_of_getElem? (i := 710) (by decide +kernel)⟩
theorem lw_p46 : lw_okq (⟨"PropertyTestsModel", "like", "(I)V"⟩, 45) := ⟨⟨by decide +kernel, by decide +kernel⟩, List.mem_of_getElem? (i := 479) (by decide +kernel), List.mem_of_getElem? (i := 713) (by decide +kernel), List.mem_of_getElem? (i := 714) (by decide +kernel)⟩
theorem lw_p47 : lw_okq (⟨"PropertyTestsModel", "both", "(II)V"⟩, 45) := ⟨⟨by decide +kernel, by decide +kernel⟩, List.mem_of_getElem? (i := 479) (by decide +kernel), List.mem_of_getElem? (i := 717) (by decide +kernel), List.mem_of_getElem? (i := 718) (by decide +kernel)⟩
def lw_privs_3 : List (MethodName × Nat) := [(⟨"PropertyTestsModel", "draw", "(IIII)V"⟩, 45), (⟨"PropertyTestsModel", "isProperty", "(I)Z"⟩, 45), (⟨"PropertyTestsModel", "anew", "()V"⟩, 45), (⟨"PropertyTestsModel", "isFailed", "(I)Z"⟩, 45), (⟨"PropertyTestsModel", "outcome", "(IZ)I"⟩, 45), (⟨"PropertyTestsModel", "work", "(I)Z"⟩, 45), (⟨"PropertyTestsModel", "begin", "(I)V"⟩, 45), (⟨"PropertyTestsModel", "nextPart", "(II)I"⟩, 45), (⟨"PropertyTestsModel", "nextOfChoice", "(III)I"⟩, 45), (⟨"PropertyTestsModel", "wrong", "(II)I"⟩, 45), (⟨"PropertyTestsModel", "end", "(II)V"⟩, 45), (⟨"PropertyTestsModel", "input", "(I)V"⟩, 45), (⟨"PropertyTestsModel", "whole", "(I)V"⟩, 45), (⟨"PropertyTestsModel", "numbers", "(II)V"⟩, 45), (⟨"PropertyTestsModel", "like", "(I)V"⟩, 45), (⟨"PropertyTestsModel", "both", "(II)V"⟩, 45)]
theorem lw_r3 : ∀ q ∈ lw_privs_3, lw_okq q := List.forall_mem_cons.mpr ⟨lw_p32, List.forall_mem_cons.mpr ⟨lw_p33, List.forall_mem_cons.mpr ⟨lw_p34, List.forall_mem_cons.mpr ⟨lw_p35, List.forall_mem_cons.mpr ⟨lw_p36, List.forall_mem_cons.mpr ⟨lw_p37, List.forall_mem_cons.mpr ⟨lw_p38, List.forall_mem_cons.mpr ⟨lw_p39, List.forall_mem_cons.mpr ⟨lw_p40, List.forall_mem_cons.mpr ⟨lw_p41, List.forall_mem_cons.mpr ⟨lw_p42, List.forall_mem_cons.mpr ⟨lw_p43, List.forall_mem_cons.mpr ⟨lw_p44, List.forall_mem_cons.mpr ⟨lw_p45, List.forall_mem_cons.mpr ⟨lw_p46, List.forall_mem_cons.mpr ⟨lw_p47, fun _ h => absurd h List.not_mem_nil⟩⟩⟩⟩⟩⟩⟩⟩⟩⟩⟩⟩⟩⟩⟩⟩
theorem lw_p48 : lw_okq (⟨"PropertyTestsModel", "rows", "(II)V"⟩, 45) := ⟨⟨by decide +kernel, by decide +kernel⟩, List.mem_of_getElem? (i := 479) (by decide +kernel), List.mem_of_getElem? (i := 721) (by decide +kernel), List.mem_of_getElem? (i := 722) (by decide +kernel)⟩
theorem lw_p49 : lw_okq (⟨"PropertyTestsModel", "rowOf", "(IIII)V"⟩, 45) := ⟨⟨by decide +kernel, by decide +kernel⟩, List.mem_of_getElem? (i := 479) (by decide +kernel), List.mem_of_getElem? (i := 728) (by decide +kernel), List.mem_of_getElem? (i := 729) (by decide +kernel)⟩
theorem lw_p50 : lw_okq (⟨"PropertyTestsModel", "row", "(I)I"⟩, 45) := ⟨⟨by decide +kernel, by decide +kernel⟩, List.mem_of_getElem? (i := 479) (by decide +kernel), List.mem_of_getElem? (i := 732) (by decide +kernel), List.mem_of_getElem? (i := 733) (by decide +kernel)⟩
theorem lw_p51 : lw_okq (⟨"PropertyTestsModel", "ended", "(I)I"⟩, 45) := ⟨⟨by decide +kernel, by decide +kernel⟩, List.mem_of_getElem? (i := 479) (by decide +kernel), List.mem_of_getElem? (i := 736) (by decide +kernel), List.mem_of_getElem? (i := 737) (by decide +kernel)⟩
theorem lw_p52 : lw_okq (⟨"PropertyTestsModel", "keep", "(I)V"⟩, 45) := ⟨⟨by decide +kernel, by decide +kernel⟩, List.mem_of_getElem? (i := 479) (by decide +kernel), List.mem_of_getElem? (i := 740) (by decide +kernel), List.mem_of_getElem? (i := 741) (by decide +kernel)⟩
theorem lw_p53 : lw_okq (⟨"PropertyTestsModel", "smaller", "(I)V"⟩, 45) := ⟨⟨by decide +kernel, by decide +kernel⟩, List.mem_of_getElem? (i := 479) (by decide +kernel), List.mem_of_getElem? (i := 744) (by decide +kernel), List.mem_of_getElem? (i := 745) (by decide +kernel)⟩
theorem lw_p54 : lw_okq (⟨"PropertyTestsModel", "candidate", "(I)Z"⟩, 45) := ⟨⟨by decide +kernel, by decide +kernel⟩, List.mem_of_getElem? (i := 479) (by decide +kernel), List.mem_of_getElem? (i := 748) (by decide +kernel), List.mem_of_getElem? (i := 749) (by decide +kernel)⟩
theorem lw_p55 : lw_okq (⟨"PropertyTestsModel", "takeCounter", "()V"⟩, 45) := ⟨⟨by decide +kernel, by decide +kernel⟩, List.mem_of_getElem? (i := 479) (by decide +kernel), List.mem_of_getElem? (i := 752) (by decide +kernel), List.mem_of_getElem? (i := 753) (by decide +kernel)⟩
theorem lw_p56 : lw_okq (⟨"PropertyTestsModel", "without", "(II)V"⟩, 45) := ⟨⟨by decide +kernel, by decide +kernel⟩, List.mem_of_getElem? (i := 479) (by decide +kernel), List.mem_of_getElem? (i := 759) (by decide +kernel), List.mem_of_getElem? (i := 760) (by decide +kernel)⟩
theorem lw_p57 : lw_okq (⟨"PropertyTestsModel", "all", "(II)I"⟩, 45) := ⟨⟨by decide +kernel, by decide +kernel⟩, List.mem_of_getElem? (i := 479) (by decide +kernel), List.mem_of_getElem? (i := 767) (by decide +kernel), List.mem_of_getElem? (i := 768) (by decide +kernel)⟩
theorem lw_p58 : lw_okq (⟨"PropertyTestsModel", "takeSmall", "(IIII)V"⟩, 45) := ⟨⟨by decide +kernel, by decide +kernel⟩, List.mem_of_getElem? (i := 479) (by decide +kernel), List.mem_of_getElem? (i := 781) (by decide +kernel), List.mem_of_getElem? (i := 782) (by decide +kernel)⟩
def lw_privs_4 : List (MethodName × Nat) := [(⟨"PropertyTestsModel", "rows", "(II)V"⟩, 45), (⟨"PropertyTestsModel", "rowOf", "(IIII)V"⟩, 45), (⟨"PropertyTestsModel", "row", "(I)I"⟩, 45), (⟨"PropertyTestsModel", "ended", "(I)I"⟩, 45), (⟨"PropertyTestsModel", "keep", "(I)V"⟩, 45), (⟨"PropertyTestsModel", "smaller", "(I)V"⟩, 45), (⟨"PropertyTestsModel", "candidate", "(I)Z"⟩, 45), (⟨"PropertyTestsModel", "takeCounter", "()V"⟩, 45), (⟨"PropertyTestsModel", "without", "(II)V"⟩, 45), (⟨"PropertyTestsModel", "all", "(II)I"⟩, 45), (⟨"PropertyTestsModel", "takeSmall", "(IIII)V"⟩, 45)]
theorem lw_r4 : ∀ q ∈ lw_privs_4, lw_okq q := List.forall_mem_cons.mpr ⟨lw_p48, List.forall_mem_cons.mpr ⟨lw_p49, List.forall_mem_cons.mpr ⟨lw_p50, List.forall_mem_cons.mpr ⟨lw_p51, List.forall_mem_cons.mpr ⟨lw_p52, List.forall_mem_cons.mpr ⟨lw_p53, List.forall_mem_cons.mpr ⟨lw_p54, List.forall_mem_cons.mpr ⟨lw_p55, List.forall_mem_cons.mpr ⟨lw_p56, List.forall_mem_cons.mpr ⟨lw_p57, List.forall_mem_cons.mpr ⟨lw_p58, fun _ h => absurd h List.not_mem_nil⟩⟩⟩⟩⟩⟩⟩⟩⟩⟩⟩
def lw_privs : List (MethodName × Nat) := lw_privs_1 ++ (lw_privs_2 ++ (lw_privs_3 ++ (lw_privs_4)))
def lw_tbl : List Cond := k2_sels lw_privs ++ tables_1
theorem lw_privs_ok : ∀ q ∈ lw_privs, lw_okq q := by
  show ∀ q ∈ lw_privs_1 ++ (lw_privs_2 ++ (lw_privs_3 ++ (lw_privs_4))), lw_okq q
  exact List.forall_mem_append.mpr ⟨lw_r1, List.forall_mem_append.mpr ⟨lw_r2, List.forall_mem_append.mpr ⟨lw_r3, lw_r4⟩⟩⟩
end
section
def RX0 : String := "PropertyTests$Draw"
def TX0 : u_T := fun k => match k with
  | _ => ("", "", "", false)
def tyX0 : Nat → FieldType := fun k => match k with
  | _ => .int
abbrev wsX00 : List Cond := u_ws RX0 TX0 0
theorem nmX0 : ∀ a, a < 0 → ∀ b, b < 0 → a ≠ b → (TX0 a).2.1 ≠ (TX0 b).2.1 := by decide +kernel
theorem tyX0_ok : ∀ k, k < 0 → parseFieldDescriptor (TX0 k).2.2.1 = some (tyX0 k) := by decide +kernel
abbrev cX0_hash : ByteArray := prog_2_method_2_code
def yX0_hash : MethodName := ⟨RX0, "hash", "(II)I"⟩
abbrev cX0_between : ByteArray := prog_2_method_3_code
def yX0_between : MethodName := ⟨RX0, "between", "(II)I"⟩
abbrev cX0_into : ByteArray := prog_2_method_4_code
def yX0_into : MethodName := ⟨RX0, "into", "(LPropertyTests$Value;IIII)V"⟩
def RX1 : String := "PropertyTests$Property"
def TX1 : u_T := fun k => match k with
  | 0 => ("PropertyTests$Property", "types", "[I", true)
  | 1 => ("PropertyTests$Property", "condition", "I", false)
  | 2 => ("PropertyTests$Property", "body", "I", false)
  | 3 => ("PropertyTests$Property", "label", "I", false)
  | _ => ("PropertyTests$Property", "expected", "I", false)
def tyX1 : Nat → FieldType := fun k => match k with
  | 0 => .array .int
  | 1 => .int
  | 2 => .int
  | 3 => .int
  | _ => .int
abbrev wsX10 : List Cond := u_ws RX1 TX1 5
theorem nmX1 : ∀ a, a < 5 → ∀ b, b < 5 → a ≠ b → (TX1 a).2.1 ≠ (TX1 b).2.1 := by decide +kernel
theorem tyX1_ok : ∀ k, k < 5 → parseFieldDescriptor (TX1 k).2.2.1 = some (tyX1 k) := by decide +kernel
abbrev cX1_init : ByteArray := prog_3_method_1_code
def yX1_init : MethodName := ⟨RX1, "<init>", "()V"⟩
abbrev cX1_setTypes : ByteArray := prog_3_method_2_code
def yX1_setTypes : MethodName := ⟨RX1, "setTypes", "(III)V"⟩
abbrev cX1_setTerms : ByteArray := prog_3_method_3_code
def yX1_setTerms : MethodName := ⟨RX1, "setTerms", "(IIII)V"⟩
def RX2 : String := "PropertyTests$Small"
def TX2 : u_T := fun k => match k with
  | _ => ("", "", "", false)
def tyX2 : Nat → FieldType := fun k => match k with
  | _ => .int
abbrev wsX20 : List Cond := u_ws RX2 TX2 0
theorem nmX2 : ∀ a, a < 0 → ∀ b, b < 0 → a ≠ b → (TX2 a).2.1 ≠ (TX2 b).2.1 := by decide +kernel
theorem tyX2_ok : ∀ k, k < 0 → parseFieldDescriptor (TX2 k).2.2.1 = some (tyX2 k) := by decide +kernel
abbrev cX2_wholes : ByteArray := prog_4_method_2_code
def yX2_wholes : MethodName := ⟨RX2, "wholes", "(I)I"⟩
abbrev cX2_count : ByteArray := prog_4_method_3_code
def yX2_count : MethodName := ⟨RX2, "count", "(II)I"⟩
abbrev cX2_countFor : ByteArray := prog_4_method_4_code
def yX2_countFor : MethodName := ⟨RX2, "countFor", "([II)I"⟩
abbrev cX2_fill : ByteArray := prog_4_method_5_code
def yX2_fill : MethodName := ⟨RX2, "fill", "([LPropertyTests$Value;[III)V"⟩
abbrev cX2_into : ByteArray := prog_4_method_6_code
def yX2_into : MethodName := ⟨RX2, "into", "(LPropertyTests$Value;III)V"⟩
abbrev cX2_whole : ByteArray := prog_4_method_7_code
def yX2_whole : MethodName := ⟨RX2, "whole", "(I)I"⟩
abbrev cX2_rowInto : ByteArray := prog_4_method_8_code
def yX2_rowInto : MethodName := ⟨RX2, "rowInto", "(LPropertyTests$Value;II)V"⟩
def RX3 : String := "PropertyTests$Tally"
def TX3 : u_T := fun k => match k with
  | 0 => ("PropertyTests$Tally", "labels", "[I", true)
  | 1 => ("PropertyTests$Tally", "cases", "I", false)
  | 2 => ("PropertyTests$Tally", "held", "I", false)
  | 3 => ("PropertyTests$Tally", "dropped", "I", false)
  | 4 => ("PropertyTests$Tally", "outcome", "I", false)
  | 5 => ("PropertyTests$Tally", "failedCase", "I", false)
  | 6 => ("PropertyTests$Tally", "candidates", "I", false)
  | 7 => ("PropertyTests$Tally", "taken", "I", false)
  | _ => ("PropertyTests$Tally", "settled", "Z", false)
def tyX3 : Nat → FieldType := fun k => match k with
  | 0 => .array .int
  | 1 => .int
  | 2 => .int
  | 3 => .int
  | 4 => .int
  | 5 => .int
  | 6 => .int
  | 7 => .int
  | _ => .boolean
abbrev wsX30 : List Cond := u_ws RX3 TX3 9
theorem nmX3 : ∀ a, a < 9 → ∀ b, b < 9 → a ≠ b → (TX3 a).2.1 ≠ (TX3 b).2.1 := by decide +kernel
theorem tyX3_ok : ∀ k, k < 9 → parseFieldDescriptor (TX3 k).2.2.1 = some (tyX3 k) := by decide +kernel
abbrev cX3_init : ByteArray := prog_5_method_1_code
def yX3_init : MethodName := ⟨RX3, "<init>", "()V"⟩
abbrev cX3_clear : ByteArray := prog_5_method_2_code
def yX3_clear : MethodName := ⟨RX3, "clear", "()V"⟩
abbrev cX3_countCase : ByteArray := prog_5_method_3_code
def yX3_countCase : MethodName := ⟨RX3, "countCase", "(I)V"⟩
abbrev cX3_read : ByteArray := prog_5_method_4_code
def yX3_read : MethodName := ⟨RX3, "read", "(I)I"⟩
def RX4 : String := "PropertyTests$Terms"
def TX4 : u_T := fun k => match k with
  | 0 => ("PropertyTests$Terms", "what", "[I", true)
  | 1 => ("PropertyTests$Terms", "a", "[I", true)
  | 2 => ("PropertyTests$Terms", "b", "[I", true)
  | 3 => ("PropertyTests$Terms", "c", "[I", true)
  | 4 => ("PropertyTests$Terms", "n", "[I", true)
  | _ => ("PropertyTests$Terms", "count", "I", false)
def tyX4 : Nat → FieldType := fun k => match k with
  | 0 => .array .int
  | 1 => .array .int
  | 2 => .array .int
  | 3 => .array .int
  | 4 => .array .int
  | _ => .int
abbrev wsX40 : List Cond := u_ws RX4 TX4 6
theorem nmX4 : ∀ a, a < 6 → ∀ b, b < 6 → a ≠ b → (TX4 a).2.1 ≠ (TX4 b).2.1 := by decide +kernel
theorem tyX4_ok : ∀ k, k < 6 → parseFieldDescriptor (TX4 k).2.2.1 = some (tyX4 k) := by decide +kernel
abbrev cX4_init : ByteArray := prog_6_method_1_code
def yX4_init : MethodName := ⟨RX4, "<init>", "()V"⟩
abbrev cX4_has : ByteArray := prog_6_method_2_code
def yX4_has : MethodName := ⟨RX4, "has", "(I)Z"⟩
abbrev cX4_hasOrNone : ByteArray := prog_6_method_3_code
def yX4_hasOrNone : MethodName := ⟨RX4, "hasOrNone", "(I)Z"⟩
abbrev cX4_allows : ByteArray := prog_6_method_4_code
def yX4_allows : MethodName := ⟨RX4, "allows", "(II)Z"⟩
abbrev cX4_hasParts : ByteArray := prog_6_method_5_code
def yX4_hasParts : MethodName := ⟨RX4, "hasParts", "(IIII)Z"⟩
abbrev cX4_add : ByteArray := prog_6_method_6_code
def yX4_add : MethodName := ⟨RX4, "add", "(IIIII)I"⟩
def RX5 : String := "PropertyTests$Value"
def TX5 : u_T := fun k => match k with
  | 0 => ("PropertyTests$Value", "kind", "I", false)
  | 1 => ("PropertyTests$Value", "whole", "I", false)
  | 2 => ("PropertyTests$Value", "length", "I", false)
  | _ => ("PropertyTests$Value", "ints", "[I", true)
def tyX5 : Nat → FieldType := fun k => match k with
  | 0 => .int
  | 1 => .int
  | 2 => .int
  | _ => .array .int
abbrev wsX50 : List Cond := u_ws RX5 TX5 4
theorem nmX5 : ∀ a, a < 4 → ∀ b, b < 4 → a ≠ b → (TX5 a).2.1 ≠ (TX5 b).2.1 := by decide +kernel
theorem tyX5_ok : ∀ k, k < 4 → parseFieldDescriptor (TX5 k).2.2.1 = some (tyX5 k) := by decide +kernel
abbrev cX5_init : ByteArray := prog_7_method_1_code
def yX5_init : MethodName := ⟨RX5, "<init>", "()V"⟩
abbrev cX5_setNothing : ByteArray := prog_7_method_2_code
def yX5_setNothing : MethodName := ⟨RX5, "setNothing", "()V"⟩
abbrev cX5_setWhole : ByteArray := prog_7_method_3_code
def yX5_setWhole : MethodName := ⟨RX5, "setWhole", "(I)V"⟩
abbrev cX5_setRow : ByteArray := prog_7_method_4_code
def yX5_setRow : MethodName := ⟨RX5, "setRow", "(I)V"⟩
abbrev cX5_copy : ByteArray := prog_7_method_5_code
def yX5_copy : MethodName := ⟨RX5, "copy", "(LPropertyTests$Value;)V"⟩
abbrev cX5_read : ByteArray := prog_7_method_6_code
def yX5_read : MethodName := ⟨RX5, "read", "(I)I"⟩
abbrev cX5_hasPlace : ByteArray := prog_7_method_7_code
def yX5_hasPlace : MethodName := ⟨RX5, "hasPlace", "(I)Z"⟩
abbrev cX5_candidateCount : ByteArray := prog_7_method_8_code
def yX5_candidateCount : MethodName := ⟨RX5, "candidateCount", "()I"⟩
abbrev cX5_becomeCandidate : ByteArray := prog_7_method_9_code
def yX5_becomeCandidate : MethodName := ⟨RX5, "becomeCandidate", "(I)V"⟩
abbrev cX5_dropPlace : ByteArray := prog_7_method_10_code
def yX5_dropPlace : MethodName := ⟨RX5, "dropPlace", "(I)V"⟩
abbrev cX5_shrinkAnInt : ByteArray := prog_7_method_11_code
def yX5_shrinkAnInt : MethodName := ⟨RX5, "shrinkAnInt", "(I)V"⟩
abbrev cX5_nearerToZero : ByteArray := prog_7_method_12_code
def yX5_nearerToZero : MethodName := ⟨RX5, "nearerToZero", "(II)I"⟩
def RX6 : String := "PropertyTests$Worker"
def TX6 : u_T := fun k => match k with
  | 0 => ("PropertyTests$Worker", "terms", "LPropertyTests$Terms;", true)
  | 1 => ("PropertyTests$Worker", "inputs", "[LPropertyTests$Value;", true)
  | 2 => ("PropertyTests$Worker", "values", "[LPropertyTests$Value;", true)
  | 3 => ("PropertyTests$Worker", "steps", "I", false)
  | _ => ("PropertyTests$Worker", "tries", "I", false)
def tyX6 : Nat → FieldType := fun k => match k with
  | 0 => .object "PropertyTests$Terms"
  | 1 => .array (.object "PropertyTests$Value")
  | 2 => .array (.object "PropertyTests$Value")
  | 3 => .int
  | _ => .int
abbrev wsX60 : List Cond := u_ws RX6 TX6 5
theorem nmX6 : ∀ a, a < 5 → ∀ b, b < 5 → a ≠ b → (TX6 a).2.1 ≠ (TX6 b).2.1 := by decide +kernel
theorem tyX6_ok : ∀ k, k < 5 → parseFieldDescriptor (TX6 k).2.2.1 = some (tyX6 k) := by decide +kernel
abbrev cX6_init : ByteArray := prog_8_method_1_code
def yX6_init : MethodName := ⟨RX6, "<init>", "()V"⟩
abbrev cX6_outcome : ByteArray := prog_8_method_2_code
def yX6_outcome : MethodName := ⟨RX6, "outcome", "(LPropertyTests$Property;)I"⟩
abbrev cX6_labelled : ByteArray := prog_8_method_3_code
def yX6_labelled : MethodName := ⟨RX6, "labelled", "(LPropertyTests$Property;)I"⟩
abbrev cX6_asWhole : ByteArray := prog_8_method_4_code
def yX6_asWhole : MethodName := ⟨RX6, "asWhole", "(I)I"⟩
abbrev cX6_work : ByteArray := prog_8_method_5_code
def yX6_work : MethodName := ⟨RX6, "work", "(I)I"⟩
abbrev cX6_workChosen : ByteArray := prog_8_method_6_code
def yX6_workChosen : MethodName := ⟨RX6, "workChosen", "(III)I"⟩
abbrev cX6_lookAtAll : ByteArray := prog_8_method_7_code
def yX6_lookAtAll : MethodName := ⟨RX6, "lookAtAll", "(ILPropertyTests$Value;LPropertyTests$Value;LPropertyTests$Value;)I"⟩
abbrev cX6_lookAt : ByteArray := prog_8_method_8_code
def yX6_lookAt : MethodName := ⟨RX6, "lookAt", "(LPropertyTests$Value;I)I"⟩
abbrev cX6_comeTo : ByteArray := prog_8_method_9_code
def yX6_comeTo : MethodName := ⟨RX6, "comeTo", "(ILPropertyTests$Value;LPropertyTests$Value;LPropertyTests$Value;LPropertyTests$Value;)I"⟩
abbrev cX6_setTruth : ByteArray := prog_8_method_10_code
def yX6_setTruth : MethodName := ⟨RX6, "setTruth", "(LPropertyTests$Value;Z)V"⟩
abbrev cX6_setOfWholes : ByteArray := prog_8_method_11_code
def yX6_setOfWholes : MethodName := ⟨RX6, "setOfWholes", "(LPropertyTests$Value;III)I"⟩
abbrev cX6_areLike : ByteArray := prog_8_method_12_code
def yX6_areLike : MethodName := ⟨RX6, "areLike", "(LPropertyTests$Value;LPropertyTests$Value;)Z"⟩
abbrev cX6_setAt : ByteArray := prog_8_method_13_code
def yX6_setAt : MethodName := ⟨RX6, "setAt", "(LPropertyTests$Value;LPropertyTests$Value;I)I"⟩
abbrev cX6_setZeros : ByteArray := prog_8_method_14_code
def yX6_setZeros : MethodName := ⟨RX6, "setZeros", "(LPropertyTests$Value;I)I"⟩
abbrev cX6_setPut : ByteArray := prog_8_method_15_code
def yX6_setPut : MethodName := ⟨RX6, "setPut", "(LPropertyTests$Value;LPropertyTests$Value;II)I"⟩
abbrev cX6_setJoined : ByteArray := prog_8_method_16_code
def yX6_setJoined : MethodName := ⟨RX6, "setJoined", "(LPropertyTests$Value;LPropertyTests$Value;LPropertyTests$Value;)I"⟩
abbrev cX6_setPart : ByteArray := prog_8_method_17_code
def yX6_setPart : MethodName := ⟨RX6, "setPart", "(LPropertyTests$Value;LPropertyTests$Value;II)I"⟩
abbrev cX6_setSorted : ByteArray := prog_8_method_18_code
def yX6_setSorted : MethodName := ⟨RX6, "setSorted", "(LPropertyTests$Value;LPropertyTests$Value;)V"⟩
abbrev cX6_setTurned : ByteArray := prog_8_method_19_code
def yX6_setTurned : MethodName := ⟨RX6, "setTurned", "(LPropertyTests$Value;LPropertyTests$Value;)V"⟩
abbrev cX6_sum : ByteArray := prog_8_method_20_code
def yX6_sum : MethodName := ⟨RX6, "sum", "(LPropertyTests$Value;)I"⟩
def RX7 : String := "PropertyTests"
def TX7 : u_T := fun k => match k with
  | 0 => ("PropertyTests", "worker", "LPropertyTests$Worker;", true)
  | 1 => ("PropertyTests", "terms", "LPropertyTests$Terms;", true)
  | 2 => ("PropertyTests", "tried", "[LPropertyTests$Value;", true)
  | 3 => ("PropertyTests", "smallest", "[LPropertyTests$Value;", true)
  | 4 => ("PropertyTests", "shown", "LPropertyTests$Value;", true)
  | 5 => ("PropertyTests", "properties", "[LPropertyTests$Property;", true)
  | 6 => ("PropertyTests", "tally", "LPropertyTests$Tally;", true)
  | 7 => ("PropertyTests", "propertyCount", "I", false)
  | _ => ("PropertyTests", "failing", "I", false)
def tyX7 : Nat → FieldType := fun k => match k with
  | 0 => .object "PropertyTests$Worker"
  | 1 => .object "PropertyTests$Terms"
  | 2 => .array (.object "PropertyTests$Value")
  | 3 => .array (.object "PropertyTests$Value")
  | 4 => .object "PropertyTests$Value"
  | 5 => .array (.object "PropertyTests$Property")
  | 6 => .object "PropertyTests$Tally"
  | 7 => .int
  | _ => .int
abbrev wsX70 : List Cond := u_ws RX7 TX7 9
theorem nmX7 : ∀ a, a < 9 → ∀ b, b < 9 → a ≠ b → (TX7 a).2.1 ≠ (TX7 b).2.1 := by decide +kernel
theorem tyX7_ok : ∀ k, k < 9 → parseFieldDescriptor (TX7 k).2.2.1 = some (tyX7 k) := by decide +kernel
abbrev cX7_init : ByteArray := prog_1_method_1_code
def yX7_init : MethodName := ⟨RX7, "<init>", "()V"⟩
abbrev cX7_term : ByteArray := prog_1_method_2_code
def yX7_term : MethodName := ⟨RX7, "term", "(IIIII)I"⟩
abbrev cX7_property : ByteArray := prog_1_method_3_code
def yX7_property : MethodName := ⟨RX7, "property", "(IIIIIII)I"⟩
abbrev cX7_run : ByteArray := prog_1_method_4_code
def yX7_run : MethodName := ⟨RX7, "run", "(III)I"⟩
abbrev cX7_small : ByteArray := prog_1_method_5_code
def yX7_small : MethodName := ⟨RX7, "small", "(II)I"⟩
abbrev cX7_many : ByteArray := prog_1_method_6_code
def yX7_many : MethodName := ⟨RX7, "many", "(II)I"⟩
abbrev cX7_again : ByteArray := prog_1_method_7_code
def yX7_again : MethodName := ⟨RX7, "again", "()I"⟩
abbrev cX7_counter : ByteArray := prog_1_method_8_code
def yX7_counter : MethodName := ⟨RX7, "counter", "(II)I"⟩
abbrev cX7_drawn : ByteArray := prog_1_method_9_code
def yX7_drawn : MethodName := ⟨RX7, "drawn", "(IIIII)I"⟩
abbrev cX7_told : ByteArray := prog_1_method_10_code
def yX7_told : MethodName := ⟨RX7, "told", "(I)I"⟩
abbrev cX7_label : ByteArray := prog_1_method_11_code
def yX7_label : MethodName := ⟨RX7, "label", "(I)I"⟩
abbrev cX7_newValues : ByteArray := prog_1_method_12_code
def yX7_newValues : MethodName := ⟨RX7, "newValues", "(I)[LPropertyTests$Value;"⟩
abbrev cX7_copyAll : ByteArray := prog_1_method_13_code
def yX7_copyAll : MethodName := ⟨RX7, "copyAll", "([LPropertyTests$Value;[LPropertyTests$Value;)V"⟩
abbrev cX7_isType : ByteArray := prog_1_method_14_code
def yX7_isType : MethodName := ⟨RX7, "isType", "(I)Z"⟩
abbrev cX7_isSmall : ByteArray := prog_1_method_15_code
def yX7_isSmall : MethodName := ⟨RX7, "isSmall", "(I)Z"⟩
abbrev cX7_isProperty : ByteArray := prog_1_method_16_code
def yX7_isProperty : MethodName := ⟨RX7, "isProperty", "(I)Z"⟩
abbrev cX7_forgetLatest : ByteArray := prog_1_method_17_code
def yX7_forgetLatest : MethodName := ⟨RX7, "forgetLatest", "()V"⟩
abbrev cX7_tryCase : ByteArray := prog_1_method_18_code
def yX7_tryCase : MethodName := ⟨RX7, "tryCase", "(I)V"⟩
abbrev cX7_makeSmaller : ByteArray := prog_1_method_19_code
def yX7_makeSmaller : MethodName := ⟨RX7, "makeSmaller", "()V"⟩
abbrev cX7_takeCandidate : ByteArray := prog_1_method_20_code
def yX7_takeCandidate : MethodName := ⟨RX7, "takeCandidate", "(I)Z"⟩
def RX8 : String := "PropertyTestsModel"
def TX8 : u_T := fun k => match k with
  | 0 => ("PropertyTestsModel", "terms", "I", false)
  | 1 => ("PropertyTestsModel", "what", "[I", true)
  | 2 => ("PropertyTestsModel", "partA", "[I", true)
  | 3 => ("PropertyTestsModel", "partB", "[I", true)
  | 4 => ("PropertyTestsModel", "partC", "[I", true)
  | 5 => ("PropertyTestsModel", "number", "[I", true)
  | 6 => ("PropertyTestsModel", "inputType", "[I", true)
  | 7 => ("PropertyTestsModel", "input", "[I", true)
  | 8 => ("PropertyTestsModel", "inputRow", "[I", true)
  | 9 => ("PropertyTestsModel", "steps", "I", false)
  | 10 => ("PropertyTestsModel", "pile", "[I", true)
  | 11 => ("PropertyTestsModel", "phase", "[I", true)
  | 12 => ("PropertyTestsModel", "gotKind", "[I", true)
  | 13 => ("PropertyTestsModel", "got", "[I", true)
  | 14 => ("PropertyTestsModel", "gotRow", "[I", true)
  | 15 => ("PropertyTestsModel", "high", "I", false)
  | 16 => ("PropertyTestsModel", "store", "[I", true)
  | 17 => ("PropertyTestsModel", "kind", "I", false)
  | 18 => ("PropertyTestsModel", "value", "I", false)
  | 19 => ("PropertyTestsModel", "place", "I", false)
  | 20 => ("PropertyTestsModel", "thrown", "I", false)
  | 21 => ("PropertyTestsModel", "order", "[I", true)
  | 22 => ("PropertyTestsModel", "made", "I", false)
  | 23 => ("PropertyTestsModel", "properties", "I", false)
  | 24 => ("PropertyTestsModel", "types", "[I", true)
  | 25 => ("PropertyTestsModel", "condition", "[I", true)
  | 26 => ("PropertyTestsModel", "body", "[I", true)
  | 27 => ("PropertyTestsModel", "labelTerm", "[I", true)
  | 28 => ("PropertyTestsModel", "expected", "[I", true)
  | 29 => ("PropertyTestsModel", "tries", "I", false)
  | 30 => ("PropertyTestsModel", "labels", "[I", true)
  | 31 => ("PropertyTestsModel", "drawnNumber", "I", false)
  | 32 => ("PropertyTestsModel", "drawnRow", "[I", true)
  | 33 => ("PropertyTestsModel", "cases", "I", false)
  | 34 => ("PropertyTestsModel", "held", "I", false)
  | 35 => ("PropertyTestsModel", "dropped", "I", false)
  | 36 => ("PropertyTestsModel", "failed", "I", false)
  | 37 => ("PropertyTestsModel", "failedCase", "I", false)
  | 38 => ("PropertyTestsModel", "candidates", "I", false)
  | 39 => ("PropertyTestsModel", "taken", "I", false)
  | 40 => ("PropertyTestsModel", "least", "I", false)
  | 41 => ("PropertyTestsModel", "counterOf", "I", false)
  | 42 => ("PropertyTestsModel", "counterType", "[I", true)
  | 43 => ("PropertyTestsModel", "counter", "[I", true)
  | _ => ("PropertyTestsModel", "counterRow", "[I", true)
def tyX8 : Nat → FieldType := fun k => match k with
  | 0 => .int
  | 1 => .array .int
  | 2 => .array .int
  | 3 => .array .int
  | 4 => .array .int
  | 5 => .array .int
  | 6 => .array .int
  | 7 => .array .int
  | 8 => .array .int
  | 9 => .int
  | 10 => .array .int
  | 11 => .array .int
  | 12 => .array .int
  | 13 => .array .int
  | 14 => .array .int
  | 15 => .int
  | 16 => .array .int
  | 17 => .int
  | 18 => .int
  | 19 => .int
  | 20 => .int
  | 21 => .array .int
  | 22 => .int
  | 23 => .int
  | 24 => .array .int
  | 25 => .array .int
  | 26 => .array .int
  | 27 => .array .int
  | 28 => .array .int
  | 29 => .int
  | 30 => .array .int
  | 31 => .int
  | 32 => .array .int
  | 33 => .int
  | 34 => .int
  | 35 => .int
  | 36 => .int
  | 37 => .int
  | 38 => .int
  | 39 => .int
  | 40 => .int
  | 41 => .int
  | 42 => .array .int
  | 43 => .array .int
  | _ => .array .int
abbrev wsX80 : List Cond := u_ws RX8 TX8 45
theorem nmX8 : ∀ a, a < 45 → ∀ b, b < 45 → a ≠ b → (TX8 a).2.1 ≠ (TX8 b).2.1 := by decide +kernel
theorem tyX8_ok : ∀ k, k < 45 → parseFieldDescriptor (TX8 k).2.2.1 = some (tyX8 k) := by decide +kernel
abbrev cX8_init : ByteArray := prog_10_method_1_code
def yX8_init : MethodName := ⟨RX8, "<init>", "()V"⟩
abbrev cX8_in : ByteArray := prog_10_method_2_code
def yX8_in : MethodName := ⟨RX8, "in", "(III)Z"⟩
abbrev cX8_isTerm : ByteArray := prog_10_method_3_code
def yX8_isTerm : MethodName := ⟨RX8, "isTerm", "(I)Z"⟩
abbrev cX8_parts : ByteArray := prog_10_method_4_code
def yX8_parts : MethodName := ⟨RX8, "parts", "(I)I"⟩
abbrev cX8_term : ByteArray := prog_10_method_5_code
def yX8_term : MethodName := ⟨RX8, "term", "(IIIII)I"⟩
abbrev cX8_begin : ByteArray := prog_10_method_6_code
def yX8_begin : MethodName := ⟨RX8, "begin", "(I)V"⟩
abbrev cX8_work : ByteArray := prog_10_method_7_code
def yX8_work : MethodName := ⟨RX8, "work", "(I)Z"⟩
abbrev cX8_wrong : ByteArray := prog_10_method_8_code
def yX8_wrong : MethodName := ⟨RX8, "wrong", "(II)I"⟩
abbrev cX8_nextPart : ByteArray := prog_10_method_9_code
def yX8_nextPart : MethodName := ⟨RX8, "nextPart", "(II)I"⟩
abbrev cX8_nextOfChoice : ByteArray := prog_10_method_10_code
def yX8_nextOfChoice : MethodName := ⟨RX8, "nextOfChoice", "(III)I"⟩
abbrev cX8_whole : ByteArray := prog_10_method_11_code
def yX8_whole : MethodName := ⟨RX8, "whole", "(I)V"⟩
abbrev cX8_row : ByteArray := prog_10_method_12_code
def yX8_row : MethodName := ⟨RX8, "row", "(I)I"⟩
abbrev cX8_end : ByteArray := prog_10_method_13_code
def yX8_end : MethodName := ⟨RX8, "end", "(II)V"⟩
abbrev cX8_input : ByteArray := prog_10_method_14_code
def yX8_input : MethodName := ⟨RX8, "input", "(I)V"⟩
abbrev cX8_numbers : ByteArray := prog_10_method_15_code
def yX8_numbers : MethodName := ⟨RX8, "numbers", "(II)V"⟩
abbrev cX8_like : ByteArray := prog_10_method_16_code
def yX8_like : MethodName := ⟨RX8, "like", "(I)V"⟩
abbrev cX8_both : ByteArray := prog_10_method_17_code
def yX8_both : MethodName := ⟨RX8, "both", "(II)V"⟩
abbrev cX8_rows : ByteArray := prog_10_method_18_code
def yX8_rows : MethodName := ⟨RX8, "rows", "(II)V"⟩
abbrev cX8_refused : ByteArray := prog_10_method_19_code
def yX8_refused : MethodName := ⟨RX8, "refused", "(IIII)I"⟩
abbrev cX8_rowOf : ByteArray := prog_10_method_20_code
def yX8_rowOf : MethodName := ⟨RX8, "rowOf", "(IIII)V"⟩
abbrev cX8_property : ByteArray := prog_10_method_21_code
def yX8_property : MethodName := ⟨RX8, "property", "(IIIIIII)I"⟩
abbrev cX8_outcome : ByteArray := prog_10_method_22_code
def yX8_outcome : MethodName := ⟨RX8, "outcome", "(IZ)I"⟩
abbrev cX8_ended : ByteArray := prog_10_method_23_code
def yX8_ended : MethodName := ⟨RX8, "ended", "(I)I"⟩
abbrev cX8_hash : ByteArray := prog_10_method_24_code
def yX8_hash : MethodName := ⟨RX8, "hash", "(II)I"⟩
abbrev cX8_modulo : ByteArray := prog_10_method_25_code
def yX8_modulo : MethodName := ⟨RX8, "modulo", "(II)I"⟩
abbrev cX8_draw : ByteArray := prog_10_method_26_code
def yX8_draw : MethodName := ⟨RX8, "draw", "(IIII)V"⟩
abbrev cX8_drawn : ByteArray := prog_10_method_27_code
def yX8_drawn : MethodName := ⟨RX8, "drawn", "(IIIII)I"⟩
abbrev cX8_anew : ByteArray := prog_10_method_28_code
def yX8_anew : MethodName := ⟨RX8, "anew", "()V"⟩
abbrev cX8_isFailed : ByteArray := prog_10_method_29_code
def yX8_isFailed : MethodName := ⟨RX8, "isFailed", "(I)Z"⟩
abbrev cX8_keep : ByteArray := prog_10_method_30_code
def yX8_keep : MethodName := ⟨RX8, "keep", "(I)V"⟩
abbrev cX8_takeCounter : ByteArray := prog_10_method_31_code
def yX8_takeCounter : MethodName := ⟨RX8, "takeCounter", "()V"⟩
abbrev cX8_isProperty : ByteArray := prog_10_method_32_code
def yX8_isProperty : MethodName := ⟨RX8, "isProperty", "(I)Z"⟩
abbrev cX8_run : ByteArray := prog_10_method_33_code
def yX8_run : MethodName := ⟨RX8, "run", "(III)I"⟩
abbrev cX8_smaller : ByteArray := prog_10_method_34_code
def yX8_smaller : MethodName := ⟨RX8, "smaller", "(I)V"⟩
abbrev cX8_less : ByteArray := prog_10_method_35_code
def yX8_less : MethodName := ⟨RX8, "less", "(II)I"⟩
abbrev cX8_candidate : ByteArray := prog_10_method_36_code
def yX8_candidate : MethodName := ⟨RX8, "candidate", "(I)Z"⟩
abbrev cX8_without : ByteArray := prog_10_method_37_code
def yX8_without : MethodName := ⟨RX8, "without", "(II)V"⟩
abbrev cX8_power : ByteArray := prog_10_method_38_code
def yX8_power : MethodName := ⟨RX8, "power", "(II)I"⟩
abbrev cX8_sort : ByteArray := prog_10_method_39_code
def yX8_sort : MethodName := ⟨RX8, "sort", "(II)I"⟩
abbrev cX8_all : ByteArray := prog_10_method_40_code
def yX8_all : MethodName := ⟨RX8, "all", "(II)I"⟩
abbrev cX8_many : ByteArray := prog_10_method_41_code
def yX8_many : MethodName := ⟨RX8, "many", "(II)I"⟩
abbrev cX8_ranked : ByteArray := prog_10_method_42_code
def yX8_ranked : MethodName := ⟨RX8, "ranked", "(I)I"⟩
abbrev cX8_takeSmall : ByteArray := prog_10_method_43_code
def yX8_takeSmall : MethodName := ⟨RX8, "takeSmall", "(IIII)V"⟩
abbrev cX8_small : ByteArray := prog_10_method_44_code
def yX8_small : MethodName := ⟨RX8, "small", "(II)I"⟩
abbrev cX8_again : ByteArray := prog_10_method_45_code
def yX8_again : MethodName := ⟨RX8, "again", "()I"⟩
abbrev cX8_counter : ByteArray := prog_10_method_46_code
def yX8_counter : MethodName := ⟨RX8, "counter", "(II)I"⟩
abbrev cX8_told : ByteArray := prog_10_method_47_code
def yX8_told : MethodName := ⟨RX8, "told", "(I)I"⟩
abbrev cX8_label : ByteArray := prog_10_method_48_code
def yX8_label : MethodName := ⟨RX8, "label", "(I)I"⟩
def RJ9 : String := "java/lang/Math"
def TJ9 : u_T := fun k => match k with
  | _ => ("", "", "", false)
def tyJ9 : Nat → FieldType := fun k => match k with
  | _ => .int
abbrev wsJ90 : List Cond := u_ws RJ9 TJ9 0
theorem nmJ9 : ∀ a, a < 0 → ∀ b, b < 0 → a ≠ b → (TJ9 a).2.1 ≠ (TJ9 b).2.1 := by decide +kernel
theorem tyJ9_ok : ∀ k, k < 0 → parseFieldDescriptor (TJ9 k).2.2.1 = some (tyJ9 k) := by decide +kernel
abbrev cJ9_floorMod_7cf53 : ByteArray := prog_11_method_50_code
def yJ9_floorMod_7cf53 : MethodName := ⟨RJ9, "floorMod", "(II)I"⟩
def RJ10 : String := "java/lang/System"
def TJ10 : u_T := fun k => match k with
  | _ => ("", "", "", false)
def tyJ10 : Nat → FieldType := fun k => match k with
  | _ => .int
abbrev wsJ100 : List Cond := u_ws RJ10 TJ10 0
theorem nmJ10 : ∀ a, a < 0 → ∀ b, b < 0 → a ≠ b → (TJ10 a).2.1 ≠ (TJ10 b).2.1 := by decide +kernel
theorem tyJ10_ok : ∀ k, k < 0 → parseFieldDescriptor (TJ10 k).2.2.1 = some (tyJ10 k) := by decide +kernel
def RL : String := "PropertyTestsLaw"
abbrev cL_law : ByteArray := code
def yL_law : MethodName := ⟨RL, "law", "([I)Z"⟩
abbrev vwCl : List vw_C := [(RX1, TX1, 5), (RX3, TX3, 9), (RX4, TX4, 6), (RX5, TX5, 4), (RX6, TX6, 5), (RX7, TX7, 9), (RX8, TX8, 45)]
end
section
theorem dX0_hash_0 : decode cX0_hash 0 = .ok (.iload_n 0, 1) := by decide +kernel
theorem dX0_hash_1 : decode cX0_hash 1 = .ok (.iload_n 1, 1) := by decide +kernel
theorem dX0_hash_2 : decode cX0_hash 2 = .ok (.ldc 9, 2) := by decide +kernel
theorem dX0_hash_4 : decode cX0_hash 4 = .ok (.imul, 1) := by decide +kernel
theorem dX0_hash_5 : decode cX0_hash 5 = .ok (.iadd, 1) := by decide +kernel
theorem dX0_hash_6 : decode cX0_hash 6 = .ok (.istore_n 2, 1) := by decide +kernel
theorem dX0_hash_7 : decode cX0_hash 7 = .ok (.iload_n 2, 1) := by decide +kernel
theorem dX0_hash_8 : decode cX0_hash 8 = .ok (.iload_n 2, 1) := by decide +kernel
theorem dX0_hash_9 : decode cX0_hash 9 = .ok (.bipush 16, 2) := by decide +kernel
theorem dX0_hash_11 : decode cX0_hash 11 = .ok (.iushr, 1) := by decide +kernel
theorem dX0_hash_12 : decode cX0_hash 12 = .ok (.ixor, 1) := by decide +kernel
theorem dX0_hash_13 : decode cX0_hash 13 = .ok (.ldc 10, 2) := by decide +kernel
theorem dX0_hash_15 : decode cX0_hash 15 = .ok (.imul, 1) := by decide +kernel
theorem dX0_hash_16 : decode cX0_hash 16 = .ok (.istore_n 2, 1) := by decide +kernel
theorem dX0_hash_17 : decode cX0_hash 17 = .ok (.iload_n 2, 1) := by decide +kernel
theorem dX0_hash_18 : decode cX0_hash 18 = .ok (.iload_n 2, 1) := by decide +kernel
theorem dX0_hash_19 : decode cX0_hash 19 = .ok (.bipush 13, 2) := by decide +kernel
theorem dX0_hash_21 : decode cX0_hash 21 = .ok (.iushr, 1) := by decide +kernel
theorem dX0_hash_22 : decode cX0_hash 22 = .ok (.ixor, 1) := by decide +kernel
theorem dX0_hash_23 : decode cX0_hash 23 = .ok (.ldc 11, 2) := by decide +kernel
theorem dX0_hash_25 : decode cX0_hash 25 = .ok (.imul, 1) := by decide +kernel
theorem dX0_hash_26 : decode cX0_hash 26 = .ok (.istore_n 2, 1) := by decide +kernel
theorem dX0_hash_27 : decode cX0_hash 27 = .ok (.iload_n 2, 1) := by decide +kernel
theorem dX0_hash_28 : decode cX0_hash 28 = .ok (.iload_n 2, 1) := by decide +kernel
theorem dX0_hash_29 : decode cX0_hash 29 = .ok (.bipush 16, 2) := by decide +kernel
theorem dX0_hash_31 : decode cX0_hash 31 = .ok (.iushr, 1) := by decide +kernel
theorem dX0_hash_32 : decode cX0_hash 32 = .ok (.ixor, 1) := by decide +kernel
theorem dX0_hash_33 : decode cX0_hash 33 = .ok (.ireturn, 1) := by decide +kernel
theorem dX0_between_0 : decode cX0_between 0 = .ok (.iload_n 0, 1) := by decide +kernel
theorem dX0_between_1 : decode cX0_between 1 = .ok (.iconst 2, 1) := by decide +kernel
theorem dX0_between_2 : decode cX0_between 2 = .ok (.iload_n 1, 1) := by decide +kernel
theorem dX0_between_3 : decode cX0_between 3 = .ok (.imul, 1) := by decide +kernel
theorem dX0_between_4 : decode cX0_between 4 = .ok (.iconst 1, 1) := by decide +kernel
theorem dX0_between_5 : decode cX0_between 5 = .ok (.iadd, 1) := by decide +kernel
theorem dX0_between_6 : decode cX0_between 6 = .ok (.invokestatic 12, 3) := by decide +kernel
theorem dX0_between_9 : decode cX0_between 9 = .ok (.iload_n 1, 1) := by decide +kernel
theorem dX0_between_10 : decode cX0_between 10 = .ok (.isub, 1) := by decide +kernel
theorem dX0_between_11 : decode cX0_between 11 = .ok (.ireturn, 1) := by decide +kernel
theorem dX0_into_0 : decode cX0_into 0 = .ok (.iconst 1, 1) := by decide +kernel
theorem dX0_into_1 : decode cX0_into 1 = .ok (.iload_n 2, 1) := by decide +kernel
theorem dX0_into_2 : decode cX0_into 2 = .ok (.bipush 12, 2) := by decide +kernel
theorem dX0_into_4 : decode cX0_into 4 = .ok (.irem, 1) := by decide +kernel
theorem dX0_into_5 : decode cX0_into 5 = .ok (.iadd, 1) := by decide +kernel
theorem dX0_into_6 : decode cX0_into 6 = .ok (.istore 5, 2) := by decide +kernel
theorem dX0_into_8 : decode cX0_into 8 = .ok (.iload_n 1, 1) := by decide +kernel
theorem dX0_into_9 : decode cX0_into 9 = .ok (.bipush 16, 2) := by decide +kernel
theorem dX0_into_11 : decode cX0_into 11 = .ok (.iload_n 2, 1) := by decide +kernel
theorem dX0_into_12 : decode cX0_into 12 = .ok (.imul, 1) := by decide +kernel
theorem dX0_into_13 : decode cX0_into 13 = .ok (.iload_n 3, 1) := by decide +kernel
theorem dX0_into_14 : decode cX0_into 14 = .ok (.iadd, 1) := by decide +kernel
theorem dX0_into_15 : decode cX0_into 15 = .ok (.invokestatic 20, 3) := by decide +kernel
theorem dX0_into_18 : decode cX0_into 18 = .ok (.istore 6, 2) := by decide +kernel
theorem dX0_into_20 : decode cX0_into 20 = .ok (.iload 4, 2) := by decide +kernel
theorem dX0_into_22 : decode cX0_into 22 = .ok (.ifCond .ne 17, 3) := by decide +kernel
theorem dX0_into_25 : decode cX0_into 25 = .ok (.aload_n 0, 1) := by decide +kernel
theorem dX0_into_26 : decode cX0_into 26 = .ok (.iload 6, 2) := by decide +kernel
theorem dX0_into_28 : decode cX0_into 28 = .ok (.iload 5, 2) := by decide +kernel
theorem dX0_into_30 : decode cX0_into 30 = .ok (.invokestatic 23, 3) := by decide +kernel
theorem dX0_into_33 : decode cX0_into 33 = .ok (.invokevirtual 26, 3) := by decide +kernel
theorem dX0_into_36 : decode cX0_into 36 = .ok (.goto 70, 3) := by decide +kernel
theorem dX0_into_39 : decode cX0_into 39 = .ok (.iload 4, 2) := by decide +kernel
theorem dX0_into_41 : decode cX0_into 41 = .ok (.iconst 1, 1) := by decide +kernel
theorem dX0_into_42 : decode cX0_into 42 = .ok (.if_icmp .ne 60, 3) := by decide +kernel
theorem dX0_into_45 : decode cX0_into 45 = .ok (.aload_n 0, 1) := by decide +kernel
theorem dX0_into_46 : decode cX0_into 46 = .ok (.iload 6, 2) := by decide +kernel
theorem dX0_into_48 : decode cX0_into 48 = .ok (.iload 5, 2) := by decide +kernel
theorem dX0_into_50 : decode cX0_into 50 = .ok (.iconst 2, 1) := by decide +kernel
theorem dX0_into_51 : decode cX0_into 51 = .ok (.idiv, 1) := by decide +kernel
theorem dX0_into_52 : decode cX0_into 52 = .ok (.iconst 1, 1) := by decide +kernel
theorem dX0_into_53 : decode cX0_into 53 = .ok (.iadd, 1) := by decide +kernel
theorem dX0_into_54 : decode cX0_into 54 = .ok (.invokestatic 12, 3) := by decide +kernel
theorem dX0_into_57 : decode cX0_into 57 = .ok (.invokevirtual 32, 3) := by decide +kernel
theorem dX0_into_60 : decode cX0_into 60 = .ok (.iconst 0, 1) := by decide +kernel
theorem dX0_into_61 : decode cX0_into 61 = .ok (.istore 7, 2) := by decide +kernel
theorem dX0_into_63 : decode cX0_into 63 = .ok (.iload 7, 2) := by decide +kernel
theorem dX0_into_65 : decode cX0_into 65 = .ok (.aload_n 0, 1) := by decide +kernel
theorem dX0_into_66 : decode cX0_into 66 = .ok (.getfield 35, 3) := by decide +kernel
theorem dX0_into_69 : decode cX0_into 69 = .ok (.if_icmp .ge 30, 3) := by decide +kernel
theorem dX0_into_72 : decode cX0_into 72 = .ok (.aload_n 0, 1) := by decide +kernel
theorem dX0_into_73 : decode cX0_into 73 = .ok (.getfield 39, 3) := by decide +kernel
theorem dX0_into_76 : decode cX0_into 76 = .ok (.iload 7, 2) := by decide +kernel
theorem dX0_into_78 : decode cX0_into 78 = .ok (.iload 6, 2) := by decide +kernel
theorem dX0_into_80 : decode cX0_into 80 = .ok (.iload 7, 2) := by decide +kernel
theorem dX0_into_82 : decode cX0_into 82 = .ok (.iconst 1, 1) := by decide +kernel
theorem dX0_into_83 : decode cX0_into 83 = .ok (.iadd, 1) := by decide +kernel
theorem dX0_into_84 : decode cX0_into 84 = .ok (.invokestatic 20, 3) := by decide +kernel
theorem dX0_into_87 : decode cX0_into 87 = .ok (.iload 5, 2) := by decide +kernel
theorem dX0_into_89 : decode cX0_into 89 = .ok (.invokestatic 23, 3) := by decide +kernel
theorem dX0_into_92 : decode cX0_into 92 = .ok (.iastore, 1) := by decide +kernel
theorem dX0_into_93 : decode cX0_into 93 = .ok (.iinc 7 1, 3) := by decide +kernel
theorem dX0_into_96 : decode cX0_into 96 = .ok (.goto (-33), 3) := by decide +kernel
theorem dX0_into_99 : decode cX0_into 99 = .ok (.goto 7, 3) := by decide +kernel
theorem dX0_into_102 : decode cX0_into 102 = .ok (.aload_n 0, 1) := by decide +kernel
theorem dX0_into_103 : decode cX0_into 103 = .ok (.invokevirtual 43, 3) := by decide +kernel
theorem dX0_into_106 : decode cX0_into 106 = .ok (.return_, 1) := by decide +kernel
theorem dX1_init_0 : decode cX1_init 0 = .ok (.aload_n 0, 1) := by decide +kernel
theorem dX1_init_1 : decode cX1_init 1 = .ok (.invokespecial 3, 3) := by decide +kernel
theorem dX1_init_4 : decode cX1_init 4 = .ok (.aload_n 0, 1) := by decide +kernel
theorem dX1_init_5 : decode cX1_init 5 = .ok (.iconst 3, 1) := by decide +kernel
theorem dX1_init_6 : decode cX1_init 6 = .ok (.newarray .int, 2) := by decide +kernel
theorem dX1_init_8 : decode cX1_init 8 = .ok (.putfield 9, 3) := by decide +kernel
theorem dX1_init_11 : decode cX1_init 11 = .ok (.aload_n 0, 1) := by decide +kernel
theorem dX1_init_12 : decode cX1_init 12 = .ok (.iconst (-1), 1) := by decide +kernel
theorem dX1_init_13 : decode cX1_init 13 = .ok (.putfield 15, 3) := by decide +kernel
theorem dX1_init_16 : decode cX1_init 16 = .ok (.aload_n 0, 1) := by decide +kernel
theorem dX1_init_17 : decode cX1_init 17 = .ok (.iconst 0, 1) := by decide +kernel
theorem dX1_init_18 : decode cX1_init 18 = .ok (.putfield 19, 3) := by decide +kernel
theorem dX1_init_21 : decode cX1_init 21 = .ok (.aload_n 0, 1) := by decide +kernel
theorem dX1_init_22 : decode cX1_init 22 = .ok (.iconst (-1), 1) := by decide +kernel
theorem dX1_init_23 : decode cX1_init 23 = .ok (.putfield 22, 3) := by decide +kernel
theorem dX1_init_26 : decode cX1_init 26 = .ok (.aload_n 0, 1) := by decide +kernel
theorem dX1_init_27 : decode cX1_init 27 = .ok (.iconst 0, 1) := by decide +kernel
theorem dX1_init_28 : decode cX1_init 28 = .ok (.putfield 25, 3) := by decide +kernel
theorem dX1_init_31 : decode cX1_init 31 = .ok (.return_, 1) := by decide +kernel
theorem dX1_setTypes_0 : decode cX1_setTypes 0 = .ok (.aload_n 0, 1) := by decide +kernel
theorem dX1_setTypes_1 : decode cX1_setTypes 1 = .ok (.getfield 9, 3) := by decide +kernel
theorem dX1_setTypes_4 : decode cX1_setTypes 4 = .ok (.iconst 0, 1) := by decide +kernel
theorem dX1_setTypes_5 : decode cX1_setTypes 5 = .ok (.iload_n 1, 1) := by decide +kernel
theorem dX1_setTypes_6 : decode cX1_setTypes 6 = .ok (.iastore, 1) := by decide +kernel
theorem dX1_setTypes_7 : decode cX1_setTypes 7 = .ok (.aload_n 0, 1) := by decide +kernel
theorem dX1_setTypes_8 : decode cX1_setTypes 8 = .ok (.getfield 9, 3) := by decide +kernel
theorem dX1_setTypes_11 : decode cX1_setTypes 11 = .ok (.iconst 1, 1) := by decide +kernel
theorem dX1_setTypes_12 : decode cX1_setTypes 12 = .ok (.iload_n 2, 1) := by decide +kernel
theorem dX1_setTypes_13 : decode cX1_setTypes 13 = .ok (.iastore, 1) := by decide +kernel
theorem dX1_setTypes_14 : decode cX1_setTypes 14 = .ok (.aload_n 0, 1) := by decide +kernel
theorem dX1_setTypes_15 : decode cX1_setTypes 15 = .ok (.getfield 9, 3) := by decide +kernel
theorem dX1_setTypes_18 : decode cX1_setTypes 18 = .ok (.iconst 2, 1) := by decide +kernel
theorem dX1_setTypes_19 : decode cX1_setTypes 19 = .ok (.iload_n 3, 1) := by decide +kernel
theorem dX1_setTypes_20 : decode cX1_setTypes 20 = .ok (.iastore, 1) := by decide +kernel
theorem dX1_setTypes_21 : decode cX1_setTypes 21 = .ok (.return_, 1) := by decide +kernel
theorem dX1_setTerms_0 : decode cX1_setTerms 0 = .ok (.aload_n 0, 1) := by decide +kernel
theorem dX1_setTerms_1 : decode cX1_setTerms 1 = .ok (.iload_n 1, 1) := by decide +kernel
theorem dX1_setTerms_2 : decode cX1_setTerms 2 = .ok (.putfield 15, 3) := by decide +kernel
theorem dX1_setTerms_5 : decode cX1_setTerms 5 = .ok (.aload_n 0, 1) := by decide +kernel
theorem dX1_setTerms_6 : decode cX1_setTerms 6 = .ok (.iload_n 2, 1) := by decide +kernel
theorem dX1_setTerms_7 : decode cX1_setTerms 7 = .ok (.putfield 19, 3) := by decide +kernel
theorem dX1_setTerms_10 : decode cX1_setTerms 10 = .ok (.aload_n 0, 1) := by decide +kernel
theorem dX1_setTerms_11 : decode cX1_setTerms 11 = .ok (.iload_n 3, 1) := by decide +kernel
theorem dX1_setTerms_12 : decode cX1_setTerms 12 = .ok (.putfield 22, 3) := by decide +kernel
theorem dX1_setTerms_15 : decode cX1_setTerms 15 = .ok (.aload_n 0, 1) := by decide +kernel
theorem dX1_setTerms_16 : decode cX1_setTerms 16 = .ok (.iload 4, 2) := by decide +kernel
theorem dX1_setTerms_18 : decode cX1_setTerms 18 = .ok (.putfield 25, 3) := by decide +kernel
theorem dX1_setTerms_21 : decode cX1_setTerms 21 = .ok (.return_, 1) := by decide +kernel
theorem dX2_wholes_0 : decode cX2_wholes 0 = .ok (.iconst 2, 1) := by decide +kernel
theorem dX2_wholes_1 : decode cX2_wholes 1 = .ok (.iload_n 0, 1) := by decide +kernel
theorem dX2_wholes_2 : decode cX2_wholes 2 = .ok (.imul, 1) := by decide +kernel
theorem dX2_wholes_3 : decode cX2_wholes 3 = .ok (.iconst 1, 1) := by decide +kernel
theorem dX2_wholes_4 : decode cX2_wholes 4 = .ok (.iadd, 1) := by decide +kernel
theorem dX2_wholes_5 : decode cX2_wholes 5 = .ok (.ireturn, 1) := by decide +kernel
theorem dX2_count_0 : decode cX2_count 0 = .ok (.iload_n 0, 1) := by decide +kernel
theorem dX2_count_1 : decode cX2_count 1 = .ok (.iconst (-1), 1) := by decide +kernel
theorem dX2_count_2 : decode cX2_count 2 = .ok (.if_icmp .ne 5, 3) := by decide +kernel
theorem dX2_count_5 : decode cX2_count 5 = .ok (.iconst 1, 1) := by decide +kernel
theorem dX2_count_6 : decode cX2_count 6 = .ok (.ireturn, 1) := by decide +kernel
theorem dX2_count_7 : decode cX2_count 7 = .ok (.iload_n 0, 1) := by decide +kernel
theorem dX2_count_8 : decode cX2_count 8 = .ok (.ifCond .ne 8, 3) := by decide +kernel
theorem dX2_count_11 : decode cX2_count 11 = .ok (.iload_n 1, 1) := by decide +kernel
theorem dX2_count_12 : decode cX2_count 12 = .ok (.invokestatic 9, 3) := by decide +kernel
theorem dX2_count_15 : decode cX2_count 15 = .ok (.ireturn, 1) := by decide +kernel
theorem dX2_count_16 : decode cX2_count 16 = .ok (.iconst 1, 1) := by decide +kernel
theorem dX2_count_17 : decode cX2_count 17 = .ok (.istore_n 2, 1) := by decide +kernel
theorem dX2_count_18 : decode cX2_count 18 = .ok (.iconst 1, 1) := by decide +kernel
theorem dX2_count_19 : decode cX2_count 19 = .ok (.istore_n 3, 1) := by decide +kernel
theorem dX2_count_20 : decode cX2_count 20 = .ok (.iconst 1, 1) := by decide +kernel
theorem dX2_count_21 : decode cX2_count 21 = .ok (.istore 4, 2) := by decide +kernel
theorem dX2_count_23 : decode cX2_count 23 = .ok (.iload 4, 2) := by decide +kernel
theorem dX2_count_25 : decode cX2_count 25 = .ok (.iload_n 1, 1) := by decide +kernel
theorem dX2_count_26 : decode cX2_count 26 = .ok (.if_icmp .gt 20, 3) := by decide +kernel
theorem dX2_count_29 : decode cX2_count 29 = .ok (.iload_n 3, 1) := by decide +kernel
theorem dX2_count_30 : decode cX2_count 30 = .ok (.iload_n 1, 1) := by decide +kernel
theorem dX2_count_31 : decode cX2_count 31 = .ok (.invokestatic 9, 3) := by decide +kernel
theorem dX2_count_34 : decode cX2_count 34 = .ok (.imul, 1) := by decide +kernel
theorem dX2_count_35 : decode cX2_count 35 = .ok (.istore_n 3, 1) := by decide +kernel
theorem dX2_count_36 : decode cX2_count 36 = .ok (.iload_n 2, 1) := by decide +kernel
theorem dX2_count_37 : decode cX2_count 37 = .ok (.iload_n 3, 1) := by decide +kernel
theorem dX2_count_38 : decode cX2_count 38 = .ok (.iadd, 1) := by decide +kernel
theorem dX2_count_39 : decode cX2_count 39 = .ok (.istore_n 2, 1) := by decide +kernel
theorem dX2_count_40 : decode cX2_count 40 = .ok (.iinc 4 1, 3) := by decide +kernel
theorem dX2_count_43 : decode cX2_count 43 = .ok (.goto (-20), 3) := by decide +kernel
theorem dX2_count_46 : decode cX2_count 46 = .ok (.iload_n 2, 1) := by decide +kernel
theorem dX2_count_47 : decode cX2_count 47 = .ok (.ireturn, 1) := by decide +kernel
theorem dX2_countFor_0 : decode cX2_countFor 0 = .ok (.iconst 1, 1) := by decide +kernel
theorem dX2_countFor_1 : decode cX2_countFor 1 = .ok (.istore_n 2, 1) := by decide +kernel
theorem dX2_countFor_2 : decode cX2_countFor 2 = .ok (.iconst 0, 1) := by decide +kernel
theorem dX2_countFor_3 : decode cX2_countFor 3 = .ok (.istore_n 3, 1) := by decide +kernel
theorem dX2_countFor_4 : decode cX2_countFor 4 = .ok (.iload_n 3, 1) := by decide +kernel
theorem dX2_countFor_5 : decode cX2_countFor 5 = .ok (.iconst 3, 1) := by decide +kernel
theorem dX2_countFor_6 : decode cX2_countFor 6 = .ok (.if_icmp .ge 19, 3) := by decide +kernel
theorem dX2_countFor_9 : decode cX2_countFor 9 = .ok (.iload_n 2, 1) := by decide +kernel
theorem dX2_countFor_10 : decode cX2_countFor 10 = .ok (.aload_n 0, 1) := by decide +kernel
theorem dX2_countFor_11 : decode cX2_countFor 11 = .ok (.iload_n 3, 1) := by decide +kernel
theorem dX2_countFor_12 : decode cX2_countFor 12 = .ok (.iaload, 1) := by decide +kernel
theorem dX2_countFor_13 : decode cX2_countFor 13 = .ok (.iload_n 1, 1) := by decide +kernel
theorem dX2_countFor_14 : decode cX2_countFor 14 = .ok (.invokestatic 15, 3) := by decide +kernel
theorem dX2_countFor_17 : decode cX2_countFor 17 = .ok (.imul, 1) := by decide +kernel
theorem dX2_countFor_18 : decode cX2_countFor 18 = .ok (.istore_n 2, 1) := by decide +kernel
theorem dX2_countFor_19 : decode cX2_countFor 19 = .ok (.iinc 3 1, 3) := by decide +kernel
theorem dX2_countFor_22 : decode cX2_countFor 22 = .ok (.goto (-18), 3) := by decide +kernel
theorem dX2_countFor_25 : decode cX2_countFor 25 = .ok (.iload_n 2, 1) := by decide +kernel
theorem dX2_countFor_26 : decode cX2_countFor 26 = .ok (.ireturn, 1) := by decide +kernel
theorem dX2_fill_0 : decode cX2_fill 0 = .ok (.iload_n 3, 1) := by decide +kernel
theorem dX2_fill_1 : decode cX2_fill 1 = .ok (.istore 4, 2) := by decide +kernel
theorem dX2_fill_3 : decode cX2_fill 3 = .ok (.iconst 2, 1) := by decide +kernel
theorem dX2_fill_4 : decode cX2_fill 4 = .ok (.istore 5, 2) := by decide +kernel
theorem dX2_fill_6 : decode cX2_fill 6 = .ok (.iload 5, 2) := by decide +kernel
theorem dX2_fill_8 : decode cX2_fill 8 = .ok (.ifCond .lt 43, 3) := by decide +kernel
theorem dX2_fill_11 : decode cX2_fill 11 = .ok (.aload_n 1, 1) := by decide +kernel
theorem dX2_fill_12 : decode cX2_fill 12 = .ok (.iload 5, 2) := by decide +kernel
theorem dX2_fill_14 : decode cX2_fill 14 = .ok (.iaload, 1) := by decide +kernel
theorem dX2_fill_15 : decode cX2_fill 15 = .ok (.iload_n 2, 1) := by decide +kernel
theorem dX2_fill_16 : decode cX2_fill 16 = .ok (.invokestatic 15, 3) := by decide +kernel
theorem dX2_fill_19 : decode cX2_fill 19 = .ok (.istore 6, 2) := by decide +kernel
theorem dX2_fill_21 : decode cX2_fill 21 = .ok (.aload_n 0, 1) := by decide +kernel
theorem dX2_fill_22 : decode cX2_fill 22 = .ok (.iload 5, 2) := by decide +kernel
theorem dX2_fill_24 : decode cX2_fill 24 = .ok (.aaload, 1) := by decide +kernel
theorem dX2_fill_25 : decode cX2_fill 25 = .ok (.aload_n 1, 1) := by decide +kernel
theorem dX2_fill_26 : decode cX2_fill 26 = .ok (.iload 5, 2) := by decide +kernel
theorem dX2_fill_28 : decode cX2_fill 28 = .ok (.iaload, 1) := by decide +kernel
theorem dX2_fill_29 : decode cX2_fill 29 = .ok (.iload_n 2, 1) := by decide +kernel
theorem dX2_fill_30 : decode cX2_fill 30 = .ok (.iload 4, 2) := by decide +kernel
theorem dX2_fill_32 : decode cX2_fill 32 = .ok (.iload 6, 2) := by decide +kernel
theorem dX2_fill_34 : decode cX2_fill 34 = .ok (.irem, 1) := by decide +kernel
theorem dX2_fill_35 : decode cX2_fill 35 = .ok (.invokestatic 19, 3) := by decide +kernel
theorem dX2_fill_38 : decode cX2_fill 38 = .ok (.iload 4, 2) := by decide +kernel
theorem dX2_fill_40 : decode cX2_fill 40 = .ok (.iload 6, 2) := by decide +kernel
theorem dX2_fill_42 : decode cX2_fill 42 = .ok (.idiv, 1) := by decide +kernel
theorem dX2_fill_43 : decode cX2_fill 43 = .ok (.istore 4, 2) := by decide +kernel
theorem dX2_fill_45 : decode cX2_fill 45 = .ok (.iinc 5 (-1), 3) := by decide +kernel
theorem dX2_fill_48 : decode cX2_fill 48 = .ok (.goto (-42), 3) := by decide +kernel
theorem dX2_fill_51 : decode cX2_fill 51 = .ok (.return_, 1) := by decide +kernel
theorem dX2_into_0 : decode cX2_into 0 = .ok (.iload_n 1, 1) := by decide +kernel
theorem dX2_into_1 : decode cX2_into 1 = .ok (.ifCond .ne 14, 3) := by decide +kernel
theorem dX2_into_4 : decode cX2_into 4 = .ok (.aload_n 0, 1) := by decide +kernel
theorem dX2_into_5 : decode cX2_into 5 = .ok (.iload_n 3, 1) := by decide +kernel
theorem dX2_into_6 : decode cX2_into 6 = .ok (.invokestatic 23, 3) := by decide +kernel
theorem dX2_into_9 : decode cX2_into 9 = .ok (.invokevirtual 26, 3) := by decide +kernel
theorem dX2_into_12 : decode cX2_into 12 = .ok (.goto 21, 3) := by decide +kernel
theorem dX2_into_15 : decode cX2_into 15 = .ok (.iload_n 1, 1) := by decide +kernel
theorem dX2_into_16 : decode cX2_into 16 = .ok (.iconst 1, 1) := by decide +kernel
theorem dX2_into_17 : decode cX2_into 17 = .ok (.if_icmp .ne 12, 3) := by decide +kernel
theorem dX2_into_20 : decode cX2_into 20 = .ok (.aload_n 0, 1) := by decide +kernel
theorem dX2_into_21 : decode cX2_into 21 = .ok (.iload_n 2, 1) := by decide +kernel
theorem dX2_into_22 : decode cX2_into 22 = .ok (.iload_n 3, 1) := by decide +kernel
theorem dX2_into_23 : decode cX2_into 23 = .ok (.invokestatic 32, 3) := by decide +kernel
theorem dX2_into_26 : decode cX2_into 26 = .ok (.goto 7, 3) := by decide +kernel
theorem dX2_into_29 : decode cX2_into 29 = .ok (.aload_n 0, 1) := by decide +kernel
theorem dX2_into_30 : decode cX2_into 30 = .ok (.invokevirtual 36, 3) := by decide +kernel
theorem dX2_into_33 : decode cX2_into 33 = .ok (.return_, 1) := by decide +kernel
theorem dX2_whole_0 : decode cX2_whole 0 = .ok (.iload_n 0, 1) := by decide +kernel
theorem dX2_whole_1 : decode cX2_whole 1 = .ok (.iconst 2, 1) := by decide +kernel
theorem dX2_whole_2 : decode cX2_whole 2 = .ok (.irem, 1) := by decide +kernel
theorem dX2_whole_3 : decode cX2_whole 3 = .ok (.iconst 1, 1) := by decide +kernel
theorem dX2_whole_4 : decode cX2_whole 4 = .ok (.if_icmp .ne 11, 3) := by decide +kernel
theorem dX2_whole_7 : decode cX2_whole 7 = .ok (.iload_n 0, 1) := by decide +kernel
theorem dX2_whole_8 : decode cX2_whole 8 = .ok (.iconst 1, 1) := by decide +kernel
theorem dX2_whole_9 : decode cX2_whole 9 = .ok (.iadd, 1) := by decide +kernel
theorem dX2_whole_10 : decode cX2_whole 10 = .ok (.iconst 2, 1) := by decide +kernel
theorem dX2_whole_11 : decode cX2_whole 11 = .ok (.idiv, 1) := by decide +kernel
theorem dX2_whole_12 : decode cX2_whole 12 = .ok (.goto 7, 3) := by decide +kernel
theorem dX2_whole_15 : decode cX2_whole 15 = .ok (.iload_n 0, 1) := by decide +kernel
theorem dX2_whole_16 : decode cX2_whole 16 = .ok (.iconst 2, 1) := by decide +kernel
theorem dX2_whole_17 : decode cX2_whole 17 = .ok (.idiv, 1) := by decide +kernel
theorem dX2_whole_18 : decode cX2_whole 18 = .ok (.ineg, 1) := by decide +kernel
theorem dX2_whole_19 : decode cX2_whole 19 = .ok (.ireturn, 1) := by decide +kernel
theorem dX2_rowInto_0 : decode cX2_rowInto 0 = .ok (.iload_n 2, 1) := by decide +kernel
theorem dX2_rowInto_1 : decode cX2_rowInto 1 = .ok (.istore_n 3, 1) := by decide +kernel
theorem dX2_rowInto_2 : decode cX2_rowInto 2 = .ok (.iconst 1, 1) := by decide +kernel
theorem dX2_rowInto_3 : decode cX2_rowInto 3 = .ok (.istore 4, 2) := by decide +kernel
theorem dX2_rowInto_5 : decode cX2_rowInto 5 = .ok (.iconst 0, 1) := by decide +kernel
theorem dX2_rowInto_6 : decode cX2_rowInto 6 = .ok (.istore 5, 2) := by decide +kernel
theorem dX2_rowInto_8 : decode cX2_rowInto 8 = .ok (.iload 5, 2) := by decide +kernel
theorem dX2_rowInto_10 : decode cX2_rowInto 10 = .ok (.iload_n 1, 1) := by decide +kernel
theorem dX2_rowInto_11 : decode cX2_rowInto 11 = .ok (.if_icmp .ge 29, 3) := by decide +kernel
theorem dX2_rowInto_14 : decode cX2_rowInto 14 = .ok (.iload_n 3, 1) := by decide +kernel
theorem dX2_rowInto_15 : decode cX2_rowInto 15 = .ok (.iload 4, 2) := by decide +kernel
theorem dX2_rowInto_17 : decode cX2_rowInto 17 = .ok (.if_icmp .lt 23, 3) := by decide +kernel
theorem dX2_rowInto_20 : decode cX2_rowInto 20 = .ok (.iload_n 3, 1) := by decide +kernel
theorem dX2_rowInto_21 : decode cX2_rowInto 21 = .ok (.iload 4, 2) := by decide +kernel
theorem dX2_rowInto_23 : decode cX2_rowInto 23 = .ok (.isub, 1) := by decide +kernel
theorem dX2_rowInto_24 : decode cX2_rowInto 24 = .ok (.istore_n 3, 1) := by decide +kernel
theorem dX2_rowInto_25 : decode cX2_rowInto 25 = .ok (.iload 4, 2) := by decide +kernel
theorem dX2_rowInto_27 : decode cX2_rowInto 27 = .ok (.iload_n 1, 1) := by decide +kernel
theorem dX2_rowInto_28 : decode cX2_rowInto 28 = .ok (.invokestatic 9, 3) := by decide +kernel
theorem dX2_rowInto_31 : decode cX2_rowInto 31 = .ok (.imul, 1) := by decide +kernel
theorem dX2_rowInto_32 : decode cX2_rowInto 32 = .ok (.istore 4, 2) := by decide +kernel
theorem dX2_rowInto_34 : decode cX2_rowInto 34 = .ok (.iinc 5 1, 3) := by decide +kernel
theorem dX2_rowInto_37 : decode cX2_rowInto 37 = .ok (.goto (-29), 3) := by decide +kernel
theorem dX2_rowInto_40 : decode cX2_rowInto 40 = .ok (.aload_n 0, 1) := by decide +kernel
theorem dX2_rowInto_41 : decode cX2_rowInto 41 = .ok (.iload 5, 2) := by decide +kernel
theorem dX2_rowInto_43 : decode cX2_rowInto 43 = .ok (.invokevirtual 39, 3) := by decide +kernel
theorem dX2_rowInto_46 : decode cX2_rowInto 46 = .ok (.iload 5, 2) := by decide +kernel
theorem dX2_rowInto_48 : decode cX2_rowInto 48 = .ok (.iconst 1, 1) := by decide +kernel
theorem dX2_rowInto_49 : decode cX2_rowInto 49 = .ok (.isub, 1) := by decide +kernel
theorem dX2_rowInto_50 : decode cX2_rowInto 50 = .ok (.istore 6, 2) := by decide +kernel
theorem dX2_rowInto_52 : decode cX2_rowInto 52 = .ok (.iload 6, 2) := by decide +kernel
theorem dX2_rowInto_54 : decode cX2_rowInto 54 = .ok (.ifCond .lt 32, 3) := by decide +kernel
theorem dX2_rowInto_57 : decode cX2_rowInto 57 = .ok (.aload_n 0, 1) := by decide +kernel
theorem dX2_rowInto_58 : decode cX2_rowInto 58 = .ok (.getfield 42, 3) := by decide +kernel
theorem dX2_rowInto_61 : decode cX2_rowInto 61 = .ok (.iload 6, 2) := by decide +kernel
theorem dX2_rowInto_63 : decode cX2_rowInto 63 = .ok (.iload_n 3, 1) := by decide +kernel
theorem dX2_rowInto_64 : decode cX2_rowInto 64 = .ok (.iload_n 1, 1) := by decide +kernel
theorem dX2_rowInto_65 : decode cX2_rowInto 65 = .ok (.invokestatic 9, 3) := by decide +kernel
theorem dX2_rowInto_68 : decode cX2_rowInto 68 = .ok (.irem, 1) := by decide +kernel
theorem dX2_rowInto_69 : decode cX2_rowInto 69 = .ok (.invokestatic 23, 3) := by decide +kernel
theorem dX2_rowInto_72 : decode cX2_rowInto 72 = .ok (.iastore, 1) := by decide +kernel
theorem dX2_rowInto_73 : decode cX2_rowInto 73 = .ok (.iload_n 3, 1) := by decide +kernel
theorem dX2_rowInto_74 : decode cX2_rowInto 74 = .ok (.iload_n 1, 1) := by decide +kernel
theorem dX2_rowInto_75 : decode cX2_rowInto 75 = .ok (.invokestatic 9, 3) := by decide +kernel
theorem dX2_rowInto_78 : decode cX2_rowInto 78 = .ok (.idiv, 1) := by decide +kernel
theorem dX2_rowInto_79 : decode cX2_rowInto 79 = .ok (.istore_n 3, 1) := by decide +kernel
theorem dX2_rowInto_80 : decode cX2_rowInto 80 = .ok (.iinc 6 (-1), 3) := by decide +kernel
theorem dX2_rowInto_83 : decode cX2_rowInto 83 = .ok (.goto (-31), 3) := by decide +kernel
theorem dX2_rowInto_86 : decode cX2_rowInto 86 = .ok (.return_, 1) := by decide +kernel
theorem dX3_init_0 : decode cX3_init 0 = .ok (.aload_n 0, 1) := by decide +kernel
theorem dX3_init_1 : decode cX3_init 1 = .ok (.invokespecial 3, 3) := by decide +kernel
theorem dX3_init_4 : decode cX3_init 4 = .ok (.aload_n 0, 1) := by decide +kernel
theorem dX3_init_5 : decode cX3_init 5 = .ok (.bipush 9, 2) := by decide +kernel
theorem dX3_init_7 : decode cX3_init 7 = .ok (.newarray .int, 2) := by decide +kernel
theorem dX3_init_9 : decode cX3_init 9 = .ok (.putfield 9, 3) := by decide +kernel
theorem dX3_init_12 : decode cX3_init 12 = .ok (.aload_n 0, 1) := by decide +kernel
theorem dX3_init_13 : decode cX3_init 13 = .ok (.iconst 0, 1) := by decide +kernel
theorem dX3_init_14 : decode cX3_init 14 = .ok (.putfield 15, 3) := by decide +kernel
theorem dX3_init_17 : decode cX3_init 17 = .ok (.aload_n 0, 1) := by decide +kernel
theorem dX3_init_18 : decode cX3_init 18 = .ok (.iconst 0, 1) := by decide +kernel
theorem dX3_init_19 : decode cX3_init 19 = .ok (.putfield 19, 3) := by decide +kernel
theorem dX3_init_22 : decode cX3_init 22 = .ok (.aload_n 0, 1) := by decide +kernel
theorem dX3_init_23 : decode cX3_init 23 = .ok (.iconst 0, 1) := by decide +kernel
theorem dX3_init_24 : decode cX3_init 24 = .ok (.putfield 22, 3) := by decide +kernel
theorem dX3_init_27 : decode cX3_init 27 = .ok (.aload_n 0, 1) := by decide +kernel
theorem dX3_init_28 : decode cX3_init 28 = .ok (.iconst 0, 1) := by decide +kernel
theorem dX3_init_29 : decode cX3_init 29 = .ok (.putfield 25, 3) := by decide +kernel
theorem dX3_init_32 : decode cX3_init 32 = .ok (.aload_n 0, 1) := by decide +kernel
theorem dX3_init_33 : decode cX3_init 33 = .ok (.iconst (-1), 1) := by decide +kernel
theorem dX3_init_34 : decode cX3_init 34 = .ok (.putfield 28, 3) := by decide +kernel
theorem dX3_init_37 : decode cX3_init 37 = .ok (.aload_n 0, 1) := by decide +kernel
theorem dX3_init_38 : decode cX3_init 38 = .ok (.iconst 0, 1) := by decide +kernel
theorem dX3_init_39 : decode cX3_init 39 = .ok (.putfield 31, 3) := by decide +kernel
theorem dX3_init_42 : decode cX3_init 42 = .ok (.aload_n 0, 1) := by decide +kernel
theorem dX3_init_43 : decode cX3_init 43 = .ok (.iconst 0, 1) := by decide +kernel
theorem dX3_init_44 : decode cX3_init 44 = .ok (.putfield 34, 3) := by decide +kernel
theorem dX3_init_47 : decode cX3_init 47 = .ok (.aload_n 0, 1) := by decide +kernel
theorem dX3_init_48 : decode cX3_init 48 = .ok (.iconst 0, 1) := by decide +kernel
theorem dX3_init_49 : decode cX3_init 49 = .ok (.putfield 37, 3) := by decide +kernel
theorem dX3_init_52 : decode cX3_init 52 = .ok (.return_, 1) := by decide +kernel
theorem dX3_clear_0 : decode cX3_clear 0 = .ok (.iconst 0, 1) := by decide +kernel
theorem dX3_clear_1 : decode cX3_clear 1 = .ok (.istore_n 1, 1) := by decide +kernel
theorem dX3_clear_2 : decode cX3_clear 2 = .ok (.iload_n 1, 1) := by decide +kernel
theorem dX3_clear_3 : decode cX3_clear 3 = .ok (.bipush 9, 2) := by decide +kernel
theorem dX3_clear_5 : decode cX3_clear 5 = .ok (.if_icmp .ge 16, 3) := by decide +kernel
theorem dX3_clear_8 : decode cX3_clear 8 = .ok (.aload_n 0, 1) := by decide +kernel
theorem dX3_clear_9 : decode cX3_clear 9 = .ok (.getfield 9, 3) := by decide +kernel
theorem dX3_clear_12 : decode cX3_clear 12 = .ok (.iload_n 1, 1) := by decide +kernel
theorem dX3_clear_13 : decode cX3_clear 13 = .ok (.iconst 0, 1) := by decide +kernel
theorem dX3_clear_14 : decode cX3_clear 14 = .ok (.iastore, 1) := by decide +kernel
theorem dX3_clear_15 : decode cX3_clear 15 = .ok (.iinc 1 1, 3) := by decide +kernel
theorem dX3_clear_18 : decode cX3_clear 18 = .ok (.goto (-16), 3) := by decide +kernel
theorem dX3_clear_21 : decode cX3_clear 21 = .ok (.aload_n 0, 1) := by decide +kernel
theorem dX3_clear_22 : decode cX3_clear 22 = .ok (.iconst 0, 1) := by decide +kernel
theorem dX3_clear_23 : decode cX3_clear 23 = .ok (.putfield 15, 3) := by decide +kernel
theorem dX3_clear_26 : decode cX3_clear 26 = .ok (.aload_n 0, 1) := by decide +kernel
theorem dX3_clear_27 : decode cX3_clear 27 = .ok (.iconst 0, 1) := by decide +kernel
theorem dX3_clear_28 : decode cX3_clear 28 = .ok (.putfield 19, 3) := by decide +kernel
theorem dX3_clear_31 : decode cX3_clear 31 = .ok (.aload_n 0, 1) := by decide +kernel
theorem dX3_clear_32 : decode cX3_clear 32 = .ok (.iconst 0, 1) := by decide +kernel
theorem dX3_clear_33 : decode cX3_clear 33 = .ok (.putfield 22, 3) := by decide +kernel
theorem dX3_clear_36 : decode cX3_clear 36 = .ok (.aload_n 0, 1) := by decide +kernel
theorem dX3_clear_37 : decode cX3_clear 37 = .ok (.iconst 0, 1) := by decide +kernel
theorem dX3_clear_38 : decode cX3_clear 38 = .ok (.putfield 25, 3) := by decide +kernel
theorem dX3_clear_41 : decode cX3_clear 41 = .ok (.aload_n 0, 1) := by decide +kernel
theorem dX3_clear_42 : decode cX3_clear 42 = .ok (.iconst (-1), 1) := by decide +kernel
theorem dX3_clear_43 : decode cX3_clear 43 = .ok (.putfield 28, 3) := by decide +kernel
theorem dX3_clear_46 : decode cX3_clear 46 = .ok (.aload_n 0, 1) := by decide +kernel
theorem dX3_clear_47 : decode cX3_clear 47 = .ok (.iconst 0, 1) := by decide +kernel
theorem dX3_clear_48 : decode cX3_clear 48 = .ok (.putfield 31, 3) := by decide +kernel
theorem dX3_clear_51 : decode cX3_clear 51 = .ok (.aload_n 0, 1) := by decide +kernel
theorem dX3_clear_52 : decode cX3_clear 52 = .ok (.iconst 0, 1) := by decide +kernel
theorem dX3_clear_53 : decode cX3_clear 53 = .ok (.putfield 34, 3) := by decide +kernel
theorem dX3_clear_56 : decode cX3_clear 56 = .ok (.aload_n 0, 1) := by decide +kernel
theorem dX3_clear_57 : decode cX3_clear 57 = .ok (.iconst 0, 1) := by decide +kernel
theorem dX3_clear_58 : decode cX3_clear 58 = .ok (.putfield 37, 3) := by decide +kernel
theorem dX3_clear_61 : decode cX3_clear 61 = .ok (.return_, 1) := by decide +kernel
theorem dX3_countCase_0 : decode cX3_countCase 0 = .ok (.iload_n 1, 1) := by decide +kernel
theorem dX3_countCase_1 : decode cX3_countCase 1 = .ok (.ifCond .ne 16, 3) := by decide +kernel
theorem dX3_countCase_4 : decode cX3_countCase 4 = .ok (.aload_n 0, 1) := by decide +kernel
theorem dX3_countCase_5 : decode cX3_countCase 5 = .ok (.dup, 1) := by decide +kernel
theorem dX3_countCase_6 : decode cX3_countCase 6 = .ok (.getfield 19, 3) := by decide +kernel
theorem dX3_countCase_9 : decode cX3_countCase 9 = .ok (.iconst 1, 1) := by decide +kernel
theorem dX3_countCase_10 : decode cX3_countCase 10 = .ok (.iadd, 1) := by decide +kernel
theorem dX3_countCase_11 : decode cX3_countCase 11 = .ok (.putfield 19, 3) := by decide +kernel
theorem dX3_countCase_14 : decode cX3_countCase 14 = .ok (.goto 34, 3) := by decide +kernel
theorem dX3_countCase_17 : decode cX3_countCase 17 = .ok (.iload_n 1, 1) := by decide +kernel
theorem dX3_countCase_18 : decode cX3_countCase 18 = .ok (.iconst (-1), 1) := by decide +kernel
theorem dX3_countCase_19 : decode cX3_countCase 19 = .ok (.if_icmp .ne 16, 3) := by decide +kernel
theorem dX3_countCase_22 : decode cX3_countCase 22 = .ok (.aload_n 0, 1) := by decide +kernel
theorem dX3_countCase_23 : decode cX3_countCase 23 = .ok (.dup, 1) := by decide +kernel
theorem dX3_countCase_24 : decode cX3_countCase 24 = .ok (.getfield 22, 3) := by decide +kernel
theorem dX3_countCase_27 : decode cX3_countCase 27 = .ok (.iconst 1, 1) := by decide +kernel
theorem dX3_countCase_28 : decode cX3_countCase 28 = .ok (.iadd, 1) := by decide +kernel
theorem dX3_countCase_29 : decode cX3_countCase 29 = .ok (.putfield 22, 3) := by decide +kernel
theorem dX3_countCase_32 : decode cX3_countCase 32 = .ok (.goto 16, 3) := by decide +kernel
theorem dX3_countCase_35 : decode cX3_countCase 35 = .ok (.aload_n 0, 1) := by decide +kernel
theorem dX3_countCase_36 : decode cX3_countCase 36 = .ok (.iload_n 1, 1) := by decide +kernel
theorem dX3_countCase_37 : decode cX3_countCase 37 = .ok (.putfield 25, 3) := by decide +kernel
theorem dX3_countCase_40 : decode cX3_countCase 40 = .ok (.aload_n 0, 1) := by decide +kernel
theorem dX3_countCase_41 : decode cX3_countCase 41 = .ok (.aload_n 0, 1) := by decide +kernel
theorem dX3_countCase_42 : decode cX3_countCase 42 = .ok (.getfield 15, 3) := by decide +kernel
theorem dX3_countCase_45 : decode cX3_countCase 45 = .ok (.putfield 28, 3) := by decide +kernel
theorem dX3_countCase_48 : decode cX3_countCase 48 = .ok (.aload_n 0, 1) := by decide +kernel
theorem dX3_countCase_49 : decode cX3_countCase 49 = .ok (.dup, 1) := by decide +kernel
theorem dX3_countCase_50 : decode cX3_countCase 50 = .ok (.getfield 15, 3) := by decide +kernel
theorem dX3_countCase_53 : decode cX3_countCase 53 = .ok (.iconst 1, 1) := by decide +kernel
theorem dX3_countCase_54 : decode cX3_countCase 54 = .ok (.iadd, 1) := by decide +kernel
theorem dX3_countCase_55 : decode cX3_countCase 55 = .ok (.putfield 15, 3) := by decide +kernel
theorem dX3_countCase_58 : decode cX3_countCase 58 = .ok (.return_, 1) := by decide +kernel
theorem dX3_read_0 : decode cX3_read 0 = .ok (.iload_n 1, 1) := by decide +kernel
theorem dX3_read_1 : decode cX3_read 1 = .ok (.tableswitch 95 0 7 #[47, 52, 57, 62, 67, 72, 77, 82], 47) := by decide +kernel
theorem dX3_read_48 : decode cX3_read 48 = .ok (.aload_n 0, 1) := by decide +kernel
theorem dX3_read_49 : decode cX3_read 49 = .ok (.getfield 15, 3) := by decide +kernel
theorem dX3_read_52 : decode cX3_read 52 = .ok (.ireturn, 1) := by decide +kernel
theorem dX3_read_53 : decode cX3_read 53 = .ok (.aload_n 0, 1) := by decide +kernel
theorem dX3_read_54 : decode cX3_read 54 = .ok (.getfield 19, 3) := by decide +kernel
theorem dX3_read_57 : decode cX3_read 57 = .ok (.ireturn, 1) := by decide +kernel
theorem dX3_read_58 : decode cX3_read 58 = .ok (.aload_n 0, 1) := by decide +kernel
theorem dX3_read_59 : decode cX3_read 59 = .ok (.getfield 22, 3) := by decide +kernel
theorem dX3_read_62 : decode cX3_read 62 = .ok (.ireturn, 1) := by decide +kernel
theorem dX3_read_63 : decode cX3_read 63 = .ok (.aload_n 0, 1) := by decide +kernel
theorem dX3_read_64 : decode cX3_read 64 = .ok (.getfield 25, 3) := by decide +kernel
theorem dX3_read_67 : decode cX3_read 67 = .ok (.ireturn, 1) := by decide +kernel
theorem dX3_read_68 : decode cX3_read 68 = .ok (.aload_n 0, 1) := by decide +kernel
theorem dX3_read_69 : decode cX3_read 69 = .ok (.getfield 28, 3) := by decide +kernel
theorem dX3_read_72 : decode cX3_read 72 = .ok (.ireturn, 1) := by decide +kernel
theorem dX3_read_73 : decode cX3_read 73 = .ok (.aload_n 0, 1) := by decide +kernel
theorem dX3_read_74 : decode cX3_read 74 = .ok (.getfield 31, 3) := by decide +kernel
theorem dX3_read_77 : decode cX3_read 77 = .ok (.ireturn, 1) := by decide +kernel
theorem dX3_read_78 : decode cX3_read 78 = .ok (.aload_n 0, 1) := by decide +kernel
theorem dX3_read_79 : decode cX3_read 79 = .ok (.getfield 34, 3) := by decide +kernel
theorem dX3_read_82 : decode cX3_read 82 = .ok (.ireturn, 1) := by decide +kernel
theorem dX3_read_83 : decode cX3_read 83 = .ok (.aload_n 0, 1) := by decide +kernel
theorem dX3_read_84 : decode cX3_read 84 = .ok (.getfield 37, 3) := by decide +kernel
theorem dX3_read_87 : decode cX3_read 87 = .ok (.ifCond .eq 7, 3) := by decide +kernel
theorem dX3_read_90 : decode cX3_read 90 = .ok (.iconst 1, 1) := by decide +kernel
theorem dX3_read_91 : decode cX3_read 91 = .ok (.goto 4, 3) := by decide +kernel
theorem dX3_read_94 : decode cX3_read 94 = .ok (.iconst 0, 1) := by decide +kernel
theorem dX3_read_95 : decode cX3_read 95 = .ok (.ireturn, 1) := by decide +kernel
theorem dX3_read_96 : decode cX3_read 96 = .ok (.iconst (-1), 1) := by decide +kernel
theorem dX3_read_97 : decode cX3_read 97 = .ok (.ireturn, 1) := by decide +kernel
theorem dX4_init_0 : decode cX4_init 0 = .ok (.aload_n 0, 1) := by decide +kernel
theorem dX4_init_1 : decode cX4_init 1 = .ok (.invokespecial 3, 3) := by decide +kernel
theorem dX4_init_4 : decode cX4_init 4 = .ok (.aload_n 0, 1) := by decide +kernel
theorem dX4_init_5 : decode cX4_init 5 = .ok (.bipush 60, 2) := by decide +kernel
theorem dX4_init_7 : decode cX4_init 7 = .ok (.newarray .int, 2) := by decide +kernel
theorem dX4_init_9 : decode cX4_init 9 = .ok (.putfield 9, 3) := by decide +kernel
theorem dX4_init_12 : decode cX4_init 12 = .ok (.aload_n 0, 1) := by decide +kernel
theorem dX4_init_13 : decode cX4_init 13 = .ok (.bipush 60, 2) := by decide +kernel
theorem dX4_init_15 : decode cX4_init 15 = .ok (.newarray .int, 2) := by decide +kernel
theorem dX4_init_17 : decode cX4_init 17 = .ok (.putfield 15, 3) := by decide +kernel
theorem dX4_init_20 : decode cX4_init 20 = .ok (.aload_n 0, 1) := by decide +kernel
theorem dX4_init_21 : decode cX4_init 21 = .ok (.bipush 60, 2) := by decide +kernel
theorem dX4_init_23 : decode cX4_init 23 = .ok (.newarray .int, 2) := by decide +kernel
theorem dX4_init_25 : decode cX4_init 25 = .ok (.putfield 18, 3) := by decide +kernel
theorem dX4_init_28 : decode cX4_init 28 = .ok (.aload_n 0, 1) := by decide +kernel
theorem dX4_init_29 : decode cX4_init 29 = .ok (.bipush 60, 2) := by decide +kernel
theorem dX4_init_31 : decode cX4_init 31 = .ok (.newarray .int, 2) := by decide +kernel
theorem dX4_init_33 : decode cX4_init 33 = .ok (.putfield 21, 3) := by decide +kernel
theorem dX4_init_36 : decode cX4_init 36 = .ok (.aload_n 0, 1) := by decide +kernel
theorem dX4_init_37 : decode cX4_init 37 = .ok (.bipush 60, 2) := by decide +kernel
theorem dX4_init_39 : decode cX4_init 39 = .ok (.newarray .int, 2) := by decide +kernel
theorem dX4_init_41 : decode cX4_init 41 = .ok (.putfield 24, 3) := by decide +kernel
theorem dX4_init_44 : decode cX4_init 44 = .ok (.aload_n 0, 1) := by decide +kernel
theorem dX4_init_45 : decode cX4_init 45 = .ok (.iconst 0, 1) := by decide +kernel
theorem dX4_init_46 : decode cX4_init 46 = .ok (.putfield 27, 3) := by decide +kernel
theorem dX4_init_49 : decode cX4_init 49 = .ok (.return_, 1) := by decide +kernel
theorem dX4_has_0 : decode cX4_has 0 = .ok (.iload_n 1, 1) := by decide +kernel
theorem dX4_has_1 : decode cX4_has 1 = .ok (.ifCond .lt 15, 3) := by decide +kernel
theorem dX4_has_4 : decode cX4_has 4 = .ok (.iload_n 1, 1) := by decide +kernel
theorem dX4_has_5 : decode cX4_has 5 = .ok (.aload_n 0, 1) := by decide +kernel
theorem dX4_has_6 : decode cX4_has 6 = .ok (.getfield 27, 3) := by decide +kernel
theorem dX4_has_9 : decode cX4_has 9 = .ok (.if_icmp .ge 7, 3) := by decide +kernel
theorem dX4_has_12 : decode cX4_has 12 = .ok (.iconst 1, 1) := by decide +kernel
theorem dX4_has_13 : decode cX4_has 13 = .ok (.goto 4, 3) := by decide +kernel
theorem dX4_has_16 : decode cX4_has 16 = .ok (.iconst 0, 1) := by decide +kernel
theorem dX4_has_17 : decode cX4_has 17 = .ok (.ireturn, 1) := by decide +kernel
theorem dX4_hasOrNone_0 : decode cX4_hasOrNone 0 = .ok (.iload_n 1, 1) := by decide +kernel
theorem dX4_hasOrNone_1 : decode cX4_hasOrNone 1 = .ok (.iconst (-1), 1) := by decide +kernel
theorem dX4_hasOrNone_2 : decode cX4_hasOrNone 2 = .ok (.if_icmp .eq 11, 3) := by decide +kernel
theorem dX4_hasOrNone_5 : decode cX4_hasOrNone 5 = .ok (.aload_n 0, 1) := by decide +kernel
theorem dX4_hasOrNone_6 : decode cX4_hasOrNone 6 = .ok (.iload_n 1, 1) := by decide +kernel
theorem dX4_hasOrNone_7 : decode cX4_hasOrNone 7 = .ok (.invokevirtual 31, 3) := by decide +kernel
theorem dX4_hasOrNone_10 : decode cX4_hasOrNone 10 = .ok (.ifCond .eq 7, 3) := by decide +kernel
theorem dX4_hasOrNone_13 : decode cX4_hasOrNone 13 = .ok (.iconst 1, 1) := by decide +kernel
theorem dX4_hasOrNone_14 : decode cX4_hasOrNone 14 = .ok (.goto 4, 3) := by decide +kernel
theorem dX4_hasOrNone_17 : decode cX4_hasOrNone 17 = .ok (.iconst 0, 1) := by decide +kernel
theorem dX4_hasOrNone_18 : decode cX4_hasOrNone 18 = .ok (.ireturn, 1) := by decide +kernel
theorem dX4_allows_0 : decode cX4_allows 0 = .ok (.iload_n 1, 1) := by decide +kernel
theorem dX4_allows_1 : decode cX4_allows 1 = .ok (.ifCond .lt 9, 3) := by decide +kernel
theorem dX4_allows_4 : decode cX4_allows 4 = .ok (.iload_n 1, 1) := by decide +kernel
theorem dX4_allows_5 : decode cX4_allows 5 = .ok (.bipush 20, 2) := by decide +kernel
theorem dX4_allows_7 : decode cX4_allows 7 = .ok (.if_icmp .le 5, 3) := by decide +kernel
theorem dX4_allows_10 : decode cX4_allows 10 = .ok (.iconst 0, 1) := by decide +kernel
theorem dX4_allows_11 : decode cX4_allows 11 = .ok (.ireturn, 1) := by decide +kernel
theorem dX4_allows_12 : decode cX4_allows 12 = .ok (.iload_n 1, 1) := by decide +kernel
theorem dX4_allows_13 : decode cX4_allows 13 = .ok (.ifCond .ne 12, 3) := by decide +kernel
theorem dX4_allows_16 : decode cX4_allows 16 = .ok (.iload_n 2, 1) := by decide +kernel
theorem dX4_allows_17 : decode cX4_allows 17 = .ok (.ifCond .lt 12, 3) := by decide +kernel
theorem dX4_allows_20 : decode cX4_allows 20 = .ok (.iload_n 2, 1) := by decide +kernel
theorem dX4_allows_21 : decode cX4_allows 21 = .ok (.iconst 3, 1) := by decide +kernel
theorem dX4_allows_22 : decode cX4_allows 22 = .ok (.if_icmp .ge 7, 3) := by decide +kernel
theorem dX4_allows_25 : decode cX4_allows 25 = .ok (.iconst 1, 1) := by decide +kernel
theorem dX4_allows_26 : decode cX4_allows 26 = .ok (.goto 4, 3) := by decide +kernel
theorem dX4_allows_29 : decode cX4_allows 29 = .ok (.iconst 0, 1) := by decide +kernel
theorem dX4_allows_30 : decode cX4_allows 30 = .ok (.ireturn, 1) := by decide +kernel
theorem dX4_hasParts_0 : decode cX4_hasParts 0 = .ok (.getstatic 35, 3) := by decide +kernel
theorem dX4_hasParts_3 : decode cX4_hasParts 3 = .ok (.iload_n 1, 1) := by decide +kernel
theorem dX4_hasParts_4 : decode cX4_hasParts 4 = .ok (.iaload, 1) := by decide +kernel
theorem dX4_hasParts_5 : decode cX4_hasParts 5 = .ok (.istore 5, 2) := by decide +kernel
theorem dX4_hasParts_7 : decode cX4_hasParts 7 = .ok (.iload 5, 2) := by decide +kernel
theorem dX4_hasParts_9 : decode cX4_hasParts 9 = .ok (.iconst 1, 1) := by decide +kernel
theorem dX4_hasParts_10 : decode cX4_hasParts 10 = .ok (.if_icmp .lt 11, 3) := by decide +kernel
theorem dX4_hasParts_13 : decode cX4_hasParts 13 = .ok (.aload_n 0, 1) := by decide +kernel
theorem dX4_hasParts_14 : decode cX4_hasParts 14 = .ok (.iload_n 2, 1) := by decide +kernel
theorem dX4_hasParts_15 : decode cX4_hasParts 15 = .ok (.invokevirtual 31, 3) := by decide +kernel
theorem dX4_hasParts_18 : decode cX4_hasParts 18 = .ok (.ifCond .eq 36, 3) := by decide +kernel
theorem dX4_hasParts_21 : decode cX4_hasParts 21 = .ok (.iload 5, 2) := by decide +kernel
theorem dX4_hasParts_23 : decode cX4_hasParts 23 = .ok (.iconst 2, 1) := by decide +kernel
theorem dX4_hasParts_24 : decode cX4_hasParts 24 = .ok (.if_icmp .lt 11, 3) := by decide +kernel
theorem dX4_hasParts_27 : decode cX4_hasParts 27 = .ok (.aload_n 0, 1) := by decide +kernel
theorem dX4_hasParts_28 : decode cX4_hasParts 28 = .ok (.iload_n 3, 1) := by decide +kernel
theorem dX4_hasParts_29 : decode cX4_hasParts 29 = .ok (.invokevirtual 31, 3) := by decide +kernel
theorem dX4_hasParts_32 : decode cX4_hasParts 32 = .ok (.ifCond .eq 22, 3) := by decide +kernel
theorem dX4_hasParts_35 : decode cX4_hasParts 35 = .ok (.iload 5, 2) := by decide +kernel
theorem dX4_hasParts_37 : decode cX4_hasParts 37 = .ok (.iconst 3, 1) := by decide +kernel
theorem dX4_hasParts_38 : decode cX4_hasParts 38 = .ok (.if_icmp .lt 12, 3) := by decide +kernel
theorem dX4_hasParts_41 : decode cX4_hasParts 41 = .ok (.aload_n 0, 1) := by decide +kernel
theorem dX4_hasParts_42 : decode cX4_hasParts 42 = .ok (.iload 4, 2) := by decide +kernel
theorem dX4_hasParts_44 : decode cX4_hasParts 44 = .ok (.invokevirtual 31, 3) := by decide +kernel
theorem dX4_hasParts_47 : decode cX4_hasParts 47 = .ok (.ifCond .eq 7, 3) := by decide +kernel
theorem dX4_hasParts_50 : decode cX4_hasParts 50 = .ok (.iconst 1, 1) := by decide +kernel
theorem dX4_hasParts_51 : decode cX4_hasParts 51 = .ok (.goto 4, 3) := by decide +kernel
theorem dX4_hasParts_54 : decode cX4_hasParts 54 = .ok (.iconst 0, 1) := by decide +kernel
theorem dX4_hasParts_55 : decode cX4_hasParts 55 = .ok (.ireturn, 1) := by decide +kernel
theorem dX4_add_0 : decode cX4_add 0 = .ok (.aload_n 0, 1) := by decide +kernel
theorem dX4_add_1 : decode cX4_add 1 = .ok (.getfield 9, 3) := by decide +kernel
theorem dX4_add_4 : decode cX4_add 4 = .ok (.aload_n 0, 1) := by decide +kernel
theorem dX4_add_5 : decode cX4_add 5 = .ok (.getfield 27, 3) := by decide +kernel
theorem dX4_add_8 : decode cX4_add 8 = .ok (.iload_n 1, 1) := by decide +kernel
theorem dX4_add_9 : decode cX4_add 9 = .ok (.iastore, 1) := by decide +kernel
theorem dX4_add_10 : decode cX4_add 10 = .ok (.aload_n 0, 1) := by decide +kernel
theorem dX4_add_11 : decode cX4_add 11 = .ok (.getfield 15, 3) := by decide +kernel
theorem dX4_add_14 : decode cX4_add 14 = .ok (.aload_n 0, 1) := by decide +kernel
theorem dX4_add_15 : decode cX4_add 15 = .ok (.getfield 27, 3) := by decide +kernel
theorem dX4_add_18 : decode cX4_add 18 = .ok (.iload_n 2, 1) := by decide +kernel
theorem dX4_add_19 : decode cX4_add 19 = .ok (.iastore, 1) := by decide +kernel
theorem dX4_add_20 : decode cX4_add 20 = .ok (.aload_n 0, 1) := by decide +kernel
theorem dX4_add_21 : decode cX4_add 21 = .ok (.getfield 18, 3) := by decide +kernel
theorem dX4_add_24 : decode cX4_add 24 = .ok (.aload_n 0, 1) := by decide +kernel
theorem dX4_add_25 : decode cX4_add 25 = .ok (.getfield 27, 3) := by decide +kernel
theorem dX4_add_28 : decode cX4_add 28 = .ok (.iload_n 3, 1) := by decide +kernel
theorem dX4_add_29 : decode cX4_add 29 = .ok (.iastore, 1) := by decide +kernel
theorem dX4_add_30 : decode cX4_add 30 = .ok (.aload_n 0, 1) := by decide +kernel
theorem dX4_add_31 : decode cX4_add 31 = .ok (.getfield 21, 3) := by decide +kernel
theorem dX4_add_34 : decode cX4_add 34 = .ok (.aload_n 0, 1) := by decide +kernel
theorem dX4_add_35 : decode cX4_add 35 = .ok (.getfield 27, 3) := by decide +kernel
theorem dX4_add_38 : decode cX4_add 38 = .ok (.iload 4, 2) := by decide +kernel
theorem dX4_add_40 : decode cX4_add 40 = .ok (.iastore, 1) := by decide +kernel
theorem dX4_add_41 : decode cX4_add 41 = .ok (.aload_n 0, 1) := by decide +kernel
theorem dX4_add_42 : decode cX4_add 42 = .ok (.getfield 24, 3) := by decide +kernel
theorem dX4_add_45 : decode cX4_add 45 = .ok (.aload_n 0, 1) := by decide +kernel
theorem dX4_add_46 : decode cX4_add 46 = .ok (.getfield 27, 3) := by decide +kernel
theorem dX4_add_49 : decode cX4_add 49 = .ok (.iload 5, 2) := by decide +kernel
theorem dX4_add_51 : decode cX4_add 51 = .ok (.iastore, 1) := by decide +kernel
theorem dX4_add_52 : decode cX4_add 52 = .ok (.aload_n 0, 1) := by decide +kernel
theorem dX4_add_53 : decode cX4_add 53 = .ok (.dup, 1) := by decide +kernel
theorem dX4_add_54 : decode cX4_add 54 = .ok (.getfield 27, 3) := by decide +kernel
theorem dX4_add_57 : decode cX4_add 57 = .ok (.iconst 1, 1) := by decide +kernel
theorem dX4_add_58 : decode cX4_add 58 = .ok (.iadd, 1) := by decide +kernel
theorem dX4_add_59 : decode cX4_add 59 = .ok (.putfield 27, 3) := by decide +kernel
theorem dX4_add_62 : decode cX4_add 62 = .ok (.aload_n 0, 1) := by decide +kernel
theorem dX4_add_63 : decode cX4_add 63 = .ok (.getfield 27, 3) := by decide +kernel
theorem dX4_add_66 : decode cX4_add 66 = .ok (.iconst 1, 1) := by decide +kernel
theorem dX4_add_67 : decode cX4_add 67 = .ok (.isub, 1) := by decide +kernel
theorem dX4_add_68 : decode cX4_add 68 = .ok (.ireturn, 1) := by decide +kernel
theorem dX5_init_0 : decode cX5_init 0 = .ok (.aload_n 0, 1) := by decide +kernel
theorem dX5_init_1 : decode cX5_init 1 = .ok (.invokespecial 3, 3) := by decide +kernel
theorem dX5_init_4 : decode cX5_init 4 = .ok (.aload_n 0, 1) := by decide +kernel
theorem dX5_init_5 : decode cX5_init 5 = .ok (.iconst (-1), 1) := by decide +kernel
theorem dX5_init_6 : decode cX5_init 6 = .ok (.putfield 9, 3) := by decide +kernel
theorem dX5_init_9 : decode cX5_init 9 = .ok (.aload_n 0, 1) := by decide +kernel
theorem dX5_init_10 : decode cX5_init 10 = .ok (.iconst 0, 1) := by decide +kernel
theorem dX5_init_11 : decode cX5_init 11 = .ok (.putfield 15, 3) := by decide +kernel
theorem dX5_init_14 : decode cX5_init 14 = .ok (.aload_n 0, 1) := by decide +kernel
theorem dX5_init_15 : decode cX5_init 15 = .ok (.iconst 0, 1) := by decide +kernel
theorem dX5_init_16 : decode cX5_init 16 = .ok (.putfield 18, 3) := by decide +kernel
theorem dX5_init_19 : decode cX5_init 19 = .ok (.aload_n 0, 1) := by decide +kernel
theorem dX5_init_20 : decode cX5_init 20 = .ok (.bipush 16, 2) := by decide +kernel
theorem dX5_init_22 : decode cX5_init 22 = .ok (.newarray .int, 2) := by decide +kernel
theorem dX5_init_24 : decode cX5_init 24 = .ok (.putfield 21, 3) := by decide +kernel
theorem dX5_init_27 : decode cX5_init 27 = .ok (.return_, 1) := by decide +kernel
theorem dX5_setNothing_0 : decode cX5_setNothing 0 = .ok (.aload_n 0, 1) := by decide +kernel
theorem dX5_setNothing_1 : decode cX5_setNothing 1 = .ok (.iconst (-1), 1) := by decide +kernel
theorem dX5_setNothing_2 : decode cX5_setNothing 2 = .ok (.putfield 9, 3) := by decide +kernel
theorem dX5_setNothing_5 : decode cX5_setNothing 5 = .ok (.aload_n 0, 1) := by decide +kernel
theorem dX5_setNothing_6 : decode cX5_setNothing 6 = .ok (.iconst 0, 1) := by decide +kernel
theorem dX5_setNothing_7 : decode cX5_setNothing 7 = .ok (.putfield 18, 3) := by decide +kernel
theorem dX5_setNothing_10 : decode cX5_setNothing 10 = .ok (.return_, 1) := by decide +kernel
theorem dX5_setWhole_0 : decode cX5_setWhole 0 = .ok (.aload_n 0, 1) := by decide +kernel
theorem dX5_setWhole_1 : decode cX5_setWhole 1 = .ok (.iconst 0, 1) := by decide +kernel
theorem dX5_setWhole_2 : decode cX5_setWhole 2 = .ok (.putfield 9, 3) := by decide +kernel
theorem dX5_setWhole_5 : decode cX5_setWhole 5 = .ok (.aload_n 0, 1) := by decide +kernel
theorem dX5_setWhole_6 : decode cX5_setWhole 6 = .ok (.iload_n 1, 1) := by decide +kernel
theorem dX5_setWhole_7 : decode cX5_setWhole 7 = .ok (.putfield 15, 3) := by decide +kernel
theorem dX5_setWhole_10 : decode cX5_setWhole 10 = .ok (.aload_n 0, 1) := by decide +kernel
theorem dX5_setWhole_11 : decode cX5_setWhole 11 = .ok (.iconst 0, 1) := by decide +kernel
theorem dX5_setWhole_12 : decode cX5_setWhole 12 = .ok (.putfield 18, 3) := by decide +kernel
theorem dX5_setWhole_15 : decode cX5_setWhole 15 = .ok (.return_, 1) := by decide +kernel
theorem dX5_setRow_0 : decode cX5_setRow 0 = .ok (.aload_n 0, 1) := by decide +kernel
theorem dX5_setRow_1 : decode cX5_setRow 1 = .ok (.iconst 1, 1) := by decide +kernel
theorem dX5_setRow_2 : decode cX5_setRow 2 = .ok (.putfield 9, 3) := by decide +kernel
theorem dX5_setRow_5 : decode cX5_setRow 5 = .ok (.aload_n 0, 1) := by decide +kernel
theorem dX5_setRow_6 : decode cX5_setRow 6 = .ok (.iload_n 1, 1) := by decide +kernel
theorem dX5_setRow_7 : decode cX5_setRow 7 = .ok (.putfield 18, 3) := by decide +kernel
theorem dX5_setRow_10 : decode cX5_setRow 10 = .ok (.return_, 1) := by decide +kernel
theorem dX5_copy_0 : decode cX5_copy 0 = .ok (.aload_n 0, 1) := by decide +kernel
theorem dX5_copy_1 : decode cX5_copy 1 = .ok (.aload_n 1, 1) := by decide +kernel
theorem dX5_copy_2 : decode cX5_copy 2 = .ok (.getfield 9, 3) := by decide +kernel
theorem dX5_copy_5 : decode cX5_copy 5 = .ok (.putfield 9, 3) := by decide +kernel
theorem dX5_copy_8 : decode cX5_copy 8 = .ok (.aload_n 0, 1) := by decide +kernel
theorem dX5_copy_9 : decode cX5_copy 9 = .ok (.aload_n 1, 1) := by decide +kernel
theorem dX5_copy_10 : decode cX5_copy 10 = .ok (.getfield 15, 3) := by decide +kernel
theorem dX5_copy_13 : decode cX5_copy 13 = .ok (.putfield 15, 3) := by decide +kernel
theorem dX5_copy_16 : decode cX5_copy 16 = .ok (.aload_n 0, 1) := by decide +kernel
theorem dX5_copy_17 : decode cX5_copy 17 = .ok (.aload_n 1, 1) := by decide +kernel
theorem dX5_copy_18 : decode cX5_copy 18 = .ok (.getfield 18, 3) := by decide +kernel
theorem dX5_copy_21 : decode cX5_copy 21 = .ok (.putfield 18, 3) := by decide +kernel
theorem dX5_copy_24 : decode cX5_copy 24 = .ok (.iconst 0, 1) := by decide +kernel
theorem dX5_copy_25 : decode cX5_copy 25 = .ok (.istore_n 2, 1) := by decide +kernel
theorem dX5_copy_26 : decode cX5_copy 26 = .ok (.iload_n 2, 1) := by decide +kernel
theorem dX5_copy_27 : decode cX5_copy 27 = .ok (.aload_n 0, 1) := by decide +kernel
theorem dX5_copy_28 : decode cX5_copy 28 = .ok (.getfield 18, 3) := by decide +kernel
theorem dX5_copy_31 : decode cX5_copy 31 = .ok (.if_icmp .ge 21, 3) := by decide +kernel
theorem dX5_copy_34 : decode cX5_copy 34 = .ok (.aload_n 0, 1) := by decide +kernel
theorem dX5_copy_35 : decode cX5_copy 35 = .ok (.getfield 21, 3) := by decide +kernel
theorem dX5_copy_38 : decode cX5_copy 38 = .ok (.iload_n 2, 1) := by decide +kernel
theorem dX5_copy_39 : decode cX5_copy 39 = .ok (.aload_n 1, 1) := by decide +kernel
theorem dX5_copy_40 : decode cX5_copy 40 = .ok (.getfield 21, 3) := by decide +kernel
theorem dX5_copy_43 : decode cX5_copy 43 = .ok (.iload_n 2, 1) := by decide +kernel
theorem dX5_copy_44 : decode cX5_copy 44 = .ok (.iaload, 1) := by decide +kernel
theorem dX5_copy_45 : decode cX5_copy 45 = .ok (.iastore, 1) := by decide +kernel
theorem dX5_copy_46 : decode cX5_copy 46 = .ok (.iinc 2 1, 3) := by decide +kernel
theorem dX5_copy_49 : decode cX5_copy 49 = .ok (.goto (-23), 3) := by decide +kernel
theorem dX5_copy_52 : decode cX5_copy 52 = .ok (.return_, 1) := by decide +kernel
theorem dX5_read_0 : decode cX5_read 0 = .ok (.aload_n 0, 1) := by decide +kernel
theorem dX5_read_1 : decode cX5_read 1 = .ok (.getfield 9, 3) := by decide +kernel
theorem dX5_read_4 : decode cX5_read 4 = .ok (.ifCond .ne 18, 3) := by decide +kernel
theorem dX5_read_7 : decode cX5_read 7 = .ok (.iload_n 1, 1) := by decide +kernel
theorem dX5_read_8 : decode cX5_read 8 = .ok (.iconst (-1), 1) := by decide +kernel
theorem dX5_read_9 : decode cX5_read 9 = .ok (.if_icmp .ne 10, 3) := by decide +kernel
theorem dX5_read_12 : decode cX5_read 12 = .ok (.aload_n 0, 1) := by decide +kernel
theorem dX5_read_13 : decode cX5_read 13 = .ok (.getfield 15, 3) := by decide +kernel
theorem dX5_read_16 : decode cX5_read 16 = .ok (.goto 5, 3) := by decide +kernel
theorem dX5_read_19 : decode cX5_read 19 = .ok (.ldc 25, 2) := by decide +kernel
theorem dX5_read_21 : decode cX5_read 21 = .ok (.ireturn, 1) := by decide +kernel
theorem dX5_read_22 : decode cX5_read 22 = .ok (.aload_n 0, 1) := by decide +kernel
theorem dX5_read_23 : decode cX5_read 23 = .ok (.getfield 9, 3) := by decide +kernel
theorem dX5_read_26 : decode cX5_read 26 = .ok (.iconst 1, 1) := by decide +kernel
theorem dX5_read_27 : decode cX5_read 27 = .ok (.if_icmp .ne 16, 3) := by decide +kernel
theorem dX5_read_30 : decode cX5_read 30 = .ok (.iload_n 1, 1) := by decide +kernel
theorem dX5_read_31 : decode cX5_read 31 = .ok (.iconst (-1), 1) := by decide +kernel
theorem dX5_read_32 : decode cX5_read 32 = .ok (.if_icmp .lt 11, 3) := by decide +kernel
theorem dX5_read_35 : decode cX5_read 35 = .ok (.iload_n 1, 1) := by decide +kernel
theorem dX5_read_36 : decode cX5_read 36 = .ok (.aload_n 0, 1) := by decide +kernel
theorem dX5_read_37 : decode cX5_read 37 = .ok (.getfield 18, 3) := by decide +kernel
theorem dX5_read_40 : decode cX5_read 40 = .ok (.if_icmp .lt 6, 3) := by decide +kernel
theorem dX5_read_43 : decode cX5_read 43 = .ok (.ldc 25, 2) := by decide +kernel
theorem dX5_read_45 : decode cX5_read 45 = .ok (.ireturn, 1) := by decide +kernel
theorem dX5_read_46 : decode cX5_read 46 = .ok (.iload_n 1, 1) := by decide +kernel
theorem dX5_read_47 : decode cX5_read 47 = .ok (.iconst (-1), 1) := by decide +kernel
theorem dX5_read_48 : decode cX5_read 48 = .ok (.if_icmp .ne 10, 3) := by decide +kernel
theorem dX5_read_51 : decode cX5_read 51 = .ok (.aload_n 0, 1) := by decide +kernel
theorem dX5_read_52 : decode cX5_read 52 = .ok (.getfield 18, 3) := by decide +kernel
theorem dX5_read_55 : decode cX5_read 55 = .ok (.goto 9, 3) := by decide +kernel
theorem dX5_read_58 : decode cX5_read 58 = .ok (.aload_n 0, 1) := by decide +kernel
theorem dX5_read_59 : decode cX5_read 59 = .ok (.getfield 21, 3) := by decide +kernel
theorem dX5_read_62 : decode cX5_read 62 = .ok (.iload_n 1, 1) := by decide +kernel
theorem dX5_read_63 : decode cX5_read 63 = .ok (.iaload, 1) := by decide +kernel
theorem dX5_read_64 : decode cX5_read 64 = .ok (.ireturn, 1) := by decide +kernel
theorem dX5_hasPlace_0 : decode cX5_hasPlace 0 = .ok (.iload_n 1, 1) := by decide +kernel
theorem dX5_hasPlace_1 : decode cX5_hasPlace 1 = .ok (.ifCond .lt 15, 3) := by decide +kernel
theorem dX5_hasPlace_4 : decode cX5_hasPlace 4 = .ok (.iload_n 1, 1) := by decide +kernel
theorem dX5_hasPlace_5 : decode cX5_hasPlace 5 = .ok (.aload_n 0, 1) := by decide +kernel
theorem dX5_hasPlace_6 : decode cX5_hasPlace 6 = .ok (.getfield 18, 3) := by decide +kernel
theorem dX5_hasPlace_9 : decode cX5_hasPlace 9 = .ok (.if_icmp .ge 7, 3) := by decide +kernel
theorem dX5_hasPlace_12 : decode cX5_hasPlace 12 = .ok (.iconst 1, 1) := by decide +kernel
theorem dX5_hasPlace_13 : decode cX5_hasPlace 13 = .ok (.goto 4, 3) := by decide +kernel
theorem dX5_hasPlace_16 : decode cX5_hasPlace 16 = .ok (.iconst 0, 1) := by decide +kernel
theorem dX5_hasPlace_17 : decode cX5_hasPlace 17 = .ok (.ireturn, 1) := by decide +kernel
theorem dX5_candidateCount_0 : decode cX5_candidateCount 0 = .ok (.aload_n 0, 1) := by decide +kernel
theorem dX5_candidateCount_1 : decode cX5_candidateCount 1 = .ok (.getfield 9, 3) := by decide +kernel
theorem dX5_candidateCount_4 : decode cX5_candidateCount 4 = .ok (.iconst (-1), 1) := by decide +kernel
theorem dX5_candidateCount_5 : decode cX5_candidateCount 5 = .ok (.if_icmp .ne 5, 3) := by decide +kernel
theorem dX5_candidateCount_8 : decode cX5_candidateCount 8 = .ok (.iconst 0, 1) := by decide +kernel
theorem dX5_candidateCount_9 : decode cX5_candidateCount 9 = .ok (.ireturn, 1) := by decide +kernel
theorem dX5_candidateCount_10 : decode cX5_candidateCount 10 = .ok (.aload_n 0, 1) := by decide +kernel
theorem dX5_candidateCount_11 : decode cX5_candidateCount 11 = .ok (.getfield 9, 3) := by decide +kernel
theorem dX5_candidateCount_14 : decode cX5_candidateCount 14 = .ok (.ifCond .ne 16, 3) := by decide +kernel
theorem dX5_candidateCount_17 : decode cX5_candidateCount 17 = .ok (.aload_n 0, 1) := by decide +kernel
theorem dX5_candidateCount_18 : decode cX5_candidateCount 18 = .ok (.getfield 15, 3) := by decide +kernel
theorem dX5_candidateCount_21 : decode cX5_candidateCount 21 = .ok (.ifCond .ne 7, 3) := by decide +kernel
theorem dX5_candidateCount_24 : decode cX5_candidateCount 24 = .ok (.iconst 0, 1) := by decide +kernel
theorem dX5_candidateCount_25 : decode cX5_candidateCount 25 = .ok (.goto 4, 3) := by decide +kernel
theorem dX5_candidateCount_28 : decode cX5_candidateCount 28 = .ok (.iconst 3, 1) := by decide +kernel
theorem dX5_candidateCount_29 : decode cX5_candidateCount 29 = .ok (.ireturn, 1) := by decide +kernel
theorem dX5_candidateCount_30 : decode cX5_candidateCount 30 = .ok (.aload_n 0, 1) := by decide +kernel
theorem dX5_candidateCount_31 : decode cX5_candidateCount 31 = .ok (.getfield 18, 3) := by decide +kernel
theorem dX5_candidateCount_34 : decode cX5_candidateCount 34 = .ok (.istore_n 1, 1) := by decide +kernel
theorem dX5_candidateCount_35 : decode cX5_candidateCount 35 = .ok (.iconst 0, 1) := by decide +kernel
theorem dX5_candidateCount_36 : decode cX5_candidateCount 36 = .ok (.istore_n 2, 1) := by decide +kernel
theorem dX5_candidateCount_37 : decode cX5_candidateCount 37 = .ok (.iload_n 2, 1) := by decide +kernel
theorem dX5_candidateCount_38 : decode cX5_candidateCount 38 = .ok (.aload_n 0, 1) := by decide +kernel
theorem dX5_candidateCount_39 : decode cX5_candidateCount 39 = .ok (.getfield 18, 3) := by decide +kernel
theorem dX5_candidateCount_42 : decode cX5_candidateCount 42 = .ok (.if_icmp .ge 26, 3) := by decide +kernel
theorem dX5_candidateCount_45 : decode cX5_candidateCount 45 = .ok (.iload_n 1, 1) := by decide +kernel
theorem dX5_candidateCount_46 : decode cX5_candidateCount 46 = .ok (.aload_n 0, 1) := by decide +kernel
theorem dX5_candidateCount_47 : decode cX5_candidateCount 47 = .ok (.getfield 21, 3) := by decide +kernel
theorem dX5_candidateCount_50 : decode cX5_candidateCount 50 = .ok (.iload_n 2, 1) := by decide +kernel
theorem dX5_candidateCount_51 : decode cX5_candidateCount 51 = .ok (.iaload, 1) := by decide +kernel
theorem dX5_candidateCount_52 : decode cX5_candidateCount 52 = .ok (.ifCond .ne 7, 3) := by decide +kernel
theorem dX5_candidateCount_55 : decode cX5_candidateCount 55 = .ok (.iconst 0, 1) := by decide +kernel
theorem dX5_candidateCount_56 : decode cX5_candidateCount 56 = .ok (.goto 4, 3) := by decide +kernel
theorem dX5_candidateCount_59 : decode cX5_candidateCount 59 = .ok (.iconst 3, 1) := by decide +kernel
theorem dX5_candidateCount_60 : decode cX5_candidateCount 60 = .ok (.iadd, 1) := by decide +kernel
theorem dX5_candidateCount_61 : decode cX5_candidateCount 61 = .ok (.istore_n 1, 1) := by decide +kernel
theorem dX5_candidateCount_62 : decode cX5_candidateCount 62 = .ok (.iinc 2 1, 3) := by decide +kernel
theorem dX5_candidateCount_65 : decode cX5_candidateCount 65 = .ok (.goto (-28), 3) := by decide +kernel
theorem dX5_candidateCount_68 : decode cX5_candidateCount 68 = .ok (.iload_n 1, 1) := by decide +kernel
theorem dX5_candidateCount_69 : decode cX5_candidateCount 69 = .ok (.ireturn, 1) := by decide +kernel
theorem dX5_becomeCandidate_0 : decode cX5_becomeCandidate 0 = .ok (.aload_n 0, 1) := by decide +kernel
theorem dX5_becomeCandidate_1 : decode cX5_becomeCandidate 1 = .ok (.getfield 9, 3) := by decide +kernel
theorem dX5_becomeCandidate_4 : decode cX5_becomeCandidate 4 = .ok (.ifCond .ne 18, 3) := by decide +kernel
theorem dX5_becomeCandidate_7 : decode cX5_becomeCandidate 7 = .ok (.aload_n 0, 1) := by decide +kernel
theorem dX5_becomeCandidate_8 : decode cX5_becomeCandidate 8 = .ok (.aload_n 0, 1) := by decide +kernel
theorem dX5_becomeCandidate_9 : decode cX5_becomeCandidate 9 = .ok (.getfield 15, 3) := by decide +kernel
theorem dX5_becomeCandidate_12 : decode cX5_becomeCandidate 12 = .ok (.iload_n 1, 1) := by decide +kernel
theorem dX5_becomeCandidate_13 : decode cX5_becomeCandidate 13 = .ok (.invokestatic 26, 3) := by decide +kernel
theorem dX5_becomeCandidate_16 : decode cX5_becomeCandidate 16 = .ok (.putfield 15, 3) := by decide +kernel
theorem dX5_becomeCandidate_19 : decode cX5_becomeCandidate 19 = .ok (.goto 29, 3) := by decide +kernel
theorem dX5_becomeCandidate_22 : decode cX5_becomeCandidate 22 = .ok (.iload_n 1, 1) := by decide +kernel
theorem dX5_becomeCandidate_23 : decode cX5_becomeCandidate 23 = .ok (.aload_n 0, 1) := by decide +kernel
theorem dX5_becomeCandidate_24 : decode cX5_becomeCandidate 24 = .ok (.getfield 18, 3) := by decide +kernel
theorem dX5_becomeCandidate_27 : decode cX5_becomeCandidate 27 = .ok (.if_icmp .ge 11, 3) := by decide +kernel
theorem dX5_becomeCandidate_30 : decode cX5_becomeCandidate 30 = .ok (.aload_n 0, 1) := by decide +kernel
theorem dX5_becomeCandidate_31 : decode cX5_becomeCandidate 31 = .ok (.iload_n 1, 1) := by decide +kernel
theorem dX5_becomeCandidate_32 : decode cX5_becomeCandidate 32 = .ok (.invokevirtual 30, 3) := by decide +kernel
theorem dX5_becomeCandidate_35 : decode cX5_becomeCandidate 35 = .ok (.goto 13, 3) := by decide +kernel
theorem dX5_becomeCandidate_38 : decode cX5_becomeCandidate 38 = .ok (.aload_n 0, 1) := by decide +kernel
theorem dX5_becomeCandidate_39 : decode cX5_becomeCandidate 39 = .ok (.iload_n 1, 1) := by decide +kernel
theorem dX5_becomeCandidate_40 : decode cX5_becomeCandidate 40 = .ok (.aload_n 0, 1) := by decide +kernel
theorem dX5_becomeCandidate_41 : decode cX5_becomeCandidate 41 = .ok (.getfield 18, 3) := by decide +kernel
theorem dX5_becomeCandidate_44 : decode cX5_becomeCandidate 44 = .ok (.isub, 1) := by decide +kernel
theorem dX5_becomeCandidate_45 : decode cX5_becomeCandidate 45 = .ok (.invokevirtual 34, 3) := by decide +kernel
theorem dX5_becomeCandidate_48 : decode cX5_becomeCandidate 48 = .ok (.return_, 1) := by decide +kernel
theorem dX5_dropPlace_0 : decode cX5_dropPlace 0 = .ok (.iload_n 1, 1) := by decide +kernel
theorem dX5_dropPlace_1 : decode cX5_dropPlace 1 = .ok (.istore_n 2, 1) := by decide +kernel
theorem dX5_dropPlace_2 : decode cX5_dropPlace 2 = .ok (.iload_n 2, 1) := by decide +kernel
theorem dX5_dropPlace_3 : decode cX5_dropPlace 3 = .ok (.aload_n 0, 1) := by decide +kernel
theorem dX5_dropPlace_4 : decode cX5_dropPlace 4 = .ok (.getfield 18, 3) := by decide +kernel
theorem dX5_dropPlace_7 : decode cX5_dropPlace 7 = .ok (.iconst 1, 1) := by decide +kernel
theorem dX5_dropPlace_8 : decode cX5_dropPlace 8 = .ok (.isub, 1) := by decide +kernel
theorem dX5_dropPlace_9 : decode cX5_dropPlace 9 = .ok (.if_icmp .ge 23, 3) := by decide +kernel
theorem dX5_dropPlace_12 : decode cX5_dropPlace 12 = .ok (.aload_n 0, 1) := by decide +kernel
theorem dX5_dropPlace_13 : decode cX5_dropPlace 13 = .ok (.getfield 21, 3) := by decide +kernel
theorem dX5_dropPlace_16 : decode cX5_dropPlace 16 = .ok (.iload_n 2, 1) := by decide +kernel
theorem dX5_dropPlace_17 : decode cX5_dropPlace 17 = .ok (.aload_n 0, 1) := by decide +kernel
theorem dX5_dropPlace_18 : decode cX5_dropPlace 18 = .ok (.getfield 21, 3) := by decide +kernel
theorem dX5_dropPlace_21 : decode cX5_dropPlace 21 = .ok (.iload_n 2, 1) := by decide +kernel
theorem dX5_dropPlace_22 : decode cX5_dropPlace 22 = .ok (.iconst 1, 1) := by decide +kernel
theorem dX5_dropPlace_23 : decode cX5_dropPlace 23 = .ok (.iadd, 1) := by decide +kernel
theorem dX5_dropPlace_24 : decode cX5_dropPlace 24 = .ok (.iaload, 1) := by decide +kernel
theorem dX5_dropPlace_25 : decode cX5_dropPlace 25 = .ok (.iastore, 1) := by decide +kernel
theorem dX5_dropPlace_26 : decode cX5_dropPlace 26 = .ok (.iinc 2 1, 3) := by decide +kernel
theorem dX5_dropPlace_29 : decode cX5_dropPlace 29 = .ok (.goto (-27), 3) := by decide +kernel
theorem dX5_dropPlace_32 : decode cX5_dropPlace 32 = .ok (.aload_n 0, 1) := by decide +kernel
theorem dX5_dropPlace_33 : decode cX5_dropPlace 33 = .ok (.dup, 1) := by decide +kernel
theorem dX5_dropPlace_34 : decode cX5_dropPlace 34 = .ok (.getfield 18, 3) := by decide +kernel
theorem dX5_dropPlace_37 : decode cX5_dropPlace 37 = .ok (.iconst 1, 1) := by decide +kernel
theorem dX5_dropPlace_38 : decode cX5_dropPlace 38 = .ok (.isub, 1) := by decide +kernel
theorem dX5_dropPlace_39 : decode cX5_dropPlace 39 = .ok (.putfield 18, 3) := by decide +kernel
theorem dX5_dropPlace_42 : decode cX5_dropPlace 42 = .ok (.return_, 1) := by decide +kernel
theorem dX5_shrinkAnInt_0 : decode cX5_shrinkAnInt 0 = .ok (.iload_n 1, 1) := by decide +kernel
theorem dX5_shrinkAnInt_1 : decode cX5_shrinkAnInt 1 = .ok (.istore_n 2, 1) := by decide +kernel
theorem dX5_shrinkAnInt_2 : decode cX5_shrinkAnInt 2 = .ok (.iconst 0, 1) := by decide +kernel
theorem dX5_shrinkAnInt_3 : decode cX5_shrinkAnInt 3 = .ok (.istore_n 3, 1) := by decide +kernel
theorem dX5_shrinkAnInt_4 : decode cX5_shrinkAnInt 4 = .ok (.iload_n 3, 1) := by decide +kernel
theorem dX5_shrinkAnInt_5 : decode cX5_shrinkAnInt 5 = .ok (.aload_n 0, 1) := by decide +kernel
theorem dX5_shrinkAnInt_6 : decode cX5_shrinkAnInt 6 = .ok (.getfield 18, 3) := by decide +kernel
theorem dX5_shrinkAnInt_9 : decode cX5_shrinkAnInt 9 = .ok (.if_icmp .ge 43, 3) := by decide +kernel
theorem dX5_shrinkAnInt_12 : decode cX5_shrinkAnInt 12 = .ok (.aload_n 0, 1) := by decide +kernel
theorem dX5_shrinkAnInt_13 : decode cX5_shrinkAnInt 13 = .ok (.getfield 21, 3) := by decide +kernel
theorem dX5_shrinkAnInt_16 : decode cX5_shrinkAnInt 16 = .ok (.iload_n 3, 1) := by decide +kernel
theorem dX5_shrinkAnInt_17 : decode cX5_shrinkAnInt 17 = .ok (.iaload, 1) := by decide +kernel
theorem dX5_shrinkAnInt_18 : decode cX5_shrinkAnInt 18 = .ok (.ifCond .eq 28, 3) := by decide +kernel
theorem dX5_shrinkAnInt_21 : decode cX5_shrinkAnInt 21 = .ok (.iload_n 2, 1) := by decide +kernel
theorem dX5_shrinkAnInt_22 : decode cX5_shrinkAnInt 22 = .ok (.iconst 3, 1) := by decide +kernel
theorem dX5_shrinkAnInt_23 : decode cX5_shrinkAnInt 23 = .ok (.if_icmp .ge 20, 3) := by decide +kernel
theorem dX5_shrinkAnInt_26 : decode cX5_shrinkAnInt 26 = .ok (.aload_n 0, 1) := by decide +kernel
theorem dX5_shrinkAnInt_27 : decode cX5_shrinkAnInt 27 = .ok (.getfield 21, 3) := by decide +kernel
theorem dX5_shrinkAnInt_30 : decode cX5_shrinkAnInt 30 = .ok (.iload_n 3, 1) := by decide +kernel
theorem dX5_shrinkAnInt_31 : decode cX5_shrinkAnInt 31 = .ok (.aload_n 0, 1) := by decide +kernel
theorem dX5_shrinkAnInt_32 : decode cX5_shrinkAnInt 32 = .ok (.getfield 21, 3) := by decide +kernel
theorem dX5_shrinkAnInt_35 : decode cX5_shrinkAnInt 35 = .ok (.iload_n 3, 1) := by decide +kernel
theorem dX5_shrinkAnInt_36 : decode cX5_shrinkAnInt 36 = .ok (.iaload, 1) := by decide +kernel
theorem dX5_shrinkAnInt_37 : decode cX5_shrinkAnInt 37 = .ok (.iload_n 2, 1) := by decide +kernel
theorem dX5_shrinkAnInt_38 : decode cX5_shrinkAnInt 38 = .ok (.invokestatic 26, 3) := by decide +kernel
theorem dX5_shrinkAnInt_41 : decode cX5_shrinkAnInt 41 = .ok (.iastore, 1) := by decide +kernel
theorem dX5_shrinkAnInt_42 : decode cX5_shrinkAnInt 42 = .ok (.return_, 1) := by decide +kernel
theorem dX5_shrinkAnInt_43 : decode cX5_shrinkAnInt 43 = .ok (.iinc 2 (-3), 3) := by decide +kernel
theorem dX5_shrinkAnInt_46 : decode cX5_shrinkAnInt 46 = .ok (.iinc 3 1, 3) := by decide +kernel
theorem dX5_shrinkAnInt_49 : decode cX5_shrinkAnInt 49 = .ok (.goto (-45), 3) := by decide +kernel
theorem dX5_shrinkAnInt_52 : decode cX5_shrinkAnInt 52 = .ok (.return_, 1) := by decide +kernel
theorem dX5_nearerToZero_0 : decode cX5_nearerToZero 0 = .ok (.iload_n 1, 1) := by decide +kernel
theorem dX5_nearerToZero_1 : decode cX5_nearerToZero 1 = .ok (.lookupswitch 33 #[(0, 27), (1, 29)], 27) := by decide +kernel
theorem dX5_nearerToZero_28 : decode cX5_nearerToZero 28 = .ok (.iconst 0, 1) := by decide +kernel
theorem dX5_nearerToZero_29 : decode cX5_nearerToZero 29 = .ok (.ireturn, 1) := by decide +kernel
theorem dX5_nearerToZero_30 : decode cX5_nearerToZero 30 = .ok (.iload_n 0, 1) := by decide +kernel
theorem dX5_nearerToZero_31 : decode cX5_nearerToZero 31 = .ok (.iconst 2, 1) := by decide +kernel
theorem dX5_nearerToZero_32 : decode cX5_nearerToZero 32 = .ok (.idiv, 1) := by decide +kernel
theorem dX5_nearerToZero_33 : decode cX5_nearerToZero 33 = .ok (.ireturn, 1) := by decide +kernel
theorem dX5_nearerToZero_34 : decode cX5_nearerToZero 34 = .ok (.iload_n 0, 1) := by decide +kernel
theorem dX5_nearerToZero_35 : decode cX5_nearerToZero 35 = .ok (.ifCond .le 9, 3) := by decide +kernel
theorem dX5_nearerToZero_38 : decode cX5_nearerToZero 38 = .ok (.iload_n 0, 1) := by decide +kernel
theorem dX5_nearerToZero_39 : decode cX5_nearerToZero 39 = .ok (.iconst 1, 1) := by decide +kernel
theorem dX5_nearerToZero_40 : decode cX5_nearerToZero 40 = .ok (.isub, 1) := by decide +kernel
theorem dX5_nearerToZero_41 : decode cX5_nearerToZero 41 = .ok (.goto 6, 3) := by decide +kernel
theorem dX5_nearerToZero_44 : decode cX5_nearerToZero 44 = .ok (.iload_n 0, 1) := by decide +kernel
theorem dX5_nearerToZero_45 : decode cX5_nearerToZero 45 = .ok (.iconst 1, 1) := by decide +kernel
theorem dX5_nearerToZero_46 : decode cX5_nearerToZero 46 = .ok (.iadd, 1) := by decide +kernel
theorem dX5_nearerToZero_47 : decode cX5_nearerToZero 47 = .ok (.ireturn, 1) := by decide +kernel
theorem dX6_init_0 : decode cX6_init 0 = .ok (.aload_n 0, 1) := by decide +kernel
theorem dX6_init_1 : decode cX6_init 1 = .ok (.invokespecial 3, 3) := by decide +kernel
theorem dX6_init_4 : decode cX6_init 4 = .ok (.aload_n 0, 1) := by decide +kernel
theorem dX6_init_5 : decode cX6_init 5 = .ok (.new 9, 3) := by decide +kernel
theorem dX6_init_8 : decode cX6_init 8 = .ok (.dup, 1) := by decide +kernel
theorem dX6_init_9 : decode cX6_init 9 = .ok (.invokespecial 11, 3) := by decide +kernel
theorem dX6_init_12 : decode cX6_init 12 = .ok (.putfield 12, 3) := by decide +kernel
theorem dX6_init_15 : decode cX6_init 15 = .ok (.aload_n 0, 1) := by decide +kernel
theorem dX6_init_16 : decode cX6_init 16 = .ok (.iconst 3, 1) := by decide +kernel
theorem dX6_init_17 : decode cX6_init 17 = .ok (.invokestatic 18, 3) := by decide +kernel
theorem dX6_init_20 : decode cX6_init 20 = .ok (.putfield 22, 3) := by decide +kernel
theorem dX6_init_23 : decode cX6_init 23 = .ok (.aload_n 0, 1) := by decide +kernel
theorem dX6_init_24 : decode cX6_init 24 = .ok (.bipush 60, 2) := by decide +kernel
theorem dX6_init_26 : decode cX6_init 26 = .ok (.invokestatic 18, 3) := by decide +kernel
theorem dX6_init_29 : decode cX6_init 29 = .ok (.putfield 26, 3) := by decide +kernel
theorem dX6_init_32 : decode cX6_init 32 = .ok (.aload_n 0, 1) := by decide +kernel
theorem dX6_init_33 : decode cX6_init 33 = .ok (.iconst 0, 1) := by decide +kernel
theorem dX6_init_34 : decode cX6_init 34 = .ok (.putfield 29, 3) := by decide +kernel
theorem dX6_init_37 : decode cX6_init 37 = .ok (.aload_n 0, 1) := by decide +kernel
theorem dX6_init_38 : decode cX6_init 38 = .ok (.iconst 0, 1) := by decide +kernel
theorem dX6_init_39 : decode cX6_init 39 = .ok (.putfield 33, 3) := by decide +kernel
theorem dX6_init_42 : decode cX6_init 42 = .ok (.return_, 1) := by decide +kernel
theorem dX6_outcome_0 : decode cX6_outcome 0 = .ok (.aload_n 0, 1) := by decide +kernel
theorem dX6_outcome_1 : decode cX6_outcome 1 = .ok (.dup, 1) := by decide +kernel
theorem dX6_outcome_2 : decode cX6_outcome 2 = .ok (.getfield 33, 3) := by decide +kernel
theorem dX6_outcome_5 : decode cX6_outcome 5 = .ok (.iconst 1, 1) := by decide +kernel
theorem dX6_outcome_6 : decode cX6_outcome 6 = .ok (.iadd, 1) := by decide +kernel
theorem dX6_outcome_7 : decode cX6_outcome 7 = .ok (.putfield 33, 3) := by decide +kernel
theorem dX6_outcome_10 : decode cX6_outcome 10 = .ok (.aload_n 0, 1) := by decide +kernel
theorem dX6_outcome_11 : decode cX6_outcome 11 = .ok (.iconst 0, 1) := by decide +kernel
theorem dX6_outcome_12 : decode cX6_outcome 12 = .ok (.putfield 29, 3) := by decide +kernel
theorem dX6_outcome_15 : decode cX6_outcome 15 = .ok (.aload_n 1, 1) := by decide +kernel
theorem dX6_outcome_16 : decode cX6_outcome 16 = .ok (.getfield 36, 3) := by decide +kernel
theorem dX6_outcome_19 : decode cX6_outcome 19 = .ok (.ifCond .lt 37, 3) := by decide +kernel
theorem dX6_outcome_22 : decode cX6_outcome 22 = .ok (.aload_n 0, 1) := by decide +kernel
theorem dX6_outcome_23 : decode cX6_outcome 23 = .ok (.aload_n 0, 1) := by decide +kernel
theorem dX6_outcome_24 : decode cX6_outcome 24 = .ok (.aload_n 1, 1) := by decide +kernel
theorem dX6_outcome_25 : decode cX6_outcome 25 = .ok (.getfield 36, 3) := by decide +kernel
theorem dX6_outcome_28 : decode cX6_outcome 28 = .ok (.invokevirtual 41, 3) := by decide +kernel
theorem dX6_outcome_31 : decode cX6_outcome 31 = .ok (.invokevirtual 45, 3) := by decide +kernel
theorem dX6_outcome_34 : decode cX6_outcome 34 = .ok (.istore_n 2, 1) := by decide +kernel
theorem dX6_outcome_35 : decode cX6_outcome 35 = .ok (.iload_n 2, 1) := by decide +kernel
theorem dX6_outcome_36 : decode cX6_outcome 36 = .ok (.ifCond .ge 6, 3) := by decide +kernel
theorem dX6_outcome_39 : decode cX6_outcome 39 = .ok (.iload_n 2, 1) := by decide +kernel
theorem dX6_outcome_40 : decode cX6_outcome 40 = .ok (.ineg, 1) := by decide +kernel
theorem dX6_outcome_41 : decode cX6_outcome 41 = .ok (.ireturn, 1) := by decide +kernel
theorem dX6_outcome_42 : decode cX6_outcome 42 = .ok (.aload_n 0, 1) := by decide +kernel
theorem dX6_outcome_43 : decode cX6_outcome 43 = .ok (.getfield 26, 3) := by decide +kernel
theorem dX6_outcome_46 : decode cX6_outcome 46 = .ok (.iload_n 2, 1) := by decide +kernel
theorem dX6_outcome_47 : decode cX6_outcome 47 = .ok (.aaload, 1) := by decide +kernel
theorem dX6_outcome_48 : decode cX6_outcome 48 = .ok (.getfield 48, 3) := by decide +kernel
theorem dX6_outcome_51 : decode cX6_outcome 51 = .ok (.ifCond .ne 5, 3) := by decide +kernel
theorem dX6_outcome_54 : decode cX6_outcome 54 = .ok (.iconst (-1), 1) := by decide +kernel
theorem dX6_outcome_55 : decode cX6_outcome 55 = .ok (.ireturn, 1) := by decide +kernel
theorem dX6_outcome_56 : decode cX6_outcome 56 = .ok (.aload_n 0, 1) := by decide +kernel
theorem dX6_outcome_57 : decode cX6_outcome 57 = .ok (.aload_n 0, 1) := by decide +kernel
theorem dX6_outcome_58 : decode cX6_outcome 58 = .ok (.aload_n 1, 1) := by decide +kernel
theorem dX6_outcome_59 : decode cX6_outcome 59 = .ok (.getfield 53, 3) := by decide +kernel
theorem dX6_outcome_62 : decode cX6_outcome 62 = .ok (.invokevirtual 41, 3) := by decide +kernel
theorem dX6_outcome_65 : decode cX6_outcome 65 = .ok (.invokevirtual 45, 3) := by decide +kernel
theorem dX6_outcome_68 : decode cX6_outcome 68 = .ok (.istore_n 2, 1) := by decide +kernel
theorem dX6_outcome_69 : decode cX6_outcome 69 = .ok (.iload_n 2, 1) := by decide +kernel
theorem dX6_outcome_70 : decode cX6_outcome 70 = .ok (.ifCond .ge 19, 3) := by decide +kernel
theorem dX6_outcome_73 : decode cX6_outcome 73 = .ok (.iload_n 2, 1) := by decide +kernel
theorem dX6_outcome_74 : decode cX6_outcome 74 = .ok (.ineg, 1) := by decide +kernel
theorem dX6_outcome_75 : decode cX6_outcome 75 = .ok (.aload_n 1, 1) := by decide +kernel
theorem dX6_outcome_76 : decode cX6_outcome 76 = .ok (.getfield 56, 3) := by decide +kernel
theorem dX6_outcome_79 : decode cX6_outcome 79 = .ok (.if_icmp .ne 7, 3) := by decide +kernel
theorem dX6_outcome_82 : decode cX6_outcome 82 = .ok (.iconst 0, 1) := by decide +kernel
theorem dX6_outcome_83 : decode cX6_outcome 83 = .ok (.goto 5, 3) := by decide +kernel
theorem dX6_outcome_86 : decode cX6_outcome 86 = .ok (.iload_n 2, 1) := by decide +kernel
theorem dX6_outcome_87 : decode cX6_outcome 87 = .ok (.ineg, 1) := by decide +kernel
theorem dX6_outcome_88 : decode cX6_outcome 88 = .ok (.ireturn, 1) := by decide +kernel
theorem dX6_outcome_89 : decode cX6_outcome 89 = .ok (.aload_n 1, 1) := by decide +kernel
theorem dX6_outcome_90 : decode cX6_outcome 90 = .ok (.getfield 56, 3) := by decide +kernel
theorem dX6_outcome_93 : decode cX6_outcome 93 = .ok (.ifCond .eq 6, 3) := by decide +kernel
theorem dX6_outcome_96 : decode cX6_outcome 96 = .ok (.bipush 8, 2) := by decide +kernel
theorem dX6_outcome_98 : decode cX6_outcome 98 = .ok (.ireturn, 1) := by decide +kernel
theorem dX6_outcome_99 : decode cX6_outcome 99 = .ok (.aload_n 0, 1) := by decide +kernel
theorem dX6_outcome_100 : decode cX6_outcome 100 = .ok (.getfield 26, 3) := by decide +kernel
theorem dX6_outcome_103 : decode cX6_outcome 103 = .ok (.iload_n 2, 1) := by decide +kernel
theorem dX6_outcome_104 : decode cX6_outcome 104 = .ok (.aaload, 1) := by decide +kernel
theorem dX6_outcome_105 : decode cX6_outcome 105 = .ok (.getfield 48, 3) := by decide +kernel
theorem dX6_outcome_108 : decode cX6_outcome 108 = .ok (.ifCond .eq 7, 3) := by decide +kernel
theorem dX6_outcome_111 : decode cX6_outcome 111 = .ok (.iconst 0, 1) := by decide +kernel
theorem dX6_outcome_112 : decode cX6_outcome 112 = .ok (.goto 5, 3) := by decide +kernel
theorem dX6_outcome_115 : decode cX6_outcome 115 = .ok (.bipush 9, 2) := by decide +kernel
theorem dX6_outcome_117 : decode cX6_outcome 117 = .ok (.ireturn, 1) := by decide +kernel
theorem dX6_labelled_0 : decode cX6_labelled 0 = .ok (.aload_n 0, 1) := by decide +kernel
theorem dX6_labelled_1 : decode cX6_labelled 1 = .ok (.aload_n 0, 1) := by decide +kernel
theorem dX6_labelled_2 : decode cX6_labelled 2 = .ok (.aload_n 1, 1) := by decide +kernel
theorem dX6_labelled_3 : decode cX6_labelled 3 = .ok (.getfield 59, 3) := by decide +kernel
theorem dX6_labelled_6 : decode cX6_labelled 6 = .ok (.invokevirtual 41, 3) := by decide +kernel
theorem dX6_labelled_9 : decode cX6_labelled 9 = .ok (.invokevirtual 45, 3) := by decide +kernel
theorem dX6_labelled_12 : decode cX6_labelled 12 = .ok (.istore_n 2, 1) := by decide +kernel
theorem dX6_labelled_13 : decode cX6_labelled 13 = .ok (.iload_n 2, 1) := by decide +kernel
theorem dX6_labelled_14 : decode cX6_labelled 14 = .ok (.ifCond .ge 6, 3) := by decide +kernel
theorem dX6_labelled_17 : decode cX6_labelled 17 = .ok (.bipush 8, 2) := by decide +kernel
theorem dX6_labelled_19 : decode cX6_labelled 19 = .ok (.ireturn, 1) := by decide +kernel
theorem dX6_labelled_20 : decode cX6_labelled 20 = .ok (.aload_n 0, 1) := by decide +kernel
theorem dX6_labelled_21 : decode cX6_labelled 21 = .ok (.getfield 26, 3) := by decide +kernel
theorem dX6_labelled_24 : decode cX6_labelled 24 = .ok (.iload_n 2, 1) := by decide +kernel
theorem dX6_labelled_25 : decode cX6_labelled 25 = .ok (.aaload, 1) := by decide +kernel
theorem dX6_labelled_26 : decode cX6_labelled 26 = .ok (.getfield 48, 3) := by decide +kernel
theorem dX6_labelled_29 : decode cX6_labelled 29 = .ok (.istore_n 3, 1) := by decide +kernel
theorem dX6_labelled_30 : decode cX6_labelled 30 = .ok (.iload_n 3, 1) := by decide +kernel
theorem dX6_labelled_31 : decode cX6_labelled 31 = .ok (.ifCond .lt 13, 3) := by decide +kernel
theorem dX6_labelled_34 : decode cX6_labelled 34 = .ok (.iload_n 3, 1) := by decide +kernel
theorem dX6_labelled_35 : decode cX6_labelled 35 = .ok (.bipush 8, 2) := by decide +kernel
theorem dX6_labelled_37 : decode cX6_labelled 37 = .ok (.if_icmp .ge 7, 3) := by decide +kernel
theorem dX6_labelled_40 : decode cX6_labelled 40 = .ok (.iload_n 3, 1) := by decide +kernel
theorem dX6_labelled_41 : decode cX6_labelled 41 = .ok (.goto 5, 3) := by decide +kernel
theorem dX6_labelled_44 : decode cX6_labelled 44 = .ok (.bipush 8, 2) := by decide +kernel
theorem dX6_labelled_46 : decode cX6_labelled 46 = .ok (.ireturn, 1) := by decide +kernel
theorem dX6_asWhole_0 : decode cX6_asWhole 0 = .ok (.iload_n 1, 1) := by decide +kernel
theorem dX6_asWhole_1 : decode cX6_asWhole 1 = .ok (.ifCond .ge 5, 3) := by decide +kernel
theorem dX6_asWhole_4 : decode cX6_asWhole 4 = .ok (.iload_n 1, 1) := by decide +kernel
theorem dX6_asWhole_5 : decode cX6_asWhole 5 = .ok (.ireturn, 1) := by decide +kernel
theorem dX6_asWhole_6 : decode cX6_asWhole 6 = .ok (.aload_n 0, 1) := by decide +kernel
theorem dX6_asWhole_7 : decode cX6_asWhole 7 = .ok (.getfield 26, 3) := by decide +kernel
theorem dX6_asWhole_10 : decode cX6_asWhole 10 = .ok (.iload_n 1, 1) := by decide +kernel
theorem dX6_asWhole_11 : decode cX6_asWhole 11 = .ok (.aaload, 1) := by decide +kernel
theorem dX6_asWhole_12 : decode cX6_asWhole 12 = .ok (.iconst 0, 1) := by decide +kernel
theorem dX6_asWhole_13 : decode cX6_asWhole 13 = .ok (.invokestatic 62, 3) := by decide +kernel
theorem dX6_asWhole_16 : decode cX6_asWhole 16 = .ok (.istore_n 2, 1) := by decide +kernel
theorem dX6_asWhole_17 : decode cX6_asWhole 17 = .ok (.iload_n 2, 1) := by decide +kernel
theorem dX6_asWhole_18 : decode cX6_asWhole 18 = .ok (.ifCond .eq 8, 3) := by decide +kernel
theorem dX6_asWhole_21 : decode cX6_asWhole 21 = .ok (.iload_n 2, 1) := by decide +kernel
theorem dX6_asWhole_22 : decode cX6_asWhole 22 = .ok (.ineg, 1) := by decide +kernel
theorem dX6_asWhole_23 : decode cX6_asWhole 23 = .ok (.goto 4, 3) := by decide +kernel
theorem dX6_asWhole_26 : decode cX6_asWhole 26 = .ok (.iload_n 1, 1) := by decide +kernel
theorem dX6_asWhole_27 : decode cX6_asWhole 27 = .ok (.ireturn, 1) := by decide +kernel
theorem dX6_work_0 : decode cX6_work 0 = .ok (.aload_n 0, 1) := by decide +kernel
theorem dX6_work_1 : decode cX6_work 1 = .ok (.getfield 29, 3) := by decide +kernel
theorem dX6_work_4 : decode cX6_work 4 = .ok (.bipush 60, 2) := by decide +kernel
theorem dX6_work_6 : decode cX6_work 6 = .ok (.if_icmp .lt 6, 3) := by decide +kernel
theorem dX6_work_9 : decode cX6_work 9 = .ok (.bipush (-7), 2) := by decide +kernel
theorem dX6_work_11 : decode cX6_work 11 = .ok (.ireturn, 1) := by decide +kernel
theorem dX6_work_12 : decode cX6_work 12 = .ok (.aload_n 0, 1) := by decide +kernel
theorem dX6_work_13 : decode cX6_work 13 = .ok (.getfield 29, 3) := by decide +kernel
theorem dX6_work_16 : decode cX6_work 16 = .ok (.istore_n 2, 1) := by decide +kernel
theorem dX6_work_17 : decode cX6_work 17 = .ok (.aload_n 0, 1) := by decide +kernel
theorem dX6_work_18 : decode cX6_work 18 = .ok (.dup, 1) := by decide +kernel
theorem dX6_work_19 : decode cX6_work 19 = .ok (.getfield 29, 3) := by decide +kernel
theorem dX6_work_22 : decode cX6_work 22 = .ok (.iconst 1, 1) := by decide +kernel
theorem dX6_work_23 : decode cX6_work 23 = .ok (.iadd, 1) := by decide +kernel
theorem dX6_work_24 : decode cX6_work 24 = .ok (.putfield 29, 3) := by decide +kernel
theorem dX6_work_27 : decode cX6_work 27 = .ok (.aload_n 0, 1) := by decide +kernel
theorem dX6_work_28 : decode cX6_work 28 = .ok (.getfield 12, 3) := by decide +kernel
theorem dX6_work_31 : decode cX6_work 31 = .ok (.getfield 66, 3) := by decide +kernel
theorem dX6_work_34 : decode cX6_work 34 = .ok (.iload_n 1, 1) := by decide +kernel
theorem dX6_work_35 : decode cX6_work 35 = .ok (.iaload, 1) := by decide +kernel
theorem dX6_work_36 : decode cX6_work 36 = .ok (.istore_n 3, 1) := by decide +kernel
theorem dX6_work_37 : decode cX6_work 37 = .ok (.getstatic 70, 3) := by decide +kernel
theorem dX6_work_40 : decode cX6_work 40 = .ok (.iload_n 3, 1) := by decide +kernel
theorem dX6_work_41 : decode cX6_work 41 = .ok (.iaload, 1) := by decide +kernel
theorem dX6_work_42 : decode cX6_work 42 = .ok (.istore 4, 2) := by decide +kernel
theorem dX6_work_44 : decode cX6_work 44 = .ok (.iload 4, 2) := by decide +kernel
theorem dX6_work_46 : decode cX6_work 46 = .ok (.ifCond .le 19, 3) := by decide +kernel
theorem dX6_work_49 : decode cX6_work 49 = .ok (.aload_n 0, 1) := by decide +kernel
theorem dX6_work_50 : decode cX6_work 50 = .ok (.aload_n 0, 1) := by decide +kernel
theorem dX6_work_51 : decode cX6_work 51 = .ok (.getfield 12, 3) := by decide +kernel
theorem dX6_work_54 : decode cX6_work 54 = .ok (.getfield 73, 3) := by decide +kernel
theorem dX6_work_57 : decode cX6_work 57 = .ok (.iload_n 1, 1) := by decide +kernel
theorem dX6_work_58 : decode cX6_work 58 = .ok (.iaload, 1) := by decide +kernel
theorem dX6_work_59 : decode cX6_work 59 = .ok (.invokevirtual 41, 3) := by decide +kernel
theorem dX6_work_62 : decode cX6_work 62 = .ok (.goto 4, 3) := by decide +kernel
theorem dX6_work_65 : decode cX6_work 65 = .ok (.iload_n 2, 1) := by decide +kernel
theorem dX6_work_66 : decode cX6_work 66 = .ok (.istore 5, 2) := by decide +kernel
theorem dX6_work_68 : decode cX6_work 68 = .ok (.iload 5, 2) := by decide +kernel
theorem dX6_work_70 : decode cX6_work 70 = .ok (.ifCond .ge 6, 3) := by decide +kernel
theorem dX6_work_73 : decode cX6_work 73 = .ok (.iload 5, 2) := by decide +kernel
theorem dX6_work_75 : decode cX6_work 75 = .ok (.ireturn, 1) := by decide +kernel
theorem dX6_work_76 : decode cX6_work 76 = .ok (.iload_n 3, 1) := by decide +kernel
theorem dX6_work_77 : decode cX6_work 77 = .ok (.bipush 19, 2) := by decide +kernel
theorem dX6_work_79 : decode cX6_work 79 = .ok (.if_icmp .eq 9, 3) := by decide +kernel
theorem dX6_work_82 : decode cX6_work 82 = .ok (.iload_n 3, 1) := by decide +kernel
theorem dX6_work_83 : decode cX6_work 83 = .ok (.bipush 20, 2) := by decide +kernel
theorem dX6_work_85 : decode cX6_work 85 = .ok (.if_icmp .ne 16, 3) := by decide +kernel
theorem dX6_work_88 : decode cX6_work 88 = .ok (.aload_n 0, 1) := by decide +kernel
theorem dX6_work_89 : decode cX6_work 89 = .ok (.iload_n 1, 1) := by decide +kernel
theorem dX6_work_90 : decode cX6_work 90 = .ok (.iload_n 2, 1) := by decide +kernel
theorem dX6_work_91 : decode cX6_work 91 = .ok (.aload_n 0, 1) := by decide +kernel
theorem dX6_work_92 : decode cX6_work 92 = .ok (.iload 5, 2) := by decide +kernel
theorem dX6_work_94 : decode cX6_work 94 = .ok (.invokevirtual 45, 3) := by decide +kernel
theorem dX6_work_97 : decode cX6_work 97 = .ok (.invokevirtual 76, 3) := by decide +kernel
theorem dX6_work_100 : decode cX6_work 100 = .ok (.ireturn, 1) := by decide +kernel
theorem dX6_work_101 : decode cX6_work 101 = .ok (.iload 4, 2) := by decide +kernel
theorem dX6_work_103 : decode cX6_work 103 = .ok (.iconst 1, 1) := by decide +kernel
theorem dX6_work_104 : decode cX6_work 104 = .ok (.if_icmp .le 19, 3) := by decide +kernel
theorem dX6_work_107 : decode cX6_work 107 = .ok (.aload_n 0, 1) := by decide +kernel
theorem dX6_work_108 : decode cX6_work 108 = .ok (.aload_n 0, 1) := by decide +kernel
theorem dX6_work_109 : decode cX6_work 109 = .ok (.getfield 12, 3) := by decide +kernel
theorem dX6_work_112 : decode cX6_work 112 = .ok (.getfield 80, 3) := by decide +kernel
theorem dX6_work_115 : decode cX6_work 115 = .ok (.iload_n 1, 1) := by decide +kernel
theorem dX6_work_116 : decode cX6_work 116 = .ok (.iaload, 1) := by decide +kernel
theorem dX6_work_117 : decode cX6_work 117 = .ok (.invokevirtual 41, 3) := by decide +kernel
theorem dX6_work_120 : decode cX6_work 120 = .ok (.goto 4, 3) := by decide +kernel
theorem dX6_work_123 : decode cX6_work 123 = .ok (.iload_n 2, 1) := by decide +kernel
theorem dX6_work_124 : decode cX6_work 124 = .ok (.istore 6, 2) := by decide +kernel
theorem dX6_work_126 : decode cX6_work 126 = .ok (.iload 6, 2) := by decide +kernel
theorem dX6_work_128 : decode cX6_work 128 = .ok (.ifCond .ge 6, 3) := by decide +kernel
theorem dX6_work_131 : decode cX6_work 131 = .ok (.iload 6, 2) := by decide +kernel
theorem dX6_work_133 : decode cX6_work 133 = .ok (.ireturn, 1) := by decide +kernel
theorem dX6_work_134 : decode cX6_work 134 = .ok (.iload 4, 2) := by decide +kernel
theorem dX6_work_136 : decode cX6_work 136 = .ok (.iconst 2, 1) := by decide +kernel
theorem dX6_work_137 : decode cX6_work 137 = .ok (.if_icmp .le 19, 3) := by decide +kernel
theorem dX6_work_140 : decode cX6_work 140 = .ok (.aload_n 0, 1) := by decide +kernel
theorem dX6_work_141 : decode cX6_work 141 = .ok (.aload_n 0, 1) := by decide +kernel
theorem dX6_work_142 : decode cX6_work 142 = .ok (.getfield 12, 3) := by decide +kernel
theorem dX6_work_145 : decode cX6_work 145 = .ok (.getfield 83, 3) := by decide +kernel
theorem dX6_work_148 : decode cX6_work 148 = .ok (.iload_n 1, 1) := by decide +kernel
theorem dX6_work_149 : decode cX6_work 149 = .ok (.iaload, 1) := by decide +kernel
theorem dX6_work_150 : decode cX6_work 150 = .ok (.invokevirtual 41, 3) := by decide +kernel
theorem dX6_work_153 : decode cX6_work 153 = .ok (.goto 4, 3) := by decide +kernel
theorem dX6_work_156 : decode cX6_work 156 = .ok (.iload_n 2, 1) := by decide +kernel
theorem dX6_work_157 : decode cX6_work 157 = .ok (.istore 7, 2) := by decide +kernel
theorem dX6_work_159 : decode cX6_work 159 = .ok (.iload 7, 2) := by decide +kernel
theorem dX6_work_161 : decode cX6_work 161 = .ok (.ifCond .ge 6, 3) := by decide +kernel
theorem dX6_work_164 : decode cX6_work 164 = .ok (.iload 7, 2) := by decide +kernel
theorem dX6_work_166 : decode cX6_work 166 = .ok (.ireturn, 1) := by decide +kernel
theorem dX6_work_167 : decode cX6_work 167 = .ok (.iload_n 3, 1) := by decide +kernel
theorem dX6_work_168 : decode cX6_work 168 = .ok (.aload_n 0, 1) := by decide +kernel
theorem dX6_work_169 : decode cX6_work 169 = .ok (.getfield 26, 3) := by decide +kernel
theorem dX6_work_172 : decode cX6_work 172 = .ok (.iload 5, 2) := by decide +kernel
theorem dX6_work_174 : decode cX6_work 174 = .ok (.aaload, 1) := by decide +kernel
theorem dX6_work_175 : decode cX6_work 175 = .ok (.aload_n 0, 1) := by decide +kernel
theorem dX6_work_176 : decode cX6_work 176 = .ok (.getfield 26, 3) := by decide +kernel
theorem dX6_work_179 : decode cX6_work 179 = .ok (.iload 6, 2) := by decide +kernel
theorem dX6_work_181 : decode cX6_work 181 = .ok (.aaload, 1) := by decide +kernel
theorem dX6_work_182 : decode cX6_work 182 = .ok (.aload_n 0, 1) := by decide +kernel
theorem dX6_work_183 : decode cX6_work 183 = .ok (.getfield 26, 3) := by decide +kernel
theorem dX6_work_186 : decode cX6_work 186 = .ok (.iload 7, 2) := by decide +kernel
theorem dX6_work_188 : decode cX6_work 188 = .ok (.aaload, 1) := by decide +kernel
theorem dX6_work_189 : decode cX6_work 189 = .ok (.invokestatic 86, 3) := by decide +kernel
theorem dX6_work_192 : decode cX6_work 192 = .ok (.istore 8, 2) := by decide +kernel
theorem dX6_work_194 : decode cX6_work 194 = .ok (.iload 8, 2) := by decide +kernel
theorem dX6_work_196 : decode cX6_work 196 = .ok (.ifCond .ne 37, 3) := by decide +kernel
theorem dX6_work_199 : decode cX6_work 199 = .ok (.aload_n 0, 1) := by decide +kernel
theorem dX6_work_200 : decode cX6_work 200 = .ok (.iload_n 1, 1) := by decide +kernel
theorem dX6_work_201 : decode cX6_work 201 = .ok (.aload_n 0, 1) := by decide +kernel
theorem dX6_work_202 : decode cX6_work 202 = .ok (.getfield 26, 3) := by decide +kernel
theorem dX6_work_205 : decode cX6_work 205 = .ok (.iload_n 2, 1) := by decide +kernel
theorem dX6_work_206 : decode cX6_work 206 = .ok (.aaload, 1) := by decide +kernel
theorem dX6_work_207 : decode cX6_work 207 = .ok (.aload_n 0, 1) := by decide +kernel
theorem dX6_work_208 : decode cX6_work 208 = .ok (.getfield 26, 3) := by decide +kernel
theorem dX6_work_211 : decode cX6_work 211 = .ok (.iload 5, 2) := by decide +kernel
theorem dX6_work_213 : decode cX6_work 213 = .ok (.aaload, 1) := by decide +kernel
theorem dX6_work_214 : decode cX6_work 214 = .ok (.aload_n 0, 1) := by decide +kernel
theorem dX6_work_215 : decode cX6_work 215 = .ok (.getfield 26, 3) := by decide +kernel
theorem dX6_work_218 : decode cX6_work 218 = .ok (.iload 6, 2) := by decide +kernel
theorem dX6_work_220 : decode cX6_work 220 = .ok (.aaload, 1) := by decide +kernel
theorem dX6_work_221 : decode cX6_work 221 = .ok (.aload_n 0, 1) := by decide +kernel
theorem dX6_work_222 : decode cX6_work 222 = .ok (.getfield 26, 3) := by decide +kernel
theorem dX6_work_225 : decode cX6_work 225 = .ok (.iload 7, 2) := by decide +kernel
theorem dX6_work_227 : decode cX6_work 227 = .ok (.aaload, 1) := by decide +kernel
theorem dX6_work_228 : decode cX6_work 228 = .ok (.invokevirtual 90, 3) := by decide +kernel
theorem dX6_work_231 : decode cX6_work 231 = .ok (.istore 8, 2) := by decide +kernel
theorem dX6_work_233 : decode cX6_work 233 = .ok (.iload 8, 2) := by decide +kernel
theorem dX6_work_235 : decode cX6_work 235 = .ok (.ifCond .eq 9, 3) := by decide +kernel
theorem dX6_work_238 : decode cX6_work 238 = .ok (.iload 8, 2) := by decide +kernel
theorem dX6_work_240 : decode cX6_work 240 = .ok (.ineg, 1) := by decide +kernel
theorem dX6_work_241 : decode cX6_work 241 = .ok (.goto 4, 3) := by decide +kernel
theorem dX6_work_244 : decode cX6_work 244 = .ok (.iload_n 2, 1) := by decide +kernel
theorem dX6_work_245 : decode cX6_work 245 = .ok (.ireturn, 1) := by decide +kernel
theorem dX6_workChosen_0 : decode cX6_workChosen 0 = .ok (.iload_n 3, 1) := by decide +kernel
theorem dX6_workChosen_1 : decode cX6_workChosen 1 = .ok (.ifCond .ge 5, 3) := by decide +kernel
theorem dX6_workChosen_4 : decode cX6_workChosen 4 = .ok (.iload_n 3, 1) := by decide +kernel
theorem dX6_workChosen_5 : decode cX6_workChosen 5 = .ok (.ireturn, 1) := by decide +kernel
theorem dX6_workChosen_6 : decode cX6_workChosen 6 = .ok (.aload_n 0, 1) := by decide +kernel
theorem dX6_workChosen_7 : decode cX6_workChosen 7 = .ok (.getfield 26, 3) := by decide +kernel
theorem dX6_workChosen_10 : decode cX6_workChosen 10 = .ok (.iload_n 3, 1) := by decide +kernel
theorem dX6_workChosen_11 : decode cX6_workChosen 11 = .ok (.aaload, 1) := by decide +kernel
theorem dX6_workChosen_12 : decode cX6_workChosen 12 = .ok (.getfield 48, 3) := by decide +kernel
theorem dX6_workChosen_15 : decode cX6_workChosen 15 = .ok (.ifCond .eq 7, 3) := by decide +kernel
theorem dX6_workChosen_18 : decode cX6_workChosen 18 = .ok (.iconst 1, 1) := by decide +kernel
theorem dX6_workChosen_19 : decode cX6_workChosen 19 = .ok (.goto 4, 3) := by decide +kernel
theorem dX6_workChosen_22 : decode cX6_workChosen 22 = .ok (.iconst 0, 1) := by decide +kernel
theorem dX6_workChosen_23 : decode cX6_workChosen 23 = .ok (.istore 4, 2) := by decide +kernel
theorem dX6_workChosen_25 : decode cX6_workChosen 25 = .ok (.aload_n 0, 1) := by decide +kernel
theorem dX6_workChosen_26 : decode cX6_workChosen 26 = .ok (.getfield 12, 3) := by decide +kernel
theorem dX6_workChosen_29 : decode cX6_workChosen 29 = .ok (.getfield 66, 3) := by decide +kernel
theorem dX6_workChosen_32 : decode cX6_workChosen 32 = .ok (.iload_n 1, 1) := by decide +kernel
theorem dX6_workChosen_33 : decode cX6_workChosen 33 = .ok (.iaload, 1) := by decide +kernel
theorem dX6_workChosen_34 : decode cX6_workChosen 34 = .ok (.bipush 19, 2) := by decide +kernel
theorem dX6_workChosen_36 : decode cX6_workChosen 36 = .ok (.if_icmp .ne 34, 3) := by decide +kernel
theorem dX6_workChosen_39 : decode cX6_workChosen 39 = .ok (.aload_n 0, 1) := by decide +kernel
theorem dX6_workChosen_40 : decode cX6_workChosen 40 = .ok (.iload 4, 2) := by decide +kernel
theorem dX6_workChosen_42 : decode cX6_workChosen 42 = .ok (.ifCond .eq 15, 3) := by decide +kernel
theorem dX6_workChosen_45 : decode cX6_workChosen 45 = .ok (.aload_n 0, 1) := by decide +kernel
theorem dX6_workChosen_46 : decode cX6_workChosen 46 = .ok (.getfield 12, 3) := by decide +kernel
theorem dX6_workChosen_49 : decode cX6_workChosen 49 = .ok (.getfield 80, 3) := by decide +kernel
theorem dX6_workChosen_52 : decode cX6_workChosen 52 = .ok (.iload_n 1, 1) := by decide +kernel
theorem dX6_workChosen_53 : decode cX6_workChosen 53 = .ok (.iaload, 1) := by decide +kernel
theorem dX6_workChosen_54 : decode cX6_workChosen 54 = .ok (.goto 12, 3) := by decide +kernel
theorem dX6_workChosen_57 : decode cX6_workChosen 57 = .ok (.aload_n 0, 1) := by decide +kernel
theorem dX6_workChosen_58 : decode cX6_workChosen 58 = .ok (.getfield 12, 3) := by decide +kernel
theorem dX6_workChosen_61 : decode cX6_workChosen 61 = .ok (.getfield 83, 3) := by decide +kernel
theorem dX6_workChosen_64 : decode cX6_workChosen 64 = .ok (.iload_n 1, 1) := by decide +kernel
theorem dX6_workChosen_65 : decode cX6_workChosen 65 = .ok (.iaload, 1) := by decide +kernel
theorem dX6_workChosen_66 : decode cX6_workChosen 66 = .ok (.invokevirtual 41, 3) := by decide +kernel
theorem dX6_workChosen_69 : decode cX6_workChosen 69 = .ok (.ireturn, 1) := by decide +kernel
theorem dX6_workChosen_70 : decode cX6_workChosen 70 = .ok (.iload 4, 2) := by decide +kernel
theorem dX6_workChosen_72 : decode cX6_workChosen 72 = .ok (.ifCond .eq 50, 3) := by decide +kernel
theorem dX6_workChosen_75 : decode cX6_workChosen 75 = .ok (.aload_n 0, 1) := by decide +kernel
theorem dX6_workChosen_76 : decode cX6_workChosen 76 = .ok (.aload_n 0, 1) := by decide +kernel
theorem dX6_workChosen_77 : decode cX6_workChosen 77 = .ok (.aload_n 0, 1) := by decide +kernel
theorem dX6_workChosen_78 : decode cX6_workChosen 78 = .ok (.getfield 12, 3) := by decide +kernel
theorem dX6_workChosen_81 : decode cX6_workChosen 81 = .ok (.getfield 80, 3) := by decide +kernel
theorem dX6_workChosen_84 : decode cX6_workChosen 84 = .ok (.iload_n 1, 1) := by decide +kernel
theorem dX6_workChosen_85 : decode cX6_workChosen 85 = .ok (.iaload, 1) := by decide +kernel
theorem dX6_workChosen_86 : decode cX6_workChosen 86 = .ok (.invokevirtual 41, 3) := by decide +kernel
theorem dX6_workChosen_89 : decode cX6_workChosen 89 = .ok (.invokevirtual 45, 3) := by decide +kernel
theorem dX6_workChosen_92 : decode cX6_workChosen 92 = .ok (.istore 5, 2) := by decide +kernel
theorem dX6_workChosen_94 : decode cX6_workChosen 94 = .ok (.iload 5, 2) := by decide +kernel
theorem dX6_workChosen_96 : decode cX6_workChosen 96 = .ok (.ifCond .ge 6, 3) := by decide +kernel
theorem dX6_workChosen_99 : decode cX6_workChosen 99 = .ok (.iload 5, 2) := by decide +kernel
theorem dX6_workChosen_101 : decode cX6_workChosen 101 = .ok (.ireturn, 1) := by decide +kernel
theorem dX6_workChosen_102 : decode cX6_workChosen 102 = .ok (.aload_n 0, 1) := by decide +kernel
theorem dX6_workChosen_103 : decode cX6_workChosen 103 = .ok (.getfield 26, 3) := by decide +kernel
theorem dX6_workChosen_106 : decode cX6_workChosen 106 = .ok (.iload 5, 2) := by decide +kernel
theorem dX6_workChosen_108 : decode cX6_workChosen 108 = .ok (.aaload, 1) := by decide +kernel
theorem dX6_workChosen_109 : decode cX6_workChosen 109 = .ok (.getfield 48, 3) := by decide +kernel
theorem dX6_workChosen_112 : decode cX6_workChosen 112 = .ok (.ifCond .eq 7, 3) := by decide +kernel
theorem dX6_workChosen_115 : decode cX6_workChosen 115 = .ok (.iconst 1, 1) := by decide +kernel
theorem dX6_workChosen_116 : decode cX6_workChosen 116 = .ok (.goto 4, 3) := by decide +kernel
theorem dX6_workChosen_119 : decode cX6_workChosen 119 = .ok (.iconst 0, 1) := by decide +kernel
theorem dX6_workChosen_120 : decode cX6_workChosen 120 = .ok (.istore 4, 2) := by decide +kernel
theorem dX6_workChosen_122 : decode cX6_workChosen 122 = .ok (.aload_n 0, 1) := by decide +kernel
theorem dX6_workChosen_123 : decode cX6_workChosen 123 = .ok (.getfield 26, 3) := by decide +kernel
theorem dX6_workChosen_126 : decode cX6_workChosen 126 = .ok (.iload_n 2, 1) := by decide +kernel
theorem dX6_workChosen_127 : decode cX6_workChosen 127 = .ok (.aaload, 1) := by decide +kernel
theorem dX6_workChosen_128 : decode cX6_workChosen 128 = .ok (.iload 4, 2) := by decide +kernel
theorem dX6_workChosen_130 : decode cX6_workChosen 130 = .ok (.invokestatic 94, 3) := by decide +kernel
theorem dX6_workChosen_133 : decode cX6_workChosen 133 = .ok (.iload_n 2, 1) := by decide +kernel
theorem dX6_workChosen_134 : decode cX6_workChosen 134 = .ok (.ireturn, 1) := by decide +kernel
theorem dX6_lookAtAll_0 : decode cX6_lookAtAll 0 = .ok (.aload_n 1, 1) := by decide +kernel
theorem dX6_lookAtAll_1 : decode cX6_lookAtAll 1 = .ok (.getstatic 98, 3) := by decide +kernel
theorem dX6_lookAtAll_4 : decode cX6_lookAtAll 4 = .ok (.iload_n 0, 1) := by decide +kernel
theorem dX6_lookAtAll_5 : decode cX6_lookAtAll 5 = .ok (.iaload, 1) := by decide +kernel
theorem dX6_lookAtAll_6 : decode cX6_lookAtAll 6 = .ok (.invokestatic 62, 3) := by decide +kernel
theorem dX6_lookAtAll_9 : decode cX6_lookAtAll 9 = .ok (.istore 4, 2) := by decide +kernel
theorem dX6_lookAtAll_11 : decode cX6_lookAtAll 11 = .ok (.iload 4, 2) := by decide +kernel
theorem dX6_lookAtAll_13 : decode cX6_lookAtAll 13 = .ok (.ifCond .ne 30, 3) := by decide +kernel
theorem dX6_lookAtAll_16 : decode cX6_lookAtAll 16 = .ok (.aload_n 2, 1) := by decide +kernel
theorem dX6_lookAtAll_17 : decode cX6_lookAtAll 17 = .ok (.getstatic 101, 3) := by decide +kernel
theorem dX6_lookAtAll_20 : decode cX6_lookAtAll 20 = .ok (.iload_n 0, 1) := by decide +kernel
theorem dX6_lookAtAll_21 : decode cX6_lookAtAll 21 = .ok (.iaload, 1) := by decide +kernel
theorem dX6_lookAtAll_22 : decode cX6_lookAtAll 22 = .ok (.iconst 3, 1) := by decide +kernel
theorem dX6_lookAtAll_23 : decode cX6_lookAtAll 23 = .ok (.if_icmp .ne 10, 3) := by decide +kernel
theorem dX6_lookAtAll_26 : decode cX6_lookAtAll 26 = .ok (.aload_n 1, 1) := by decide +kernel
theorem dX6_lookAtAll_27 : decode cX6_lookAtAll 27 = .ok (.getfield 104, 3) := by decide +kernel
theorem dX6_lookAtAll_30 : decode cX6_lookAtAll 30 = .ok (.goto 8, 3) := by decide +kernel
theorem dX6_lookAtAll_33 : decode cX6_lookAtAll 33 = .ok (.getstatic 101, 3) := by decide +kernel
theorem dX6_lookAtAll_36 : decode cX6_lookAtAll 36 = .ok (.iload_n 0, 1) := by decide +kernel
theorem dX6_lookAtAll_37 : decode cX6_lookAtAll 37 = .ok (.iaload, 1) := by decide +kernel
theorem dX6_lookAtAll_38 : decode cX6_lookAtAll 38 = .ok (.invokestatic 62, 3) := by decide +kernel
theorem dX6_lookAtAll_41 : decode cX6_lookAtAll 41 = .ok (.istore 4, 2) := by decide +kernel
theorem dX6_lookAtAll_43 : decode cX6_lookAtAll 43 = .ok (.iload 4, 2) := by decide +kernel
theorem dX6_lookAtAll_45 : decode cX6_lookAtAll 45 = .ok (.ifCond .ne 14, 3) := by decide +kernel
theorem dX6_lookAtAll_48 : decode cX6_lookAtAll 48 = .ok (.aload_n 3, 1) := by decide +kernel
theorem dX6_lookAtAll_49 : decode cX6_lookAtAll 49 = .ok (.getstatic 107, 3) := by decide +kernel
theorem dX6_lookAtAll_52 : decode cX6_lookAtAll 52 = .ok (.iload_n 0, 1) := by decide +kernel
theorem dX6_lookAtAll_53 : decode cX6_lookAtAll 53 = .ok (.iaload, 1) := by decide +kernel
theorem dX6_lookAtAll_54 : decode cX6_lookAtAll 54 = .ok (.invokestatic 62, 3) := by decide +kernel
theorem dX6_lookAtAll_57 : decode cX6_lookAtAll 57 = .ok (.istore 4, 2) := by decide +kernel
theorem dX6_lookAtAll_59 : decode cX6_lookAtAll 59 = .ok (.iload 4, 2) := by decide +kernel
theorem dX6_lookAtAll_61 : decode cX6_lookAtAll 61 = .ok (.ireturn, 1) := by decide +kernel
theorem dX6_lookAt_0 : decode cX6_lookAt 0 = .ok (.iload_n 1, 1) := by decide +kernel
theorem dX6_lookAt_1 : decode cX6_lookAt 1 = .ok (.iconst 4, 1) := by decide +kernel
theorem dX6_lookAt_2 : decode cX6_lookAt 2 = .ok (.if_icmp .ne 5, 3) := by decide +kernel
theorem dX6_lookAt_5 : decode cX6_lookAt 5 = .ok (.iconst 0, 1) := by decide +kernel
theorem dX6_lookAt_6 : decode cX6_lookAt 6 = .ok (.ireturn, 1) := by decide +kernel
theorem dX6_lookAt_7 : decode cX6_lookAt 7 = .ok (.aload_n 0, 1) := by decide +kernel
theorem dX6_lookAt_8 : decode cX6_lookAt 8 = .ok (.getfield 104, 3) := by decide +kernel
theorem dX6_lookAt_11 : decode cX6_lookAt 11 = .ok (.iconst (-1), 1) := by decide +kernel
theorem dX6_lookAt_12 : decode cX6_lookAt 12 = .ok (.if_icmp .ne 5, 3) := by decide +kernel
theorem dX6_lookAt_15 : decode cX6_lookAt 15 = .ok (.iconst 1, 1) := by decide +kernel
theorem dX6_lookAt_16 : decode cX6_lookAt 16 = .ok (.ireturn, 1) := by decide +kernel
theorem dX6_lookAt_17 : decode cX6_lookAt 17 = .ok (.iload_n 1, 1) := by decide +kernel
theorem dX6_lookAt_18 : decode cX6_lookAt 18 = .ok (.iconst 2, 1) := by decide +kernel
theorem dX6_lookAt_19 : decode cX6_lookAt 19 = .ok (.if_icmp .eq 11, 3) := by decide +kernel
theorem dX6_lookAt_22 : decode cX6_lookAt 22 = .ok (.aload_n 0, 1) := by decide +kernel
theorem dX6_lookAt_23 : decode cX6_lookAt 23 = .ok (.getfield 104, 3) := by decide +kernel
theorem dX6_lookAt_26 : decode cX6_lookAt 26 = .ok (.iload_n 1, 1) := by decide +kernel
theorem dX6_lookAt_27 : decode cX6_lookAt 27 = .ok (.if_icmp .ne 7, 3) := by decide +kernel
theorem dX6_lookAt_30 : decode cX6_lookAt 30 = .ok (.iconst 0, 1) := by decide +kernel
theorem dX6_lookAt_31 : decode cX6_lookAt 31 = .ok (.goto 4, 3) := by decide +kernel
theorem dX6_lookAt_34 : decode cX6_lookAt 34 = .ok (.iconst 4, 1) := by decide +kernel
theorem dX6_lookAt_35 : decode cX6_lookAt 35 = .ok (.ireturn, 1) := by decide +kernel
theorem dX6_comeTo_0 : decode cX6_comeTo 0 = .ok (.aload_n 0, 1) := by decide +kernel
theorem dX6_comeTo_1 : decode cX6_comeTo 1 = .ok (.getfield 12, 3) := by decide +kernel
theorem dX6_comeTo_4 : decode cX6_comeTo 4 = .ok (.getfield 66, 3) := by decide +kernel
theorem dX6_comeTo_7 : decode cX6_comeTo 7 = .ok (.iload_n 1, 1) := by decide +kernel
theorem dX6_comeTo_8 : decode cX6_comeTo 8 = .ok (.iaload, 1) := by decide +kernel
theorem dX6_comeTo_9 : decode cX6_comeTo 9 = .ok (.istore 6, 2) := by decide +kernel
theorem dX6_comeTo_11 : decode cX6_comeTo 11 = .ok (.iload 6, 2) := by decide +kernel
theorem dX6_comeTo_13 : decode cX6_comeTo 13 = .ok (.tableswitch 238 0 18 #[91, 111, 126, 238, 238, 238, 238, 238, 238, 132, 144, 155, 165, 174, 190, 198, 214, 221, 228], 91) := by decide +kernel
theorem dX6_comeTo_104 : decode cX6_comeTo 104 = .ok (.aload_n 2, 1) := by decide +kernel
theorem dX6_comeTo_105 : decode cX6_comeTo 105 = .ok (.aload_n 0, 1) := by decide +kernel
theorem dX6_comeTo_106 : decode cX6_comeTo 106 = .ok (.getfield 22, 3) := by decide +kernel
theorem dX6_comeTo_109 : decode cX6_comeTo 109 = .ok (.aload_n 0, 1) := by decide +kernel
theorem dX6_comeTo_110 : decode cX6_comeTo 110 = .ok (.getfield 12, 3) := by decide +kernel
theorem dX6_comeTo_113 : decode cX6_comeTo 113 = .ok (.getfield 110, 3) := by decide +kernel
theorem dX6_comeTo_116 : decode cX6_comeTo 116 = .ok (.iload_n 1, 1) := by decide +kernel
theorem dX6_comeTo_117 : decode cX6_comeTo 117 = .ok (.iaload, 1) := by decide +kernel
theorem dX6_comeTo_118 : decode cX6_comeTo 118 = .ok (.aaload, 1) := by decide +kernel
theorem dX6_comeTo_119 : decode cX6_comeTo 119 = .ok (.invokevirtual 113, 3) := by decide +kernel
theorem dX6_comeTo_122 : decode cX6_comeTo 122 = .ok (.iconst 0, 1) := by decide +kernel
theorem dX6_comeTo_123 : decode cX6_comeTo 123 = .ok (.ireturn, 1) := by decide +kernel
theorem dX6_comeTo_124 : decode cX6_comeTo 124 = .ok (.aload_n 2, 1) := by decide +kernel
theorem dX6_comeTo_125 : decode cX6_comeTo 125 = .ok (.aload_n 0, 1) := by decide +kernel
theorem dX6_comeTo_126 : decode cX6_comeTo 126 = .ok (.getfield 12, 3) := by decide +kernel
theorem dX6_comeTo_129 : decode cX6_comeTo 129 = .ok (.getfield 110, 3) := by decide +kernel
theorem dX6_comeTo_132 : decode cX6_comeTo 132 = .ok (.iload_n 1, 1) := by decide +kernel
theorem dX6_comeTo_133 : decode cX6_comeTo 133 = .ok (.iaload, 1) := by decide +kernel
theorem dX6_comeTo_134 : decode cX6_comeTo 134 = .ok (.invokevirtual 117, 3) := by decide +kernel
theorem dX6_comeTo_137 : decode cX6_comeTo 137 = .ok (.iconst 0, 1) := by decide +kernel
theorem dX6_comeTo_138 : decode cX6_comeTo 138 = .ok (.ireturn, 1) := by decide +kernel
theorem dX6_comeTo_139 : decode cX6_comeTo 139 = .ok (.aload_n 2, 1) := by decide +kernel
theorem dX6_comeTo_140 : decode cX6_comeTo 140 = .ok (.invokevirtual 121, 3) := by decide +kernel
theorem dX6_comeTo_143 : decode cX6_comeTo 143 = .ok (.iconst 0, 1) := by decide +kernel
theorem dX6_comeTo_144 : decode cX6_comeTo 144 = .ok (.ireturn, 1) := by decide +kernel
theorem dX6_comeTo_145 : decode cX6_comeTo 145 = .ok (.aload_n 2, 1) := by decide +kernel
theorem dX6_comeTo_146 : decode cX6_comeTo 146 = .ok (.aload_n 3, 1) := by decide +kernel
theorem dX6_comeTo_147 : decode cX6_comeTo 147 = .ok (.aload 4, 2) := by decide +kernel
theorem dX6_comeTo_149 : decode cX6_comeTo 149 = .ok (.invokestatic 124, 3) := by decide +kernel
theorem dX6_comeTo_152 : decode cX6_comeTo 152 = .ok (.invokestatic 94, 3) := by decide +kernel
theorem dX6_comeTo_155 : decode cX6_comeTo 155 = .ok (.iconst 0, 1) := by decide +kernel
theorem dX6_comeTo_156 : decode cX6_comeTo 156 = .ok (.ireturn, 1) := by decide +kernel
theorem dX6_comeTo_157 : decode cX6_comeTo 157 = .ok (.aload_n 2, 1) := by decide +kernel
theorem dX6_comeTo_158 : decode cX6_comeTo 158 = .ok (.aload_n 3, 1) := by decide +kernel
theorem dX6_comeTo_159 : decode cX6_comeTo 159 = .ok (.aload 4, 2) := by decide +kernel
theorem dX6_comeTo_161 : decode cX6_comeTo 161 = .ok (.getfield 48, 3) := by decide +kernel
theorem dX6_comeTo_164 : decode cX6_comeTo 164 = .ok (.invokestatic 128, 3) := by decide +kernel
theorem dX6_comeTo_167 : decode cX6_comeTo 167 = .ok (.ireturn, 1) := by decide +kernel
theorem dX6_comeTo_168 : decode cX6_comeTo 168 = .ok (.aload_n 2, 1) := by decide +kernel
theorem dX6_comeTo_169 : decode cX6_comeTo 169 = .ok (.aload_n 3, 1) := by decide +kernel
theorem dX6_comeTo_170 : decode cX6_comeTo 170 = .ok (.getfield 132, 3) := by decide +kernel
theorem dX6_comeTo_173 : decode cX6_comeTo 173 = .ok (.invokevirtual 117, 3) := by decide +kernel
theorem dX6_comeTo_176 : decode cX6_comeTo 176 = .ok (.iconst 0, 1) := by decide +kernel
theorem dX6_comeTo_177 : decode cX6_comeTo 177 = .ok (.ireturn, 1) := by decide +kernel
theorem dX6_comeTo_178 : decode cX6_comeTo 178 = .ok (.aload_n 2, 1) := by decide +kernel
theorem dX6_comeTo_179 : decode cX6_comeTo 179 = .ok (.aload_n 3, 1) := by decide +kernel
theorem dX6_comeTo_180 : decode cX6_comeTo 180 = .ok (.getfield 48, 3) := by decide +kernel
theorem dX6_comeTo_183 : decode cX6_comeTo 183 = .ok (.invokestatic 135, 3) := by decide +kernel
theorem dX6_comeTo_186 : decode cX6_comeTo 186 = .ok (.ireturn, 1) := by decide +kernel
theorem dX6_comeTo_187 : decode cX6_comeTo 187 = .ok (.aload_n 2, 1) := by decide +kernel
theorem dX6_comeTo_188 : decode cX6_comeTo 188 = .ok (.aload_n 3, 1) := by decide +kernel
theorem dX6_comeTo_189 : decode cX6_comeTo 189 = .ok (.aload 4, 2) := by decide +kernel
theorem dX6_comeTo_191 : decode cX6_comeTo 191 = .ok (.getfield 48, 3) := by decide +kernel
theorem dX6_comeTo_194 : decode cX6_comeTo 194 = .ok (.aload 5, 2) := by decide +kernel
theorem dX6_comeTo_196 : decode cX6_comeTo 196 = .ok (.getfield 48, 3) := by decide +kernel
theorem dX6_comeTo_199 : decode cX6_comeTo 199 = .ok (.invokestatic 138, 3) := by decide +kernel
theorem dX6_comeTo_202 : decode cX6_comeTo 202 = .ok (.ireturn, 1) := by decide +kernel
theorem dX6_comeTo_203 : decode cX6_comeTo 203 = .ok (.aload_n 2, 1) := by decide +kernel
theorem dX6_comeTo_204 : decode cX6_comeTo 204 = .ok (.aload_n 3, 1) := by decide +kernel
theorem dX6_comeTo_205 : decode cX6_comeTo 205 = .ok (.aload 4, 2) := by decide +kernel
theorem dX6_comeTo_207 : decode cX6_comeTo 207 = .ok (.invokestatic 142, 3) := by decide +kernel
theorem dX6_comeTo_210 : decode cX6_comeTo 210 = .ok (.ireturn, 1) := by decide +kernel
theorem dX6_comeTo_211 : decode cX6_comeTo 211 = .ok (.aload_n 2, 1) := by decide +kernel
theorem dX6_comeTo_212 : decode cX6_comeTo 212 = .ok (.aload_n 3, 1) := by decide +kernel
theorem dX6_comeTo_213 : decode cX6_comeTo 213 = .ok (.aload 4, 2) := by decide +kernel
theorem dX6_comeTo_215 : decode cX6_comeTo 215 = .ok (.getfield 48, 3) := by decide +kernel
theorem dX6_comeTo_218 : decode cX6_comeTo 218 = .ok (.aload 5, 2) := by decide +kernel
theorem dX6_comeTo_220 : decode cX6_comeTo 220 = .ok (.getfield 48, 3) := by decide +kernel
theorem dX6_comeTo_223 : decode cX6_comeTo 223 = .ok (.invokestatic 146, 3) := by decide +kernel
theorem dX6_comeTo_226 : decode cX6_comeTo 226 = .ok (.ireturn, 1) := by decide +kernel
theorem dX6_comeTo_227 : decode cX6_comeTo 227 = .ok (.aload_n 2, 1) := by decide +kernel
theorem dX6_comeTo_228 : decode cX6_comeTo 228 = .ok (.aload_n 3, 1) := by decide +kernel
theorem dX6_comeTo_229 : decode cX6_comeTo 229 = .ok (.invokestatic 149, 3) := by decide +kernel
theorem dX6_comeTo_232 : decode cX6_comeTo 232 = .ok (.iconst 0, 1) := by decide +kernel
theorem dX6_comeTo_233 : decode cX6_comeTo 233 = .ok (.ireturn, 1) := by decide +kernel
theorem dX6_comeTo_234 : decode cX6_comeTo 234 = .ok (.aload_n 2, 1) := by decide +kernel
theorem dX6_comeTo_235 : decode cX6_comeTo 235 = .ok (.aload_n 3, 1) := by decide +kernel
theorem dX6_comeTo_236 : decode cX6_comeTo 236 = .ok (.invokestatic 153, 3) := by decide +kernel
theorem dX6_comeTo_239 : decode cX6_comeTo 239 = .ok (.iconst 0, 1) := by decide +kernel
theorem dX6_comeTo_240 : decode cX6_comeTo 240 = .ok (.ireturn, 1) := by decide +kernel
theorem dX6_comeTo_241 : decode cX6_comeTo 241 = .ok (.aload_n 2, 1) := by decide +kernel
theorem dX6_comeTo_242 : decode cX6_comeTo 242 = .ok (.aload_n 3, 1) := by decide +kernel
theorem dX6_comeTo_243 : decode cX6_comeTo 243 = .ok (.invokestatic 156, 3) := by decide +kernel
theorem dX6_comeTo_246 : decode cX6_comeTo 246 = .ok (.invokevirtual 117, 3) := by decide +kernel
theorem dX6_comeTo_249 : decode cX6_comeTo 249 = .ok (.iconst 0, 1) := by decide +kernel
theorem dX6_comeTo_250 : decode cX6_comeTo 250 = .ok (.ireturn, 1) := by decide +kernel
theorem dX6_comeTo_251 : decode cX6_comeTo 251 = .ok (.aload_n 2, 1) := by decide +kernel
theorem dX6_comeTo_252 : decode cX6_comeTo 252 = .ok (.iload 6, 2) := by decide +kernel
theorem dX6_comeTo_254 : decode cX6_comeTo 254 = .ok (.aload_n 3, 1) := by decide +kernel
theorem dX6_comeTo_255 : decode cX6_comeTo 255 = .ok (.getfield 48, 3) := by decide +kernel
theorem dX6_comeTo_258 : decode cX6_comeTo 258 = .ok (.aload 4, 2) := by decide +kernel
theorem dX6_comeTo_260 : decode cX6_comeTo 260 = .ok (.getfield 48, 3) := by decide +kernel
theorem dX6_comeTo_263 : decode cX6_comeTo 263 = .ok (.invokestatic 160, 3) := by decide +kernel
theorem dX6_comeTo_266 : decode cX6_comeTo 266 = .ok (.ireturn, 1) := by decide +kernel
theorem dX6_setTruth_0 : decode cX6_setTruth 0 = .ok (.aload_n 0, 1) := by decide +kernel
theorem dX6_setTruth_1 : decode cX6_setTruth 1 = .ok (.iload_n 1, 1) := by decide +kernel
theorem dX6_setTruth_2 : decode cX6_setTruth 2 = .ok (.ifCond .eq 7, 3) := by decide +kernel
theorem dX6_setTruth_5 : decode cX6_setTruth 5 = .ok (.iconst 1, 1) := by decide +kernel
theorem dX6_setTruth_6 : decode cX6_setTruth 6 = .ok (.goto 4, 3) := by decide +kernel
theorem dX6_setTruth_9 : decode cX6_setTruth 9 = .ok (.iconst 0, 1) := by decide +kernel
theorem dX6_setTruth_10 : decode cX6_setTruth 10 = .ok (.invokevirtual 117, 3) := by decide +kernel
theorem dX6_setTruth_13 : decode cX6_setTruth 13 = .ok (.return_, 1) := by decide +kernel
theorem dX6_setOfWholes_0 : decode cX6_setOfWholes 0 = .ok (.iload_n 1, 1) := by decide +kernel
theorem dX6_setOfWholes_1 : decode cX6_setOfWholes 1 = .ok (.bipush 6, 2) := by decide +kernel
theorem dX6_setOfWholes_3 : decode cX6_setOfWholes 3 = .ok (.if_icmp .eq 9, 3) := by decide +kernel
theorem dX6_setOfWholes_6 : decode cX6_setOfWholes 6 = .ok (.iload_n 1, 1) := by decide +kernel
theorem dX6_setOfWholes_7 : decode cX6_setOfWholes 7 = .ok (.bipush 7, 2) := by decide +kernel
theorem dX6_setOfWholes_9 : decode cX6_setOfWholes 9 = .ok (.if_icmp .ne 9, 3) := by decide +kernel
theorem dX6_setOfWholes_12 : decode cX6_setOfWholes 12 = .ok (.iload_n 3, 1) := by decide +kernel
theorem dX6_setOfWholes_13 : decode cX6_setOfWholes 13 = .ok (.ifCond .ne 5, 3) := by decide +kernel
theorem dX6_setOfWholes_16 : decode cX6_setOfWholes 16 = .ok (.iconst 5, 1) := by decide +kernel
theorem dX6_setOfWholes_17 : decode cX6_setOfWholes 17 = .ok (.ireturn, 1) := by decide +kernel
theorem dX6_setOfWholes_18 : decode cX6_setOfWholes 18 = .ok (.iload_n 1, 1) := by decide +kernel
theorem dX6_setOfWholes_19 : decode cX6_setOfWholes 19 = .ok (.tableswitch 83 3 7 #[33, 43, 53, 63, 73], 33) := by decide +kernel
theorem dX6_setOfWholes_52 : decode cX6_setOfWholes 52 = .ok (.aload_n 0, 1) := by decide +kernel
theorem dX6_setOfWholes_53 : decode cX6_setOfWholes 53 = .ok (.iload_n 2, 1) := by decide +kernel
theorem dX6_setOfWholes_54 : decode cX6_setOfWholes 54 = .ok (.iload_n 3, 1) := by decide +kernel
theorem dX6_setOfWholes_55 : decode cX6_setOfWholes 55 = .ok (.iadd, 1) := by decide +kernel
theorem dX6_setOfWholes_56 : decode cX6_setOfWholes 56 = .ok (.invokevirtual 117, 3) := by decide +kernel
theorem dX6_setOfWholes_59 : decode cX6_setOfWholes 59 = .ok (.goto 57, 3) := by decide +kernel
theorem dX6_setOfWholes_62 : decode cX6_setOfWholes 62 = .ok (.aload_n 0, 1) := by decide +kernel
theorem dX6_setOfWholes_63 : decode cX6_setOfWholes 63 = .ok (.iload_n 2, 1) := by decide +kernel
theorem dX6_setOfWholes_64 : decode cX6_setOfWholes 64 = .ok (.iload_n 3, 1) := by decide +kernel
theorem dX6_setOfWholes_65 : decode cX6_setOfWholes 65 = .ok (.isub, 1) := by decide +kernel
theorem dX6_setOfWholes_66 : decode cX6_setOfWholes 66 = .ok (.invokevirtual 117, 3) := by decide +kernel
theorem dX6_setOfWholes_69 : decode cX6_setOfWholes 69 = .ok (.goto 47, 3) := by decide +kernel
theorem dX6_setOfWholes_72 : decode cX6_setOfWholes 72 = .ok (.aload_n 0, 1) := by decide +kernel
theorem dX6_setOfWholes_73 : decode cX6_setOfWholes 73 = .ok (.iload_n 2, 1) := by decide +kernel
theorem dX6_setOfWholes_74 : decode cX6_setOfWholes 74 = .ok (.iload_n 3, 1) := by decide +kernel
theorem dX6_setOfWholes_75 : decode cX6_setOfWholes 75 = .ok (.imul, 1) := by decide +kernel
theorem dX6_setOfWholes_76 : decode cX6_setOfWholes 76 = .ok (.invokevirtual 117, 3) := by decide +kernel
theorem dX6_setOfWholes_79 : decode cX6_setOfWholes 79 = .ok (.goto 37, 3) := by decide +kernel
theorem dX6_setOfWholes_82 : decode cX6_setOfWholes 82 = .ok (.aload_n 0, 1) := by decide +kernel
theorem dX6_setOfWholes_83 : decode cX6_setOfWholes 83 = .ok (.iload_n 2, 1) := by decide +kernel
theorem dX6_setOfWholes_84 : decode cX6_setOfWholes 84 = .ok (.iload_n 3, 1) := by decide +kernel
theorem dX6_setOfWholes_85 : decode cX6_setOfWholes 85 = .ok (.idiv, 1) := by decide +kernel
theorem dX6_setOfWholes_86 : decode cX6_setOfWholes 86 = .ok (.invokevirtual 117, 3) := by decide +kernel
theorem dX6_setOfWholes_89 : decode cX6_setOfWholes 89 = .ok (.goto 27, 3) := by decide +kernel
theorem dX6_setOfWholes_92 : decode cX6_setOfWholes 92 = .ok (.aload_n 0, 1) := by decide +kernel
theorem dX6_setOfWholes_93 : decode cX6_setOfWholes 93 = .ok (.iload_n 2, 1) := by decide +kernel
theorem dX6_setOfWholes_94 : decode cX6_setOfWholes 94 = .ok (.iload_n 3, 1) := by decide +kernel
theorem dX6_setOfWholes_95 : decode cX6_setOfWholes 95 = .ok (.irem, 1) := by decide +kernel
theorem dX6_setOfWholes_96 : decode cX6_setOfWholes 96 = .ok (.invokevirtual 117, 3) := by decide +kernel
theorem dX6_setOfWholes_99 : decode cX6_setOfWholes 99 = .ok (.goto 17, 3) := by decide +kernel
theorem dX6_setOfWholes_102 : decode cX6_setOfWholes 102 = .ok (.aload_n 0, 1) := by decide +kernel
theorem dX6_setOfWholes_103 : decode cX6_setOfWholes 103 = .ok (.iload_n 2, 1) := by decide +kernel
theorem dX6_setOfWholes_104 : decode cX6_setOfWholes 104 = .ok (.iload_n 3, 1) := by decide +kernel
theorem dX6_setOfWholes_105 : decode cX6_setOfWholes 105 = .ok (.if_icmp .ge 7, 3) := by decide +kernel
theorem dX6_setOfWholes_108 : decode cX6_setOfWholes 108 = .ok (.iconst 1, 1) := by decide +kernel
theorem dX6_setOfWholes_109 : decode cX6_setOfWholes 109 = .ok (.goto 4, 3) := by decide +kernel
theorem dX6_setOfWholes_112 : decode cX6_setOfWholes 112 = .ok (.iconst 0, 1) := by decide +kernel
theorem dX6_setOfWholes_113 : decode cX6_setOfWholes 113 = .ok (.invokestatic 94, 3) := by decide +kernel
theorem dX6_setOfWholes_116 : decode cX6_setOfWholes 116 = .ok (.iconst 0, 1) := by decide +kernel
theorem dX6_setOfWholes_117 : decode cX6_setOfWholes 117 = .ok (.ireturn, 1) := by decide +kernel
theorem dX6_areLike_0 : decode cX6_areLike 0 = .ok (.aload_n 0, 1) := by decide +kernel
theorem dX6_areLike_1 : decode cX6_areLike 1 = .ok (.getfield 104, 3) := by decide +kernel
theorem dX6_areLike_4 : decode cX6_areLike 4 = .ok (.ifCond .ne 20, 3) := by decide +kernel
theorem dX6_areLike_7 : decode cX6_areLike 7 = .ok (.aload_n 0, 1) := by decide +kernel
theorem dX6_areLike_8 : decode cX6_areLike 8 = .ok (.getfield 48, 3) := by decide +kernel
theorem dX6_areLike_11 : decode cX6_areLike 11 = .ok (.aload_n 1, 1) := by decide +kernel
theorem dX6_areLike_12 : decode cX6_areLike 12 = .ok (.getfield 48, 3) := by decide +kernel
theorem dX6_areLike_15 : decode cX6_areLike 15 = .ok (.if_icmp .ne 7, 3) := by decide +kernel
theorem dX6_areLike_18 : decode cX6_areLike 18 = .ok (.iconst 1, 1) := by decide +kernel
theorem dX6_areLike_19 : decode cX6_areLike 19 = .ok (.goto 4, 3) := by decide +kernel
theorem dX6_areLike_22 : decode cX6_areLike 22 = .ok (.iconst 0, 1) := by decide +kernel
theorem dX6_areLike_23 : decode cX6_areLike 23 = .ok (.ireturn, 1) := by decide +kernel
end
section
theorem dX6_areLike_24 : decode cX6_areLike 24 = .ok (.aload_n 0, 1) := by decide +kernel
theorem dX6_areLike_25 : decode cX6_areLike 25 = .ok (.getfield 132, 3) := by decide +kernel
theorem dX6_areLike_28 : decode cX6_areLike 28 = .ok (.aload_n 1, 1) := by decide +kernel
theorem dX6_areLike_29 : decode cX6_areLike 29 = .ok (.getfield 132, 3) := by decide +kernel
theorem dX6_areLike_32 : decode cX6_areLike 32 = .ok (.if_icmp .eq 5, 3) := by decide +kernel
theorem dX6_areLike_35 : decode cX6_areLike 35 = .ok (.iconst 0, 1) := by decide +kernel
theorem dX6_areLike_36 : decode cX6_areLike 36 = .ok (.ireturn, 1) := by decide +kernel
theorem dX6_areLike_37 : decode cX6_areLike 37 = .ok (.iconst 0, 1) := by decide +kernel
theorem dX6_areLike_38 : decode cX6_areLike 38 = .ok (.istore_n 2, 1) := by decide +kernel
theorem dX6_areLike_39 : decode cX6_areLike 39 = .ok (.iload_n 2, 1) := by decide +kernel
theorem dX6_areLike_40 : decode cX6_areLike 40 = .ok (.aload_n 0, 1) := by decide +kernel
theorem dX6_areLike_41 : decode cX6_areLike 41 = .ok (.getfield 132, 3) := by decide +kernel
theorem dX6_areLike_44 : decode cX6_areLike 44 = .ok (.if_icmp .ge 26, 3) := by decide +kernel
theorem dX6_areLike_47 : decode cX6_areLike 47 = .ok (.aload_n 0, 1) := by decide +kernel
theorem dX6_areLike_48 : decode cX6_areLike 48 = .ok (.getfield 164, 3) := by decide +kernel
theorem dX6_areLike_51 : decode cX6_areLike 51 = .ok (.iload_n 2, 1) := by decide +kernel
theorem dX6_areLike_52 : decode cX6_areLike 52 = .ok (.iaload, 1) := by decide +kernel
theorem dX6_areLike_53 : decode cX6_areLike 53 = .ok (.aload_n 1, 1) := by decide +kernel
theorem dX6_areLike_54 : decode cX6_areLike 54 = .ok (.getfield 164, 3) := by decide +kernel
theorem dX6_areLike_57 : decode cX6_areLike 57 = .ok (.iload_n 2, 1) := by decide +kernel
theorem dX6_areLike_58 : decode cX6_areLike 58 = .ok (.iaload, 1) := by decide +kernel
theorem dX6_areLike_59 : decode cX6_areLike 59 = .ok (.if_icmp .eq 5, 3) := by decide +kernel
theorem dX6_areLike_62 : decode cX6_areLike 62 = .ok (.iconst 0, 1) := by decide +kernel
theorem dX6_areLike_63 : decode cX6_areLike 63 = .ok (.ireturn, 1) := by decide +kernel
theorem dX6_areLike_64 : decode cX6_areLike 64 = .ok (.iinc 2 1, 3) := by decide +kernel
theorem dX6_areLike_67 : decode cX6_areLike 67 = .ok (.goto (-28), 3) := by decide +kernel
theorem dX6_areLike_70 : decode cX6_areLike 70 = .ok (.iconst 1, 1) := by decide +kernel
theorem dX6_areLike_71 : decode cX6_areLike 71 = .ok (.ireturn, 1) := by decide +kernel
theorem dX6_setAt_0 : decode cX6_setAt 0 = .ok (.aload_n 1, 1) := by decide +kernel
theorem dX6_setAt_1 : decode cX6_setAt 1 = .ok (.iload_n 2, 1) := by decide +kernel
theorem dX6_setAt_2 : decode cX6_setAt 2 = .ok (.invokevirtual 167, 3) := by decide +kernel
theorem dX6_setAt_5 : decode cX6_setAt 5 = .ok (.ifCond .ne 5, 3) := by decide +kernel
theorem dX6_setAt_8 : decode cX6_setAt 8 = .ok (.iconst 2, 1) := by decide +kernel
theorem dX6_setAt_9 : decode cX6_setAt 9 = .ok (.ireturn, 1) := by decide +kernel
theorem dX6_setAt_10 : decode cX6_setAt 10 = .ok (.aload_n 0, 1) := by decide +kernel
theorem dX6_setAt_11 : decode cX6_setAt 11 = .ok (.aload_n 1, 1) := by decide +kernel
theorem dX6_setAt_12 : decode cX6_setAt 12 = .ok (.getfield 164, 3) := by decide +kernel
theorem dX6_setAt_15 : decode cX6_setAt 15 = .ok (.iload_n 2, 1) := by decide +kernel
theorem dX6_setAt_16 : decode cX6_setAt 16 = .ok (.iaload, 1) := by decide +kernel
theorem dX6_setAt_17 : decode cX6_setAt 17 = .ok (.invokevirtual 117, 3) := by decide +kernel
theorem dX6_setAt_20 : decode cX6_setAt 20 = .ok (.iconst 0, 1) := by decide +kernel
theorem dX6_setAt_21 : decode cX6_setAt 21 = .ok (.ireturn, 1) := by decide +kernel
theorem dX6_setZeros_0 : decode cX6_setZeros 0 = .ok (.iload_n 1, 1) := by decide +kernel
theorem dX6_setZeros_1 : decode cX6_setZeros 1 = .ok (.ifCond .ge 5, 3) := by decide +kernel
theorem dX6_setZeros_4 : decode cX6_setZeros 4 = .ok (.iconst 3, 1) := by decide +kernel
theorem dX6_setZeros_5 : decode cX6_setZeros 5 = .ok (.ireturn, 1) := by decide +kernel
theorem dX6_setZeros_6 : decode cX6_setZeros 6 = .ok (.iload_n 1, 1) := by decide +kernel
theorem dX6_setZeros_7 : decode cX6_setZeros 7 = .ok (.bipush 16, 2) := by decide +kernel
theorem dX6_setZeros_9 : decode cX6_setZeros 9 = .ok (.if_icmp .le 6, 3) := by decide +kernel
theorem dX6_setZeros_12 : decode cX6_setZeros 12 = .ok (.bipush 6, 2) := by decide +kernel
theorem dX6_setZeros_14 : decode cX6_setZeros 14 = .ok (.ireturn, 1) := by decide +kernel
theorem dX6_setZeros_15 : decode cX6_setZeros 15 = .ok (.aload_n 0, 1) := by decide +kernel
theorem dX6_setZeros_16 : decode cX6_setZeros 16 = .ok (.iload_n 1, 1) := by decide +kernel
theorem dX6_setZeros_17 : decode cX6_setZeros 17 = .ok (.invokevirtual 171, 3) := by decide +kernel
theorem dX6_setZeros_20 : decode cX6_setZeros 20 = .ok (.iconst 0, 1) := by decide +kernel
theorem dX6_setZeros_21 : decode cX6_setZeros 21 = .ok (.istore_n 2, 1) := by decide +kernel
theorem dX6_setZeros_22 : decode cX6_setZeros 22 = .ok (.iload_n 2, 1) := by decide +kernel
theorem dX6_setZeros_23 : decode cX6_setZeros 23 = .ok (.iload_n 1, 1) := by decide +kernel
theorem dX6_setZeros_24 : decode cX6_setZeros 24 = .ok (.if_icmp .ge 16, 3) := by decide +kernel
theorem dX6_setZeros_27 : decode cX6_setZeros 27 = .ok (.aload_n 0, 1) := by decide +kernel
theorem dX6_setZeros_28 : decode cX6_setZeros 28 = .ok (.getfield 164, 3) := by decide +kernel
theorem dX6_setZeros_31 : decode cX6_setZeros 31 = .ok (.iload_n 2, 1) := by decide +kernel
theorem dX6_setZeros_32 : decode cX6_setZeros 32 = .ok (.iconst 0, 1) := by decide +kernel
theorem dX6_setZeros_33 : decode cX6_setZeros 33 = .ok (.iastore, 1) := by decide +kernel
theorem dX6_setZeros_34 : decode cX6_setZeros 34 = .ok (.iinc 2 1, 3) := by decide +kernel
theorem dX6_setZeros_37 : decode cX6_setZeros 37 = .ok (.goto (-15), 3) := by decide +kernel
theorem dX6_setZeros_40 : decode cX6_setZeros 40 = .ok (.iconst 0, 1) := by decide +kernel
theorem dX6_setZeros_41 : decode cX6_setZeros 41 = .ok (.ireturn, 1) := by decide +kernel
theorem dX6_setPut_0 : decode cX6_setPut 0 = .ok (.aload_n 1, 1) := by decide +kernel
theorem dX6_setPut_1 : decode cX6_setPut 1 = .ok (.iload_n 2, 1) := by decide +kernel
theorem dX6_setPut_2 : decode cX6_setPut 2 = .ok (.invokevirtual 167, 3) := by decide +kernel
theorem dX6_setPut_5 : decode cX6_setPut 5 = .ok (.ifCond .ne 5, 3) := by decide +kernel
theorem dX6_setPut_8 : decode cX6_setPut 8 = .ok (.iconst 2, 1) := by decide +kernel
theorem dX6_setPut_9 : decode cX6_setPut 9 = .ok (.ireturn, 1) := by decide +kernel
theorem dX6_setPut_10 : decode cX6_setPut 10 = .ok (.aload_n 0, 1) := by decide +kernel
theorem dX6_setPut_11 : decode cX6_setPut 11 = .ok (.aload_n 1, 1) := by decide +kernel
theorem dX6_setPut_12 : decode cX6_setPut 12 = .ok (.invokevirtual 113, 3) := by decide +kernel
theorem dX6_setPut_15 : decode cX6_setPut 15 = .ok (.aload_n 0, 1) := by decide +kernel
theorem dX6_setPut_16 : decode cX6_setPut 16 = .ok (.getfield 164, 3) := by decide +kernel
theorem dX6_setPut_19 : decode cX6_setPut 19 = .ok (.iload_n 2, 1) := by decide +kernel
theorem dX6_setPut_20 : decode cX6_setPut 20 = .ok (.iload_n 3, 1) := by decide +kernel
theorem dX6_setPut_21 : decode cX6_setPut 21 = .ok (.iastore, 1) := by decide +kernel
theorem dX6_setPut_22 : decode cX6_setPut 22 = .ok (.iconst 0, 1) := by decide +kernel
theorem dX6_setPut_23 : decode cX6_setPut 23 = .ok (.ireturn, 1) := by decide +kernel
theorem dX6_setJoined_0 : decode cX6_setJoined 0 = .ok (.aload_n 1, 1) := by decide +kernel
theorem dX6_setJoined_1 : decode cX6_setJoined 1 = .ok (.getfield 132, 3) := by decide +kernel
theorem dX6_setJoined_4 : decode cX6_setJoined 4 = .ok (.aload_n 2, 1) := by decide +kernel
theorem dX6_setJoined_5 : decode cX6_setJoined 5 = .ok (.getfield 132, 3) := by decide +kernel
theorem dX6_setJoined_8 : decode cX6_setJoined 8 = .ok (.iadd, 1) := by decide +kernel
theorem dX6_setJoined_9 : decode cX6_setJoined 9 = .ok (.bipush 16, 2) := by decide +kernel
theorem dX6_setJoined_11 : decode cX6_setJoined 11 = .ok (.if_icmp .le 6, 3) := by decide +kernel
theorem dX6_setJoined_14 : decode cX6_setJoined 14 = .ok (.bipush 6, 2) := by decide +kernel
theorem dX6_setJoined_16 : decode cX6_setJoined 16 = .ok (.ireturn, 1) := by decide +kernel
theorem dX6_setJoined_17 : decode cX6_setJoined 17 = .ok (.aload_n 0, 1) := by decide +kernel
theorem dX6_setJoined_18 : decode cX6_setJoined 18 = .ok (.aload_n 1, 1) := by decide +kernel
theorem dX6_setJoined_19 : decode cX6_setJoined 19 = .ok (.getfield 132, 3) := by decide +kernel
theorem dX6_setJoined_22 : decode cX6_setJoined 22 = .ok (.aload_n 2, 1) := by decide +kernel
theorem dX6_setJoined_23 : decode cX6_setJoined 23 = .ok (.getfield 132, 3) := by decide +kernel
theorem dX6_setJoined_26 : decode cX6_setJoined 26 = .ok (.iadd, 1) := by decide +kernel
theorem dX6_setJoined_27 : decode cX6_setJoined 27 = .ok (.invokevirtual 171, 3) := by decide +kernel
theorem dX6_setJoined_30 : decode cX6_setJoined 30 = .ok (.aload_n 1, 1) := by decide +kernel
theorem dX6_setJoined_31 : decode cX6_setJoined 31 = .ok (.getfield 164, 3) := by decide +kernel
theorem dX6_setJoined_34 : decode cX6_setJoined 34 = .ok (.iconst 0, 1) := by decide +kernel
theorem dX6_setJoined_35 : decode cX6_setJoined 35 = .ok (.aload_n 0, 1) := by decide +kernel
theorem dX6_setJoined_36 : decode cX6_setJoined 36 = .ok (.getfield 164, 3) := by decide +kernel
theorem dX6_setJoined_39 : decode cX6_setJoined 39 = .ok (.iconst 0, 1) := by decide +kernel
theorem dX6_setJoined_40 : decode cX6_setJoined 40 = .ok (.aload_n 1, 1) := by decide +kernel
theorem dX6_setJoined_41 : decode cX6_setJoined 41 = .ok (.getfield 132, 3) := by decide +kernel
theorem dX6_setJoined_44 : decode cX6_setJoined 44 = .ok (.invokestatic 174, 3) := by decide +kernel
theorem dX6_setJoined_47 : decode cX6_setJoined 47 = .ok (.aload_n 2, 1) := by decide +kernel
theorem dX6_setJoined_48 : decode cX6_setJoined 48 = .ok (.getfield 164, 3) := by decide +kernel
theorem dX6_setJoined_51 : decode cX6_setJoined 51 = .ok (.iconst 0, 1) := by decide +kernel
theorem dX6_setJoined_52 : decode cX6_setJoined 52 = .ok (.aload_n 0, 1) := by decide +kernel
theorem dX6_setJoined_53 : decode cX6_setJoined 53 = .ok (.getfield 164, 3) := by decide +kernel
theorem dX6_setJoined_56 : decode cX6_setJoined 56 = .ok (.aload_n 1, 1) := by decide +kernel
theorem dX6_setJoined_57 : decode cX6_setJoined 57 = .ok (.getfield 132, 3) := by decide +kernel
theorem dX6_setJoined_60 : decode cX6_setJoined 60 = .ok (.aload_n 2, 1) := by decide +kernel
theorem dX6_setJoined_61 : decode cX6_setJoined 61 = .ok (.getfield 132, 3) := by decide +kernel
theorem dX6_setJoined_64 : decode cX6_setJoined 64 = .ok (.invokestatic 174, 3) := by decide +kernel
theorem dX6_setJoined_67 : decode cX6_setJoined 67 = .ok (.iconst 0, 1) := by decide +kernel
theorem dX6_setJoined_68 : decode cX6_setJoined 68 = .ok (.ireturn, 1) := by decide +kernel
theorem dX6_setPart_0 : decode cX6_setPart 0 = .ok (.iload_n 3, 1) := by decide +kernel
theorem dX6_setPart_1 : decode cX6_setPart 1 = .ok (.ifCond .ge 5, 3) := by decide +kernel
theorem dX6_setPart_4 : decode cX6_setPart 4 = .ok (.iconst 3, 1) := by decide +kernel
theorem dX6_setPart_5 : decode cX6_setPart 5 = .ok (.ireturn, 1) := by decide +kernel
theorem dX6_setPart_6 : decode cX6_setPart 6 = .ok (.iload_n 3, 1) := by decide +kernel
theorem dX6_setPart_7 : decode cX6_setPart 7 = .ok (.bipush 16, 2) := by decide +kernel
theorem dX6_setPart_9 : decode cX6_setPart 9 = .ok (.if_icmp .le 6, 3) := by decide +kernel
theorem dX6_setPart_12 : decode cX6_setPart 12 = .ok (.bipush 6, 2) := by decide +kernel
theorem dX6_setPart_14 : decode cX6_setPart 14 = .ok (.ireturn, 1) := by decide +kernel
theorem dX6_setPart_15 : decode cX6_setPart 15 = .ok (.iload_n 2, 1) := by decide +kernel
theorem dX6_setPart_16 : decode cX6_setPart 16 = .ok (.ifCond .lt 13, 3) := by decide +kernel
theorem dX6_setPart_19 : decode cX6_setPart 19 = .ok (.iload_n 2, 1) := by decide +kernel
theorem dX6_setPart_20 : decode cX6_setPart 20 = .ok (.aload_n 1, 1) := by decide +kernel
theorem dX6_setPart_21 : decode cX6_setPart 21 = .ok (.getfield 132, 3) := by decide +kernel
theorem dX6_setPart_24 : decode cX6_setPart 24 = .ok (.iload_n 3, 1) := by decide +kernel
theorem dX6_setPart_25 : decode cX6_setPart 25 = .ok (.isub, 1) := by decide +kernel
theorem dX6_setPart_26 : decode cX6_setPart 26 = .ok (.if_icmp .le 5, 3) := by decide +kernel
theorem dX6_setPart_29 : decode cX6_setPart 29 = .ok (.iconst 2, 1) := by decide +kernel
theorem dX6_setPart_30 : decode cX6_setPart 30 = .ok (.ireturn, 1) := by decide +kernel
theorem dX6_setPart_31 : decode cX6_setPart 31 = .ok (.aload_n 0, 1) := by decide +kernel
theorem dX6_setPart_32 : decode cX6_setPart 32 = .ok (.iload_n 3, 1) := by decide +kernel
theorem dX6_setPart_33 : decode cX6_setPart 33 = .ok (.invokevirtual 171, 3) := by decide +kernel
theorem dX6_setPart_36 : decode cX6_setPart 36 = .ok (.aload_n 1, 1) := by decide +kernel
theorem dX6_setPart_37 : decode cX6_setPart 37 = .ok (.getfield 164, 3) := by decide +kernel
theorem dX6_setPart_40 : decode cX6_setPart 40 = .ok (.iload_n 2, 1) := by decide +kernel
theorem dX6_setPart_41 : decode cX6_setPart 41 = .ok (.aload_n 0, 1) := by decide +kernel
theorem dX6_setPart_42 : decode cX6_setPart 42 = .ok (.getfield 164, 3) := by decide +kernel
theorem dX6_setPart_45 : decode cX6_setPart 45 = .ok (.iconst 0, 1) := by decide +kernel
theorem dX6_setPart_46 : decode cX6_setPart 46 = .ok (.iload_n 3, 1) := by decide +kernel
theorem dX6_setPart_47 : decode cX6_setPart 47 = .ok (.invokestatic 174, 3) := by decide +kernel
theorem dX6_setPart_50 : decode cX6_setPart 50 = .ok (.iconst 0, 1) := by decide +kernel
theorem dX6_setPart_51 : decode cX6_setPart 51 = .ok (.ireturn, 1) := by decide +kernel
theorem dX6_setSorted_0 : decode cX6_setSorted 0 = .ok (.aload_n 0, 1) := by decide +kernel
theorem dX6_setSorted_1 : decode cX6_setSorted 1 = .ok (.aload_n 1, 1) := by decide +kernel
theorem dX6_setSorted_2 : decode cX6_setSorted 2 = .ok (.invokevirtual 113, 3) := by decide +kernel
theorem dX6_setSorted_5 : decode cX6_setSorted 5 = .ok (.iconst 1, 1) := by decide +kernel
theorem dX6_setSorted_6 : decode cX6_setSorted 6 = .ok (.istore_n 2, 1) := by decide +kernel
theorem dX6_setSorted_7 : decode cX6_setSorted 7 = .ok (.iload_n 2, 1) := by decide +kernel
theorem dX6_setSorted_8 : decode cX6_setSorted 8 = .ok (.aload_n 0, 1) := by decide +kernel
theorem dX6_setSorted_9 : decode cX6_setSorted 9 = .ok (.getfield 132, 3) := by decide +kernel
theorem dX6_setSorted_12 : decode cX6_setSorted 12 = .ok (.if_icmp .ge 67, 3) := by decide +kernel
theorem dX6_setSorted_15 : decode cX6_setSorted 15 = .ok (.aload_n 0, 1) := by decide +kernel
theorem dX6_setSorted_16 : decode cX6_setSorted 16 = .ok (.getfield 164, 3) := by decide +kernel
theorem dX6_setSorted_19 : decode cX6_setSorted 19 = .ok (.iload_n 2, 1) := by decide +kernel
theorem dX6_setSorted_20 : decode cX6_setSorted 20 = .ok (.iaload, 1) := by decide +kernel
theorem dX6_setSorted_21 : decode cX6_setSorted 21 = .ok (.istore_n 3, 1) := by decide +kernel
theorem dX6_setSorted_22 : decode cX6_setSorted 22 = .ok (.iload_n 2, 1) := by decide +kernel
theorem dX6_setSorted_23 : decode cX6_setSorted 23 = .ok (.istore 4, 2) := by decide +kernel
theorem dX6_setSorted_25 : decode cX6_setSorted 25 = .ok (.iload 4, 2) := by decide +kernel
theorem dX6_setSorted_27 : decode cX6_setSorted 27 = .ok (.ifCond .le 38, 3) := by decide +kernel
theorem dX6_setSorted_30 : decode cX6_setSorted 30 = .ok (.aload_n 0, 1) := by decide +kernel
theorem dX6_setSorted_31 : decode cX6_setSorted 31 = .ok (.getfield 164, 3) := by decide +kernel
theorem dX6_setSorted_34 : decode cX6_setSorted 34 = .ok (.iload 4, 2) := by decide +kernel
theorem dX6_setSorted_36 : decode cX6_setSorted 36 = .ok (.iconst 1, 1) := by decide +kernel
theorem dX6_setSorted_37 : decode cX6_setSorted 37 = .ok (.isub, 1) := by decide +kernel
theorem dX6_setSorted_38 : decode cX6_setSorted 38 = .ok (.iaload, 1) := by decide +kernel
theorem dX6_setSorted_39 : decode cX6_setSorted 39 = .ok (.iload_n 3, 1) := by decide +kernel
theorem dX6_setSorted_40 : decode cX6_setSorted 40 = .ok (.if_icmp .le 25, 3) := by decide +kernel
theorem dX6_setSorted_43 : decode cX6_setSorted 43 = .ok (.aload_n 0, 1) := by decide +kernel
theorem dX6_setSorted_44 : decode cX6_setSorted 44 = .ok (.getfield 164, 3) := by decide +kernel
theorem dX6_setSorted_47 : decode cX6_setSorted 47 = .ok (.iload 4, 2) := by decide +kernel
theorem dX6_setSorted_49 : decode cX6_setSorted 49 = .ok (.aload_n 0, 1) := by decide +kernel
theorem dX6_setSorted_50 : decode cX6_setSorted 50 = .ok (.getfield 164, 3) := by decide +kernel
theorem dX6_setSorted_53 : decode cX6_setSorted 53 = .ok (.iload 4, 2) := by decide +kernel
theorem dX6_setSorted_55 : decode cX6_setSorted 55 = .ok (.iconst 1, 1) := by decide +kernel
theorem dX6_setSorted_56 : decode cX6_setSorted 56 = .ok (.isub, 1) := by decide +kernel
theorem dX6_setSorted_57 : decode cX6_setSorted 57 = .ok (.iaload, 1) := by decide +kernel
theorem dX6_setSorted_58 : decode cX6_setSorted 58 = .ok (.iastore, 1) := by decide +kernel
theorem dX6_setSorted_59 : decode cX6_setSorted 59 = .ok (.iinc 4 (-1), 3) := by decide +kernel
theorem dX6_setSorted_62 : decode cX6_setSorted 62 = .ok (.goto (-37), 3) := by decide +kernel
theorem dX6_setSorted_65 : decode cX6_setSorted 65 = .ok (.aload_n 0, 1) := by decide +kernel
theorem dX6_setSorted_66 : decode cX6_setSorted 66 = .ok (.getfield 164, 3) := by decide +kernel
theorem dX6_setSorted_69 : decode cX6_setSorted 69 = .ok (.iload 4, 2) := by decide +kernel
theorem dX6_setSorted_71 : decode cX6_setSorted 71 = .ok (.iload_n 3, 1) := by decide +kernel
theorem dX6_setSorted_72 : decode cX6_setSorted 72 = .ok (.iastore, 1) := by decide +kernel
theorem dX6_setSorted_73 : decode cX6_setSorted 73 = .ok (.iinc 2 1, 3) := by decide +kernel
theorem dX6_setSorted_76 : decode cX6_setSorted 76 = .ok (.goto (-69), 3) := by decide +kernel
theorem dX6_setSorted_79 : decode cX6_setSorted 79 = .ok (.return_, 1) := by decide +kernel
theorem dX6_setTurned_0 : decode cX6_setTurned 0 = .ok (.aload_n 0, 1) := by decide +kernel
theorem dX6_setTurned_1 : decode cX6_setTurned 1 = .ok (.aload_n 1, 1) := by decide +kernel
theorem dX6_setTurned_2 : decode cX6_setTurned 2 = .ok (.getfield 132, 3) := by decide +kernel
theorem dX6_setTurned_5 : decode cX6_setTurned 5 = .ok (.invokevirtual 171, 3) := by decide +kernel
theorem dX6_setTurned_8 : decode cX6_setTurned 8 = .ok (.iconst 0, 1) := by decide +kernel
theorem dX6_setTurned_9 : decode cX6_setTurned 9 = .ok (.istore_n 2, 1) := by decide +kernel
theorem dX6_setTurned_10 : decode cX6_setTurned 10 = .ok (.iload_n 2, 1) := by decide +kernel
theorem dX6_setTurned_11 : decode cX6_setTurned 11 = .ok (.aload_n 1, 1) := by decide +kernel
theorem dX6_setTurned_12 : decode cX6_setTurned 12 = .ok (.getfield 132, 3) := by decide +kernel
theorem dX6_setTurned_15 : decode cX6_setTurned 15 = .ok (.if_icmp .ge 28, 3) := by decide +kernel
theorem dX6_setTurned_18 : decode cX6_setTurned 18 = .ok (.aload_n 0, 1) := by decide +kernel
theorem dX6_setTurned_19 : decode cX6_setTurned 19 = .ok (.getfield 164, 3) := by decide +kernel
theorem dX6_setTurned_22 : decode cX6_setTurned 22 = .ok (.iload_n 2, 1) := by decide +kernel
theorem dX6_setTurned_23 : decode cX6_setTurned 23 = .ok (.aload_n 1, 1) := by decide +kernel
theorem dX6_setTurned_24 : decode cX6_setTurned 24 = .ok (.getfield 164, 3) := by decide +kernel
theorem dX6_setTurned_27 : decode cX6_setTurned 27 = .ok (.aload_n 1, 1) := by decide +kernel
theorem dX6_setTurned_28 : decode cX6_setTurned 28 = .ok (.getfield 132, 3) := by decide +kernel
theorem dX6_setTurned_31 : decode cX6_setTurned 31 = .ok (.iconst 1, 1) := by decide +kernel
theorem dX6_setTurned_32 : decode cX6_setTurned 32 = .ok (.isub, 1) := by decide +kernel
theorem dX6_setTurned_33 : decode cX6_setTurned 33 = .ok (.iload_n 2, 1) := by decide +kernel
theorem dX6_setTurned_34 : decode cX6_setTurned 34 = .ok (.isub, 1) := by decide +kernel
theorem dX6_setTurned_35 : decode cX6_setTurned 35 = .ok (.iaload, 1) := by decide +kernel
theorem dX6_setTurned_36 : decode cX6_setTurned 36 = .ok (.iastore, 1) := by decide +kernel
theorem dX6_setTurned_37 : decode cX6_setTurned 37 = .ok (.iinc 2 1, 3) := by decide +kernel
theorem dX6_setTurned_40 : decode cX6_setTurned 40 = .ok (.goto (-30), 3) := by decide +kernel
theorem dX6_setTurned_43 : decode cX6_setTurned 43 = .ok (.return_, 1) := by decide +kernel
theorem dX6_sum_0 : decode cX6_sum 0 = .ok (.iconst 0, 1) := by decide +kernel
theorem dX6_sum_1 : decode cX6_sum 1 = .ok (.istore_n 1, 1) := by decide +kernel
theorem dX6_sum_2 : decode cX6_sum 2 = .ok (.iconst 0, 1) := by decide +kernel
theorem dX6_sum_3 : decode cX6_sum 3 = .ok (.istore_n 2, 1) := by decide +kernel
theorem dX6_sum_4 : decode cX6_sum 4 = .ok (.iload_n 2, 1) := by decide +kernel
theorem dX6_sum_5 : decode cX6_sum 5 = .ok (.aload_n 0, 1) := by decide +kernel
theorem dX6_sum_6 : decode cX6_sum 6 = .ok (.getfield 132, 3) := by decide +kernel
theorem dX6_sum_9 : decode cX6_sum 9 = .ok (.if_icmp .ge 18, 3) := by decide +kernel
theorem dX6_sum_12 : decode cX6_sum 12 = .ok (.iload_n 1, 1) := by decide +kernel
theorem dX6_sum_13 : decode cX6_sum 13 = .ok (.aload_n 0, 1) := by decide +kernel
theorem dX6_sum_14 : decode cX6_sum 14 = .ok (.getfield 164, 3) := by decide +kernel
theorem dX6_sum_17 : decode cX6_sum 17 = .ok (.iload_n 2, 1) := by decide +kernel
theorem dX6_sum_18 : decode cX6_sum 18 = .ok (.iaload, 1) := by decide +kernel
theorem dX6_sum_19 : decode cX6_sum 19 = .ok (.iadd, 1) := by decide +kernel
theorem dX6_sum_20 : decode cX6_sum 20 = .ok (.istore_n 1, 1) := by decide +kernel
theorem dX6_sum_21 : decode cX6_sum 21 = .ok (.iinc 2 1, 3) := by decide +kernel
theorem dX6_sum_24 : decode cX6_sum 24 = .ok (.goto (-20), 3) := by decide +kernel
theorem dX6_sum_27 : decode cX6_sum 27 = .ok (.iload_n 1, 1) := by decide +kernel
theorem dX6_sum_28 : decode cX6_sum 28 = .ok (.ireturn, 1) := by decide +kernel
theorem dX7_init_0 : decode cX7_init 0 = .ok (.aload_n 0, 1) := by decide +kernel
theorem dX7_init_1 : decode cX7_init 1 = .ok (.invokespecial 1, 3) := by decide +kernel
theorem dX7_init_4 : decode cX7_init 4 = .ok (.aload_n 0, 1) := by decide +kernel
theorem dX7_init_5 : decode cX7_init 5 = .ok (.new 7, 3) := by decide +kernel
theorem dX7_init_8 : decode cX7_init 8 = .ok (.dup, 1) := by decide +kernel
theorem dX7_init_9 : decode cX7_init 9 = .ok (.invokespecial 9, 3) := by decide +kernel
theorem dX7_init_12 : decode cX7_init 12 = .ok (.putfield 10, 3) := by decide +kernel
theorem dX7_init_15 : decode cX7_init 15 = .ok (.aload_n 0, 1) := by decide +kernel
theorem dX7_init_16 : decode cX7_init 16 = .ok (.aload_n 0, 1) := by decide +kernel
theorem dX7_init_17 : decode cX7_init 17 = .ok (.getfield 10, 3) := by decide +kernel
theorem dX7_init_20 : decode cX7_init 20 = .ok (.getfield 16, 3) := by decide +kernel
theorem dX7_init_23 : decode cX7_init 23 = .ok (.putfield 20, 3) := by decide +kernel
theorem dX7_init_26 : decode cX7_init 26 = .ok (.aload_n 0, 1) := by decide +kernel
theorem dX7_init_27 : decode cX7_init 27 = .ok (.aload_n 0, 1) := by decide +kernel
theorem dX7_init_28 : decode cX7_init 28 = .ok (.getfield 10, 3) := by decide +kernel
theorem dX7_init_31 : decode cX7_init 31 = .ok (.getfield 21, 3) := by decide +kernel
theorem dX7_init_34 : decode cX7_init 34 = .ok (.putfield 25, 3) := by decide +kernel
theorem dX7_init_37 : decode cX7_init 37 = .ok (.aload_n 0, 1) := by decide +kernel
theorem dX7_init_38 : decode cX7_init 38 = .ok (.iconst 3, 1) := by decide +kernel
theorem dX7_init_39 : decode cX7_init 39 = .ok (.invokestatic 28, 3) := by decide +kernel
theorem dX7_init_42 : decode cX7_init 42 = .ok (.putfield 32, 3) := by decide +kernel
theorem dX7_init_45 : decode cX7_init 45 = .ok (.aload_n 0, 1) := by decide +kernel
theorem dX7_init_46 : decode cX7_init 46 = .ok (.new 35, 3) := by decide +kernel
theorem dX7_init_49 : decode cX7_init 49 = .ok (.dup, 1) := by decide +kernel
theorem dX7_init_50 : decode cX7_init 50 = .ok (.invokespecial 37, 3) := by decide +kernel
theorem dX7_init_53 : decode cX7_init 53 = .ok (.putfield 38, 3) := by decide +kernel
theorem dX7_init_56 : decode cX7_init 56 = .ok (.aload_n 0, 1) := by decide +kernel
theorem dX7_init_57 : decode cX7_init 57 = .ok (.bipush 8, 2) := by decide +kernel
theorem dX7_init_59 : decode cX7_init 59 = .ok (.anewarray 42, 3) := by decide +kernel
theorem dX7_init_62 : decode cX7_init 62 = .ok (.putfield 44, 3) := by decide +kernel
theorem dX7_init_65 : decode cX7_init 65 = .ok (.iconst 0, 1) := by decide +kernel
theorem dX7_init_66 : decode cX7_init 66 = .ok (.istore_n 1, 1) := by decide +kernel
theorem dX7_init_67 : decode cX7_init 67 = .ok (.iload_n 1, 1) := by decide +kernel
theorem dX7_init_68 : decode cX7_init 68 = .ok (.bipush 8, 2) := by decide +kernel
theorem dX7_init_70 : decode cX7_init 70 = .ok (.if_icmp .ge 22, 3) := by decide +kernel
theorem dX7_init_73 : decode cX7_init 73 = .ok (.aload_n 0, 1) := by decide +kernel
theorem dX7_init_74 : decode cX7_init 74 = .ok (.getfield 44, 3) := by decide +kernel
theorem dX7_init_77 : decode cX7_init 77 = .ok (.iload_n 1, 1) := by decide +kernel
theorem dX7_init_78 : decode cX7_init 78 = .ok (.new 42, 3) := by decide +kernel
theorem dX7_init_81 : decode cX7_init 81 = .ok (.dup, 1) := by decide +kernel
theorem dX7_init_82 : decode cX7_init 82 = .ok (.invokespecial 48, 3) := by decide +kernel
theorem dX7_init_85 : decode cX7_init 85 = .ok (.aastore, 1) := by decide +kernel
theorem dX7_init_86 : decode cX7_init 86 = .ok (.iinc 1 1, 3) := by decide +kernel
theorem dX7_init_89 : decode cX7_init 89 = .ok (.goto (-22), 3) := by decide +kernel
theorem dX7_init_92 : decode cX7_init 92 = .ok (.aload_n 0, 1) := by decide +kernel
theorem dX7_init_93 : decode cX7_init 93 = .ok (.new 49, 3) := by decide +kernel
theorem dX7_init_96 : decode cX7_init 96 = .ok (.dup, 1) := by decide +kernel
theorem dX7_init_97 : decode cX7_init 97 = .ok (.invokespecial 51, 3) := by decide +kernel
theorem dX7_init_100 : decode cX7_init 100 = .ok (.putfield 52, 3) := by decide +kernel
theorem dX7_init_103 : decode cX7_init 103 = .ok (.aload_n 0, 1) := by decide +kernel
theorem dX7_init_104 : decode cX7_init 104 = .ok (.iconst 0, 1) := by decide +kernel
theorem dX7_init_105 : decode cX7_init 105 = .ok (.putfield 56, 3) := by decide +kernel
theorem dX7_init_108 : decode cX7_init 108 = .ok (.aload_n 0, 1) := by decide +kernel
theorem dX7_init_109 : decode cX7_init 109 = .ok (.iconst (-1), 1) := by decide +kernel
theorem dX7_init_110 : decode cX7_init 110 = .ok (.putfield 60, 3) := by decide +kernel
theorem dX7_init_113 : decode cX7_init 113 = .ok (.return_, 1) := by decide +kernel
theorem dX7_term_0 : decode cX7_term 0 = .ok (.aload_n 0, 1) := by decide +kernel
theorem dX7_term_1 : decode cX7_term 1 = .ok (.getfield 20, 3) := by decide +kernel
theorem dX7_term_4 : decode cX7_term 4 = .ok (.iload_n 1, 1) := by decide +kernel
theorem dX7_term_5 : decode cX7_term 5 = .ok (.iload 5, 2) := by decide +kernel
theorem dX7_term_7 : decode cX7_term 7 = .ok (.invokevirtual 63, 3) := by decide +kernel
theorem dX7_term_10 : decode cX7_term 10 = .ok (.ifCond .eq 18, 3) := by decide +kernel
theorem dX7_term_13 : decode cX7_term 13 = .ok (.aload_n 0, 1) := by decide +kernel
theorem dX7_term_14 : decode cX7_term 14 = .ok (.getfield 20, 3) := by decide +kernel
theorem dX7_term_17 : decode cX7_term 17 = .ok (.iload_n 1, 1) := by decide +kernel
theorem dX7_term_18 : decode cX7_term 18 = .ok (.iload_n 2, 1) := by decide +kernel
theorem dX7_term_19 : decode cX7_term 19 = .ok (.iload_n 3, 1) := by decide +kernel
theorem dX7_term_20 : decode cX7_term 20 = .ok (.iload 4, 2) := by decide +kernel
theorem dX7_term_22 : decode cX7_term 22 = .ok (.invokevirtual 69, 3) := by decide +kernel
theorem dX7_term_25 : decode cX7_term 25 = .ok (.ifCond .ne 5, 3) := by decide +kernel
theorem dX7_term_28 : decode cX7_term 28 = .ok (.iconst (-1), 1) := by decide +kernel
theorem dX7_term_29 : decode cX7_term 29 = .ok (.ireturn, 1) := by decide +kernel
theorem dX7_term_30 : decode cX7_term 30 = .ok (.aload_n 0, 1) := by decide +kernel
theorem dX7_term_31 : decode cX7_term 31 = .ok (.getfield 20, 3) := by decide +kernel
theorem dX7_term_34 : decode cX7_term 34 = .ok (.getfield 73, 3) := by decide +kernel
theorem dX7_term_37 : decode cX7_term 37 = .ok (.bipush 60, 2) := by decide +kernel
theorem dX7_term_39 : decode cX7_term 39 = .ok (.if_icmp .lt 6, 3) := by decide +kernel
theorem dX7_term_42 : decode cX7_term 42 = .ok (.bipush (-2), 2) := by decide +kernel
theorem dX7_term_44 : decode cX7_term 44 = .ok (.ireturn, 1) := by decide +kernel
theorem dX7_term_45 : decode cX7_term 45 = .ok (.aload_n 0, 1) := by decide +kernel
theorem dX7_term_46 : decode cX7_term 46 = .ok (.getfield 20, 3) := by decide +kernel
theorem dX7_term_49 : decode cX7_term 49 = .ok (.iload_n 1, 1) := by decide +kernel
theorem dX7_term_50 : decode cX7_term 50 = .ok (.iload_n 2, 1) := by decide +kernel
theorem dX7_term_51 : decode cX7_term 51 = .ok (.iload_n 3, 1) := by decide +kernel
theorem dX7_term_52 : decode cX7_term 52 = .ok (.iload 4, 2) := by decide +kernel
theorem dX7_term_54 : decode cX7_term 54 = .ok (.iload 5, 2) := by decide +kernel
theorem dX7_term_56 : decode cX7_term 56 = .ok (.invokevirtual 76, 3) := by decide +kernel
theorem dX7_term_59 : decode cX7_term 59 = .ok (.ireturn, 1) := by decide +kernel
theorem dX7_property_0 : decode cX7_property 0 = .ok (.iload_n 1, 1) := by decide +kernel
theorem dX7_property_1 : decode cX7_property 1 = .ok (.invokestatic 80, 3) := by decide +kernel
theorem dX7_property_4 : decode cX7_property 4 = .ok (.ifCond .eq 29, 3) := by decide +kernel
theorem dX7_property_7 : decode cX7_property 7 = .ok (.iload_n 2, 1) := by decide +kernel
theorem dX7_property_8 : decode cX7_property 8 = .ok (.invokestatic 80, 3) := by decide +kernel
theorem dX7_property_11 : decode cX7_property 11 = .ok (.ifCond .eq 22, 3) := by decide +kernel
theorem dX7_property_14 : decode cX7_property 14 = .ok (.iload_n 3, 1) := by decide +kernel
theorem dX7_property_15 : decode cX7_property 15 = .ok (.invokestatic 80, 3) := by decide +kernel
theorem dX7_property_18 : decode cX7_property 18 = .ok (.ifCond .eq 15, 3) := by decide +kernel
theorem dX7_property_21 : decode cX7_property 21 = .ok (.iload 7, 2) := by decide +kernel
theorem dX7_property_23 : decode cX7_property 23 = .ok (.ifCond .lt 10, 3) := by decide +kernel
theorem dX7_property_26 : decode cX7_property 26 = .ok (.iload 7, 2) := by decide +kernel
theorem dX7_property_28 : decode cX7_property 28 = .ok (.bipush 7, 2) := by decide +kernel
theorem dX7_property_30 : decode cX7_property 30 = .ok (.if_icmp .le 5, 3) := by decide +kernel
theorem dX7_property_33 : decode cX7_property 33 = .ok (.iconst (-1), 1) := by decide +kernel
theorem dX7_property_34 : decode cX7_property 34 = .ok (.ireturn, 1) := by decide +kernel
theorem dX7_property_35 : decode cX7_property 35 = .ok (.aload_n 0, 1) := by decide +kernel
theorem dX7_property_36 : decode cX7_property 36 = .ok (.getfield 20, 3) := by decide +kernel
theorem dX7_property_39 : decode cX7_property 39 = .ok (.iload 4, 2) := by decide +kernel
theorem dX7_property_41 : decode cX7_property 41 = .ok (.invokevirtual 84, 3) := by decide +kernel
theorem dX7_property_44 : decode cX7_property 44 = .ok (.ifCond .eq 27, 3) := by decide +kernel
theorem dX7_property_47 : decode cX7_property 47 = .ok (.aload_n 0, 1) := by decide +kernel
theorem dX7_property_48 : decode cX7_property 48 = .ok (.getfield 20, 3) := by decide +kernel
theorem dX7_property_51 : decode cX7_property 51 = .ok (.iload 5, 2) := by decide +kernel
theorem dX7_property_53 : decode cX7_property 53 = .ok (.invokevirtual 87, 3) := by decide +kernel
theorem dX7_property_56 : decode cX7_property 56 = .ok (.ifCond .eq 15, 3) := by decide +kernel
theorem dX7_property_59 : decode cX7_property 59 = .ok (.aload_n 0, 1) := by decide +kernel
theorem dX7_property_60 : decode cX7_property 60 = .ok (.getfield 20, 3) := by decide +kernel
theorem dX7_property_63 : decode cX7_property 63 = .ok (.iload 6, 2) := by decide +kernel
theorem dX7_property_65 : decode cX7_property 65 = .ok (.invokevirtual 84, 3) := by decide +kernel
theorem dX7_property_68 : decode cX7_property 68 = .ok (.ifCond .ne 5, 3) := by decide +kernel
theorem dX7_property_71 : decode cX7_property 71 = .ok (.iconst (-1), 1) := by decide +kernel
theorem dX7_property_72 : decode cX7_property 72 = .ok (.ireturn, 1) := by decide +kernel
theorem dX7_property_73 : decode cX7_property 73 = .ok (.aload_n 0, 1) := by decide +kernel
theorem dX7_property_74 : decode cX7_property 74 = .ok (.getfield 56, 3) := by decide +kernel
theorem dX7_property_77 : decode cX7_property 77 = .ok (.bipush 8, 2) := by decide +kernel
theorem dX7_property_79 : decode cX7_property 79 = .ok (.if_icmp .lt 6, 3) := by decide +kernel
theorem dX7_property_82 : decode cX7_property 82 = .ok (.bipush (-2), 2) := by decide +kernel
theorem dX7_property_84 : decode cX7_property 84 = .ok (.ireturn, 1) := by decide +kernel
theorem dX7_property_85 : decode cX7_property 85 = .ok (.aload_n 0, 1) := by decide +kernel
theorem dX7_property_86 : decode cX7_property 86 = .ok (.getfield 44, 3) := by decide +kernel
theorem dX7_property_89 : decode cX7_property 89 = .ok (.aload_n 0, 1) := by decide +kernel
theorem dX7_property_90 : decode cX7_property 90 = .ok (.getfield 56, 3) := by decide +kernel
theorem dX7_property_93 : decode cX7_property 93 = .ok (.aaload, 1) := by decide +kernel
theorem dX7_property_94 : decode cX7_property 94 = .ok (.astore 8, 2) := by decide +kernel
theorem dX7_property_96 : decode cX7_property 96 = .ok (.aload 8, 2) := by decide +kernel
theorem dX7_property_98 : decode cX7_property 98 = .ok (.iload_n 1, 1) := by decide +kernel
theorem dX7_property_99 : decode cX7_property 99 = .ok (.iload_n 2, 1) := by decide +kernel
theorem dX7_property_100 : decode cX7_property 100 = .ok (.iload_n 3, 1) := by decide +kernel
theorem dX7_property_101 : decode cX7_property 101 = .ok (.invokevirtual 90, 3) := by decide +kernel
theorem dX7_property_104 : decode cX7_property 104 = .ok (.aload 8, 2) := by decide +kernel
theorem dX7_property_106 : decode cX7_property 106 = .ok (.iload 4, 2) := by decide +kernel
theorem dX7_property_108 : decode cX7_property 108 = .ok (.iload 5, 2) := by decide +kernel
theorem dX7_property_110 : decode cX7_property 110 = .ok (.iload 6, 2) := by decide +kernel
theorem dX7_property_112 : decode cX7_property 112 = .ok (.iload 7, 2) := by decide +kernel
theorem dX7_property_114 : decode cX7_property 114 = .ok (.invokevirtual 94, 3) := by decide +kernel
theorem dX7_property_117 : decode cX7_property 117 = .ok (.aload_n 0, 1) := by decide +kernel
theorem dX7_property_118 : decode cX7_property 118 = .ok (.dup, 1) := by decide +kernel
theorem dX7_property_119 : decode cX7_property 119 = .ok (.getfield 56, 3) := by decide +kernel
theorem dX7_property_122 : decode cX7_property 122 = .ok (.iconst 1, 1) := by decide +kernel
theorem dX7_property_123 : decode cX7_property 123 = .ok (.iadd, 1) := by decide +kernel
theorem dX7_property_124 : decode cX7_property 124 = .ok (.putfield 56, 3) := by decide +kernel
theorem dX7_property_127 : decode cX7_property 127 = .ok (.aload_n 0, 1) := by decide +kernel
theorem dX7_property_128 : decode cX7_property 128 = .ok (.getfield 56, 3) := by decide +kernel
theorem dX7_property_131 : decode cX7_property 131 = .ok (.iconst 1, 1) := by decide +kernel
theorem dX7_property_132 : decode cX7_property 132 = .ok (.isub, 1) := by decide +kernel
theorem dX7_property_133 : decode cX7_property 133 = .ok (.ireturn, 1) := by decide +kernel
theorem dX7_run_0 : decode cX7_run 0 = .ok (.aload_n 0, 1) := by decide +kernel
theorem dX7_run_1 : decode cX7_run 1 = .ok (.iload_n 1, 1) := by decide +kernel
theorem dX7_run_2 : decode cX7_run 2 = .ok (.invokevirtual 98, 3) := by decide +kernel
theorem dX7_run_5 : decode cX7_run 5 = .ok (.ifCond .eq 15, 3) := by decide +kernel
theorem dX7_run_8 : decode cX7_run 8 = .ok (.iload_n 2, 1) := by decide +kernel
theorem dX7_run_9 : decode cX7_run 9 = .ok (.iconst 1, 1) := by decide +kernel
theorem dX7_run_10 : decode cX7_run 10 = .ok (.if_icmp .lt 10, 3) := by decide +kernel
theorem dX7_run_13 : decode cX7_run 13 = .ok (.iload_n 2, 1) := by decide +kernel
theorem dX7_run_14 : decode cX7_run 14 = .ok (.sipush 200, 3) := by decide +kernel
theorem dX7_run_17 : decode cX7_run 17 = .ok (.if_icmp .le 5, 3) := by decide +kernel
theorem dX7_run_20 : decode cX7_run 20 = .ok (.iconst (-1), 1) := by decide +kernel
theorem dX7_run_21 : decode cX7_run 21 = .ok (.ireturn, 1) := by decide +kernel
theorem dX7_run_22 : decode cX7_run 22 = .ok (.aload_n 0, 1) := by decide +kernel
theorem dX7_run_23 : decode cX7_run 23 = .ok (.getfield 10, 3) := by decide +kernel
theorem dX7_run_26 : decode cX7_run 26 = .ok (.getfield 101, 3) := by decide +kernel
theorem dX7_run_29 : decode cX7_run 29 = .ok (.iload_n 2, 1) := by decide +kernel
theorem dX7_run_30 : decode cX7_run 30 = .ok (.iadd, 1) := by decide +kernel
theorem dX7_run_31 : decode cX7_run 31 = .ok (.sipush 200, 3) := by decide +kernel
theorem dX7_run_34 : decode cX7_run 34 = .ok (.iadd, 1) := by decide +kernel
theorem dX7_run_35 : decode cX7_run 35 = .ok (.sipush 3000, 3) := by decide +kernel
theorem dX7_run_38 : decode cX7_run 38 = .ok (.if_icmp .le 6, 3) := by decide +kernel
theorem dX7_run_41 : decode cX7_run 41 = .ok (.bipush (-2), 2) := by decide +kernel
theorem dX7_run_43 : decode cX7_run 43 = .ok (.ireturn, 1) := by decide +kernel
theorem dX7_run_44 : decode cX7_run 44 = .ok (.aload_n 0, 1) := by decide +kernel
theorem dX7_run_45 : decode cX7_run 45 = .ok (.invokevirtual 104, 3) := by decide +kernel
theorem dX7_run_48 : decode cX7_run 48 = .ok (.iconst 0, 1) := by decide +kernel
theorem dX7_run_49 : decode cX7_run 49 = .ok (.istore 4, 2) := by decide +kernel
theorem dX7_run_51 : decode cX7_run 51 = .ok (.iload 4, 2) := by decide +kernel
theorem dX7_run_53 : decode cX7_run 53 = .ok (.iload_n 2, 1) := by decide +kernel
theorem dX7_run_54 : decode cX7_run 54 = .ok (.if_icmp .ge 63, 3) := by decide +kernel
theorem dX7_run_57 : decode cX7_run 57 = .ok (.aload_n 0, 1) := by decide +kernel
theorem dX7_run_58 : decode cX7_run 58 = .ok (.getfield 60, 3) := by decide +kernel
theorem dX7_run_61 : decode cX7_run 61 = .ok (.ifCond .ge 56, 3) := by decide +kernel
theorem dX7_run_64 : decode cX7_run 64 = .ok (.iconst 0, 1) := by decide +kernel
theorem dX7_run_65 : decode cX7_run 65 = .ok (.istore 5, 2) := by decide +kernel
theorem dX7_run_67 : decode cX7_run 67 = .ok (.iload 5, 2) := by decide +kernel
theorem dX7_run_69 : decode cX7_run 69 = .ok (.iconst 3, 1) := by decide +kernel
theorem dX7_run_70 : decode cX7_run 70 = .ok (.if_icmp .ge 36, 3) := by decide +kernel
theorem dX7_run_73 : decode cX7_run 73 = .ok (.aload_n 0, 1) := by decide +kernel
theorem dX7_run_74 : decode cX7_run 74 = .ok (.getfield 25, 3) := by decide +kernel
theorem dX7_run_77 : decode cX7_run 77 = .ok (.iload 5, 2) := by decide +kernel
theorem dX7_run_79 : decode cX7_run 79 = .ok (.aaload, 1) := by decide +kernel
theorem dX7_run_80 : decode cX7_run 80 = .ok (.iload_n 3, 1) := by decide +kernel
theorem dX7_run_81 : decode cX7_run 81 = .ok (.iload 4, 2) := by decide +kernel
theorem dX7_run_83 : decode cX7_run 83 = .ok (.iload 5, 2) := by decide +kernel
theorem dX7_run_85 : decode cX7_run 85 = .ok (.aload_n 0, 1) := by decide +kernel
theorem dX7_run_86 : decode cX7_run 86 = .ok (.getfield 44, 3) := by decide +kernel
theorem dX7_run_89 : decode cX7_run 89 = .ok (.iload_n 1, 1) := by decide +kernel
theorem dX7_run_90 : decode cX7_run 90 = .ok (.aaload, 1) := by decide +kernel
theorem dX7_run_91 : decode cX7_run 91 = .ok (.getfield 107, 3) := by decide +kernel
theorem dX7_run_94 : decode cX7_run 94 = .ok (.iload 5, 2) := by decide +kernel
theorem dX7_run_96 : decode cX7_run 96 = .ok (.iaload, 1) := by decide +kernel
theorem dX7_run_97 : decode cX7_run 97 = .ok (.invokestatic 111, 3) := by decide +kernel
theorem dX7_run_100 : decode cX7_run 100 = .ok (.iinc 5 1, 3) := by decide +kernel
theorem dX7_run_103 : decode cX7_run 103 = .ok (.goto (-36), 3) := by decide +kernel
theorem dX7_run_106 : decode cX7_run 106 = .ok (.aload_n 0, 1) := by decide +kernel
theorem dX7_run_107 : decode cX7_run 107 = .ok (.iload_n 1, 1) := by decide +kernel
theorem dX7_run_108 : decode cX7_run 108 = .ok (.invokevirtual 117, 3) := by decide +kernel
theorem dX7_run_111 : decode cX7_run 111 = .ok (.iinc 4 1, 3) := by decide +kernel
theorem dX7_run_114 : decode cX7_run 114 = .ok (.goto (-63), 3) := by decide +kernel
theorem dX7_run_117 : decode cX7_run 117 = .ok (.aload_n 0, 1) := by decide +kernel
theorem dX7_run_118 : decode cX7_run 118 = .ok (.getfield 60, 3) := by decide +kernel
theorem dX7_run_121 : decode cX7_run 121 = .ok (.ifCond .lt 9, 3) := by decide +kernel
theorem dX7_run_124 : decode cX7_run 124 = .ok (.aload_n 0, 1) := by decide +kernel
theorem dX7_run_125 : decode cX7_run 125 = .ok (.invokevirtual 121, 3) := by decide +kernel
theorem dX7_run_128 : decode cX7_run 128 = .ok (.iconst 0, 1) := by decide +kernel
theorem dX7_run_129 : decode cX7_run 129 = .ok (.ireturn, 1) := by decide +kernel
theorem dX7_run_130 : decode cX7_run 130 = .ok (.aload_n 0, 1) := by decide +kernel
theorem dX7_run_131 : decode cX7_run 131 = .ok (.getfield 52, 3) := by decide +kernel
theorem dX7_run_134 : decode cX7_run 134 = .ok (.getfield 124, 3) := by decide +kernel
theorem dX7_run_137 : decode cX7_run 137 = .ok (.bipush 10, 2) := by decide +kernel
theorem dX7_run_139 : decode cX7_run 139 = .ok (.imul, 1) := by decide +kernel
theorem dX7_run_140 : decode cX7_run 140 = .ok (.iload_n 2, 1) := by decide +kernel
theorem dX7_run_141 : decode cX7_run 141 = .ok (.if_icmp .ge 7, 3) := by decide +kernel
theorem dX7_run_144 : decode cX7_run 144 = .ok (.iconst 2, 1) := by decide +kernel
theorem dX7_run_145 : decode cX7_run 145 = .ok (.goto 4, 3) := by decide +kernel
theorem dX7_run_148 : decode cX7_run 148 = .ok (.iconst 1, 1) := by decide +kernel
theorem dX7_run_149 : decode cX7_run 149 = .ok (.ireturn, 1) := by decide +kernel
theorem dX7_small_0 : decode cX7_small 0 = .ok (.aload_n 0, 1) := by decide +kernel
theorem dX7_small_1 : decode cX7_small 1 = .ok (.iload_n 1, 1) := by decide +kernel
theorem dX7_small_2 : decode cX7_small 2 = .ok (.invokevirtual 98, 3) := by decide +kernel
theorem dX7_small_5 : decode cX7_small 5 = .ok (.ifCond .eq 10, 3) := by decide +kernel
theorem dX7_small_8 : decode cX7_small 8 = .ok (.iload_n 2, 1) := by decide +kernel
theorem dX7_small_9 : decode cX7_small 9 = .ok (.invokestatic 127, 3) := by decide +kernel
theorem dX7_small_12 : decode cX7_small 12 = .ok (.ifCond .ne 5, 3) := by decide +kernel
theorem dX7_small_15 : decode cX7_small 15 = .ok (.iconst (-1), 1) := by decide +kernel
theorem dX7_small_16 : decode cX7_small 16 = .ok (.ireturn, 1) := by decide +kernel
theorem dX7_small_17 : decode cX7_small 17 = .ok (.aload_n 0, 1) := by decide +kernel
theorem dX7_small_18 : decode cX7_small 18 = .ok (.getfield 44, 3) := by decide +kernel
theorem dX7_small_21 : decode cX7_small 21 = .ok (.iload_n 1, 1) := by decide +kernel
theorem dX7_small_22 : decode cX7_small 22 = .ok (.aaload, 1) := by decide +kernel
theorem dX7_small_23 : decode cX7_small 23 = .ok (.getfield 107, 3) := by decide +kernel
theorem dX7_small_26 : decode cX7_small 26 = .ok (.iload_n 2, 1) := by decide +kernel
theorem dX7_small_27 : decode cX7_small 27 = .ok (.invokestatic 130, 3) := by decide +kernel
theorem dX7_small_30 : decode cX7_small 30 = .ok (.istore_n 3, 1) := by decide +kernel
theorem dX7_small_31 : decode cX7_small 31 = .ok (.aload_n 0, 1) := by decide +kernel
theorem dX7_small_32 : decode cX7_small 32 = .ok (.getfield 10, 3) := by decide +kernel
theorem dX7_small_35 : decode cX7_small 35 = .ok (.getfield 101, 3) := by decide +kernel
theorem dX7_small_38 : decode cX7_small 38 = .ok (.iload_n 3, 1) := by decide +kernel
theorem dX7_small_39 : decode cX7_small 39 = .ok (.iadd, 1) := by decide +kernel
theorem dX7_small_40 : decode cX7_small 40 = .ok (.sipush 3000, 3) := by decide +kernel
theorem dX7_small_43 : decode cX7_small 43 = .ok (.if_icmp .le 6, 3) := by decide +kernel
theorem dX7_small_46 : decode cX7_small 46 = .ok (.bipush (-2), 2) := by decide +kernel
theorem dX7_small_48 : decode cX7_small 48 = .ok (.ireturn, 1) := by decide +kernel
theorem dX7_small_49 : decode cX7_small 49 = .ok (.aload_n 0, 1) := by decide +kernel
theorem dX7_small_50 : decode cX7_small 50 = .ok (.invokevirtual 104, 3) := by decide +kernel
theorem dX7_small_53 : decode cX7_small 53 = .ok (.iconst 0, 1) := by decide +kernel
theorem dX7_small_54 : decode cX7_small 54 = .ok (.istore 4, 2) := by decide +kernel
theorem dX7_small_56 : decode cX7_small 56 = .ok (.iload 4, 2) := by decide +kernel
theorem dX7_small_58 : decode cX7_small 58 = .ok (.iload_n 3, 1) := by decide +kernel
theorem dX7_small_59 : decode cX7_small 59 = .ok (.if_icmp .ge 40, 3) := by decide +kernel
theorem dX7_small_62 : decode cX7_small 62 = .ok (.aload_n 0, 1) := by decide +kernel
theorem dX7_small_63 : decode cX7_small 63 = .ok (.getfield 60, 3) := by decide +kernel
theorem dX7_small_66 : decode cX7_small 66 = .ok (.ifCond .ge 33, 3) := by decide +kernel
theorem dX7_small_69 : decode cX7_small 69 = .ok (.aload_n 0, 1) := by decide +kernel
theorem dX7_small_70 : decode cX7_small 70 = .ok (.getfield 25, 3) := by decide +kernel
theorem dX7_small_73 : decode cX7_small 73 = .ok (.aload_n 0, 1) := by decide +kernel
theorem dX7_small_74 : decode cX7_small 74 = .ok (.getfield 44, 3) := by decide +kernel
theorem dX7_small_77 : decode cX7_small 77 = .ok (.iload_n 1, 1) := by decide +kernel
theorem dX7_small_78 : decode cX7_small 78 = .ok (.aaload, 1) := by decide +kernel
theorem dX7_small_79 : decode cX7_small 79 = .ok (.getfield 107, 3) := by decide +kernel
theorem dX7_small_82 : decode cX7_small 82 = .ok (.iload_n 2, 1) := by decide +kernel
theorem dX7_small_83 : decode cX7_small 83 = .ok (.iload 4, 2) := by decide +kernel
theorem dX7_small_85 : decode cX7_small 85 = .ok (.invokestatic 136, 3) := by decide +kernel
theorem dX7_small_88 : decode cX7_small 88 = .ok (.aload_n 0, 1) := by decide +kernel
theorem dX7_small_89 : decode cX7_small 89 = .ok (.iload_n 1, 1) := by decide +kernel
theorem dX7_small_90 : decode cX7_small 90 = .ok (.invokevirtual 117, 3) := by decide +kernel
theorem dX7_small_93 : decode cX7_small 93 = .ok (.iinc 4 1, 3) := by decide +kernel
theorem dX7_small_96 : decode cX7_small 96 = .ok (.goto (-40), 3) := by decide +kernel
theorem dX7_small_99 : decode cX7_small 99 = .ok (.aload_n 0, 1) := by decide +kernel
theorem dX7_small_100 : decode cX7_small 100 = .ok (.getfield 60, 3) := by decide +kernel
theorem dX7_small_103 : decode cX7_small 103 = .ok (.ifCond .lt 7, 3) := by decide +kernel
theorem dX7_small_106 : decode cX7_small 106 = .ok (.iconst 0, 1) := by decide +kernel
theorem dX7_small_107 : decode cX7_small 107 = .ok (.goto 4, 3) := by decide +kernel
theorem dX7_small_110 : decode cX7_small 110 = .ok (.iconst 1, 1) := by decide +kernel
theorem dX7_small_111 : decode cX7_small 111 = .ok (.ireturn, 1) := by decide +kernel
theorem dX7_many_0 : decode cX7_many 0 = .ok (.aload_n 0, 1) := by decide +kernel
theorem dX7_many_1 : decode cX7_many 1 = .ok (.iload_n 1, 1) := by decide +kernel
theorem dX7_many_2 : decode cX7_many 2 = .ok (.invokevirtual 98, 3) := by decide +kernel
theorem dX7_many_5 : decode cX7_many 5 = .ok (.ifCond .eq 10, 3) := by decide +kernel
theorem dX7_many_8 : decode cX7_many 8 = .ok (.iload_n 2, 1) := by decide +kernel
theorem dX7_many_9 : decode cX7_many 9 = .ok (.invokestatic 127, 3) := by decide +kernel
theorem dX7_many_12 : decode cX7_many 12 = .ok (.ifCond .ne 5, 3) := by decide +kernel
theorem dX7_many_15 : decode cX7_many 15 = .ok (.iconst (-1), 1) := by decide +kernel
theorem dX7_many_16 : decode cX7_many 16 = .ok (.ireturn, 1) := by decide +kernel
theorem dX7_many_17 : decode cX7_many 17 = .ok (.aload_n 0, 1) := by decide +kernel
theorem dX7_many_18 : decode cX7_many 18 = .ok (.getfield 44, 3) := by decide +kernel
theorem dX7_many_21 : decode cX7_many 21 = .ok (.iload_n 1, 1) := by decide +kernel
theorem dX7_many_22 : decode cX7_many 22 = .ok (.aaload, 1) := by decide +kernel
theorem dX7_many_23 : decode cX7_many 23 = .ok (.getfield 107, 3) := by decide +kernel
theorem dX7_many_26 : decode cX7_many 26 = .ok (.iload_n 2, 1) := by decide +kernel
theorem dX7_many_27 : decode cX7_many 27 = .ok (.invokestatic 130, 3) := by decide +kernel
theorem dX7_many_30 : decode cX7_many 30 = .ok (.istore_n 3, 1) := by decide +kernel
theorem dX7_many_31 : decode cX7_many 31 = .ok (.iload_n 3, 1) := by decide +kernel
theorem dX7_many_32 : decode cX7_many 32 = .ok (.sipush 3000, 3) := by decide +kernel
theorem dX7_many_35 : decode cX7_many 35 = .ok (.if_icmp .le 8, 3) := by decide +kernel
theorem dX7_many_38 : decode cX7_many 38 = .ok (.bipush (-2), 2) := by decide +kernel
theorem dX7_many_40 : decode cX7_many 40 = .ok (.goto 4, 3) := by decide +kernel
theorem dX7_many_43 : decode cX7_many 43 = .ok (.iload_n 3, 1) := by decide +kernel
theorem dX7_many_44 : decode cX7_many 44 = .ok (.ireturn, 1) := by decide +kernel
theorem dX7_again_0 : decode cX7_again 0 = .ok (.aload_n 0, 1) := by decide +kernel
theorem dX7_again_1 : decode cX7_again 1 = .ok (.getfield 60, 3) := by decide +kernel
theorem dX7_again_4 : decode cX7_again 4 = .ok (.ifCond .ge 6, 3) := by decide +kernel
theorem dX7_again_7 : decode cX7_again 7 = .ok (.bipush (-2), 2) := by decide +kernel
theorem dX7_again_9 : decode cX7_again 9 = .ok (.ireturn, 1) := by decide +kernel
theorem dX7_again_10 : decode cX7_again 10 = .ok (.aload_n 0, 1) := by decide +kernel
theorem dX7_again_11 : decode cX7_again 11 = .ok (.getfield 10, 3) := by decide +kernel
theorem dX7_again_14 : decode cX7_again 14 = .ok (.getfield 101, 3) := by decide +kernel
theorem dX7_again_17 : decode cX7_again 17 = .ok (.sipush 3000, 3) := by decide +kernel
theorem dX7_again_20 : decode cX7_again 20 = .ok (.if_icmp .lt 6, 3) := by decide +kernel
theorem dX7_again_23 : decode cX7_again 23 = .ok (.bipush (-3), 2) := by decide +kernel
theorem dX7_again_25 : decode cX7_again 25 = .ok (.ireturn, 1) := by decide +kernel
theorem dX7_again_26 : decode cX7_again 26 = .ok (.aload_n 0, 1) := by decide +kernel
theorem dX7_again_27 : decode cX7_again 27 = .ok (.getfield 32, 3) := by decide +kernel
theorem dX7_again_30 : decode cX7_again 30 = .ok (.aload_n 0, 1) := by decide +kernel
theorem dX7_again_31 : decode cX7_again 31 = .ok (.getfield 25, 3) := by decide +kernel
theorem dX7_again_34 : decode cX7_again 34 = .ok (.invokestatic 140, 3) := by decide +kernel
theorem dX7_again_37 : decode cX7_again 37 = .ok (.aload_n 0, 1) := by decide +kernel
theorem dX7_again_38 : decode cX7_again 38 = .ok (.getfield 10, 3) := by decide +kernel
theorem dX7_again_41 : decode cX7_again 41 = .ok (.aload_n 0, 1) := by decide +kernel
theorem dX7_again_42 : decode cX7_again 42 = .ok (.getfield 44, 3) := by decide +kernel
theorem dX7_again_45 : decode cX7_again 45 = .ok (.aload_n 0, 1) := by decide +kernel
theorem dX7_again_46 : decode cX7_again 46 = .ok (.getfield 60, 3) := by decide +kernel
theorem dX7_again_49 : decode cX7_again 49 = .ok (.aaload, 1) := by decide +kernel
theorem dX7_again_50 : decode cX7_again 50 = .ok (.invokevirtual 144, 3) := by decide +kernel
theorem dX7_again_53 : decode cX7_again 53 = .ok (.ireturn, 1) := by decide +kernel
theorem dX7_counter_0 : decode cX7_counter 0 = .ok (.aload_n 0, 1) := by decide +kernel
theorem dX7_counter_1 : decode cX7_counter 1 = .ok (.getfield 60, 3) := by decide +kernel
theorem dX7_counter_4 : decode cX7_counter 4 = .ok (.ifCond .lt 12, 3) := by decide +kernel
theorem dX7_counter_7 : decode cX7_counter 7 = .ok (.iload_n 1, 1) := by decide +kernel
theorem dX7_counter_8 : decode cX7_counter 8 = .ok (.ifCond .lt 8, 3) := by decide +kernel
theorem dX7_counter_11 : decode cX7_counter 11 = .ok (.iload_n 1, 1) := by decide +kernel
theorem dX7_counter_12 : decode cX7_counter 12 = .ok (.iconst 3, 1) := by decide +kernel
theorem dX7_counter_13 : decode cX7_counter 13 = .ok (.if_icmp .lt 6, 3) := by decide +kernel
theorem dX7_counter_16 : decode cX7_counter 16 = .ok (.ldc 148, 2) := by decide +kernel
theorem dX7_counter_18 : decode cX7_counter 18 = .ok (.ireturn, 1) := by decide +kernel
theorem dX7_counter_19 : decode cX7_counter 19 = .ok (.aload_n 0, 1) := by decide +kernel
theorem dX7_counter_20 : decode cX7_counter 20 = .ok (.getfield 32, 3) := by decide +kernel
theorem dX7_counter_23 : decode cX7_counter 23 = .ok (.iload_n 1, 1) := by decide +kernel
theorem dX7_counter_24 : decode cX7_counter 24 = .ok (.aaload, 1) := by decide +kernel
theorem dX7_counter_25 : decode cX7_counter 25 = .ok (.iload_n 2, 1) := by decide +kernel
theorem dX7_counter_26 : decode cX7_counter 26 = .ok (.invokevirtual 149, 3) := by decide +kernel
theorem dX7_counter_29 : decode cX7_counter 29 = .ok (.ireturn, 1) := by decide +kernel
theorem dX7_drawn_0 : decode cX7_drawn 0 = .ok (.iload_n 2, 1) := by decide +kernel
theorem dX7_drawn_1 : decode cX7_drawn 1 = .ok (.ifCond .lt 30, 3) := by decide +kernel
theorem dX7_drawn_4 : decode cX7_drawn 4 = .ok (.iload_n 2, 1) := by decide +kernel
theorem dX7_drawn_5 : decode cX7_drawn 5 = .ok (.sipush 200, 3) := by decide +kernel
theorem dX7_drawn_8 : decode cX7_drawn 8 = .ok (.if_icmp .ge 23, 3) := by decide +kernel
theorem dX7_drawn_11 : decode cX7_drawn 11 = .ok (.iload_n 3, 1) := by decide +kernel
theorem dX7_drawn_12 : decode cX7_drawn 12 = .ok (.ifCond .lt 19, 3) := by decide +kernel
theorem dX7_drawn_15 : decode cX7_drawn 15 = .ok (.iload_n 3, 1) := by decide +kernel
theorem dX7_drawn_16 : decode cX7_drawn 16 = .ok (.iconst 3, 1) := by decide +kernel
theorem dX7_drawn_17 : decode cX7_drawn 17 = .ok (.if_icmp .ge 14, 3) := by decide +kernel
theorem dX7_drawn_20 : decode cX7_drawn 20 = .ok (.iload 4, 2) := by decide +kernel
theorem dX7_drawn_22 : decode cX7_drawn 22 = .ok (.ifCond .lt 9, 3) := by decide +kernel
theorem dX7_drawn_25 : decode cX7_drawn 25 = .ok (.iload 4, 2) := by decide +kernel
theorem dX7_drawn_27 : decode cX7_drawn 27 = .ok (.iconst 1, 1) := by decide +kernel
theorem dX7_drawn_28 : decode cX7_drawn 28 = .ok (.if_icmp .le 6, 3) := by decide +kernel
theorem dX7_drawn_31 : decode cX7_drawn 31 = .ok (.ldc 148, 2) := by decide +kernel
theorem dX7_drawn_33 : decode cX7_drawn 33 = .ok (.ireturn, 1) := by decide +kernel
theorem dX7_drawn_34 : decode cX7_drawn 34 = .ok (.aload_n 0, 1) := by decide +kernel
theorem dX7_drawn_35 : decode cX7_drawn 35 = .ok (.getfield 38, 3) := by decide +kernel
theorem dX7_drawn_38 : decode cX7_drawn 38 = .ok (.iload_n 1, 1) := by decide +kernel
theorem dX7_drawn_39 : decode cX7_drawn 39 = .ok (.iload_n 2, 1) := by decide +kernel
theorem dX7_drawn_40 : decode cX7_drawn 40 = .ok (.iload_n 3, 1) := by decide +kernel
theorem dX7_drawn_41 : decode cX7_drawn 41 = .ok (.iload 4, 2) := by decide +kernel
theorem dX7_drawn_43 : decode cX7_drawn 43 = .ok (.invokestatic 111, 3) := by decide +kernel
theorem dX7_drawn_46 : decode cX7_drawn 46 = .ok (.aload_n 0, 1) := by decide +kernel
theorem dX7_drawn_47 : decode cX7_drawn 47 = .ok (.getfield 38, 3) := by decide +kernel
theorem dX7_drawn_50 : decode cX7_drawn 50 = .ok (.iload 5, 2) := by decide +kernel
theorem dX7_drawn_52 : decode cX7_drawn 52 = .ok (.invokevirtual 149, 3) := by decide +kernel
theorem dX7_drawn_55 : decode cX7_drawn 55 = .ok (.ireturn, 1) := by decide +kernel
theorem dX7_told_0 : decode cX7_told 0 = .ok (.iload_n 1, 1) := by decide +kernel
theorem dX7_told_1 : decode cX7_told 1 = .ok (.tableswitch 48 8 10 #[27, 35, 40], 27) := by decide +kernel
theorem dX7_told_28 : decode cX7_told 28 = .ok (.aload_n 0, 1) := by decide +kernel
theorem dX7_told_29 : decode cX7_told 29 = .ok (.getfield 20, 3) := by decide +kernel
theorem dX7_told_32 : decode cX7_told 32 = .ok (.getfield 73, 3) := by decide +kernel
theorem dX7_told_35 : decode cX7_told 35 = .ok (.ireturn, 1) := by decide +kernel
theorem dX7_told_36 : decode cX7_told 36 = .ok (.aload_n 0, 1) := by decide +kernel
theorem dX7_told_37 : decode cX7_told 37 = .ok (.getfield 56, 3) := by decide +kernel
theorem dX7_told_40 : decode cX7_told 40 = .ok (.ireturn, 1) := by decide +kernel
theorem dX7_told_41 : decode cX7_told 41 = .ok (.aload_n 0, 1) := by decide +kernel
theorem dX7_told_42 : decode cX7_told 42 = .ok (.getfield 10, 3) := by decide +kernel
theorem dX7_told_45 : decode cX7_told 45 = .ok (.getfield 101, 3) := by decide +kernel
theorem dX7_told_48 : decode cX7_told 48 = .ok (.ireturn, 1) := by decide +kernel
theorem dX7_told_49 : decode cX7_told 49 = .ok (.aload_n 0, 1) := by decide +kernel
theorem dX7_told_50 : decode cX7_told 50 = .ok (.getfield 52, 3) := by decide +kernel
theorem dX7_told_53 : decode cX7_told 53 = .ok (.iload_n 1, 1) := by decide +kernel
theorem dX7_told_54 : decode cX7_told 54 = .ok (.invokevirtual 153, 3) := by decide +kernel
theorem dX7_told_57 : decode cX7_told 57 = .ok (.ireturn, 1) := by decide +kernel
theorem dX7_label_0 : decode cX7_label 0 = .ok (.iload_n 1, 1) := by decide +kernel
theorem dX7_label_1 : decode cX7_label 1 = .ok (.ifCond .lt 9, 3) := by decide +kernel
theorem dX7_label_4 : decode cX7_label 4 = .ok (.iload_n 1, 1) := by decide +kernel
theorem dX7_label_5 : decode cX7_label 5 = .ok (.bipush 9, 2) := by decide +kernel
theorem dX7_label_7 : decode cX7_label 7 = .ok (.if_icmp .lt 7, 3) := by decide +kernel
theorem dX7_label_10 : decode cX7_label 10 = .ok (.iconst (-1), 1) := by decide +kernel
theorem dX7_label_11 : decode cX7_label 11 = .ok (.goto 12, 3) := by decide +kernel
theorem dX7_label_14 : decode cX7_label 14 = .ok (.aload_n 0, 1) := by decide +kernel
theorem dX7_label_15 : decode cX7_label 15 = .ok (.getfield 52, 3) := by decide +kernel
theorem dX7_label_18 : decode cX7_label 18 = .ok (.getfield 154, 3) := by decide +kernel
theorem dX7_label_21 : decode cX7_label 21 = .ok (.iload_n 1, 1) := by decide +kernel
theorem dX7_label_22 : decode cX7_label 22 = .ok (.iaload, 1) := by decide +kernel
theorem dX7_label_23 : decode cX7_label 23 = .ok (.ireturn, 1) := by decide +kernel
theorem dX7_newValues_0 : decode cX7_newValues 0 = .ok (.iload_n 0, 1) := by decide +kernel
theorem dX7_newValues_1 : decode cX7_newValues 1 = .ok (.anewarray 35, 3) := by decide +kernel
theorem dX7_newValues_4 : decode cX7_newValues 4 = .ok (.astore_n 1, 1) := by decide +kernel
theorem dX7_newValues_5 : decode cX7_newValues 5 = .ok (.iconst 0, 1) := by decide +kernel
theorem dX7_newValues_6 : decode cX7_newValues 6 = .ok (.istore_n 2, 1) := by decide +kernel
theorem dX7_newValues_7 : decode cX7_newValues 7 = .ok (.iload_n 2, 1) := by decide +kernel
theorem dX7_newValues_8 : decode cX7_newValues 8 = .ok (.iload_n 0, 1) := by decide +kernel
theorem dX7_newValues_9 : decode cX7_newValues 9 = .ok (.if_icmp .ge 19, 3) := by decide +kernel
theorem dX7_newValues_12 : decode cX7_newValues 12 = .ok (.aload_n 1, 1) := by decide +kernel
theorem dX7_newValues_13 : decode cX7_newValues 13 = .ok (.iload_n 2, 1) := by decide +kernel
theorem dX7_newValues_14 : decode cX7_newValues 14 = .ok (.new 35, 3) := by decide +kernel
theorem dX7_newValues_17 : decode cX7_newValues 17 = .ok (.dup, 1) := by decide +kernel
theorem dX7_newValues_18 : decode cX7_newValues 18 = .ok (.invokespecial 37, 3) := by decide +kernel
theorem dX7_newValues_21 : decode cX7_newValues 21 = .ok (.aastore, 1) := by decide +kernel
theorem dX7_newValues_22 : decode cX7_newValues 22 = .ok (.iinc 2 1, 3) := by decide +kernel
theorem dX7_newValues_25 : decode cX7_newValues 25 = .ok (.goto (-18), 3) := by decide +kernel
theorem dX7_newValues_28 : decode cX7_newValues 28 = .ok (.aload_n 1, 1) := by decide +kernel
theorem dX7_newValues_29 : decode cX7_newValues 29 = .ok (.areturn, 1) := by decide +kernel
theorem dX7_copyAll_0 : decode cX7_copyAll 0 = .ok (.iconst 0, 1) := by decide +kernel
theorem dX7_copyAll_1 : decode cX7_copyAll 1 = .ok (.istore_n 2, 1) := by decide +kernel
theorem dX7_copyAll_2 : decode cX7_copyAll 2 = .ok (.iload_n 2, 1) := by decide +kernel
theorem dX7_copyAll_3 : decode cX7_copyAll 3 = .ok (.iconst 3, 1) := by decide +kernel
theorem dX7_copyAll_4 : decode cX7_copyAll 4 = .ok (.if_icmp .ge 18, 3) := by decide +kernel
theorem dX7_copyAll_7 : decode cX7_copyAll 7 = .ok (.aload_n 1, 1) := by decide +kernel
theorem dX7_copyAll_8 : decode cX7_copyAll 8 = .ok (.iload_n 2, 1) := by decide +kernel
theorem dX7_copyAll_9 : decode cX7_copyAll 9 = .ok (.aaload, 1) := by decide +kernel
theorem dX7_copyAll_10 : decode cX7_copyAll 10 = .ok (.aload_n 0, 1) := by decide +kernel
theorem dX7_copyAll_11 : decode cX7_copyAll 11 = .ok (.iload_n 2, 1) := by decide +kernel
theorem dX7_copyAll_12 : decode cX7_copyAll 12 = .ok (.aaload, 1) := by decide +kernel
theorem dX7_copyAll_13 : decode cX7_copyAll 13 = .ok (.invokevirtual 157, 3) := by decide +kernel
theorem dX7_copyAll_16 : decode cX7_copyAll 16 = .ok (.iinc 2 1, 3) := by decide +kernel
theorem dX7_copyAll_19 : decode cX7_copyAll 19 = .ok (.goto (-17), 3) := by decide +kernel
theorem dX7_copyAll_22 : decode cX7_copyAll 22 = .ok (.return_, 1) := by decide +kernel
theorem dX7_isType_0 : decode cX7_isType 0 = .ok (.iload_n 0, 1) := by decide +kernel
theorem dX7_isType_1 : decode cX7_isType 1 = .ok (.iconst (-1), 1) := by decide +kernel
theorem dX7_isType_2 : decode cX7_isType 2 = .ok (.if_icmp .lt 12, 3) := by decide +kernel
theorem dX7_isType_5 : decode cX7_isType 5 = .ok (.iload_n 0, 1) := by decide +kernel
theorem dX7_isType_6 : decode cX7_isType 6 = .ok (.iconst 1, 1) := by decide +kernel
theorem dX7_isType_7 : decode cX7_isType 7 = .ok (.if_icmp .gt 7, 3) := by decide +kernel
theorem dX7_isType_10 : decode cX7_isType 10 = .ok (.iconst 1, 1) := by decide +kernel
theorem dX7_isType_11 : decode cX7_isType 11 = .ok (.goto 4, 3) := by decide +kernel
theorem dX7_isType_14 : decode cX7_isType 14 = .ok (.iconst 0, 1) := by decide +kernel
theorem dX7_isType_15 : decode cX7_isType 15 = .ok (.ireturn, 1) := by decide +kernel
theorem dX7_isSmall_0 : decode cX7_isSmall 0 = .ok (.iload_n 0, 1) := by decide +kernel
theorem dX7_isSmall_1 : decode cX7_isSmall 1 = .ok (.ifCond .lt 12, 3) := by decide +kernel
theorem dX7_isSmall_4 : decode cX7_isSmall 4 = .ok (.iload_n 0, 1) := by decide +kernel
theorem dX7_isSmall_5 : decode cX7_isSmall 5 = .ok (.iconst 3, 1) := by decide +kernel
theorem dX7_isSmall_6 : decode cX7_isSmall 6 = .ok (.if_icmp .gt 7, 3) := by decide +kernel
theorem dX7_isSmall_9 : decode cX7_isSmall 9 = .ok (.iconst 1, 1) := by decide +kernel
theorem dX7_isSmall_10 : decode cX7_isSmall 10 = .ok (.goto 4, 3) := by decide +kernel
theorem dX7_isSmall_13 : decode cX7_isSmall 13 = .ok (.iconst 0, 1) := by decide +kernel
theorem dX7_isSmall_14 : decode cX7_isSmall 14 = .ok (.ireturn, 1) := by decide +kernel
theorem dX7_isProperty_0 : decode cX7_isProperty 0 = .ok (.iload_n 1, 1) := by decide +kernel
theorem dX7_isProperty_1 : decode cX7_isProperty 1 = .ok (.ifCond .lt 15, 3) := by decide +kernel
theorem dX7_isProperty_4 : decode cX7_isProperty 4 = .ok (.iload_n 1, 1) := by decide +kernel
theorem dX7_isProperty_5 : decode cX7_isProperty 5 = .ok (.aload_n 0, 1) := by decide +kernel
theorem dX7_isProperty_6 : decode cX7_isProperty 6 = .ok (.getfield 56, 3) := by decide +kernel
theorem dX7_isProperty_9 : decode cX7_isProperty 9 = .ok (.if_icmp .ge 7, 3) := by decide +kernel
theorem dX7_isProperty_12 : decode cX7_isProperty 12 = .ok (.iconst 1, 1) := by decide +kernel
theorem dX7_isProperty_13 : decode cX7_isProperty 13 = .ok (.goto 4, 3) := by decide +kernel
theorem dX7_isProperty_16 : decode cX7_isProperty 16 = .ok (.iconst 0, 1) := by decide +kernel
theorem dX7_isProperty_17 : decode cX7_isProperty 17 = .ok (.ireturn, 1) := by decide +kernel
theorem dX7_forgetLatest_0 : decode cX7_forgetLatest 0 = .ok (.aload_n 0, 1) := by decide +kernel
theorem dX7_forgetLatest_1 : decode cX7_forgetLatest 1 = .ok (.getfield 52, 3) := by decide +kernel
theorem dX7_forgetLatest_4 : decode cX7_forgetLatest 4 = .ok (.invokevirtual 161, 3) := by decide +kernel
theorem dX7_forgetLatest_7 : decode cX7_forgetLatest 7 = .ok (.aload_n 0, 1) := by decide +kernel
theorem dX7_forgetLatest_8 : decode cX7_forgetLatest 8 = .ok (.iconst (-1), 1) := by decide +kernel
theorem dX7_forgetLatest_9 : decode cX7_forgetLatest 9 = .ok (.putfield 60, 3) := by decide +kernel
theorem dX7_forgetLatest_12 : decode cX7_forgetLatest 12 = .ok (.return_, 1) := by decide +kernel
theorem dX7_tryCase_0 : decode cX7_tryCase 0 = .ok (.aload_n 0, 1) := by decide +kernel
theorem dX7_tryCase_1 : decode cX7_tryCase 1 = .ok (.getfield 10, 3) := by decide +kernel
theorem dX7_tryCase_4 : decode cX7_tryCase 4 = .ok (.aload_n 0, 1) := by decide +kernel
theorem dX7_tryCase_5 : decode cX7_tryCase 5 = .ok (.getfield 44, 3) := by decide +kernel
theorem dX7_tryCase_8 : decode cX7_tryCase 8 = .ok (.iload_n 1, 1) := by decide +kernel
theorem dX7_tryCase_9 : decode cX7_tryCase 9 = .ok (.aaload, 1) := by decide +kernel
theorem dX7_tryCase_10 : decode cX7_tryCase 10 = .ok (.invokevirtual 144, 3) := by decide +kernel
theorem dX7_tryCase_13 : decode cX7_tryCase 13 = .ok (.istore_n 2, 1) := by decide +kernel
theorem dX7_tryCase_14 : decode cX7_tryCase 14 = .ok (.aload_n 0, 1) := by decide +kernel
theorem dX7_tryCase_15 : decode cX7_tryCase 15 = .ok (.getfield 52, 3) := by decide +kernel
theorem dX7_tryCase_18 : decode cX7_tryCase 18 = .ok (.iload_n 2, 1) := by decide +kernel
theorem dX7_tryCase_19 : decode cX7_tryCase 19 = .ok (.invokevirtual 164, 3) := by decide +kernel
theorem dX7_tryCase_22 : decode cX7_tryCase 22 = .ok (.iload_n 2, 1) := by decide +kernel
theorem dX7_tryCase_23 : decode cX7_tryCase 23 = .ok (.ifCond .ne 40, 3) := by decide +kernel
theorem dX7_tryCase_26 : decode cX7_tryCase 26 = .ok (.aload_n 0, 1) := by decide +kernel
theorem dX7_tryCase_27 : decode cX7_tryCase 27 = .ok (.getfield 44, 3) := by decide +kernel
theorem dX7_tryCase_30 : decode cX7_tryCase 30 = .ok (.iload_n 1, 1) := by decide +kernel
theorem dX7_tryCase_31 : decode cX7_tryCase 31 = .ok (.aaload, 1) := by decide +kernel
theorem dX7_tryCase_32 : decode cX7_tryCase 32 = .ok (.getfield 167, 3) := by decide +kernel
theorem dX7_tryCase_35 : decode cX7_tryCase 35 = .ok (.ifCond .lt 28, 3) := by decide +kernel
theorem dX7_tryCase_38 : decode cX7_tryCase 38 = .ok (.aload_n 0, 1) := by decide +kernel
theorem dX7_tryCase_39 : decode cX7_tryCase 39 = .ok (.getfield 52, 3) := by decide +kernel
theorem dX7_tryCase_42 : decode cX7_tryCase 42 = .ok (.getfield 154, 3) := by decide +kernel
theorem dX7_tryCase_45 : decode cX7_tryCase 45 = .ok (.aload_n 0, 1) := by decide +kernel
theorem dX7_tryCase_46 : decode cX7_tryCase 46 = .ok (.getfield 10, 3) := by decide +kernel
theorem dX7_tryCase_49 : decode cX7_tryCase 49 = .ok (.aload_n 0, 1) := by decide +kernel
theorem dX7_tryCase_50 : decode cX7_tryCase 50 = .ok (.getfield 44, 3) := by decide +kernel
theorem dX7_tryCase_53 : decode cX7_tryCase 53 = .ok (.iload_n 1, 1) := by decide +kernel
theorem dX7_tryCase_54 : decode cX7_tryCase 54 = .ok (.aaload, 1) := by decide +kernel
theorem dX7_tryCase_55 : decode cX7_tryCase 55 = .ok (.invokevirtual 170, 3) := by decide +kernel
theorem dX7_tryCase_58 : decode cX7_tryCase 58 = .ok (.dup2, 1) := by decide +kernel
theorem dX7_tryCase_59 : decode cX7_tryCase 59 = .ok (.iaload, 1) := by decide +kernel
theorem dX7_tryCase_60 : decode cX7_tryCase 60 = .ok (.iconst 1, 1) := by decide +kernel
theorem dX7_tryCase_61 : decode cX7_tryCase 61 = .ok (.iadd, 1) := by decide +kernel
theorem dX7_tryCase_62 : decode cX7_tryCase 62 = .ok (.iastore, 1) := by decide +kernel
theorem dX7_tryCase_63 : decode cX7_tryCase 63 = .ok (.iload_n 2, 1) := by decide +kernel
theorem dX7_tryCase_64 : decode cX7_tryCase 64 = .ok (.ifCond .le 19, 3) := by decide +kernel
theorem dX7_tryCase_67 : decode cX7_tryCase 67 = .ok (.aload_n 0, 1) := by decide +kernel
theorem dX7_tryCase_68 : decode cX7_tryCase 68 = .ok (.iload_n 1, 1) := by decide +kernel
theorem dX7_tryCase_69 : decode cX7_tryCase 69 = .ok (.putfield 60, 3) := by decide +kernel
theorem dX7_tryCase_72 : decode cX7_tryCase 72 = .ok (.aload_n 0, 1) := by decide +kernel
theorem dX7_tryCase_73 : decode cX7_tryCase 73 = .ok (.getfield 25, 3) := by decide +kernel
theorem dX7_tryCase_76 : decode cX7_tryCase 76 = .ok (.aload_n 0, 1) := by decide +kernel
theorem dX7_tryCase_77 : decode cX7_tryCase 77 = .ok (.getfield 32, 3) := by decide +kernel
theorem dX7_tryCase_80 : decode cX7_tryCase 80 = .ok (.invokestatic 140, 3) := by decide +kernel
theorem dX7_tryCase_83 : decode cX7_tryCase 83 = .ok (.return_, 1) := by decide +kernel
theorem dX7_makeSmaller_0 : decode cX7_makeSmaller 0 = .ok (.iconst 0, 1) := by decide +kernel
theorem dX7_makeSmaller_1 : decode cX7_makeSmaller 1 = .ok (.istore_n 1, 1) := by decide +kernel
theorem dX7_makeSmaller_2 : decode cX7_makeSmaller 2 = .ok (.iconst 0, 1) := by decide +kernel
theorem dX7_makeSmaller_3 : decode cX7_makeSmaller 3 = .ok (.istore_n 2, 1) := by decide +kernel
theorem dX7_makeSmaller_4 : decode cX7_makeSmaller 4 = .ok (.iload_n 2, 1) := by decide +kernel
theorem dX7_makeSmaller_5 : decode cX7_makeSmaller 5 = .ok (.sipush 200, 3) := by decide +kernel
theorem dX7_makeSmaller_8 : decode cX7_makeSmaller 8 = .ok (.if_icmp .ge 85, 3) := by decide +kernel
theorem dX7_makeSmaller_11 : decode cX7_makeSmaller 11 = .ok (.aload_n 0, 1) := by decide +kernel
theorem dX7_makeSmaller_12 : decode cX7_makeSmaller 12 = .ok (.iload_n 1, 1) := by decide +kernel
theorem dX7_makeSmaller_13 : decode cX7_makeSmaller 13 = .ok (.invokevirtual 173, 3) := by decide +kernel
theorem dX7_makeSmaller_16 : decode cX7_makeSmaller 16 = .ok (.ifCond .eq 77, 3) := by decide +kernel
theorem dX7_makeSmaller_19 : decode cX7_makeSmaller 19 = .ok (.aload_n 0, 1) := by decide +kernel
theorem dX7_makeSmaller_20 : decode cX7_makeSmaller 20 = .ok (.getfield 52, 3) := by decide +kernel
theorem dX7_makeSmaller_23 : decode cX7_makeSmaller 23 = .ok (.dup, 1) := by decide +kernel
theorem dX7_makeSmaller_24 : decode cX7_makeSmaller 24 = .ok (.getfield 176, 3) := by decide +kernel
theorem dX7_makeSmaller_27 : decode cX7_makeSmaller 27 = .ok (.iconst 1, 1) := by decide +kernel
theorem dX7_makeSmaller_28 : decode cX7_makeSmaller 28 = .ok (.iadd, 1) := by decide +kernel
theorem dX7_makeSmaller_29 : decode cX7_makeSmaller 29 = .ok (.putfield 176, 3) := by decide +kernel
theorem dX7_makeSmaller_32 : decode cX7_makeSmaller 32 = .ok (.iinc 1 1, 3) := by decide +kernel
theorem dX7_makeSmaller_35 : decode cX7_makeSmaller 35 = .ok (.aload_n 0, 1) := by decide +kernel
theorem dX7_makeSmaller_36 : decode cX7_makeSmaller 36 = .ok (.getfield 10, 3) := by decide +kernel
theorem dX7_makeSmaller_39 : decode cX7_makeSmaller 39 = .ok (.aload_n 0, 1) := by decide +kernel
theorem dX7_makeSmaller_40 : decode cX7_makeSmaller 40 = .ok (.getfield 44, 3) := by decide +kernel
theorem dX7_makeSmaller_43 : decode cX7_makeSmaller 43 = .ok (.aload_n 0, 1) := by decide +kernel
theorem dX7_makeSmaller_44 : decode cX7_makeSmaller 44 = .ok (.getfield 60, 3) := by decide +kernel
theorem dX7_makeSmaller_47 : decode cX7_makeSmaller 47 = .ok (.aaload, 1) := by decide +kernel
theorem dX7_makeSmaller_48 : decode cX7_makeSmaller 48 = .ok (.invokevirtual 144, 3) := by decide +kernel
theorem dX7_makeSmaller_51 : decode cX7_makeSmaller 51 = .ok (.aload_n 0, 1) := by decide +kernel
theorem dX7_makeSmaller_52 : decode cX7_makeSmaller 52 = .ok (.getfield 52, 3) := by decide +kernel
theorem dX7_makeSmaller_55 : decode cX7_makeSmaller 55 = .ok (.getfield 179, 3) := by decide +kernel
theorem dX7_makeSmaller_58 : decode cX7_makeSmaller 58 = .ok (.if_icmp .ne 29, 3) := by decide +kernel
theorem dX7_makeSmaller_61 : decode cX7_makeSmaller 61 = .ok (.aload_n 0, 1) := by decide +kernel
theorem dX7_makeSmaller_62 : decode cX7_makeSmaller 62 = .ok (.getfield 52, 3) := by decide +kernel
theorem dX7_makeSmaller_65 : decode cX7_makeSmaller 65 = .ok (.dup, 1) := by decide +kernel
theorem dX7_makeSmaller_66 : decode cX7_makeSmaller 66 = .ok (.getfield 181, 3) := by decide +kernel
theorem dX7_makeSmaller_69 : decode cX7_makeSmaller 69 = .ok (.iconst 1, 1) := by decide +kernel
theorem dX7_makeSmaller_70 : decode cX7_makeSmaller 70 = .ok (.iadd, 1) := by decide +kernel
theorem dX7_makeSmaller_71 : decode cX7_makeSmaller 71 = .ok (.putfield 181, 3) := by decide +kernel
theorem dX7_makeSmaller_74 : decode cX7_makeSmaller 74 = .ok (.aload_n 0, 1) := by decide +kernel
theorem dX7_makeSmaller_75 : decode cX7_makeSmaller 75 = .ok (.getfield 25, 3) := by decide +kernel
theorem dX7_makeSmaller_78 : decode cX7_makeSmaller 78 = .ok (.aload_n 0, 1) := by decide +kernel
theorem dX7_makeSmaller_79 : decode cX7_makeSmaller 79 = .ok (.getfield 32, 3) := by decide +kernel
theorem dX7_makeSmaller_82 : decode cX7_makeSmaller 82 = .ok (.invokestatic 140, 3) := by decide +kernel
theorem dX7_makeSmaller_85 : decode cX7_makeSmaller 85 = .ok (.iconst 0, 1) := by decide +kernel
theorem dX7_makeSmaller_86 : decode cX7_makeSmaller 86 = .ok (.istore_n 1, 1) := by decide +kernel
theorem dX7_makeSmaller_87 : decode cX7_makeSmaller 87 = .ok (.iinc 2 1, 3) := by decide +kernel
theorem dX7_makeSmaller_90 : decode cX7_makeSmaller 90 = .ok (.goto (-86), 3) := by decide +kernel
theorem dX7_makeSmaller_93 : decode cX7_makeSmaller 93 = .ok (.aload_n 0, 1) := by decide +kernel
theorem dX7_makeSmaller_94 : decode cX7_makeSmaller 94 = .ok (.getfield 52, 3) := by decide +kernel
theorem dX7_makeSmaller_97 : decode cX7_makeSmaller 97 = .ok (.aload_n 0, 1) := by decide +kernel
theorem dX7_makeSmaller_98 : decode cX7_makeSmaller 98 = .ok (.getfield 52, 3) := by decide +kernel
theorem dX7_makeSmaller_101 : decode cX7_makeSmaller 101 = .ok (.getfield 176, 3) := by decide +kernel
theorem dX7_makeSmaller_104 : decode cX7_makeSmaller 104 = .ok (.sipush 200, 3) := by decide +kernel
theorem dX7_makeSmaller_107 : decode cX7_makeSmaller 107 = .ok (.if_icmp .ge 7, 3) := by decide +kernel
theorem dX7_makeSmaller_110 : decode cX7_makeSmaller 110 = .ok (.iconst 1, 1) := by decide +kernel
theorem dX7_makeSmaller_111 : decode cX7_makeSmaller 111 = .ok (.goto 4, 3) := by decide +kernel
theorem dX7_makeSmaller_114 : decode cX7_makeSmaller 114 = .ok (.iconst 0, 1) := by decide +kernel
theorem dX7_makeSmaller_115 : decode cX7_makeSmaller 115 = .ok (.putfield 184, 3) := by decide +kernel
theorem dX7_makeSmaller_118 : decode cX7_makeSmaller 118 = .ok (.return_, 1) := by decide +kernel
theorem dX7_takeCandidate_0 : decode cX7_takeCandidate 0 = .ok (.iload_n 1, 1) := by decide +kernel
theorem dX7_takeCandidate_1 : decode cX7_takeCandidate 1 = .ok (.istore_n 2, 1) := by decide +kernel
theorem dX7_takeCandidate_2 : decode cX7_takeCandidate 2 = .ok (.iconst 0, 1) := by decide +kernel
theorem dX7_takeCandidate_3 : decode cX7_takeCandidate 3 = .ok (.istore_n 3, 1) := by decide +kernel
theorem dX7_takeCandidate_4 : decode cX7_takeCandidate 4 = .ok (.iload_n 3, 1) := by decide +kernel
theorem dX7_takeCandidate_5 : decode cX7_takeCandidate 5 = .ok (.iconst 3, 1) := by decide +kernel
theorem dX7_takeCandidate_6 : decode cX7_takeCandidate 6 = .ok (.if_icmp .ge 54, 3) := by decide +kernel
theorem dX7_takeCandidate_9 : decode cX7_takeCandidate 9 = .ok (.aload_n 0, 1) := by decide +kernel
theorem dX7_takeCandidate_10 : decode cX7_takeCandidate 10 = .ok (.getfield 32, 3) := by decide +kernel
theorem dX7_takeCandidate_13 : decode cX7_takeCandidate 13 = .ok (.iload_n 3, 1) := by decide +kernel
theorem dX7_takeCandidate_14 : decode cX7_takeCandidate 14 = .ok (.aaload, 1) := by decide +kernel
theorem dX7_takeCandidate_15 : decode cX7_takeCandidate 15 = .ok (.invokevirtual 188, 3) := by decide +kernel
theorem dX7_takeCandidate_18 : decode cX7_takeCandidate 18 = .ok (.istore 4, 2) := by decide +kernel
theorem dX7_takeCandidate_20 : decode cX7_takeCandidate 20 = .ok (.iload_n 2, 1) := by decide +kernel
theorem dX7_takeCandidate_21 : decode cX7_takeCandidate 21 = .ok (.iload 4, 2) := by decide +kernel
theorem dX7_takeCandidate_23 : decode cX7_takeCandidate 23 = .ok (.if_icmp .ge 26, 3) := by decide +kernel
theorem dX7_takeCandidate_26 : decode cX7_takeCandidate 26 = .ok (.aload_n 0, 1) := by decide +kernel
theorem dX7_takeCandidate_27 : decode cX7_takeCandidate 27 = .ok (.getfield 32, 3) := by decide +kernel
theorem dX7_takeCandidate_30 : decode cX7_takeCandidate 30 = .ok (.aload_n 0, 1) := by decide +kernel
theorem dX7_takeCandidate_31 : decode cX7_takeCandidate 31 = .ok (.getfield 25, 3) := by decide +kernel
theorem dX7_takeCandidate_34 : decode cX7_takeCandidate 34 = .ok (.invokestatic 140, 3) := by decide +kernel
theorem dX7_takeCandidate_37 : decode cX7_takeCandidate 37 = .ok (.aload_n 0, 1) := by decide +kernel
theorem dX7_takeCandidate_38 : decode cX7_takeCandidate 38 = .ok (.getfield 25, 3) := by decide +kernel
theorem dX7_takeCandidate_41 : decode cX7_takeCandidate 41 = .ok (.iload_n 3, 1) := by decide +kernel
theorem dX7_takeCandidate_42 : decode cX7_takeCandidate 42 = .ok (.aaload, 1) := by decide +kernel
theorem dX7_takeCandidate_43 : decode cX7_takeCandidate 43 = .ok (.iload_n 2, 1) := by decide +kernel
theorem dX7_takeCandidate_44 : decode cX7_takeCandidate 44 = .ok (.invokevirtual 192, 3) := by decide +kernel
theorem dX7_takeCandidate_47 : decode cX7_takeCandidate 47 = .ok (.iconst 1, 1) := by decide +kernel
theorem dX7_takeCandidate_48 : decode cX7_takeCandidate 48 = .ok (.ireturn, 1) := by decide +kernel
theorem dX7_takeCandidate_49 : decode cX7_takeCandidate 49 = .ok (.iload_n 2, 1) := by decide +kernel
theorem dX7_takeCandidate_50 : decode cX7_takeCandidate 50 = .ok (.iload 4, 2) := by decide +kernel
theorem dX7_takeCandidate_52 : decode cX7_takeCandidate 52 = .ok (.isub, 1) := by decide +kernel
theorem dX7_takeCandidate_53 : decode cX7_takeCandidate 53 = .ok (.istore_n 2, 1) := by decide +kernel
theorem dX7_takeCandidate_54 : decode cX7_takeCandidate 54 = .ok (.iinc 3 1, 3) := by decide +kernel
theorem dX7_takeCandidate_57 : decode cX7_takeCandidate 57 = .ok (.goto (-53), 3) := by decide +kernel
theorem dX7_takeCandidate_60 : decode cX7_takeCandidate 60 = .ok (.iconst 0, 1) := by decide +kernel
theorem dX7_takeCandidate_61 : decode cX7_takeCandidate 61 = .ok (.ireturn, 1) := by decide +kernel
theorem dX8_init_0 : decode cX8_init 0 = .ok (.aload_n 0, 1) := by decide +kernel
theorem dX8_init_1 : decode cX8_init 1 = .ok (.invokespecial 1, 3) := by decide +kernel
theorem dX8_init_4 : decode cX8_init 4 = .ok (.aload_n 0, 1) := by decide +kernel
theorem dX8_init_5 : decode cX8_init 5 = .ok (.bipush 60, 2) := by decide +kernel
theorem dX8_init_7 : decode cX8_init 7 = .ok (.newarray .int, 2) := by decide +kernel
theorem dX8_init_9 : decode cX8_init 9 = .ok (.putfield 7, 3) := by decide +kernel
theorem dX8_init_12 : decode cX8_init 12 = .ok (.aload_n 0, 1) := by decide +kernel
theorem dX8_init_13 : decode cX8_init 13 = .ok (.bipush 60, 2) := by decide +kernel
theorem dX8_init_15 : decode cX8_init 15 = .ok (.newarray .int, 2) := by decide +kernel
theorem dX8_init_17 : decode cX8_init 17 = .ok (.putfield 13, 3) := by decide +kernel
theorem dX8_init_20 : decode cX8_init 20 = .ok (.aload_n 0, 1) := by decide +kernel
theorem dX8_init_21 : decode cX8_init 21 = .ok (.bipush 60, 2) := by decide +kernel
theorem dX8_init_23 : decode cX8_init 23 = .ok (.newarray .int, 2) := by decide +kernel
theorem dX8_init_25 : decode cX8_init 25 = .ok (.putfield 16, 3) := by decide +kernel
theorem dX8_init_28 : decode cX8_init 28 = .ok (.aload_n 0, 1) := by decide +kernel
theorem dX8_init_29 : decode cX8_init 29 = .ok (.bipush 60, 2) := by decide +kernel
theorem dX8_init_31 : decode cX8_init 31 = .ok (.newarray .int, 2) := by decide +kernel
theorem dX8_init_33 : decode cX8_init 33 = .ok (.putfield 19, 3) := by decide +kernel
theorem dX8_init_36 : decode cX8_init 36 = .ok (.aload_n 0, 1) := by decide +kernel
theorem dX8_init_37 : decode cX8_init 37 = .ok (.bipush 60, 2) := by decide +kernel
theorem dX8_init_39 : decode cX8_init 39 = .ok (.newarray .int, 2) := by decide +kernel
theorem dX8_init_41 : decode cX8_init 41 = .ok (.putfield 22, 3) := by decide +kernel
theorem dX8_init_44 : decode cX8_init 44 = .ok (.aload_n 0, 1) := by decide +kernel
theorem dX8_init_45 : decode cX8_init 45 = .ok (.iconst 3, 1) := by decide +kernel
theorem dX8_init_46 : decode cX8_init 46 = .ok (.newarray .int, 2) := by decide +kernel
theorem dX8_init_48 : decode cX8_init 48 = .ok (.putfield 25, 3) := by decide +kernel
theorem dX8_init_51 : decode cX8_init 51 = .ok (.aload_n 0, 1) := by decide +kernel
theorem dX8_init_52 : decode cX8_init 52 = .ok (.iconst 3, 1) := by decide +kernel
theorem dX8_init_53 : decode cX8_init 53 = .ok (.newarray .int, 2) := by decide +kernel
theorem dX8_init_55 : decode cX8_init 55 = .ok (.putfield 28, 3) := by decide +kernel
theorem dX8_init_58 : decode cX8_init 58 = .ok (.aload_n 0, 1) := by decide +kernel
theorem dX8_init_59 : decode cX8_init 59 = .ok (.bipush 48, 2) := by decide +kernel
theorem dX8_init_61 : decode cX8_init 61 = .ok (.newarray .int, 2) := by decide +kernel
theorem dX8_init_63 : decode cX8_init 63 = .ok (.putfield 31, 3) := by decide +kernel
theorem dX8_init_66 : decode cX8_init 66 = .ok (.aload_n 0, 1) := by decide +kernel
theorem dX8_init_67 : decode cX8_init 67 = .ok (.bipush 61, 2) := by decide +kernel
theorem dX8_init_69 : decode cX8_init 69 = .ok (.newarray .int, 2) := by decide +kernel
theorem dX8_init_71 : decode cX8_init 71 = .ok (.putfield 34, 3) := by decide +kernel
theorem dX8_init_74 : decode cX8_init 74 = .ok (.aload_n 0, 1) := by decide +kernel
theorem dX8_init_75 : decode cX8_init 75 = .ok (.bipush 61, 2) := by decide +kernel
theorem dX8_init_77 : decode cX8_init 77 = .ok (.newarray .int, 2) := by decide +kernel
theorem dX8_init_79 : decode cX8_init 79 = .ok (.putfield 37, 3) := by decide +kernel
theorem dX8_init_82 : decode cX8_init 82 = .ok (.aload_n 0, 1) := by decide +kernel
theorem dX8_init_83 : decode cX8_init 83 = .ok (.sipush 183, 3) := by decide +kernel
theorem dX8_init_86 : decode cX8_init 86 = .ok (.newarray .int, 2) := by decide +kernel
theorem dX8_init_88 : decode cX8_init 88 = .ok (.putfield 40, 3) := by decide +kernel
theorem dX8_init_91 : decode cX8_init 91 = .ok (.aload_n 0, 1) := by decide +kernel
theorem dX8_init_92 : decode cX8_init 92 = .ok (.sipush 183, 3) := by decide +kernel
theorem dX8_init_95 : decode cX8_init 95 = .ok (.newarray .int, 2) := by decide +kernel
theorem dX8_init_97 : decode cX8_init 97 = .ok (.putfield 43, 3) := by decide +kernel
theorem dX8_init_100 : decode cX8_init 100 = .ok (.aload_n 0, 1) := by decide +kernel
theorem dX8_init_101 : decode cX8_init 101 = .ok (.sipush 183, 3) := by decide +kernel
theorem dX8_init_104 : decode cX8_init 104 = .ok (.newarray .int, 2) := by decide +kernel
theorem dX8_init_106 : decode cX8_init 106 = .ok (.putfield 46, 3) := by decide +kernel
theorem dX8_init_109 : decode cX8_init 109 = .ok (.aload_n 0, 1) := by decide +kernel
theorem dX8_init_110 : decode cX8_init 110 = .ok (.sipush 1024, 3) := by decide +kernel
theorem dX8_init_113 : decode cX8_init 113 = .ok (.newarray .int, 2) := by decide +kernel
theorem dX8_init_115 : decode cX8_init 115 = .ok (.putfield 49, 3) := by decide +kernel
theorem dX8_init_118 : decode cX8_init 118 = .ok (.aload_n 0, 1) := by decide +kernel
theorem dX8_init_119 : decode cX8_init 119 = .ok (.bipush 16, 2) := by decide +kernel
theorem dX8_init_121 : decode cX8_init 121 = .ok (.newarray .int, 2) := by decide +kernel
theorem dX8_init_123 : decode cX8_init 123 = .ok (.putfield 52, 3) := by decide +kernel
theorem dX8_init_126 : decode cX8_init 126 = .ok (.aload_n 0, 1) := by decide +kernel
theorem dX8_init_127 : decode cX8_init 127 = .ok (.bipush 24, 2) := by decide +kernel
theorem dX8_init_129 : decode cX8_init 129 = .ok (.newarray .int, 2) := by decide +kernel
theorem dX8_init_131 : decode cX8_init 131 = .ok (.putfield 55, 3) := by decide +kernel
theorem dX8_init_134 : decode cX8_init 134 = .ok (.aload_n 0, 1) := by decide +kernel
theorem dX8_init_135 : decode cX8_init 135 = .ok (.bipush 8, 2) := by decide +kernel
theorem dX8_init_137 : decode cX8_init 137 = .ok (.newarray .int, 2) := by decide +kernel
theorem dX8_init_139 : decode cX8_init 139 = .ok (.putfield 58, 3) := by decide +kernel
theorem dX8_init_142 : decode cX8_init 142 = .ok (.aload_n 0, 1) := by decide +kernel
theorem dX8_init_143 : decode cX8_init 143 = .ok (.bipush 8, 2) := by decide +kernel
theorem dX8_init_145 : decode cX8_init 145 = .ok (.newarray .int, 2) := by decide +kernel
theorem dX8_init_147 : decode cX8_init 147 = .ok (.putfield 61, 3) := by decide +kernel
theorem dX8_init_150 : decode cX8_init 150 = .ok (.aload_n 0, 1) := by decide +kernel
theorem dX8_init_151 : decode cX8_init 151 = .ok (.bipush 8, 2) := by decide +kernel
theorem dX8_init_153 : decode cX8_init 153 = .ok (.newarray .int, 2) := by decide +kernel
theorem dX8_init_155 : decode cX8_init 155 = .ok (.putfield 64, 3) := by decide +kernel
theorem dX8_init_158 : decode cX8_init 158 = .ok (.aload_n 0, 1) := by decide +kernel
theorem dX8_init_159 : decode cX8_init 159 = .ok (.bipush 8, 2) := by decide +kernel
theorem dX8_init_161 : decode cX8_init 161 = .ok (.newarray .int, 2) := by decide +kernel
theorem dX8_init_163 : decode cX8_init 163 = .ok (.putfield 67, 3) := by decide +kernel
theorem dX8_init_166 : decode cX8_init 166 = .ok (.aload_n 0, 1) := by decide +kernel
theorem dX8_init_167 : decode cX8_init 167 = .ok (.bipush 9, 2) := by decide +kernel
theorem dX8_init_169 : decode cX8_init 169 = .ok (.newarray .int, 2) := by decide +kernel
theorem dX8_init_171 : decode cX8_init 171 = .ok (.putfield 70, 3) := by decide +kernel
theorem dX8_init_174 : decode cX8_init 174 = .ok (.aload_n 0, 1) := by decide +kernel
theorem dX8_init_175 : decode cX8_init 175 = .ok (.bipush 16, 2) := by decide +kernel
theorem dX8_init_177 : decode cX8_init 177 = .ok (.newarray .int, 2) := by decide +kernel
theorem dX8_init_179 : decode cX8_init 179 = .ok (.putfield 73, 3) := by decide +kernel
theorem dX8_init_182 : decode cX8_init 182 = .ok (.aload_n 0, 1) := by decide +kernel
theorem dX8_init_183 : decode cX8_init 183 = .ok (.iconst (-1), 1) := by decide +kernel
theorem dX8_init_184 : decode cX8_init 184 = .ok (.putfield 76, 3) := by decide +kernel
theorem dX8_init_187 : decode cX8_init 187 = .ok (.aload_n 0, 1) := by decide +kernel
theorem dX8_init_188 : decode cX8_init 188 = .ok (.iconst 3, 1) := by decide +kernel
theorem dX8_init_189 : decode cX8_init 189 = .ok (.newarray .int, 2) := by decide +kernel
theorem dX8_init_191 : decode cX8_init 191 = .ok (.putfield 80, 3) := by decide +kernel
theorem dX8_init_194 : decode cX8_init 194 = .ok (.aload_n 0, 1) := by decide +kernel
theorem dX8_init_195 : decode cX8_init 195 = .ok (.iconst 3, 1) := by decide +kernel
theorem dX8_init_196 : decode cX8_init 196 = .ok (.newarray .int, 2) := by decide +kernel
theorem dX8_init_198 : decode cX8_init 198 = .ok (.putfield 83, 3) := by decide +kernel
theorem dX8_init_201 : decode cX8_init 201 = .ok (.aload_n 0, 1) := by decide +kernel
theorem dX8_init_202 : decode cX8_init 202 = .ok (.bipush 48, 2) := by decide +kernel
theorem dX8_init_204 : decode cX8_init 204 = .ok (.newarray .int, 2) := by decide +kernel
theorem dX8_init_206 : decode cX8_init 206 = .ok (.putfield 86, 3) := by decide +kernel
theorem dX8_init_209 : decode cX8_init 209 = .ok (.aload_n 0, 1) := by decide +kernel
theorem dX8_init_210 : decode cX8_init 210 = .ok (.iconst (-1), 1) := by decide +kernel
theorem dX8_init_211 : decode cX8_init 211 = .ok (.putfield 89, 3) := by decide +kernel
theorem dX8_init_214 : decode cX8_init 214 = .ok (.iconst 0, 1) := by decide +kernel
theorem dX8_init_215 : decode cX8_init 215 = .ok (.istore_n 1, 1) := by decide +kernel
theorem dX8_init_216 : decode cX8_init 216 = .ok (.iload_n 1, 1) := by decide +kernel
theorem dX8_init_217 : decode cX8_init 217 = .ok (.iconst 3, 1) := by decide +kernel
theorem dX8_init_218 : decode cX8_init 218 = .ok (.if_icmp .ge 16, 3) := by decide +kernel
theorem dX8_init_221 : decode cX8_init 221 = .ok (.aload_n 0, 1) := by decide +kernel
theorem dX8_init_222 : decode cX8_init 222 = .ok (.getfield 80, 3) := by decide +kernel
theorem dX8_init_225 : decode cX8_init 225 = .ok (.iload_n 1, 1) := by decide +kernel
theorem dX8_init_226 : decode cX8_init 226 = .ok (.iconst (-1), 1) := by decide +kernel
theorem dX8_init_227 : decode cX8_init 227 = .ok (.iastore, 1) := by decide +kernel
theorem dX8_init_228 : decode cX8_init 228 = .ok (.iinc 1 1, 3) := by decide +kernel
theorem dX8_init_231 : decode cX8_init 231 = .ok (.goto (-15), 3) := by decide +kernel
theorem dX8_init_234 : decode cX8_init 234 = .ok (.return_, 1) := by decide +kernel
theorem dX8_in_0 : decode cX8_in 0 = .ok (.iload_n 0, 1) := by decide +kernel
theorem dX8_in_1 : decode cX8_in 1 = .ok (.iload_n 1, 1) := by decide +kernel
theorem dX8_in_2 : decode cX8_in 2 = .ok (.if_icmp .lt 12, 3) := by decide +kernel
theorem dX8_in_5 : decode cX8_in 5 = .ok (.iload_n 0, 1) := by decide +kernel
theorem dX8_in_6 : decode cX8_in 6 = .ok (.iload_n 2, 1) := by decide +kernel
theorem dX8_in_7 : decode cX8_in 7 = .ok (.if_icmp .gt 7, 3) := by decide +kernel
theorem dX8_in_10 : decode cX8_in 10 = .ok (.iconst 1, 1) := by decide +kernel
theorem dX8_in_11 : decode cX8_in 11 = .ok (.goto 4, 3) := by decide +kernel
theorem dX8_in_14 : decode cX8_in 14 = .ok (.iconst 0, 1) := by decide +kernel
theorem dX8_in_15 : decode cX8_in 15 = .ok (.ireturn, 1) := by decide +kernel
theorem dX8_isTerm_0 : decode cX8_isTerm 0 = .ok (.iload_n 1, 1) := by decide +kernel
theorem dX8_isTerm_1 : decode cX8_isTerm 1 = .ok (.iconst 0, 1) := by decide +kernel
theorem dX8_isTerm_2 : decode cX8_isTerm 2 = .ok (.aload_n 0, 1) := by decide +kernel
theorem dX8_isTerm_3 : decode cX8_isTerm 3 = .ok (.getfield 92, 3) := by decide +kernel
theorem dX8_isTerm_6 : decode cX8_isTerm 6 = .ok (.iconst 1, 1) := by decide +kernel
theorem dX8_isTerm_7 : decode cX8_isTerm 7 = .ok (.isub, 1) := by decide +kernel
theorem dX8_isTerm_8 : decode cX8_isTerm 8 = .ok (.invokestatic 95, 3) := by decide +kernel
theorem dX8_isTerm_11 : decode cX8_isTerm 11 = .ok (.ireturn, 1) := by decide +kernel
theorem dX8_parts_0 : decode cX8_parts 0 = .ok (.iload_n 0, 1) := by decide +kernel
theorem dX8_parts_1 : decode cX8_parts 1 = .ok (.iconst 3, 1) := by decide +kernel
theorem dX8_parts_2 : decode cX8_parts 2 = .ok (.if_icmp .ge 5, 3) := by decide +kernel
theorem dX8_parts_5 : decode cX8_parts 5 = .ok (.iconst 0, 1) := by decide +kernel
theorem dX8_parts_6 : decode cX8_parts 6 = .ok (.ireturn, 1) := by decide +kernel
theorem dX8_parts_7 : decode cX8_parts 7 = .ok (.iload_n 0, 1) := by decide +kernel
theorem dX8_parts_8 : decode cX8_parts 8 = .ok (.bipush 11, 2) := by decide +kernel
theorem dX8_parts_10 : decode cX8_parts 10 = .ok (.if_icmp .eq 27, 3) := by decide +kernel
theorem dX8_parts_13 : decode cX8_parts 13 = .ok (.iload_n 0, 1) := by decide +kernel
theorem dX8_parts_14 : decode cX8_parts 14 = .ok (.bipush 12, 2) := by decide +kernel
theorem dX8_parts_16 : decode cX8_parts 16 = .ok (.if_icmp .eq 21, 3) := by decide +kernel
theorem dX8_parts_19 : decode cX8_parts 19 = .ok (.iload_n 0, 1) := by decide +kernel
theorem dX8_parts_20 : decode cX8_parts 20 = .ok (.bipush 16, 2) := by decide +kernel
theorem dX8_parts_22 : decode cX8_parts 22 = .ok (.if_icmp .eq 15, 3) := by decide +kernel
theorem dX8_parts_25 : decode cX8_parts 25 = .ok (.iload_n 0, 1) := by decide +kernel
theorem dX8_parts_26 : decode cX8_parts 26 = .ok (.bipush 17, 2) := by decide +kernel
theorem dX8_parts_28 : decode cX8_parts 28 = .ok (.if_icmp .eq 9, 3) := by decide +kernel
theorem dX8_parts_31 : decode cX8_parts 31 = .ok (.iload_n 0, 1) := by decide +kernel
theorem dX8_parts_32 : decode cX8_parts 32 = .ok (.bipush 18, 2) := by decide +kernel
theorem dX8_parts_34 : decode cX8_parts 34 = .ok (.if_icmp .ne 5, 3) := by decide +kernel
theorem dX8_parts_37 : decode cX8_parts 37 = .ok (.iconst 1, 1) := by decide +kernel
theorem dX8_parts_38 : decode cX8_parts 38 = .ok (.ireturn, 1) := by decide +kernel
theorem dX8_parts_39 : decode cX8_parts 39 = .ok (.iload_n 0, 1) := by decide +kernel
theorem dX8_parts_40 : decode cX8_parts 40 = .ok (.bipush 13, 2) := by decide +kernel
theorem dX8_parts_42 : decode cX8_parts 42 = .ok (.if_icmp .eq 15, 3) := by decide +kernel
theorem dX8_parts_45 : decode cX8_parts 45 = .ok (.iload_n 0, 1) := by decide +kernel
theorem dX8_parts_46 : decode cX8_parts 46 = .ok (.bipush 15, 2) := by decide +kernel
theorem dX8_parts_48 : decode cX8_parts 48 = .ok (.if_icmp .eq 9, 3) := by decide +kernel
theorem dX8_parts_51 : decode cX8_parts 51 = .ok (.iload_n 0, 1) := by decide +kernel
theorem dX8_parts_52 : decode cX8_parts 52 = .ok (.bipush 19, 2) := by decide +kernel
theorem dX8_parts_54 : decode cX8_parts 54 = .ok (.if_icmp .ne 7, 3) := by decide +kernel
theorem dX8_parts_57 : decode cX8_parts 57 = .ok (.iconst 3, 1) := by decide +kernel
theorem dX8_parts_58 : decode cX8_parts 58 = .ok (.goto 4, 3) := by decide +kernel
theorem dX8_parts_61 : decode cX8_parts 61 = .ok (.iconst 2, 1) := by decide +kernel
theorem dX8_parts_62 : decode cX8_parts 62 = .ok (.ireturn, 1) := by decide +kernel
theorem dX8_term_0 : decode cX8_term 0 = .ok (.iload_n 1, 1) := by decide +kernel
theorem dX8_term_1 : decode cX8_term 1 = .ok (.iconst 0, 1) := by decide +kernel
theorem dX8_term_2 : decode cX8_term 2 = .ok (.bipush 20, 2) := by decide +kernel
theorem dX8_term_4 : decode cX8_term 4 = .ok (.invokestatic 95, 3) := by decide +kernel
theorem dX8_term_7 : decode cX8_term 7 = .ok (.ifCond .eq 65, 3) := by decide +kernel
theorem dX8_term_10 : decode cX8_term 10 = .ok (.iload_n 1, 1) := by decide +kernel
theorem dX8_term_11 : decode cX8_term 11 = .ok (.invokestatic 99, 3) := by decide +kernel
theorem dX8_term_14 : decode cX8_term 14 = .ok (.ifCond .le 11, 3) := by decide +kernel
theorem dX8_term_17 : decode cX8_term 17 = .ok (.aload_n 0, 1) := by decide +kernel
theorem dX8_term_18 : decode cX8_term 18 = .ok (.iload_n 2, 1) := by decide +kernel
theorem dX8_term_19 : decode cX8_term 19 = .ok (.invokevirtual 103, 3) := by decide +kernel
theorem dX8_term_22 : decode cX8_term 22 = .ok (.ifCond .eq 50, 3) := by decide +kernel
theorem dX8_term_25 : decode cX8_term 25 = .ok (.iload_n 1, 1) := by decide +kernel
theorem dX8_term_26 : decode cX8_term 26 = .ok (.invokestatic 99, 3) := by decide +kernel
theorem dX8_term_29 : decode cX8_term 29 = .ok (.iconst 1, 1) := by decide +kernel
theorem dX8_term_30 : decode cX8_term 30 = .ok (.if_icmp .le 11, 3) := by decide +kernel
theorem dX8_term_33 : decode cX8_term 33 = .ok (.aload_n 0, 1) := by decide +kernel
theorem dX8_term_34 : decode cX8_term 34 = .ok (.iload_n 3, 1) := by decide +kernel
theorem dX8_term_35 : decode cX8_term 35 = .ok (.invokevirtual 103, 3) := by decide +kernel
theorem dX8_term_38 : decode cX8_term 38 = .ok (.ifCond .eq 34, 3) := by decide +kernel
theorem dX8_term_41 : decode cX8_term 41 = .ok (.iload_n 1, 1) := by decide +kernel
theorem dX8_term_42 : decode cX8_term 42 = .ok (.invokestatic 99, 3) := by decide +kernel
theorem dX8_term_45 : decode cX8_term 45 = .ok (.iconst 2, 1) := by decide +kernel
theorem dX8_term_46 : decode cX8_term 46 = .ok (.if_icmp .le 12, 3) := by decide +kernel
theorem dX8_term_49 : decode cX8_term 49 = .ok (.aload_n 0, 1) := by decide +kernel
theorem dX8_term_50 : decode cX8_term 50 = .ok (.iload 4, 2) := by decide +kernel
theorem dX8_term_52 : decode cX8_term 52 = .ok (.invokevirtual 103, 3) := by decide +kernel
theorem dX8_term_55 : decode cX8_term 55 = .ok (.ifCond .eq 17, 3) := by decide +kernel
theorem dX8_term_58 : decode cX8_term 58 = .ok (.iload_n 1, 1) := by decide +kernel
theorem dX8_term_59 : decode cX8_term 59 = .ok (.ifCond .ne 15, 3) := by decide +kernel
theorem dX8_term_62 : decode cX8_term 62 = .ok (.iload 5, 2) := by decide +kernel
theorem dX8_term_64 : decode cX8_term 64 = .ok (.iconst 0, 1) := by decide +kernel
theorem dX8_term_65 : decode cX8_term 65 = .ok (.iconst 2, 1) := by decide +kernel
theorem dX8_term_66 : decode cX8_term 66 = .ok (.invokestatic 95, 3) := by decide +kernel
theorem dX8_term_69 : decode cX8_term 69 = .ok (.ifCond .ne 5, 3) := by decide +kernel
theorem dX8_term_72 : decode cX8_term 72 = .ok (.iconst (-1), 1) := by decide +kernel
theorem dX8_term_73 : decode cX8_term 73 = .ok (.ireturn, 1) := by decide +kernel
theorem dX8_term_74 : decode cX8_term 74 = .ok (.aload_n 0, 1) := by decide +kernel
theorem dX8_term_75 : decode cX8_term 75 = .ok (.getfield 92, 3) := by decide +kernel
theorem dX8_term_78 : decode cX8_term 78 = .ok (.bipush 60, 2) := by decide +kernel
theorem dX8_term_80 : decode cX8_term 80 = .ok (.if_icmp .ne 6, 3) := by decide +kernel
theorem dX8_term_83 : decode cX8_term 83 = .ok (.bipush (-2), 2) := by decide +kernel
theorem dX8_term_85 : decode cX8_term 85 = .ok (.ireturn, 1) := by decide +kernel
theorem dX8_term_86 : decode cX8_term 86 = .ok (.aload_n 0, 1) := by decide +kernel
theorem dX8_term_87 : decode cX8_term 87 = .ok (.getfield 7, 3) := by decide +kernel
theorem dX8_term_90 : decode cX8_term 90 = .ok (.aload_n 0, 1) := by decide +kernel
theorem dX8_term_91 : decode cX8_term 91 = .ok (.getfield 92, 3) := by decide +kernel
theorem dX8_term_94 : decode cX8_term 94 = .ok (.iload_n 1, 1) := by decide +kernel
theorem dX8_term_95 : decode cX8_term 95 = .ok (.iastore, 1) := by decide +kernel
theorem dX8_term_96 : decode cX8_term 96 = .ok (.aload_n 0, 1) := by decide +kernel
theorem dX8_term_97 : decode cX8_term 97 = .ok (.getfield 13, 3) := by decide +kernel
theorem dX8_term_100 : decode cX8_term 100 = .ok (.aload_n 0, 1) := by decide +kernel
theorem dX8_term_101 : decode cX8_term 101 = .ok (.getfield 92, 3) := by decide +kernel
theorem dX8_term_104 : decode cX8_term 104 = .ok (.iload_n 2, 1) := by decide +kernel
theorem dX8_term_105 : decode cX8_term 105 = .ok (.iastore, 1) := by decide +kernel
theorem dX8_term_106 : decode cX8_term 106 = .ok (.aload_n 0, 1) := by decide +kernel
theorem dX8_term_107 : decode cX8_term 107 = .ok (.getfield 16, 3) := by decide +kernel
theorem dX8_term_110 : decode cX8_term 110 = .ok (.aload_n 0, 1) := by decide +kernel
theorem dX8_term_111 : decode cX8_term 111 = .ok (.getfield 92, 3) := by decide +kernel
theorem dX8_term_114 : decode cX8_term 114 = .ok (.iload_n 3, 1) := by decide +kernel
theorem dX8_term_115 : decode cX8_term 115 = .ok (.iastore, 1) := by decide +kernel
theorem dX8_term_116 : decode cX8_term 116 = .ok (.aload_n 0, 1) := by decide +kernel
theorem dX8_term_117 : decode cX8_term 117 = .ok (.getfield 19, 3) := by decide +kernel
theorem dX8_term_120 : decode cX8_term 120 = .ok (.aload_n 0, 1) := by decide +kernel
theorem dX8_term_121 : decode cX8_term 121 = .ok (.getfield 92, 3) := by decide +kernel
theorem dX8_term_124 : decode cX8_term 124 = .ok (.iload 4, 2) := by decide +kernel
theorem dX8_term_126 : decode cX8_term 126 = .ok (.iastore, 1) := by decide +kernel
theorem dX8_term_127 : decode cX8_term 127 = .ok (.aload_n 0, 1) := by decide +kernel
theorem dX8_term_128 : decode cX8_term 128 = .ok (.getfield 22, 3) := by decide +kernel
theorem dX8_term_131 : decode cX8_term 131 = .ok (.aload_n 0, 1) := by decide +kernel
theorem dX8_term_132 : decode cX8_term 132 = .ok (.getfield 92, 3) := by decide +kernel
theorem dX8_term_135 : decode cX8_term 135 = .ok (.iload 5, 2) := by decide +kernel
theorem dX8_term_137 : decode cX8_term 137 = .ok (.iastore, 1) := by decide +kernel
theorem dX8_term_138 : decode cX8_term 138 = .ok (.aload_n 0, 1) := by decide +kernel
theorem dX8_term_139 : decode cX8_term 139 = .ok (.dup, 1) := by decide +kernel
theorem dX8_term_140 : decode cX8_term 140 = .ok (.getfield 92, 3) := by decide +kernel
theorem dX8_term_143 : decode cX8_term 143 = .ok (.dup_x1, 1) := by decide +kernel
theorem dX8_term_144 : decode cX8_term 144 = .ok (.iconst 1, 1) := by decide +kernel
theorem dX8_term_145 : decode cX8_term 145 = .ok (.iadd, 1) := by decide +kernel
theorem dX8_term_146 : decode cX8_term 146 = .ok (.putfield 92, 3) := by decide +kernel
theorem dX8_term_149 : decode cX8_term 149 = .ok (.ireturn, 1) := by decide +kernel
theorem dX8_begin_0 : decode cX8_begin 0 = .ok (.aload_n 0, 1) := by decide +kernel
theorem dX8_begin_1 : decode cX8_begin 1 = .ok (.getfield 107, 3) := by decide +kernel
theorem dX8_begin_4 : decode cX8_begin 4 = .ok (.bipush 60, 2) := by decide +kernel
theorem dX8_begin_6 : decode cX8_begin 6 = .ok (.if_icmp .ne 10, 3) := by decide +kernel
theorem dX8_begin_9 : decode cX8_begin 9 = .ok (.aload_n 0, 1) := by decide +kernel
theorem dX8_begin_10 : decode cX8_begin 10 = .ok (.bipush 7, 2) := by decide +kernel
theorem dX8_begin_12 : decode cX8_begin 12 = .ok (.putfield 110, 3) := by decide +kernel
theorem dX8_begin_15 : decode cX8_begin 15 = .ok (.return_, 1) := by decide +kernel
theorem dX8_begin_16 : decode cX8_begin 16 = .ok (.aload_n 0, 1) := by decide +kernel
theorem dX8_begin_17 : decode cX8_begin 17 = .ok (.dup, 1) := by decide +kernel
theorem dX8_begin_18 : decode cX8_begin 18 = .ok (.getfield 107, 3) := by decide +kernel
theorem dX8_begin_21 : decode cX8_begin 21 = .ok (.iconst 1, 1) := by decide +kernel
theorem dX8_begin_22 : decode cX8_begin 22 = .ok (.iadd, 1) := by decide +kernel
theorem dX8_begin_23 : decode cX8_begin 23 = .ok (.putfield 107, 3) := by decide +kernel
theorem dX8_begin_26 : decode cX8_begin 26 = .ok (.aload_n 0, 1) := by decide +kernel
theorem dX8_begin_27 : decode cX8_begin 27 = .ok (.getfield 34, 3) := by decide +kernel
theorem dX8_begin_30 : decode cX8_begin 30 = .ok (.aload_n 0, 1) := by decide +kernel
theorem dX8_begin_31 : decode cX8_begin 31 = .ok (.getfield 113, 3) := by decide +kernel
theorem dX8_begin_34 : decode cX8_begin 34 = .ok (.iload_n 1, 1) := by decide +kernel
theorem dX8_begin_35 : decode cX8_begin 35 = .ok (.iastore, 1) := by decide +kernel
theorem dX8_begin_36 : decode cX8_begin 36 = .ok (.aload_n 0, 1) := by decide +kernel
theorem dX8_begin_37 : decode cX8_begin 37 = .ok (.getfield 37, 3) := by decide +kernel
theorem dX8_begin_40 : decode cX8_begin 40 = .ok (.aload_n 0, 1) := by decide +kernel
theorem dX8_begin_41 : decode cX8_begin 41 = .ok (.getfield 113, 3) := by decide +kernel
theorem dX8_begin_44 : decode cX8_begin 44 = .ok (.iconst 0, 1) := by decide +kernel
theorem dX8_begin_45 : decode cX8_begin 45 = .ok (.iastore, 1) := by decide +kernel
theorem dX8_begin_46 : decode cX8_begin 46 = .ok (.aload_n 0, 1) := by decide +kernel
theorem dX8_begin_47 : decode cX8_begin 47 = .ok (.dup, 1) := by decide +kernel
theorem dX8_begin_48 : decode cX8_begin 48 = .ok (.getfield 113, 3) := by decide +kernel
theorem dX8_begin_51 : decode cX8_begin 51 = .ok (.iconst 1, 1) := by decide +kernel
theorem dX8_begin_52 : decode cX8_begin 52 = .ok (.iadd, 1) := by decide +kernel
theorem dX8_begin_53 : decode cX8_begin 53 = .ok (.putfield 113, 3) := by decide +kernel
theorem dX8_begin_56 : decode cX8_begin 56 = .ok (.return_, 1) := by decide +kernel
theorem dX8_work_0 : decode cX8_work 0 = .ok (.aload_n 0, 1) := by decide +kernel
theorem dX8_work_1 : decode cX8_work 1 = .ok (.iconst 0, 1) := by decide +kernel
theorem dX8_work_2 : decode cX8_work 2 = .ok (.putfield 113, 3) := by decide +kernel
theorem dX8_work_5 : decode cX8_work 5 = .ok (.aload_n 0, 1) := by decide +kernel
theorem dX8_work_6 : decode cX8_work 6 = .ok (.iconst 0, 1) := by decide +kernel
theorem dX8_work_7 : decode cX8_work 7 = .ok (.putfield 110, 3) := by decide +kernel
theorem dX8_work_10 : decode cX8_work 10 = .ok (.aload_n 0, 1) := by decide +kernel
theorem dX8_work_11 : decode cX8_work 11 = .ok (.iload_n 1, 1) := by decide +kernel
theorem dX8_work_12 : decode cX8_work 12 = .ok (.invokevirtual 116, 3) := by decide +kernel
theorem dX8_work_15 : decode cX8_work 15 = .ok (.aload_n 0, 1) := by decide +kernel
theorem dX8_work_16 : decode cX8_work 16 = .ok (.getfield 113, 3) := by decide +kernel
theorem dX8_work_19 : decode cX8_work 19 = .ok (.ifCond .le 153, 3) := by decide +kernel
theorem dX8_work_22 : decode cX8_work 22 = .ok (.aload_n 0, 1) := by decide +kernel
theorem dX8_work_23 : decode cX8_work 23 = .ok (.getfield 110, 3) := by decide +kernel
theorem dX8_work_26 : decode cX8_work 26 = .ok (.ifCond .ne 146, 3) := by decide +kernel
theorem dX8_work_29 : decode cX8_work 29 = .ok (.aload_n 0, 1) := by decide +kernel
theorem dX8_work_30 : decode cX8_work 30 = .ok (.getfield 113, 3) := by decide +kernel
theorem dX8_work_33 : decode cX8_work 33 = .ok (.iconst 1, 1) := by decide +kernel
theorem dX8_work_34 : decode cX8_work 34 = .ok (.isub, 1) := by decide +kernel
theorem dX8_work_35 : decode cX8_work 35 = .ok (.istore_n 2, 1) := by decide +kernel
theorem dX8_work_36 : decode cX8_work 36 = .ok (.aload_n 0, 1) := by decide +kernel
theorem dX8_work_37 : decode cX8_work 37 = .ok (.getfield 34, 3) := by decide +kernel
theorem dX8_work_40 : decode cX8_work 40 = .ok (.iload_n 2, 1) := by decide +kernel
theorem dX8_work_41 : decode cX8_work 41 = .ok (.iaload, 1) := by decide +kernel
theorem dX8_work_42 : decode cX8_work 42 = .ok (.istore_n 3, 1) := by decide +kernel
theorem dX8_work_43 : decode cX8_work 43 = .ok (.aload_n 0, 1) := by decide +kernel
theorem dX8_work_44 : decode cX8_work 44 = .ok (.iload_n 3, 1) := by decide +kernel
theorem dX8_work_45 : decode cX8_work 45 = .ok (.iload_n 2, 1) := by decide +kernel
theorem dX8_work_46 : decode cX8_work 46 = .ok (.invokevirtual 120, 3) := by decide +kernel
theorem dX8_work_49 : decode cX8_work 49 = .ok (.istore 4, 2) := by decide +kernel
theorem dX8_work_51 : decode cX8_work 51 = .ok (.iload 4, 2) := by decide +kernel
theorem dX8_work_53 : decode cX8_work 53 = .ok (.ifCond .lt 22, 3) := by decide +kernel
theorem dX8_work_56 : decode cX8_work 56 = .ok (.aload_n 0, 1) := by decide +kernel
theorem dX8_work_57 : decode cX8_work 57 = .ok (.getfield 37, 3) := by decide +kernel
theorem dX8_work_60 : decode cX8_work 60 = .ok (.iload_n 2, 1) := by decide +kernel
theorem dX8_work_61 : decode cX8_work 61 = .ok (.dup2, 1) := by decide +kernel
theorem dX8_work_62 : decode cX8_work 62 = .ok (.iaload, 1) := by decide +kernel
theorem dX8_work_63 : decode cX8_work 63 = .ok (.iconst 1, 1) := by decide +kernel
theorem dX8_work_64 : decode cX8_work 64 = .ok (.iadd, 1) := by decide +kernel
theorem dX8_work_65 : decode cX8_work 65 = .ok (.iastore, 1) := by decide +kernel
theorem dX8_work_66 : decode cX8_work 66 = .ok (.aload_n 0, 1) := by decide +kernel
theorem dX8_work_67 : decode cX8_work 67 = .ok (.iload 4, 2) := by decide +kernel
theorem dX8_work_69 : decode cX8_work 69 = .ok (.invokevirtual 116, 3) := by decide +kernel
theorem dX8_work_72 : decode cX8_work 72 = .ok (.goto 97, 3) := by decide +kernel
theorem dX8_work_75 : decode cX8_work 75 = .ok (.aload_n 0, 1) := by decide +kernel
theorem dX8_work_76 : decode cX8_work 76 = .ok (.getfield 110, 3) := by decide +kernel
theorem dX8_work_79 : decode cX8_work 79 = .ok (.ifCond .ne 90, 3) := by decide +kernel
theorem dX8_work_82 : decode cX8_work 82 = .ok (.aload_n 0, 1) := by decide +kernel
theorem dX8_work_83 : decode cX8_work 83 = .ok (.iload_n 3, 1) := by decide +kernel
theorem dX8_work_84 : decode cX8_work 84 = .ok (.iload_n 2, 1) := by decide +kernel
theorem dX8_work_85 : decode cX8_work 85 = .ok (.invokevirtual 124, 3) := by decide +kernel
theorem dX8_work_88 : decode cX8_work 88 = .ok (.aload_n 0, 1) := by decide +kernel
theorem dX8_work_89 : decode cX8_work 89 = .ok (.dup, 1) := by decide +kernel
theorem dX8_work_90 : decode cX8_work 90 = .ok (.getfield 113, 3) := by decide +kernel
theorem dX8_work_93 : decode cX8_work 93 = .ok (.iconst 1, 1) := by decide +kernel
theorem dX8_work_94 : decode cX8_work 94 = .ok (.isub, 1) := by decide +kernel
theorem dX8_work_95 : decode cX8_work 95 = .ok (.putfield 113, 3) := by decide +kernel
theorem dX8_work_98 : decode cX8_work 98 = .ok (.aload_n 0, 1) := by decide +kernel
theorem dX8_work_99 : decode cX8_work 99 = .ok (.getfield 113, 3) := by decide +kernel
theorem dX8_work_102 : decode cX8_work 102 = .ok (.ifCond .le 67, 3) := by decide +kernel
theorem dX8_work_105 : decode cX8_work 105 = .ok (.aload_n 0, 1) := by decide +kernel
theorem dX8_work_106 : decode cX8_work 106 = .ok (.getfield 110, 3) := by decide +kernel
theorem dX8_work_109 : decode cX8_work 109 = .ok (.ifCond .ne 60, 3) := by decide +kernel
theorem dX8_work_112 : decode cX8_work 112 = .ok (.iconst 3, 1) := by decide +kernel
theorem dX8_work_113 : decode cX8_work 113 = .ok (.aload_n 0, 1) := by decide +kernel
theorem dX8_work_114 : decode cX8_work 114 = .ok (.getfield 113, 3) := by decide +kernel
theorem dX8_work_117 : decode cX8_work 117 = .ok (.iconst 1, 1) := by decide +kernel
theorem dX8_work_118 : decode cX8_work 118 = .ok (.isub, 1) := by decide +kernel
theorem dX8_work_119 : decode cX8_work 119 = .ok (.imul, 1) := by decide +kernel
theorem dX8_work_120 : decode cX8_work 120 = .ok (.aload_n 0, 1) := by decide +kernel
theorem dX8_work_121 : decode cX8_work 121 = .ok (.getfield 37, 3) := by decide +kernel
theorem dX8_work_124 : decode cX8_work 124 = .ok (.aload_n 0, 1) := by decide +kernel
theorem dX8_work_125 : decode cX8_work 125 = .ok (.getfield 113, 3) := by decide +kernel
theorem dX8_work_128 : decode cX8_work 128 = .ok (.iconst 1, 1) := by decide +kernel
theorem dX8_work_129 : decode cX8_work 129 = .ok (.isub, 1) := by decide +kernel
theorem dX8_work_130 : decode cX8_work 130 = .ok (.iaload, 1) := by decide +kernel
theorem dX8_work_131 : decode cX8_work 131 = .ok (.iadd, 1) := by decide +kernel
theorem dX8_work_132 : decode cX8_work 132 = .ok (.iconst 1, 1) := by decide +kernel
theorem dX8_work_133 : decode cX8_work 133 = .ok (.isub, 1) := by decide +kernel
theorem dX8_work_134 : decode cX8_work 134 = .ok (.istore 5, 2) := by decide +kernel
theorem dX8_work_136 : decode cX8_work 136 = .ok (.aload_n 0, 1) := by decide +kernel
theorem dX8_work_137 : decode cX8_work 137 = .ok (.getfield 40, 3) := by decide +kernel
theorem dX8_work_140 : decode cX8_work 140 = .ok (.iload 5, 2) := by decide +kernel
theorem dX8_work_142 : decode cX8_work 142 = .ok (.aload_n 0, 1) := by decide +kernel
theorem dX8_work_143 : decode cX8_work 143 = .ok (.getfield 128, 3) := by decide +kernel
theorem dX8_work_146 : decode cX8_work 146 = .ok (.iastore, 1) := by decide +kernel
theorem dX8_work_147 : decode cX8_work 147 = .ok (.aload_n 0, 1) := by decide +kernel
theorem dX8_work_148 : decode cX8_work 148 = .ok (.getfield 43, 3) := by decide +kernel
theorem dX8_work_151 : decode cX8_work 151 = .ok (.iload 5, 2) := by decide +kernel
theorem dX8_work_153 : decode cX8_work 153 = .ok (.aload_n 0, 1) := by decide +kernel
theorem dX8_work_154 : decode cX8_work 154 = .ok (.getfield 131, 3) := by decide +kernel
theorem dX8_work_157 : decode cX8_work 157 = .ok (.iastore, 1) := by decide +kernel
theorem dX8_work_158 : decode cX8_work 158 = .ok (.aload_n 0, 1) := by decide +kernel
theorem dX8_work_159 : decode cX8_work 159 = .ok (.getfield 46, 3) := by decide +kernel
theorem dX8_work_162 : decode cX8_work 162 = .ok (.iload 5, 2) := by decide +kernel
theorem dX8_work_164 : decode cX8_work 164 = .ok (.aload_n 0, 1) := by decide +kernel
theorem dX8_work_165 : decode cX8_work 165 = .ok (.getfield 134, 3) := by decide +kernel
theorem dX8_work_168 : decode cX8_work 168 = .ok (.iastore, 1) := by decide +kernel
theorem dX8_work_169 : decode cX8_work 169 = .ok (.goto (-154), 3) := by decide +kernel
theorem dX8_work_172 : decode cX8_work 172 = .ok (.aload_n 0, 1) := by decide +kernel
theorem dX8_work_173 : decode cX8_work 173 = .ok (.getfield 110, 3) := by decide +kernel
theorem dX8_work_176 : decode cX8_work 176 = .ok (.ifCond .ne 7, 3) := by decide +kernel
theorem dX8_work_179 : decode cX8_work 179 = .ok (.iconst 1, 1) := by decide +kernel
theorem dX8_work_180 : decode cX8_work 180 = .ok (.goto 4, 3) := by decide +kernel
theorem dX8_work_183 : decode cX8_work 183 = .ok (.iconst 0, 1) := by decide +kernel
theorem dX8_work_184 : decode cX8_work 184 = .ok (.ireturn, 1) := by decide +kernel
theorem dX8_wrong_0 : decode cX8_wrong 0 = .ok (.aload_n 0, 1) := by decide +kernel
theorem dX8_wrong_1 : decode cX8_wrong 1 = .ok (.getfield 40, 3) := by decide +kernel
theorem dX8_wrong_4 : decode cX8_wrong 4 = .ok (.iload_n 1, 1) := by decide +kernel
theorem dX8_wrong_5 : decode cX8_wrong 5 = .ok (.iaload, 1) := by decide +kernel
theorem dX8_wrong_6 : decode cX8_wrong 6 = .ok (.iconst 2, 1) := by decide +kernel
theorem dX8_wrong_7 : decode cX8_wrong 7 = .ok (.if_icmp .ne 7, 3) := by decide +kernel
theorem dX8_wrong_10 : decode cX8_wrong 10 = .ok (.iconst 1, 1) := by decide +kernel
theorem dX8_wrong_11 : decode cX8_wrong 11 = .ok (.goto 18, 3) := by decide +kernel
theorem dX8_wrong_14 : decode cX8_wrong 14 = .ok (.aload_n 0, 1) := by decide +kernel
theorem dX8_wrong_15 : decode cX8_wrong 15 = .ok (.getfield 40, 3) := by decide +kernel
theorem dX8_wrong_18 : decode cX8_wrong 18 = .ok (.iload_n 1, 1) := by decide +kernel
theorem dX8_wrong_19 : decode cX8_wrong 19 = .ok (.iaload, 1) := by decide +kernel
theorem dX8_wrong_20 : decode cX8_wrong 20 = .ok (.iload_n 2, 1) := by decide +kernel
theorem dX8_wrong_21 : decode cX8_wrong 21 = .ok (.if_icmp .eq 7, 3) := by decide +kernel
theorem dX8_wrong_24 : decode cX8_wrong 24 = .ok (.iconst 4, 1) := by decide +kernel
theorem dX8_wrong_25 : decode cX8_wrong 25 = .ok (.goto 4, 3) := by decide +kernel
theorem dX8_wrong_28 : decode cX8_wrong 28 = .ok (.iconst 0, 1) := by decide +kernel
theorem dX8_wrong_29 : decode cX8_wrong 29 = .ok (.ireturn, 1) := by decide +kernel
theorem dX8_nextPart_0 : decode cX8_nextPart 0 = .ok (.aload_n 0, 1) := by decide +kernel
theorem dX8_nextPart_1 : decode cX8_nextPart 1 = .ok (.getfield 37, 3) := by decide +kernel
theorem dX8_nextPart_4 : decode cX8_nextPart 4 = .ok (.iload_n 2, 1) := by decide +kernel
theorem dX8_nextPart_5 : decode cX8_nextPart 5 = .ok (.iaload, 1) := by decide +kernel
theorem dX8_nextPart_6 : decode cX8_nextPart 6 = .ok (.istore_n 3, 1) := by decide +kernel
theorem dX8_nextPart_7 : decode cX8_nextPart 7 = .ok (.aload_n 0, 1) := by decide +kernel
theorem dX8_nextPart_8 : decode cX8_nextPart 8 = .ok (.getfield 7, 3) := by decide +kernel
theorem dX8_nextPart_11 : decode cX8_nextPart 11 = .ok (.iload_n 1, 1) := by decide +kernel
theorem dX8_nextPart_12 : decode cX8_nextPart 12 = .ok (.iaload, 1) := by decide +kernel
theorem dX8_nextPart_13 : decode cX8_nextPart 13 = .ok (.istore 4, 2) := by decide +kernel
theorem dX8_nextPart_15 : decode cX8_nextPart 15 = .ok (.iload 4, 2) := by decide +kernel
theorem dX8_nextPart_17 : decode cX8_nextPart 17 = .ok (.bipush 19, 2) := by decide +kernel
theorem dX8_nextPart_19 : decode cX8_nextPart 19 = .ok (.if_icmp .eq 10, 3) := by decide +kernel
theorem dX8_nextPart_22 : decode cX8_nextPart 22 = .ok (.iload 4, 2) := by decide +kernel
theorem dX8_nextPart_24 : decode cX8_nextPart 24 = .ok (.bipush 20, 2) := by decide +kernel
theorem dX8_nextPart_26 : decode cX8_nextPart 26 = .ok (.if_icmp .ne 11, 3) := by decide +kernel
theorem dX8_nextPart_29 : decode cX8_nextPart 29 = .ok (.aload_n 0, 1) := by decide +kernel
theorem dX8_nextPart_30 : decode cX8_nextPart 30 = .ok (.iload_n 1, 1) := by decide +kernel
theorem dX8_nextPart_31 : decode cX8_nextPart 31 = .ok (.iload_n 2, 1) := by decide +kernel
theorem dX8_nextPart_32 : decode cX8_nextPart 32 = .ok (.iload_n 3, 1) := by decide +kernel
theorem dX8_nextPart_33 : decode cX8_nextPart 33 = .ok (.invokevirtual 137, 3) := by decide +kernel
theorem dX8_nextPart_36 : decode cX8_nextPart 36 = .ok (.ireturn, 1) := by decide +kernel
theorem dX8_nextPart_37 : decode cX8_nextPart 37 = .ok (.iload_n 3, 1) := by decide +kernel
theorem dX8_nextPart_38 : decode cX8_nextPart 38 = .ok (.iload 4, 2) := by decide +kernel
theorem dX8_nextPart_40 : decode cX8_nextPart 40 = .ok (.invokestatic 99, 3) := by decide +kernel
theorem dX8_nextPart_43 : decode cX8_nextPart 43 = .ok (.if_icmp .lt 7, 3) := by decide +kernel
theorem dX8_nextPart_46 : decode cX8_nextPart 46 = .ok (.iconst (-1), 1) := by decide +kernel
theorem dX8_nextPart_47 : decode cX8_nextPart 47 = .ok (.goto 36, 3) := by decide +kernel
theorem dX8_nextPart_50 : decode cX8_nextPart 50 = .ok (.iload_n 3, 1) := by decide +kernel
theorem dX8_nextPart_51 : decode cX8_nextPart 51 = .ok (.ifCond .ne 12, 3) := by decide +kernel
theorem dX8_nextPart_54 : decode cX8_nextPart 54 = .ok (.aload_n 0, 1) := by decide +kernel
theorem dX8_nextPart_55 : decode cX8_nextPart 55 = .ok (.getfield 13, 3) := by decide +kernel
theorem dX8_nextPart_58 : decode cX8_nextPart 58 = .ok (.iload_n 1, 1) := by decide +kernel
theorem dX8_nextPart_59 : decode cX8_nextPart 59 = .ok (.iaload, 1) := by decide +kernel
theorem dX8_nextPart_60 : decode cX8_nextPart 60 = .ok (.goto 23, 3) := by decide +kernel
theorem dX8_nextPart_63 : decode cX8_nextPart 63 = .ok (.iload_n 3, 1) := by decide +kernel
theorem dX8_nextPart_64 : decode cX8_nextPart 64 = .ok (.iconst 1, 1) := by decide +kernel
theorem dX8_nextPart_65 : decode cX8_nextPart 65 = .ok (.if_icmp .ne 12, 3) := by decide +kernel
theorem dX8_nextPart_68 : decode cX8_nextPart 68 = .ok (.aload_n 0, 1) := by decide +kernel
theorem dX8_nextPart_69 : decode cX8_nextPart 69 = .ok (.getfield 16, 3) := by decide +kernel
theorem dX8_nextPart_72 : decode cX8_nextPart 72 = .ok (.iload_n 1, 1) := by decide +kernel
theorem dX8_nextPart_73 : decode cX8_nextPart 73 = .ok (.iaload, 1) := by decide +kernel
theorem dX8_nextPart_74 : decode cX8_nextPart 74 = .ok (.goto 9, 3) := by decide +kernel
theorem dX8_nextPart_77 : decode cX8_nextPart 77 = .ok (.aload_n 0, 1) := by decide +kernel
theorem dX8_nextPart_78 : decode cX8_nextPart 78 = .ok (.getfield 19, 3) := by decide +kernel
theorem dX8_nextPart_81 : decode cX8_nextPart 81 = .ok (.iload_n 1, 1) := by decide +kernel
theorem dX8_nextPart_82 : decode cX8_nextPart 82 = .ok (.iaload, 1) := by decide +kernel
theorem dX8_nextPart_83 : decode cX8_nextPart 83 = .ok (.ireturn, 1) := by decide +kernel
theorem dX8_nextOfChoice_0 : decode cX8_nextOfChoice 0 = .ok (.iload_n 3, 1) := by decide +kernel
theorem dX8_nextOfChoice_1 : decode cX8_nextOfChoice 1 = .ok (.ifCond .ne 10, 3) := by decide +kernel
theorem dX8_nextOfChoice_4 : decode cX8_nextOfChoice 4 = .ok (.aload_n 0, 1) := by decide +kernel
theorem dX8_nextOfChoice_5 : decode cX8_nextOfChoice 5 = .ok (.getfield 13, 3) := by decide +kernel
theorem dX8_nextOfChoice_8 : decode cX8_nextOfChoice 8 = .ok (.iload_n 1, 1) := by decide +kernel
theorem dX8_nextOfChoice_9 : decode cX8_nextOfChoice 9 = .ok (.iaload, 1) := by decide +kernel
theorem dX8_nextOfChoice_10 : decode cX8_nextOfChoice 10 = .ok (.ireturn, 1) := by decide +kernel
theorem dX8_nextOfChoice_11 : decode cX8_nextOfChoice 11 = .ok (.iload_n 3, 1) := by decide +kernel
theorem dX8_nextOfChoice_12 : decode cX8_nextOfChoice 12 = .ok (.iconst 2, 1) := by decide +kernel
theorem dX8_nextOfChoice_13 : decode cX8_nextOfChoice 13 = .ok (.if_icmp .ne 5, 3) := by decide +kernel
theorem dX8_nextOfChoice_16 : decode cX8_nextOfChoice 16 = .ok (.iconst (-1), 1) := by decide +kernel
theorem dX8_nextOfChoice_17 : decode cX8_nextOfChoice 17 = .ok (.ireturn, 1) := by decide +kernel
theorem dX8_nextOfChoice_18 : decode cX8_nextOfChoice 18 = .ok (.aload_n 0, 1) := by decide +kernel
theorem dX8_nextOfChoice_19 : decode cX8_nextOfChoice 19 = .ok (.aload_n 0, 1) := by decide +kernel
theorem dX8_nextOfChoice_20 : decode cX8_nextOfChoice 20 = .ok (.iconst 3, 1) := by decide +kernel
theorem dX8_nextOfChoice_21 : decode cX8_nextOfChoice 21 = .ok (.iload_n 2, 1) := by decide +kernel
theorem dX8_nextOfChoice_22 : decode cX8_nextOfChoice 22 = .ok (.imul, 1) := by decide +kernel
theorem dX8_nextOfChoice_23 : decode cX8_nextOfChoice 23 = .ok (.iconst 0, 1) := by decide +kernel
theorem dX8_nextOfChoice_24 : decode cX8_nextOfChoice 24 = .ok (.invokevirtual 141, 3) := by decide +kernel
theorem dX8_nextOfChoice_27 : decode cX8_nextOfChoice 27 = .ok (.putfield 110, 3) := by decide +kernel
theorem dX8_nextOfChoice_30 : decode cX8_nextOfChoice 30 = .ok (.aload_n 0, 1) := by decide +kernel
theorem dX8_nextOfChoice_31 : decode cX8_nextOfChoice 31 = .ok (.getfield 110, 3) := by decide +kernel
theorem dX8_nextOfChoice_34 : decode cX8_nextOfChoice 34 = .ok (.ifCond .eq 5, 3) := by decide +kernel
theorem dX8_nextOfChoice_37 : decode cX8_nextOfChoice 37 = .ok (.iconst (-1), 1) := by decide +kernel
theorem dX8_nextOfChoice_38 : decode cX8_nextOfChoice 38 = .ok (.ireturn, 1) := by decide +kernel
theorem dX8_nextOfChoice_39 : decode cX8_nextOfChoice 39 = .ok (.aload_n 0, 1) := by decide +kernel
theorem dX8_nextOfChoice_40 : decode cX8_nextOfChoice 40 = .ok (.getfield 43, 3) := by decide +kernel
theorem dX8_nextOfChoice_43 : decode cX8_nextOfChoice 43 = .ok (.iconst 3, 1) := by decide +kernel
theorem dX8_nextOfChoice_44 : decode cX8_nextOfChoice 44 = .ok (.iload_n 2, 1) := by decide +kernel
theorem dX8_nextOfChoice_45 : decode cX8_nextOfChoice 45 = .ok (.imul, 1) := by decide +kernel
theorem dX8_nextOfChoice_46 : decode cX8_nextOfChoice 46 = .ok (.iaload, 1) := by decide +kernel
theorem dX8_nextOfChoice_47 : decode cX8_nextOfChoice 47 = .ok (.ifCond .eq 7, 3) := by decide +kernel
theorem dX8_nextOfChoice_50 : decode cX8_nextOfChoice 50 = .ok (.iconst 1, 1) := by decide +kernel
theorem dX8_nextOfChoice_51 : decode cX8_nextOfChoice 51 = .ok (.goto 4, 3) := by decide +kernel
theorem dX8_nextOfChoice_54 : decode cX8_nextOfChoice 54 = .ok (.iconst 0, 1) := by decide +kernel
theorem dX8_nextOfChoice_55 : decode cX8_nextOfChoice 55 = .ok (.istore 4, 2) := by decide +kernel
theorem dX8_nextOfChoice_57 : decode cX8_nextOfChoice 57 = .ok (.aload_n 0, 1) := by decide +kernel
theorem dX8_nextOfChoice_58 : decode cX8_nextOfChoice 58 = .ok (.getfield 7, 3) := by decide +kernel
theorem dX8_nextOfChoice_61 : decode cX8_nextOfChoice 61 = .ok (.iload_n 1, 1) := by decide +kernel
theorem dX8_nextOfChoice_62 : decode cX8_nextOfChoice 62 = .ok (.iaload, 1) := by decide +kernel
theorem dX8_nextOfChoice_63 : decode cX8_nextOfChoice 63 = .ok (.bipush 19, 2) := by decide +kernel
theorem dX8_nextOfChoice_65 : decode cX8_nextOfChoice 65 = .ok (.if_icmp .ne 26, 3) := by decide +kernel
theorem dX8_nextOfChoice_68 : decode cX8_nextOfChoice 68 = .ok (.iload 4, 2) := by decide +kernel
theorem dX8_nextOfChoice_70 : decode cX8_nextOfChoice 70 = .ok (.ifCond .eq 12, 3) := by decide +kernel
theorem dX8_nextOfChoice_73 : decode cX8_nextOfChoice 73 = .ok (.aload_n 0, 1) := by decide +kernel
theorem dX8_nextOfChoice_74 : decode cX8_nextOfChoice 74 = .ok (.getfield 16, 3) := by decide +kernel
theorem dX8_nextOfChoice_77 : decode cX8_nextOfChoice 77 = .ok (.iload_n 1, 1) := by decide +kernel
theorem dX8_nextOfChoice_78 : decode cX8_nextOfChoice 78 = .ok (.iaload, 1) := by decide +kernel
theorem dX8_nextOfChoice_79 : decode cX8_nextOfChoice 79 = .ok (.goto 27, 3) := by decide +kernel
theorem dX8_nextOfChoice_82 : decode cX8_nextOfChoice 82 = .ok (.aload_n 0, 1) := by decide +kernel
theorem dX8_nextOfChoice_83 : decode cX8_nextOfChoice 83 = .ok (.getfield 19, 3) := by decide +kernel
theorem dX8_nextOfChoice_86 : decode cX8_nextOfChoice 86 = .ok (.iload_n 1, 1) := by decide +kernel
theorem dX8_nextOfChoice_87 : decode cX8_nextOfChoice 87 = .ok (.iaload, 1) := by decide +kernel
theorem dX8_nextOfChoice_88 : decode cX8_nextOfChoice 88 = .ok (.goto 18, 3) := by decide +kernel
theorem dX8_nextOfChoice_91 : decode cX8_nextOfChoice 91 = .ok (.iload 4, 2) := by decide +kernel
theorem dX8_nextOfChoice_93 : decode cX8_nextOfChoice 93 = .ok (.ifCond .eq 12, 3) := by decide +kernel
theorem dX8_nextOfChoice_96 : decode cX8_nextOfChoice 96 = .ok (.aload_n 0, 1) := by decide +kernel
theorem dX8_nextOfChoice_97 : decode cX8_nextOfChoice 97 = .ok (.getfield 16, 3) := by decide +kernel
theorem dX8_nextOfChoice_100 : decode cX8_nextOfChoice 100 = .ok (.iload_n 1, 1) := by decide +kernel
theorem dX8_nextOfChoice_101 : decode cX8_nextOfChoice 101 = .ok (.iaload, 1) := by decide +kernel
theorem dX8_nextOfChoice_102 : decode cX8_nextOfChoice 102 = .ok (.goto 4, 3) := by decide +kernel
theorem dX8_nextOfChoice_105 : decode cX8_nextOfChoice 105 = .ok (.iconst (-1), 1) := by decide +kernel
theorem dX8_nextOfChoice_106 : decode cX8_nextOfChoice 106 = .ok (.ireturn, 1) := by decide +kernel
theorem dX8_whole_0 : decode cX8_whole 0 = .ok (.aload_n 0, 1) := by decide +kernel
theorem dX8_whole_1 : decode cX8_whole 1 = .ok (.iconst 0, 1) := by decide +kernel
theorem dX8_whole_2 : decode cX8_whole 2 = .ok (.putfield 128, 3) := by decide +kernel
theorem dX8_whole_5 : decode cX8_whole 5 = .ok (.aload_n 0, 1) := by decide +kernel
end
section
theorem dX8_whole_6 : decode cX8_whole 6 = .ok (.iload_n 1, 1) := by decide +kernel
theorem dX8_whole_7 : decode cX8_whole 7 = .ok (.putfield 131, 3) := by decide +kernel
theorem dX8_whole_10 : decode cX8_whole 10 = .ok (.return_, 1) := by decide +kernel
theorem dX8_row_0 : decode cX8_row 0 = .ok (.aload_n 0, 1) := by decide +kernel
theorem dX8_row_1 : decode cX8_row 1 = .ok (.iconst 1, 1) := by decide +kernel
theorem dX8_row_2 : decode cX8_row 2 = .ok (.putfield 128, 3) := by decide +kernel
theorem dX8_row_5 : decode cX8_row 5 = .ok (.aload_n 0, 1) := by decide +kernel
theorem dX8_row_6 : decode cX8_row 6 = .ok (.iload_n 1, 1) := by decide +kernel
theorem dX8_row_7 : decode cX8_row 7 = .ok (.putfield 131, 3) := by decide +kernel
theorem dX8_row_10 : decode cX8_row 10 = .ok (.aload_n 0, 1) := by decide +kernel
theorem dX8_row_11 : decode cX8_row 11 = .ok (.iconst 3, 1) := by decide +kernel
theorem dX8_row_12 : decode cX8_row 12 = .ok (.aload_n 0, 1) := by decide +kernel
theorem dX8_row_13 : decode cX8_row 13 = .ok (.getfield 144, 3) := by decide +kernel
theorem dX8_row_16 : decode cX8_row 16 = .ok (.iadd, 1) := by decide +kernel
theorem dX8_row_17 : decode cX8_row 17 = .ok (.putfield 134, 3) := by decide +kernel
theorem dX8_row_20 : decode cX8_row 20 = .ok (.aload_n 0, 1) := by decide +kernel
theorem dX8_row_21 : decode cX8_row 21 = .ok (.dup, 1) := by decide +kernel
theorem dX8_row_22 : decode cX8_row 22 = .ok (.getfield 144, 3) := by decide +kernel
theorem dX8_row_25 : decode cX8_row 25 = .ok (.iconst 1, 1) := by decide +kernel
theorem dX8_row_26 : decode cX8_row 26 = .ok (.iadd, 1) := by decide +kernel
theorem dX8_row_27 : decode cX8_row 27 = .ok (.putfield 144, 3) := by decide +kernel
theorem dX8_row_30 : decode cX8_row 30 = .ok (.bipush 16, 2) := by decide +kernel
theorem dX8_row_32 : decode cX8_row 32 = .ok (.aload_n 0, 1) := by decide +kernel
theorem dX8_row_33 : decode cX8_row 33 = .ok (.getfield 134, 3) := by decide +kernel
theorem dX8_row_36 : decode cX8_row 36 = .ok (.imul, 1) := by decide +kernel
theorem dX8_row_37 : decode cX8_row 37 = .ok (.ireturn, 1) := by decide +kernel
theorem dX8_end_0 : decode cX8_end 0 = .ok (.iconst 3, 1) := by decide +kernel
theorem dX8_end_1 : decode cX8_end 1 = .ok (.iload_n 2, 1) := by decide +kernel
theorem dX8_end_2 : decode cX8_end 2 = .ok (.imul, 1) := by decide +kernel
theorem dX8_end_3 : decode cX8_end 3 = .ok (.istore_n 3, 1) := by decide +kernel
theorem dX8_end_4 : decode cX8_end 4 = .ok (.aload_n 0, 1) := by decide +kernel
theorem dX8_end_5 : decode cX8_end 5 = .ok (.getfield 7, 3) := by decide +kernel
theorem dX8_end_8 : decode cX8_end 8 = .ok (.iload_n 1, 1) := by decide +kernel
theorem dX8_end_9 : decode cX8_end 9 = .ok (.iaload, 1) := by decide +kernel
theorem dX8_end_10 : decode cX8_end 10 = .ok (.istore 4, 2) := by decide +kernel
theorem dX8_end_12 : decode cX8_end 12 = .ok (.iload 4, 2) := by decide +kernel
theorem dX8_end_14 : decode cX8_end 14 = .ok (.ifCond .ne 16, 3) := by decide +kernel
theorem dX8_end_17 : decode cX8_end 17 = .ok (.aload_n 0, 1) := by decide +kernel
theorem dX8_end_18 : decode cX8_end 18 = .ok (.aload_n 0, 1) := by decide +kernel
theorem dX8_end_19 : decode cX8_end 19 = .ok (.getfield 22, 3) := by decide +kernel
theorem dX8_end_22 : decode cX8_end 22 = .ok (.iload_n 1, 1) := by decide +kernel
theorem dX8_end_23 : decode cX8_end 23 = .ok (.iaload, 1) := by decide +kernel
theorem dX8_end_24 : decode cX8_end 24 = .ok (.invokevirtual 147, 3) := by decide +kernel
theorem dX8_end_27 : decode cX8_end 27 = .ok (.goto 142, 3) := by decide +kernel
theorem dX8_end_30 : decode cX8_end 30 = .ok (.iload 4, 2) := by decide +kernel
theorem dX8_end_32 : decode cX8_end 32 = .ok (.iconst 1, 1) := by decide +kernel
theorem dX8_end_33 : decode cX8_end 33 = .ok (.if_icmp .ne 16, 3) := by decide +kernel
theorem dX8_end_36 : decode cX8_end 36 = .ok (.aload_n 0, 1) := by decide +kernel
theorem dX8_end_37 : decode cX8_end 37 = .ok (.aload_n 0, 1) := by decide +kernel
theorem dX8_end_38 : decode cX8_end 38 = .ok (.getfield 22, 3) := by decide +kernel
theorem dX8_end_41 : decode cX8_end 41 = .ok (.iload_n 1, 1) := by decide +kernel
theorem dX8_end_42 : decode cX8_end 42 = .ok (.iaload, 1) := by decide +kernel
theorem dX8_end_43 : decode cX8_end 43 = .ok (.invokevirtual 149, 3) := by decide +kernel
theorem dX8_end_46 : decode cX8_end 46 = .ok (.goto 123, 3) := by decide +kernel
theorem dX8_end_49 : decode cX8_end 49 = .ok (.iload 4, 2) := by decide +kernel
theorem dX8_end_51 : decode cX8_end 51 = .ok (.iconst 2, 1) := by decide +kernel
theorem dX8_end_52 : decode cX8_end 52 = .ok (.if_icmp .ne 11, 3) := by decide +kernel
theorem dX8_end_55 : decode cX8_end 55 = .ok (.aload_n 0, 1) := by decide +kernel
theorem dX8_end_56 : decode cX8_end 56 = .ok (.iconst 2, 1) := by decide +kernel
theorem dX8_end_57 : decode cX8_end 57 = .ok (.putfield 128, 3) := by decide +kernel
theorem dX8_end_60 : decode cX8_end 60 = .ok (.goto 109, 3) := by decide +kernel
theorem dX8_end_63 : decode cX8_end 63 = .ok (.iload 4, 2) := by decide +kernel
theorem dX8_end_65 : decode cX8_end 65 = .ok (.bipush 9, 2) := by decide +kernel
theorem dX8_end_67 : decode cX8_end 67 = .ok (.if_icmp .ge 13, 3) := by decide +kernel
theorem dX8_end_70 : decode cX8_end 70 = .ok (.aload_n 0, 1) := by decide +kernel
theorem dX8_end_71 : decode cX8_end 71 = .ok (.iload 4, 2) := by decide +kernel
theorem dX8_end_73 : decode cX8_end 73 = .ok (.iload_n 3, 1) := by decide +kernel
theorem dX8_end_74 : decode cX8_end 74 = .ok (.invokevirtual 152, 3) := by decide +kernel
theorem dX8_end_77 : decode cX8_end 77 = .ok (.goto 92, 3) := by decide +kernel
theorem dX8_end_80 : decode cX8_end 80 = .ok (.iload 4, 2) := by decide +kernel
theorem dX8_end_82 : decode cX8_end 82 = .ok (.bipush 9, 2) := by decide +kernel
theorem dX8_end_84 : decode cX8_end 84 = .ok (.if_icmp .ne 11, 3) := by decide +kernel
theorem dX8_end_87 : decode cX8_end 87 = .ok (.aload_n 0, 1) := by decide +kernel
theorem dX8_end_88 : decode cX8_end 88 = .ok (.iload_n 3, 1) := by decide +kernel
theorem dX8_end_89 : decode cX8_end 89 = .ok (.invokevirtual 155, 3) := by decide +kernel
theorem dX8_end_92 : decode cX8_end 92 = .ok (.goto 77, 3) := by decide +kernel
theorem dX8_end_95 : decode cX8_end 95 = .ok (.iload 4, 2) := by decide +kernel
theorem dX8_end_97 : decode cX8_end 97 = .ok (.bipush 19, 2) := by decide +kernel
theorem dX8_end_99 : decode cX8_end 99 = .ok (.if_icmp .ne 42, 3) := by decide +kernel
theorem dX8_end_102 : decode cX8_end 102 = .ok (.aload_n 0, 1) := by decide +kernel
theorem dX8_end_103 : decode cX8_end 103 = .ok (.aload_n 0, 1) := by decide +kernel
theorem dX8_end_104 : decode cX8_end 104 = .ok (.getfield 40, 3) := by decide +kernel
theorem dX8_end_107 : decode cX8_end 107 = .ok (.iload_n 3, 1) := by decide +kernel
theorem dX8_end_108 : decode cX8_end 108 = .ok (.iconst 1, 1) := by decide +kernel
theorem dX8_end_109 : decode cX8_end 109 = .ok (.iadd, 1) := by decide +kernel
theorem dX8_end_110 : decode cX8_end 110 = .ok (.iaload, 1) := by decide +kernel
theorem dX8_end_111 : decode cX8_end 111 = .ok (.putfield 128, 3) := by decide +kernel
theorem dX8_end_114 : decode cX8_end 114 = .ok (.aload_n 0, 1) := by decide +kernel
theorem dX8_end_115 : decode cX8_end 115 = .ok (.aload_n 0, 1) := by decide +kernel
theorem dX8_end_116 : decode cX8_end 116 = .ok (.getfield 43, 3) := by decide +kernel
theorem dX8_end_119 : decode cX8_end 119 = .ok (.iload_n 3, 1) := by decide +kernel
theorem dX8_end_120 : decode cX8_end 120 = .ok (.iconst 1, 1) := by decide +kernel
theorem dX8_end_121 : decode cX8_end 121 = .ok (.iadd, 1) := by decide +kernel
theorem dX8_end_122 : decode cX8_end 122 = .ok (.iaload, 1) := by decide +kernel
theorem dX8_end_123 : decode cX8_end 123 = .ok (.putfield 131, 3) := by decide +kernel
theorem dX8_end_126 : decode cX8_end 126 = .ok (.aload_n 0, 1) := by decide +kernel
theorem dX8_end_127 : decode cX8_end 127 = .ok (.aload_n 0, 1) := by decide +kernel
theorem dX8_end_128 : decode cX8_end 128 = .ok (.getfield 46, 3) := by decide +kernel
theorem dX8_end_131 : decode cX8_end 131 = .ok (.iload_n 3, 1) := by decide +kernel
theorem dX8_end_132 : decode cX8_end 132 = .ok (.iconst 1, 1) := by decide +kernel
theorem dX8_end_133 : decode cX8_end 133 = .ok (.iadd, 1) := by decide +kernel
theorem dX8_end_134 : decode cX8_end 134 = .ok (.iaload, 1) := by decide +kernel
theorem dX8_end_135 : decode cX8_end 135 = .ok (.putfield 134, 3) := by decide +kernel
theorem dX8_end_138 : decode cX8_end 138 = .ok (.goto 31, 3) := by decide +kernel
theorem dX8_end_141 : decode cX8_end 141 = .ok (.iload 4, 2) := by decide +kernel
theorem dX8_end_143 : decode cX8_end 143 = .ok (.bipush 20, 2) := by decide +kernel
theorem dX8_end_145 : decode cX8_end 145 = .ok (.if_icmp .ne 17, 3) := by decide +kernel
theorem dX8_end_148 : decode cX8_end 148 = .ok (.aload_n 0, 1) := by decide +kernel
theorem dX8_end_149 : decode cX8_end 149 = .ok (.iload_n 3, 1) := by decide +kernel
theorem dX8_end_150 : decode cX8_end 150 = .ok (.aload_n 0, 1) := by decide +kernel
theorem dX8_end_151 : decode cX8_end 151 = .ok (.getfield 37, 3) := by decide +kernel
theorem dX8_end_154 : decode cX8_end 154 = .ok (.iload_n 2, 1) := by decide +kernel
theorem dX8_end_155 : decode cX8_end 155 = .ok (.iaload, 1) := by decide +kernel
theorem dX8_end_156 : decode cX8_end 156 = .ok (.invokevirtual 158, 3) := by decide +kernel
theorem dX8_end_159 : decode cX8_end 159 = .ok (.goto 10, 3) := by decide +kernel
theorem dX8_end_162 : decode cX8_end 162 = .ok (.aload_n 0, 1) := by decide +kernel
theorem dX8_end_163 : decode cX8_end 163 = .ok (.iload 4, 2) := by decide +kernel
theorem dX8_end_165 : decode cX8_end 165 = .ok (.iload_n 3, 1) := by decide +kernel
theorem dX8_end_166 : decode cX8_end 166 = .ok (.invokevirtual 161, 3) := by decide +kernel
theorem dX8_end_169 : decode cX8_end 169 = .ok (.return_, 1) := by decide +kernel
theorem dX8_input_0 : decode cX8_input 0 = .ok (.aload_n 0, 1) := by decide +kernel
theorem dX8_input_1 : decode cX8_input 1 = .ok (.getfield 25, 3) := by decide +kernel
theorem dX8_input_4 : decode cX8_input 4 = .ok (.iload_n 1, 1) := by decide +kernel
theorem dX8_input_5 : decode cX8_input 5 = .ok (.iaload, 1) := by decide +kernel
theorem dX8_input_6 : decode cX8_input 6 = .ok (.ifCond .ge 9, 3) := by decide +kernel
theorem dX8_input_9 : decode cX8_input 9 = .ok (.aload_n 0, 1) := by decide +kernel
theorem dX8_input_10 : decode cX8_input 10 = .ok (.iconst 2, 1) := by decide +kernel
theorem dX8_input_11 : decode cX8_input 11 = .ok (.putfield 128, 3) := by decide +kernel
theorem dX8_input_14 : decode cX8_input 14 = .ok (.return_, 1) := by decide +kernel
theorem dX8_input_15 : decode cX8_input 15 = .ok (.aload_n 0, 1) := by decide +kernel
theorem dX8_input_16 : decode cX8_input 16 = .ok (.aload_n 0, 1) := by decide +kernel
theorem dX8_input_17 : decode cX8_input 17 = .ok (.getfield 25, 3) := by decide +kernel
theorem dX8_input_20 : decode cX8_input 20 = .ok (.iload_n 1, 1) := by decide +kernel
theorem dX8_input_21 : decode cX8_input 21 = .ok (.iaload, 1) := by decide +kernel
theorem dX8_input_22 : decode cX8_input 22 = .ok (.putfield 128, 3) := by decide +kernel
theorem dX8_input_25 : decode cX8_input 25 = .ok (.aload_n 0, 1) := by decide +kernel
theorem dX8_input_26 : decode cX8_input 26 = .ok (.aload_n 0, 1) := by decide +kernel
theorem dX8_input_27 : decode cX8_input 27 = .ok (.getfield 28, 3) := by decide +kernel
theorem dX8_input_30 : decode cX8_input 30 = .ok (.iload_n 1, 1) := by decide +kernel
theorem dX8_input_31 : decode cX8_input 31 = .ok (.iaload, 1) := by decide +kernel
theorem dX8_input_32 : decode cX8_input 32 = .ok (.putfield 131, 3) := by decide +kernel
theorem dX8_input_35 : decode cX8_input 35 = .ok (.aload_n 0, 1) := by decide +kernel
theorem dX8_input_36 : decode cX8_input 36 = .ok (.iload_n 1, 1) := by decide +kernel
theorem dX8_input_37 : decode cX8_input 37 = .ok (.putfield 134, 3) := by decide +kernel
theorem dX8_input_40 : decode cX8_input 40 = .ok (.return_, 1) := by decide +kernel
theorem dX8_numbers_0 : decode cX8_numbers 0 = .ok (.aload_n 0, 1) := by decide +kernel
theorem dX8_numbers_1 : decode cX8_numbers 1 = .ok (.aload_n 0, 1) := by decide +kernel
theorem dX8_numbers_2 : decode cX8_numbers 2 = .ok (.iload_n 2, 1) := by decide +kernel
theorem dX8_numbers_3 : decode cX8_numbers 3 = .ok (.iconst 0, 1) := by decide +kernel
theorem dX8_numbers_4 : decode cX8_numbers 4 = .ok (.invokevirtual 141, 3) := by decide +kernel
theorem dX8_numbers_7 : decode cX8_numbers 7 = .ok (.putfield 110, 3) := by decide +kernel
theorem dX8_numbers_10 : decode cX8_numbers 10 = .ok (.aload_n 0, 1) := by decide +kernel
theorem dX8_numbers_11 : decode cX8_numbers 11 = .ok (.aload_n 0, 1) := by decide +kernel
theorem dX8_numbers_12 : decode cX8_numbers 12 = .ok (.getfield 110, 3) := by decide +kernel
theorem dX8_numbers_15 : decode cX8_numbers 15 = .ok (.ifCond .eq 10, 3) := by decide +kernel
theorem dX8_numbers_18 : decode cX8_numbers 18 = .ok (.aload_n 0, 1) := by decide +kernel
theorem dX8_numbers_19 : decode cX8_numbers 19 = .ok (.getfield 110, 3) := by decide +kernel
theorem dX8_numbers_22 : decode cX8_numbers 22 = .ok (.goto 11, 3) := by decide +kernel
theorem dX8_numbers_25 : decode cX8_numbers 25 = .ok (.aload_n 0, 1) := by decide +kernel
theorem dX8_numbers_26 : decode cX8_numbers 26 = .ok (.iload_n 2, 1) := by decide +kernel
theorem dX8_numbers_27 : decode cX8_numbers 27 = .ok (.iconst 1, 1) := by decide +kernel
theorem dX8_numbers_28 : decode cX8_numbers 28 = .ok (.iadd, 1) := by decide +kernel
theorem dX8_numbers_29 : decode cX8_numbers 29 = .ok (.iconst 0, 1) := by decide +kernel
theorem dX8_numbers_30 : decode cX8_numbers 30 = .ok (.invokevirtual 141, 3) := by decide +kernel
theorem dX8_numbers_33 : decode cX8_numbers 33 = .ok (.putfield 110, 3) := by decide +kernel
theorem dX8_numbers_36 : decode cX8_numbers 36 = .ok (.aload_n 0, 1) := by decide +kernel
theorem dX8_numbers_37 : decode cX8_numbers 37 = .ok (.aload_n 0, 1) := by decide +kernel
theorem dX8_numbers_38 : decode cX8_numbers 38 = .ok (.getfield 110, 3) := by decide +kernel
theorem dX8_numbers_41 : decode cX8_numbers 41 = .ok (.ifCond .eq 10, 3) := by decide +kernel
theorem dX8_numbers_44 : decode cX8_numbers 44 = .ok (.aload_n 0, 1) := by decide +kernel
theorem dX8_numbers_45 : decode cX8_numbers 45 = .ok (.getfield 110, 3) := by decide +kernel
theorem dX8_numbers_48 : decode cX8_numbers 48 = .ok (.goto 31, 3) := by decide +kernel
theorem dX8_numbers_51 : decode cX8_numbers 51 = .ok (.iload_n 1, 1) := by decide +kernel
theorem dX8_numbers_52 : decode cX8_numbers 52 = .ok (.bipush 6, 2) := by decide +kernel
theorem dX8_numbers_54 : decode cX8_numbers 54 = .ok (.if_icmp .eq 9, 3) := by decide +kernel
theorem dX8_numbers_57 : decode cX8_numbers 57 = .ok (.iload_n 1, 1) := by decide +kernel
theorem dX8_numbers_58 : decode cX8_numbers 58 = .ok (.bipush 7, 2) := by decide +kernel
theorem dX8_numbers_60 : decode cX8_numbers 60 = .ok (.if_icmp .ne 18, 3) := by decide +kernel
theorem dX8_numbers_63 : decode cX8_numbers 63 = .ok (.aload_n 0, 1) := by decide +kernel
theorem dX8_numbers_64 : decode cX8_numbers 64 = .ok (.getfield 43, 3) := by decide +kernel
theorem dX8_numbers_67 : decode cX8_numbers 67 = .ok (.iload_n 2, 1) := by decide +kernel
theorem dX8_numbers_68 : decode cX8_numbers 68 = .ok (.iconst 1, 1) := by decide +kernel
theorem dX8_numbers_69 : decode cX8_numbers 69 = .ok (.iadd, 1) := by decide +kernel
theorem dX8_numbers_70 : decode cX8_numbers 70 = .ok (.iaload, 1) := by decide +kernel
theorem dX8_numbers_71 : decode cX8_numbers 71 = .ok (.ifCond .ne 7, 3) := by decide +kernel
theorem dX8_numbers_74 : decode cX8_numbers 74 = .ok (.iconst 5, 1) := by decide +kernel
theorem dX8_numbers_75 : decode cX8_numbers 75 = .ok (.goto 4, 3) := by decide +kernel
theorem dX8_numbers_78 : decode cX8_numbers 78 = .ok (.iconst 0, 1) := by decide +kernel
theorem dX8_numbers_79 : decode cX8_numbers 79 = .ok (.putfield 110, 3) := by decide +kernel
theorem dX8_numbers_82 : decode cX8_numbers 82 = .ok (.aload_n 0, 1) := by decide +kernel
theorem dX8_numbers_83 : decode cX8_numbers 83 = .ok (.getfield 110, 3) := by decide +kernel
theorem dX8_numbers_86 : decode cX8_numbers 86 = .ok (.ifCond .eq 4, 3) := by decide +kernel
theorem dX8_numbers_89 : decode cX8_numbers 89 = .ok (.return_, 1) := by decide +kernel
theorem dX8_numbers_90 : decode cX8_numbers 90 = .ok (.aload_n 0, 1) := by decide +kernel
theorem dX8_numbers_91 : decode cX8_numbers 91 = .ok (.getfield 43, 3) := by decide +kernel
theorem dX8_numbers_94 : decode cX8_numbers 94 = .ok (.iload_n 2, 1) := by decide +kernel
theorem dX8_numbers_95 : decode cX8_numbers 95 = .ok (.iaload, 1) := by decide +kernel
theorem dX8_numbers_96 : decode cX8_numbers 96 = .ok (.istore_n 3, 1) := by decide +kernel
theorem dX8_numbers_97 : decode cX8_numbers 97 = .ok (.aload_n 0, 1) := by decide +kernel
theorem dX8_numbers_98 : decode cX8_numbers 98 = .ok (.getfield 43, 3) := by decide +kernel
theorem dX8_numbers_101 : decode cX8_numbers 101 = .ok (.iload_n 2, 1) := by decide +kernel
theorem dX8_numbers_102 : decode cX8_numbers 102 = .ok (.iconst 1, 1) := by decide +kernel
theorem dX8_numbers_103 : decode cX8_numbers 103 = .ok (.iadd, 1) := by decide +kernel
theorem dX8_numbers_104 : decode cX8_numbers 104 = .ok (.iaload, 1) := by decide +kernel
theorem dX8_numbers_105 : decode cX8_numbers 105 = .ok (.istore 4, 2) := by decide +kernel
theorem dX8_numbers_107 : decode cX8_numbers 107 = .ok (.aload_n 0, 1) := by decide +kernel
theorem dX8_numbers_108 : decode cX8_numbers 108 = .ok (.iload_n 1, 1) := by decide +kernel
theorem dX8_numbers_109 : decode cX8_numbers 109 = .ok (.iconst 3, 1) := by decide +kernel
theorem dX8_numbers_110 : decode cX8_numbers 110 = .ok (.if_icmp .ne 10, 3) := by decide +kernel
theorem dX8_numbers_113 : decode cX8_numbers 113 = .ok (.iload_n 3, 1) := by decide +kernel
theorem dX8_numbers_114 : decode cX8_numbers 114 = .ok (.iload 4, 2) := by decide +kernel
theorem dX8_numbers_116 : decode cX8_numbers 116 = .ok (.iadd, 1) := by decide +kernel
theorem dX8_numbers_117 : decode cX8_numbers 117 = .ok (.goto 64, 3) := by decide +kernel
theorem dX8_numbers_120 : decode cX8_numbers 120 = .ok (.iload_n 1, 1) := by decide +kernel
theorem dX8_numbers_121 : decode cX8_numbers 121 = .ok (.iconst 4, 1) := by decide +kernel
theorem dX8_numbers_122 : decode cX8_numbers 122 = .ok (.if_icmp .ne 10, 3) := by decide +kernel
theorem dX8_numbers_125 : decode cX8_numbers 125 = .ok (.iload_n 3, 1) := by decide +kernel
theorem dX8_numbers_126 : decode cX8_numbers 126 = .ok (.iload 4, 2) := by decide +kernel
theorem dX8_numbers_128 : decode cX8_numbers 128 = .ok (.isub, 1) := by decide +kernel
theorem dX8_numbers_129 : decode cX8_numbers 129 = .ok (.goto 52, 3) := by decide +kernel
theorem dX8_numbers_132 : decode cX8_numbers 132 = .ok (.iload_n 1, 1) := by decide +kernel
theorem dX8_numbers_133 : decode cX8_numbers 133 = .ok (.iconst 5, 1) := by decide +kernel
theorem dX8_numbers_134 : decode cX8_numbers 134 = .ok (.if_icmp .ne 10, 3) := by decide +kernel
theorem dX8_numbers_137 : decode cX8_numbers 137 = .ok (.iload_n 3, 1) := by decide +kernel
theorem dX8_numbers_138 : decode cX8_numbers 138 = .ok (.iload 4, 2) := by decide +kernel
theorem dX8_numbers_140 : decode cX8_numbers 140 = .ok (.imul, 1) := by decide +kernel
theorem dX8_numbers_141 : decode cX8_numbers 141 = .ok (.goto 40, 3) := by decide +kernel
theorem dX8_numbers_144 : decode cX8_numbers 144 = .ok (.iload_n 1, 1) := by decide +kernel
theorem dX8_numbers_145 : decode cX8_numbers 145 = .ok (.bipush 6, 2) := by decide +kernel
theorem dX8_numbers_147 : decode cX8_numbers 147 = .ok (.if_icmp .ne 10, 3) := by decide +kernel
theorem dX8_numbers_150 : decode cX8_numbers 150 = .ok (.iload_n 3, 1) := by decide +kernel
theorem dX8_numbers_151 : decode cX8_numbers 151 = .ok (.iload 4, 2) := by decide +kernel
theorem dX8_numbers_153 : decode cX8_numbers 153 = .ok (.idiv, 1) := by decide +kernel
theorem dX8_numbers_154 : decode cX8_numbers 154 = .ok (.goto 27, 3) := by decide +kernel
theorem dX8_numbers_157 : decode cX8_numbers 157 = .ok (.iload_n 1, 1) := by decide +kernel
theorem dX8_numbers_158 : decode cX8_numbers 158 = .ok (.bipush 7, 2) := by decide +kernel
theorem dX8_numbers_160 : decode cX8_numbers 160 = .ok (.if_icmp .ne 10, 3) := by decide +kernel
theorem dX8_numbers_163 : decode cX8_numbers 163 = .ok (.iload_n 3, 1) := by decide +kernel
theorem dX8_numbers_164 : decode cX8_numbers 164 = .ok (.iload 4, 2) := by decide +kernel
theorem dX8_numbers_166 : decode cX8_numbers 166 = .ok (.irem, 1) := by decide +kernel
theorem dX8_numbers_167 : decode cX8_numbers 167 = .ok (.goto 14, 3) := by decide +kernel
theorem dX8_numbers_170 : decode cX8_numbers 170 = .ok (.iload_n 3, 1) := by decide +kernel
theorem dX8_numbers_171 : decode cX8_numbers 171 = .ok (.iload 4, 2) := by decide +kernel
theorem dX8_numbers_173 : decode cX8_numbers 173 = .ok (.if_icmp .ge 7, 3) := by decide +kernel
theorem dX8_numbers_176 : decode cX8_numbers 176 = .ok (.iconst 1, 1) := by decide +kernel
theorem dX8_numbers_177 : decode cX8_numbers 177 = .ok (.goto 4, 3) := by decide +kernel
theorem dX8_numbers_180 : decode cX8_numbers 180 = .ok (.iconst 0, 1) := by decide +kernel
theorem dX8_numbers_181 : decode cX8_numbers 181 = .ok (.invokevirtual 149, 3) := by decide +kernel
theorem dX8_numbers_184 : decode cX8_numbers 184 = .ok (.return_, 1) := by decide +kernel
theorem dX8_like_0 : decode cX8_like 0 = .ok (.aload_n 0, 1) := by decide +kernel
theorem dX8_like_1 : decode cX8_like 1 = .ok (.aload_n 0, 1) := by decide +kernel
theorem dX8_like_2 : decode cX8_like 2 = .ok (.getfield 40, 3) := by decide +kernel
theorem dX8_like_5 : decode cX8_like 5 = .ok (.iload_n 1, 1) := by decide +kernel
theorem dX8_like_6 : decode cX8_like 6 = .ok (.iaload, 1) := by decide +kernel
theorem dX8_like_7 : decode cX8_like 7 = .ok (.iconst 2, 1) := by decide +kernel
theorem dX8_like_8 : decode cX8_like 8 = .ok (.if_icmp .ne 7, 3) := by decide +kernel
theorem dX8_like_11 : decode cX8_like 11 = .ok (.iconst 1, 1) := by decide +kernel
theorem dX8_like_12 : decode cX8_like 12 = .ok (.goto 16, 3) := by decide +kernel
theorem dX8_like_15 : decode cX8_like 15 = .ok (.aload_n 0, 1) := by decide +kernel
theorem dX8_like_16 : decode cX8_like 16 = .ok (.iload_n 1, 1) := by decide +kernel
theorem dX8_like_17 : decode cX8_like 17 = .ok (.iconst 1, 1) := by decide +kernel
theorem dX8_like_18 : decode cX8_like 18 = .ok (.iadd, 1) := by decide +kernel
theorem dX8_like_19 : decode cX8_like 19 = .ok (.aload_n 0, 1) := by decide +kernel
theorem dX8_like_20 : decode cX8_like 20 = .ok (.getfield 40, 3) := by decide +kernel
theorem dX8_like_23 : decode cX8_like 23 = .ok (.iload_n 1, 1) := by decide +kernel
theorem dX8_like_24 : decode cX8_like 24 = .ok (.iaload, 1) := by decide +kernel
theorem dX8_like_25 : decode cX8_like 25 = .ok (.invokevirtual 141, 3) := by decide +kernel
theorem dX8_like_28 : decode cX8_like 28 = .ok (.putfield 110, 3) := by decide +kernel
theorem dX8_like_31 : decode cX8_like 31 = .ok (.aload_n 0, 1) := by decide +kernel
theorem dX8_like_32 : decode cX8_like 32 = .ok (.getfield 110, 3) := by decide +kernel
theorem dX8_like_35 : decode cX8_like 35 = .ok (.ifCond .eq 4, 3) := by decide +kernel
theorem dX8_like_38 : decode cX8_like 38 = .ok (.return_, 1) := by decide +kernel
theorem dX8_like_39 : decode cX8_like 39 = .ok (.aload_n 0, 1) := by decide +kernel
theorem dX8_like_40 : decode cX8_like 40 = .ok (.getfield 43, 3) := by decide +kernel
theorem dX8_like_43 : decode cX8_like 43 = .ok (.iload_n 1, 1) := by decide +kernel
theorem dX8_like_44 : decode cX8_like 44 = .ok (.iaload, 1) := by decide +kernel
theorem dX8_like_45 : decode cX8_like 45 = .ok (.aload_n 0, 1) := by decide +kernel
theorem dX8_like_46 : decode cX8_like 46 = .ok (.getfield 43, 3) := by decide +kernel
theorem dX8_like_49 : decode cX8_like 49 = .ok (.iload_n 1, 1) := by decide +kernel
theorem dX8_like_50 : decode cX8_like 50 = .ok (.iconst 1, 1) := by decide +kernel
theorem dX8_like_51 : decode cX8_like 51 = .ok (.iadd, 1) := by decide +kernel
theorem dX8_like_52 : decode cX8_like 52 = .ok (.iaload, 1) := by decide +kernel
theorem dX8_like_53 : decode cX8_like 53 = .ok (.if_icmp .ne 7, 3) := by decide +kernel
theorem dX8_like_56 : decode cX8_like 56 = .ok (.iconst 1, 1) := by decide +kernel
theorem dX8_like_57 : decode cX8_like 57 = .ok (.goto 4, 3) := by decide +kernel
theorem dX8_like_60 : decode cX8_like 60 = .ok (.iconst 0, 1) := by decide +kernel
theorem dX8_like_61 : decode cX8_like 61 = .ok (.istore_n 2, 1) := by decide +kernel
theorem dX8_like_62 : decode cX8_like 62 = .ok (.iconst 0, 1) := by decide +kernel
theorem dX8_like_63 : decode cX8_like 63 = .ok (.istore_n 3, 1) := by decide +kernel
theorem dX8_like_64 : decode cX8_like 64 = .ok (.aload_n 0, 1) := by decide +kernel
theorem dX8_like_65 : decode cX8_like 65 = .ok (.getfield 40, 3) := by decide +kernel
theorem dX8_like_68 : decode cX8_like 68 = .ok (.iload_n 1, 1) := by decide +kernel
theorem dX8_like_69 : decode cX8_like 69 = .ok (.iaload, 1) := by decide +kernel
theorem dX8_like_70 : decode cX8_like 70 = .ok (.iconst 1, 1) := by decide +kernel
theorem dX8_like_71 : decode cX8_like 71 = .ok (.if_icmp .ne 66, 3) := by decide +kernel
theorem dX8_like_74 : decode cX8_like 74 = .ok (.iload_n 2, 1) := by decide +kernel
theorem dX8_like_75 : decode cX8_like 75 = .ok (.ifCond .eq 62, 3) := by decide +kernel
theorem dX8_like_78 : decode cX8_like 78 = .ok (.iload_n 3, 1) := by decide +kernel
theorem dX8_like_79 : decode cX8_like 79 = .ok (.aload_n 0, 1) := by decide +kernel
theorem dX8_like_80 : decode cX8_like 80 = .ok (.getfield 43, 3) := by decide +kernel
theorem dX8_like_83 : decode cX8_like 83 = .ok (.iload_n 1, 1) := by decide +kernel
theorem dX8_like_84 : decode cX8_like 84 = .ok (.iaload, 1) := by decide +kernel
theorem dX8_like_85 : decode cX8_like 85 = .ok (.if_icmp .ge 52, 3) := by decide +kernel
theorem dX8_like_88 : decode cX8_like 88 = .ok (.aload_n 0, 1) := by decide +kernel
theorem dX8_like_89 : decode cX8_like 89 = .ok (.getfield 49, 3) := by decide +kernel
theorem dX8_like_92 : decode cX8_like 92 = .ok (.bipush 16, 2) := by decide +kernel
theorem dX8_like_94 : decode cX8_like 94 = .ok (.aload_n 0, 1) := by decide +kernel
theorem dX8_like_95 : decode cX8_like 95 = .ok (.getfield 46, 3) := by decide +kernel
theorem dX8_like_98 : decode cX8_like 98 = .ok (.iload_n 1, 1) := by decide +kernel
theorem dX8_like_99 : decode cX8_like 99 = .ok (.iaload, 1) := by decide +kernel
theorem dX8_like_100 : decode cX8_like 100 = .ok (.imul, 1) := by decide +kernel
theorem dX8_like_101 : decode cX8_like 101 = .ok (.iload_n 3, 1) := by decide +kernel
theorem dX8_like_102 : decode cX8_like 102 = .ok (.iadd, 1) := by decide +kernel
theorem dX8_like_103 : decode cX8_like 103 = .ok (.iaload, 1) := by decide +kernel
theorem dX8_like_104 : decode cX8_like 104 = .ok (.aload_n 0, 1) := by decide +kernel
theorem dX8_like_105 : decode cX8_like 105 = .ok (.getfield 49, 3) := by decide +kernel
theorem dX8_like_108 : decode cX8_like 108 = .ok (.bipush 16, 2) := by decide +kernel
theorem dX8_like_110 : decode cX8_like 110 = .ok (.aload_n 0, 1) := by decide +kernel
theorem dX8_like_111 : decode cX8_like 111 = .ok (.getfield 46, 3) := by decide +kernel
theorem dX8_like_114 : decode cX8_like 114 = .ok (.iload_n 1, 1) := by decide +kernel
theorem dX8_like_115 : decode cX8_like 115 = .ok (.iconst 1, 1) := by decide +kernel
theorem dX8_like_116 : decode cX8_like 116 = .ok (.iadd, 1) := by decide +kernel
theorem dX8_like_117 : decode cX8_like 117 = .ok (.iaload, 1) := by decide +kernel
theorem dX8_like_118 : decode cX8_like 118 = .ok (.imul, 1) := by decide +kernel
theorem dX8_like_119 : decode cX8_like 119 = .ok (.iload_n 3, 1) := by decide +kernel
theorem dX8_like_120 : decode cX8_like 120 = .ok (.iadd, 1) := by decide +kernel
theorem dX8_like_121 : decode cX8_like 121 = .ok (.iaload, 1) := by decide +kernel
theorem dX8_like_122 : decode cX8_like 122 = .ok (.if_icmp .ne 7, 3) := by decide +kernel
theorem dX8_like_125 : decode cX8_like 125 = .ok (.iconst 1, 1) := by decide +kernel
theorem dX8_like_126 : decode cX8_like 126 = .ok (.goto 4, 3) := by decide +kernel
theorem dX8_like_129 : decode cX8_like 129 = .ok (.iconst 0, 1) := by decide +kernel
theorem dX8_like_130 : decode cX8_like 130 = .ok (.istore_n 2, 1) := by decide +kernel
theorem dX8_like_131 : decode cX8_like 131 = .ok (.iinc 3 1, 3) := by decide +kernel
theorem dX8_like_134 : decode cX8_like 134 = .ok (.goto (-70), 3) := by decide +kernel
theorem dX8_like_137 : decode cX8_like 137 = .ok (.aload_n 0, 1) := by decide +kernel
theorem dX8_like_138 : decode cX8_like 138 = .ok (.iload_n 2, 1) := by decide +kernel
theorem dX8_like_139 : decode cX8_like 139 = .ok (.ifCond .eq 7, 3) := by decide +kernel
theorem dX8_like_142 : decode cX8_like 142 = .ok (.iconst 1, 1) := by decide +kernel
theorem dX8_like_143 : decode cX8_like 143 = .ok (.goto 4, 3) := by decide +kernel
theorem dX8_like_146 : decode cX8_like 146 = .ok (.iconst 0, 1) := by decide +kernel
theorem dX8_like_147 : decode cX8_like 147 = .ok (.invokevirtual 149, 3) := by decide +kernel
theorem dX8_like_150 : decode cX8_like 150 = .ok (.return_, 1) := by decide +kernel
theorem dX8_both_0 : decode cX8_both 0 = .ok (.iload_n 2, 1) := by decide +kernel
theorem dX8_both_1 : decode cX8_both 1 = .ok (.iconst 2, 1) := by decide +kernel
theorem dX8_both_2 : decode cX8_both 2 = .ok (.if_icmp .ge 9, 3) := by decide +kernel
theorem dX8_both_5 : decode cX8_both 5 = .ok (.aload_n 0, 1) := by decide +kernel
theorem dX8_both_6 : decode cX8_both 6 = .ok (.iconst 0, 1) := by decide +kernel
theorem dX8_both_7 : decode cX8_both 7 = .ok (.invokevirtual 149, 3) := by decide +kernel
theorem dX8_both_10 : decode cX8_both 10 = .ok (.return_, 1) := by decide +kernel
theorem dX8_both_11 : decode cX8_both 11 = .ok (.aload_n 0, 1) := by decide +kernel
theorem dX8_both_12 : decode cX8_both 12 = .ok (.aload_n 0, 1) := by decide +kernel
theorem dX8_both_13 : decode cX8_both 13 = .ok (.iload_n 1, 1) := by decide +kernel
theorem dX8_both_14 : decode cX8_both 14 = .ok (.iconst 1, 1) := by decide +kernel
theorem dX8_both_15 : decode cX8_both 15 = .ok (.iadd, 1) := by decide +kernel
theorem dX8_both_16 : decode cX8_both 16 = .ok (.iconst 0, 1) := by decide +kernel
theorem dX8_both_17 : decode cX8_both 17 = .ok (.invokevirtual 141, 3) := by decide +kernel
theorem dX8_both_20 : decode cX8_both 20 = .ok (.putfield 110, 3) := by decide +kernel
theorem dX8_both_23 : decode cX8_both 23 = .ok (.aload_n 0, 1) := by decide +kernel
theorem dX8_both_24 : decode cX8_both 24 = .ok (.aload_n 0, 1) := by decide +kernel
theorem dX8_both_25 : decode cX8_both 25 = .ok (.getfield 43, 3) := by decide +kernel
theorem dX8_both_28 : decode cX8_both 28 = .ok (.iload_n 1, 1) := by decide +kernel
theorem dX8_both_29 : decode cX8_both 29 = .ok (.iconst 1, 1) := by decide +kernel
theorem dX8_both_30 : decode cX8_both 30 = .ok (.iadd, 1) := by decide +kernel
theorem dX8_both_31 : decode cX8_both 31 = .ok (.iaload, 1) := by decide +kernel
theorem dX8_both_32 : decode cX8_both 32 = .ok (.ifCond .eq 7, 3) := by decide +kernel
theorem dX8_both_35 : decode cX8_both 35 = .ok (.iconst 1, 1) := by decide +kernel
theorem dX8_both_36 : decode cX8_both 36 = .ok (.goto 4, 3) := by decide +kernel
theorem dX8_both_39 : decode cX8_both 39 = .ok (.iconst 0, 1) := by decide +kernel
theorem dX8_both_40 : decode cX8_both 40 = .ok (.invokevirtual 149, 3) := by decide +kernel
theorem dX8_both_43 : decode cX8_both 43 = .ok (.return_, 1) := by decide +kernel
theorem dX8_rows_0 : decode cX8_rows 0 = .ok (.iload_n 1, 1) := by decide +kernel
theorem dX8_rows_1 : decode cX8_rows 1 = .ok (.invokestatic 99, 3) := by decide +kernel
theorem dX8_rows_4 : decode cX8_rows 4 = .ok (.istore_n 3, 1) := by decide +kernel
theorem dX8_rows_5 : decode cX8_rows 5 = .ok (.aload_n 0, 1) := by decide +kernel
theorem dX8_rows_6 : decode cX8_rows 6 = .ok (.aload_n 0, 1) := by decide +kernel
theorem dX8_rows_7 : decode cX8_rows 7 = .ok (.iload_n 2, 1) := by decide +kernel
theorem dX8_rows_8 : decode cX8_rows 8 = .ok (.iload_n 1, 1) := by decide +kernel
theorem dX8_rows_9 : decode cX8_rows 9 = .ok (.bipush 12, 2) := by decide +kernel
theorem dX8_rows_11 : decode cX8_rows 11 = .ok (.if_icmp .ne 7, 3) := by decide +kernel
theorem dX8_rows_14 : decode cX8_rows 14 = .ok (.iconst 0, 1) := by decide +kernel
theorem dX8_rows_15 : decode cX8_rows 15 = .ok (.goto 4, 3) := by decide +kernel
theorem dX8_rows_18 : decode cX8_rows 18 = .ok (.iconst 1, 1) := by decide +kernel
theorem dX8_rows_19 : decode cX8_rows 19 = .ok (.invokevirtual 141, 3) := by decide +kernel
theorem dX8_rows_22 : decode cX8_rows 22 = .ok (.putfield 110, 3) := by decide +kernel
theorem dX8_rows_25 : decode cX8_rows 25 = .ok (.aload_n 0, 1) := by decide +kernel
theorem dX8_rows_26 : decode cX8_rows 26 = .ok (.aload_n 0, 1) := by decide +kernel
theorem dX8_rows_27 : decode cX8_rows 27 = .ok (.getfield 110, 3) := by decide +kernel
theorem dX8_rows_30 : decode cX8_rows 30 = .ok (.ifCond .ne 8, 3) := by decide +kernel
theorem dX8_rows_33 : decode cX8_rows 33 = .ok (.iload_n 3, 1) := by decide +kernel
theorem dX8_rows_34 : decode cX8_rows 34 = .ok (.iconst 2, 1) := by decide +kernel
theorem dX8_rows_35 : decode cX8_rows 35 = .ok (.if_icmp .ge 10, 3) := by decide +kernel
theorem dX8_rows_38 : decode cX8_rows 38 = .ok (.aload_n 0, 1) := by decide +kernel
theorem dX8_rows_39 : decode cX8_rows 39 = .ok (.getfield 110, 3) := by decide +kernel
theorem dX8_rows_42 : decode cX8_rows 42 = .ok (.goto 21, 3) := by decide +kernel
theorem dX8_rows_45 : decode cX8_rows 45 = .ok (.aload_n 0, 1) := by decide +kernel
theorem dX8_rows_46 : decode cX8_rows 46 = .ok (.iload_n 2, 1) := by decide +kernel
theorem dX8_rows_47 : decode cX8_rows 47 = .ok (.iconst 1, 1) := by decide +kernel
theorem dX8_rows_48 : decode cX8_rows 48 = .ok (.iadd, 1) := by decide +kernel
theorem dX8_rows_49 : decode cX8_rows 49 = .ok (.iload_n 1, 1) := by decide +kernel
theorem dX8_rows_50 : decode cX8_rows 50 = .ok (.bipush 14, 2) := by decide +kernel
theorem dX8_rows_52 : decode cX8_rows 52 = .ok (.if_icmp .ne 7, 3) := by decide +kernel
theorem dX8_rows_55 : decode cX8_rows 55 = .ok (.iconst 1, 1) := by decide +kernel
theorem dX8_rows_56 : decode cX8_rows 56 = .ok (.goto 4, 3) := by decide +kernel
theorem dX8_rows_59 : decode cX8_rows 59 = .ok (.iconst 0, 1) := by decide +kernel
theorem dX8_rows_60 : decode cX8_rows 60 = .ok (.invokevirtual 141, 3) := by decide +kernel
theorem dX8_rows_63 : decode cX8_rows 63 = .ok (.putfield 110, 3) := by decide +kernel
theorem dX8_rows_66 : decode cX8_rows 66 = .ok (.aload_n 0, 1) := by decide +kernel
theorem dX8_rows_67 : decode cX8_rows 67 = .ok (.aload_n 0, 1) := by decide +kernel
theorem dX8_rows_68 : decode cX8_rows 68 = .ok (.getfield 110, 3) := by decide +kernel
theorem dX8_rows_71 : decode cX8_rows 71 = .ok (.ifCond .ne 8, 3) := by decide +kernel
theorem dX8_rows_74 : decode cX8_rows 74 = .ok (.iload_n 3, 1) := by decide +kernel
theorem dX8_rows_75 : decode cX8_rows 75 = .ok (.iconst 3, 1) := by decide +kernel
theorem dX8_rows_76 : decode cX8_rows 76 = .ok (.if_icmp .ge 10, 3) := by decide +kernel
theorem dX8_rows_79 : decode cX8_rows 79 = .ok (.aload_n 0, 1) := by decide +kernel
theorem dX8_rows_80 : decode cX8_rows 80 = .ok (.getfield 110, 3) := by decide +kernel
theorem dX8_rows_83 : decode cX8_rows 83 = .ok (.goto 11, 3) := by decide +kernel
theorem dX8_rows_86 : decode cX8_rows 86 = .ok (.aload_n 0, 1) := by decide +kernel
theorem dX8_rows_87 : decode cX8_rows 87 = .ok (.iload_n 2, 1) := by decide +kernel
theorem dX8_rows_88 : decode cX8_rows 88 = .ok (.iconst 2, 1) := by decide +kernel
theorem dX8_rows_89 : decode cX8_rows 89 = .ok (.iadd, 1) := by decide +kernel
theorem dX8_rows_90 : decode cX8_rows 90 = .ok (.iconst 0, 1) := by decide +kernel
theorem dX8_rows_91 : decode cX8_rows 91 = .ok (.invokevirtual 141, 3) := by decide +kernel
theorem dX8_rows_94 : decode cX8_rows 94 = .ok (.putfield 110, 3) := by decide +kernel
theorem dX8_rows_97 : decode cX8_rows 97 = .ok (.aload_n 0, 1) := by decide +kernel
theorem dX8_rows_98 : decode cX8_rows 98 = .ok (.aload_n 0, 1) := by decide +kernel
theorem dX8_rows_99 : decode cX8_rows 99 = .ok (.getfield 110, 3) := by decide +kernel
theorem dX8_rows_102 : decode cX8_rows 102 = .ok (.ifCond .eq 10, 3) := by decide +kernel
theorem dX8_rows_105 : decode cX8_rows 105 = .ok (.aload_n 0, 1) := by decide +kernel
theorem dX8_rows_106 : decode cX8_rows 106 = .ok (.getfield 110, 3) := by decide +kernel
theorem dX8_rows_109 : decode cX8_rows 109 = .ok (.goto 29, 3) := by decide +kernel
theorem dX8_rows_112 : decode cX8_rows 112 = .ok (.iload_n 1, 1) := by decide +kernel
theorem dX8_rows_113 : decode cX8_rows 113 = .ok (.aload_n 0, 1) := by decide +kernel
theorem dX8_rows_114 : decode cX8_rows 114 = .ok (.getfield 43, 3) := by decide +kernel
theorem dX8_rows_117 : decode cX8_rows 117 = .ok (.iload_n 2, 1) := by decide +kernel
theorem dX8_rows_118 : decode cX8_rows 118 = .ok (.iaload, 1) := by decide +kernel
theorem dX8_rows_119 : decode cX8_rows 119 = .ok (.aload_n 0, 1) := by decide +kernel
theorem dX8_rows_120 : decode cX8_rows 120 = .ok (.getfield 43, 3) := by decide +kernel
theorem dX8_rows_123 : decode cX8_rows 123 = .ok (.iload_n 2, 1) := by decide +kernel
theorem dX8_rows_124 : decode cX8_rows 124 = .ok (.iconst 1, 1) := by decide +kernel
theorem dX8_rows_125 : decode cX8_rows 125 = .ok (.iadd, 1) := by decide +kernel
theorem dX8_rows_126 : decode cX8_rows 126 = .ok (.iaload, 1) := by decide +kernel
theorem dX8_rows_127 : decode cX8_rows 127 = .ok (.aload_n 0, 1) := by decide +kernel
theorem dX8_rows_128 : decode cX8_rows 128 = .ok (.getfield 43, 3) := by decide +kernel
theorem dX8_rows_131 : decode cX8_rows 131 = .ok (.iload_n 2, 1) := by decide +kernel
theorem dX8_rows_132 : decode cX8_rows 132 = .ok (.iconst 2, 1) := by decide +kernel
theorem dX8_rows_133 : decode cX8_rows 133 = .ok (.iadd, 1) := by decide +kernel
theorem dX8_rows_134 : decode cX8_rows 134 = .ok (.iaload, 1) := by decide +kernel
theorem dX8_rows_135 : decode cX8_rows 135 = .ok (.invokestatic 164, 3) := by decide +kernel
theorem dX8_rows_138 : decode cX8_rows 138 = .ok (.putfield 110, 3) := by decide +kernel
theorem dX8_rows_141 : decode cX8_rows 141 = .ok (.aload_n 0, 1) := by decide +kernel
theorem dX8_rows_142 : decode cX8_rows 142 = .ok (.getfield 110, 3) := by decide +kernel
theorem dX8_rows_145 : decode cX8_rows 145 = .ok (.ifCond .eq 4, 3) := by decide +kernel
theorem dX8_rows_148 : decode cX8_rows 148 = .ok (.return_, 1) := by decide +kernel
theorem dX8_rows_149 : decode cX8_rows 149 = .ok (.bipush 16, 2) := by decide +kernel
theorem dX8_rows_151 : decode cX8_rows 151 = .ok (.aload_n 0, 1) := by decide +kernel
theorem dX8_rows_152 : decode cX8_rows 152 = .ok (.getfield 46, 3) := by decide +kernel
theorem dX8_rows_155 : decode cX8_rows 155 = .ok (.iload_n 2, 1) := by decide +kernel
theorem dX8_rows_156 : decode cX8_rows 156 = .ok (.iaload, 1) := by decide +kernel
theorem dX8_rows_157 : decode cX8_rows 157 = .ok (.imul, 1) := by decide +kernel
theorem dX8_rows_158 : decode cX8_rows 158 = .ok (.istore 4, 2) := by decide +kernel
theorem dX8_rows_160 : decode cX8_rows 160 = .ok (.aload_n 0, 1) := by decide +kernel
theorem dX8_rows_161 : decode cX8_rows 161 = .ok (.getfield 43, 3) := by decide +kernel
theorem dX8_rows_164 : decode cX8_rows 164 = .ok (.iload_n 2, 1) := by decide +kernel
theorem dX8_rows_165 : decode cX8_rows 165 = .ok (.iaload, 1) := by decide +kernel
theorem dX8_rows_166 : decode cX8_rows 166 = .ok (.istore 5, 2) := by decide +kernel
theorem dX8_rows_168 : decode cX8_rows 168 = .ok (.iload_n 1, 1) := by decide +kernel
theorem dX8_rows_169 : decode cX8_rows 169 = .ok (.lookupswitch 104 #[(10, 35), (11, 56), (18, 63)], 35) := by decide +kernel
theorem dX8_rows_204 : decode cX8_rows 204 = .ok (.aload_n 0, 1) := by decide +kernel
theorem dX8_rows_205 : decode cX8_rows 205 = .ok (.aload_n 0, 1) := by decide +kernel
theorem dX8_rows_206 : decode cX8_rows 206 = .ok (.getfield 49, 3) := by decide +kernel
theorem dX8_rows_209 : decode cX8_rows 209 = .ok (.iload 4, 2) := by decide +kernel
theorem dX8_rows_211 : decode cX8_rows 211 = .ok (.aload_n 0, 1) := by decide +kernel
theorem dX8_rows_212 : decode cX8_rows 212 = .ok (.getfield 43, 3) := by decide +kernel
theorem dX8_rows_215 : decode cX8_rows 215 = .ok (.iload_n 2, 1) := by decide +kernel
theorem dX8_rows_216 : decode cX8_rows 216 = .ok (.iconst 1, 1) := by decide +kernel
theorem dX8_rows_217 : decode cX8_rows 217 = .ok (.iadd, 1) := by decide +kernel
theorem dX8_rows_218 : decode cX8_rows 218 = .ok (.iaload, 1) := by decide +kernel
theorem dX8_rows_219 : decode cX8_rows 219 = .ok (.iadd, 1) := by decide +kernel
theorem dX8_rows_220 : decode cX8_rows 220 = .ok (.iaload, 1) := by decide +kernel
theorem dX8_rows_221 : decode cX8_rows 221 = .ok (.invokevirtual 149, 3) := by decide +kernel
theorem dX8_rows_224 : decode cX8_rows 224 = .ok (.return_, 1) := by decide +kernel
theorem dX8_rows_225 : decode cX8_rows 225 = .ok (.aload_n 0, 1) := by decide +kernel
theorem dX8_rows_226 : decode cX8_rows 226 = .ok (.iload 5, 2) := by decide +kernel
theorem dX8_rows_228 : decode cX8_rows 228 = .ok (.invokevirtual 149, 3) := by decide +kernel
theorem dX8_rows_231 : decode cX8_rows 231 = .ok (.return_, 1) := by decide +kernel
theorem dX8_rows_232 : decode cX8_rows 232 = .ok (.iconst 0, 1) := by decide +kernel
theorem dX8_rows_233 : decode cX8_rows 233 = .ok (.istore 6, 2) := by decide +kernel
theorem dX8_rows_235 : decode cX8_rows 235 = .ok (.iconst 0, 1) := by decide +kernel
theorem dX8_rows_236 : decode cX8_rows 236 = .ok (.istore 7, 2) := by decide +kernel
theorem dX8_rows_238 : decode cX8_rows 238 = .ok (.iload 7, 2) := by decide +kernel
theorem dX8_rows_240 : decode cX8_rows 240 = .ok (.iload 5, 2) := by decide +kernel
theorem dX8_rows_242 : decode cX8_rows 242 = .ok (.if_icmp .ge 24, 3) := by decide +kernel
theorem dX8_rows_245 : decode cX8_rows 245 = .ok (.iload 6, 2) := by decide +kernel
theorem dX8_rows_247 : decode cX8_rows 247 = .ok (.aload_n 0, 1) := by decide +kernel
theorem dX8_rows_248 : decode cX8_rows 248 = .ok (.getfield 49, 3) := by decide +kernel
theorem dX8_rows_251 : decode cX8_rows 251 = .ok (.iload 4, 2) := by decide +kernel
theorem dX8_rows_253 : decode cX8_rows 253 = .ok (.iload 7, 2) := by decide +kernel
theorem dX8_rows_255 : decode cX8_rows 255 = .ok (.iadd, 1) := by decide +kernel
theorem dX8_rows_256 : decode cX8_rows 256 = .ok (.iaload, 1) := by decide +kernel
theorem dX8_rows_257 : decode cX8_rows 257 = .ok (.iadd, 1) := by decide +kernel
theorem dX8_rows_258 : decode cX8_rows 258 = .ok (.istore 6, 2) := by decide +kernel
theorem dX8_rows_260 : decode cX8_rows 260 = .ok (.iinc 7 1, 3) := by decide +kernel
theorem dX8_rows_263 : decode cX8_rows 263 = .ok (.goto (-25), 3) := by decide +kernel
theorem dX8_rows_266 : decode cX8_rows 266 = .ok (.aload_n 0, 1) := by decide +kernel
theorem dX8_rows_267 : decode cX8_rows 267 = .ok (.iload 6, 2) := by decide +kernel
theorem dX8_rows_269 : decode cX8_rows 269 = .ok (.invokevirtual 149, 3) := by decide +kernel
theorem dX8_rows_272 : decode cX8_rows 272 = .ok (.return_, 1) := by decide +kernel
theorem dX8_rows_273 : decode cX8_rows 273 = .ok (.aload_n 0, 1) := by decide +kernel
theorem dX8_rows_274 : decode cX8_rows 274 = .ok (.iload_n 1, 1) := by decide +kernel
theorem dX8_rows_275 : decode cX8_rows 275 = .ok (.iload_n 2, 1) := by decide +kernel
theorem dX8_rows_276 : decode cX8_rows 276 = .ok (.iload 4, 2) := by decide +kernel
theorem dX8_rows_278 : decode cX8_rows 278 = .ok (.iload 5, 2) := by decide +kernel
theorem dX8_rows_280 : decode cX8_rows 280 = .ok (.invokevirtual 168, 3) := by decide +kernel
theorem dX8_rows_283 : decode cX8_rows 283 = .ok (.return_, 1) := by decide +kernel
theorem dX8_refused_0 : decode cX8_refused 0 = .ok (.iload_n 0, 1) := by decide +kernel
theorem dX8_refused_1 : decode cX8_refused 1 = .ok (.tableswitch 126 10 15 #[39, 126, 54, 39, 75, 90], 39) := by decide +kernel
theorem dX8_refused_40 : decode cX8_refused 40 = .ok (.iload_n 2, 1) := by decide +kernel
theorem dX8_refused_41 : decode cX8_refused 41 = .ok (.ifCond .lt 8, 3) := by decide +kernel
theorem dX8_refused_44 : decode cX8_refused 44 = .ok (.iload_n 2, 1) := by decide +kernel
theorem dX8_refused_45 : decode cX8_refused 45 = .ok (.iload_n 1, 1) := by decide +kernel
theorem dX8_refused_46 : decode cX8_refused 46 = .ok (.if_icmp .lt 7, 3) := by decide +kernel
theorem dX8_refused_49 : decode cX8_refused 49 = .ok (.iconst 2, 1) := by decide +kernel
theorem dX8_refused_50 : decode cX8_refused 50 = .ok (.goto 4, 3) := by decide +kernel
theorem dX8_refused_53 : decode cX8_refused 53 = .ok (.iconst 0, 1) := by decide +kernel
theorem dX8_refused_54 : decode cX8_refused 54 = .ok (.ireturn, 1) := by decide +kernel
theorem dX8_refused_55 : decode cX8_refused 55 = .ok (.iload_n 1, 1) := by decide +kernel
theorem dX8_refused_56 : decode cX8_refused 56 = .ok (.ifCond .ge 7, 3) := by decide +kernel
theorem dX8_refused_59 : decode cX8_refused 59 = .ok (.iconst 3, 1) := by decide +kernel
theorem dX8_refused_60 : decode cX8_refused 60 = .ok (.goto 15, 3) := by decide +kernel
theorem dX8_refused_63 : decode cX8_refused 63 = .ok (.iload_n 1, 1) := by decide +kernel
theorem dX8_refused_64 : decode cX8_refused 64 = .ok (.bipush 16, 2) := by decide +kernel
theorem dX8_refused_66 : decode cX8_refused 66 = .ok (.if_icmp .le 8, 3) := by decide +kernel
theorem dX8_refused_69 : decode cX8_refused 69 = .ok (.bipush 6, 2) := by decide +kernel
theorem dX8_refused_71 : decode cX8_refused 71 = .ok (.goto 4, 3) := by decide +kernel
theorem dX8_refused_74 : decode cX8_refused 74 = .ok (.iconst 0, 1) := by decide +kernel
theorem dX8_refused_75 : decode cX8_refused 75 = .ok (.ireturn, 1) := by decide +kernel
theorem dX8_refused_76 : decode cX8_refused 76 = .ok (.iload_n 1, 1) := by decide +kernel
theorem dX8_refused_77 : decode cX8_refused 77 = .ok (.iload_n 2, 1) := by decide +kernel
theorem dX8_refused_78 : decode cX8_refused 78 = .ok (.iadd, 1) := by decide +kernel
theorem dX8_refused_79 : decode cX8_refused 79 = .ok (.bipush 16, 2) := by decide +kernel
theorem dX8_refused_81 : decode cX8_refused 81 = .ok (.if_icmp .le 8, 3) := by decide +kernel
theorem dX8_refused_84 : decode cX8_refused 84 = .ok (.bipush 6, 2) := by decide +kernel
theorem dX8_refused_86 : decode cX8_refused 86 = .ok (.goto 4, 3) := by decide +kernel
theorem dX8_refused_89 : decode cX8_refused 89 = .ok (.iconst 0, 1) := by decide +kernel
theorem dX8_refused_90 : decode cX8_refused 90 = .ok (.ireturn, 1) := by decide +kernel
theorem dX8_refused_91 : decode cX8_refused 91 = .ok (.iload_n 3, 1) := by decide +kernel
theorem dX8_refused_92 : decode cX8_refused 92 = .ok (.ifCond .ge 7, 3) := by decide +kernel
theorem dX8_refused_95 : decode cX8_refused 95 = .ok (.iconst 3, 1) := by decide +kernel
theorem dX8_refused_96 : decode cX8_refused 96 = .ok (.goto 30, 3) := by decide +kernel
theorem dX8_refused_99 : decode cX8_refused 99 = .ok (.iload_n 3, 1) := by decide +kernel
theorem dX8_refused_100 : decode cX8_refused 100 = .ok (.bipush 16, 2) := by decide +kernel
theorem dX8_refused_102 : decode cX8_refused 102 = .ok (.if_icmp .le 8, 3) := by decide +kernel
theorem dX8_refused_105 : decode cX8_refused 105 = .ok (.bipush 6, 2) := by decide +kernel
theorem dX8_refused_107 : decode cX8_refused 107 = .ok (.goto 19, 3) := by decide +kernel
theorem dX8_refused_110 : decode cX8_refused 110 = .ok (.iload_n 2, 1) := by decide +kernel
theorem dX8_refused_111 : decode cX8_refused 111 = .ok (.ifCond .lt 10, 3) := by decide +kernel
theorem dX8_refused_114 : decode cX8_refused 114 = .ok (.iload_n 2, 1) := by decide +kernel
theorem dX8_refused_115 : decode cX8_refused 115 = .ok (.iload_n 1, 1) := by decide +kernel
theorem dX8_refused_116 : decode cX8_refused 116 = .ok (.iload_n 3, 1) := by decide +kernel
theorem dX8_refused_117 : decode cX8_refused 117 = .ok (.isub, 1) := by decide +kernel
theorem dX8_refused_118 : decode cX8_refused 118 = .ok (.if_icmp .le 7, 3) := by decide +kernel
theorem dX8_refused_121 : decode cX8_refused 121 = .ok (.iconst 2, 1) := by decide +kernel
theorem dX8_refused_122 : decode cX8_refused 122 = .ok (.goto 4, 3) := by decide +kernel
theorem dX8_refused_125 : decode cX8_refused 125 = .ok (.iconst 0, 1) := by decide +kernel
theorem dX8_refused_126 : decode cX8_refused 126 = .ok (.ireturn, 1) := by decide +kernel
theorem dX8_refused_127 : decode cX8_refused 127 = .ok (.iconst 0, 1) := by decide +kernel
theorem dX8_refused_128 : decode cX8_refused 128 = .ok (.ireturn, 1) := by decide +kernel
theorem dX8_rowOf_0 : decode cX8_rowOf 0 = .ok (.aload_n 0, 1) := by decide +kernel
theorem dX8_rowOf_1 : decode cX8_rowOf 1 = .ok (.getfield 43, 3) := by decide +kernel
theorem dX8_rowOf_4 : decode cX8_rowOf 4 = .ok (.iload_n 2, 1) := by decide +kernel
theorem dX8_rowOf_5 : decode cX8_rowOf 5 = .ok (.iconst 1, 1) := by decide +kernel
theorem dX8_rowOf_6 : decode cX8_rowOf 6 = .ok (.iadd, 1) := by decide +kernel
theorem dX8_rowOf_7 : decode cX8_rowOf 7 = .ok (.iaload, 1) := by decide +kernel
theorem dX8_rowOf_8 : decode cX8_rowOf 8 = .ok (.istore 5, 2) := by decide +kernel
theorem dX8_rowOf_10 : decode cX8_rowOf 10 = .ok (.aload_n 0, 1) := by decide +kernel
theorem dX8_rowOf_11 : decode cX8_rowOf 11 = .ok (.getfield 43, 3) := by decide +kernel
theorem dX8_rowOf_14 : decode cX8_rowOf 14 = .ok (.iload_n 2, 1) := by decide +kernel
theorem dX8_rowOf_15 : decode cX8_rowOf 15 = .ok (.iconst 2, 1) := by decide +kernel
theorem dX8_rowOf_16 : decode cX8_rowOf 16 = .ok (.iadd, 1) := by decide +kernel
theorem dX8_rowOf_17 : decode cX8_rowOf 17 = .ok (.iaload, 1) := by decide +kernel
theorem dX8_rowOf_18 : decode cX8_rowOf 18 = .ok (.istore 6, 2) := by decide +kernel
theorem dX8_rowOf_20 : decode cX8_rowOf 20 = .ok (.iload_n 1, 1) := by decide +kernel
theorem dX8_rowOf_21 : decode cX8_rowOf 21 = .ok (.bipush 14, 2) := by decide +kernel
theorem dX8_rowOf_23 : decode cX8_rowOf 23 = .ok (.if_icmp .ne 11, 3) := by decide +kernel
theorem dX8_rowOf_26 : decode cX8_rowOf 26 = .ok (.iload 4, 2) := by decide +kernel
theorem dX8_rowOf_28 : decode cX8_rowOf 28 = .ok (.iload 5, 2) := by decide +kernel
theorem dX8_rowOf_30 : decode cX8_rowOf 30 = .ok (.iadd, 1) := by decide +kernel
theorem dX8_rowOf_31 : decode cX8_rowOf 31 = .ok (.goto 16, 3) := by decide +kernel
theorem dX8_rowOf_34 : decode cX8_rowOf 34 = .ok (.iload_n 1, 1) := by decide +kernel
theorem dX8_rowOf_35 : decode cX8_rowOf 35 = .ok (.bipush 15, 2) := by decide +kernel
theorem dX8_rowOf_37 : decode cX8_rowOf 37 = .ok (.if_icmp .ne 8, 3) := by decide +kernel
theorem dX8_rowOf_40 : decode cX8_rowOf 40 = .ok (.iload 6, 2) := by decide +kernel
theorem dX8_rowOf_42 : decode cX8_rowOf 42 = .ok (.goto 5, 3) := by decide +kernel
theorem dX8_rowOf_45 : decode cX8_rowOf 45 = .ok (.iload 4, 2) := by decide +kernel
theorem dX8_rowOf_47 : decode cX8_rowOf 47 = .ok (.istore 7, 2) := by decide +kernel
theorem dX8_rowOf_49 : decode cX8_rowOf 49 = .ok (.bipush 16, 2) := by decide +kernel
theorem dX8_rowOf_51 : decode cX8_rowOf 51 = .ok (.aload_n 0, 1) := by decide +kernel
theorem dX8_rowOf_52 : decode cX8_rowOf 52 = .ok (.getfield 46, 3) := by decide +kernel
theorem dX8_rowOf_55 : decode cX8_rowOf 55 = .ok (.iload_n 2, 1) := by decide +kernel
theorem dX8_rowOf_56 : decode cX8_rowOf 56 = .ok (.iconst 1, 1) := by decide +kernel
theorem dX8_rowOf_57 : decode cX8_rowOf 57 = .ok (.iadd, 1) := by decide +kernel
theorem dX8_rowOf_58 : decode cX8_rowOf 58 = .ok (.iaload, 1) := by decide +kernel
theorem dX8_rowOf_59 : decode cX8_rowOf 59 = .ok (.imul, 1) := by decide +kernel
theorem dX8_rowOf_60 : decode cX8_rowOf 60 = .ok (.istore 8, 2) := by decide +kernel
theorem dX8_rowOf_62 : decode cX8_rowOf 62 = .ok (.aload_n 0, 1) := by decide +kernel
theorem dX8_rowOf_63 : decode cX8_rowOf 63 = .ok (.iload 7, 2) := by decide +kernel
theorem dX8_rowOf_65 : decode cX8_rowOf 65 = .ok (.invokevirtual 172, 3) := by decide +kernel
theorem dX8_rowOf_68 : decode cX8_rowOf 68 = .ok (.istore 9, 2) := by decide +kernel
theorem dX8_rowOf_70 : decode cX8_rowOf 70 = .ok (.iconst 0, 1) := by decide +kernel
theorem dX8_rowOf_71 : decode cX8_rowOf 71 = .ok (.istore 10, 2) := by decide +kernel
theorem dX8_rowOf_73 : decode cX8_rowOf 73 = .ok (.iload 10, 2) := by decide +kernel
theorem dX8_rowOf_75 : decode cX8_rowOf 75 = .ok (.iload 7, 2) := by decide +kernel
theorem dX8_rowOf_77 : decode cX8_rowOf 77 = .ok (.if_icmp .ge 154, 3) := by decide +kernel
theorem dX8_rowOf_80 : decode cX8_rowOf 80 = .ok (.iload_n 1, 1) := by decide +kernel
theorem dX8_rowOf_81 : decode cX8_rowOf 81 = .ok (.bipush 12, 2) := by decide +kernel
theorem dX8_rowOf_83 : decode cX8_rowOf 83 = .ok (.if_icmp .ne 7, 3) := by decide +kernel
theorem dX8_rowOf_86 : decode cX8_rowOf 86 = .ok (.iconst 0, 1) := by decide +kernel
theorem dX8_rowOf_87 : decode cX8_rowOf 87 = .ok (.goto 127, 3) := by decide +kernel
theorem dX8_rowOf_90 : decode cX8_rowOf 90 = .ok (.iload_n 1, 1) := by decide +kernel
theorem dX8_rowOf_91 : decode cX8_rowOf 91 = .ok (.bipush 13, 2) := by decide +kernel
theorem dX8_rowOf_93 : decode cX8_rowOf 93 = .ok (.if_icmp .ne 27, 3) := by decide +kernel
theorem dX8_rowOf_96 : decode cX8_rowOf 96 = .ok (.iload 10, 2) := by decide +kernel
theorem dX8_rowOf_98 : decode cX8_rowOf 98 = .ok (.iload 5, 2) := by decide +kernel
theorem dX8_rowOf_100 : decode cX8_rowOf 100 = .ok (.if_icmp .ne 8, 3) := by decide +kernel
theorem dX8_rowOf_103 : decode cX8_rowOf 103 = .ok (.iload 6, 2) := by decide +kernel
theorem dX8_rowOf_105 : decode cX8_rowOf 105 = .ok (.goto 109, 3) := by decide +kernel
theorem dX8_rowOf_108 : decode cX8_rowOf 108 = .ok (.aload_n 0, 1) := by decide +kernel
theorem dX8_rowOf_109 : decode cX8_rowOf 109 = .ok (.getfield 49, 3) := by decide +kernel
theorem dX8_rowOf_112 : decode cX8_rowOf 112 = .ok (.iload_n 3, 1) := by decide +kernel
theorem dX8_rowOf_113 : decode cX8_rowOf 113 = .ok (.iload 10, 2) := by decide +kernel
theorem dX8_rowOf_115 : decode cX8_rowOf 115 = .ok (.iadd, 1) := by decide +kernel
theorem dX8_rowOf_116 : decode cX8_rowOf 116 = .ok (.iaload, 1) := by decide +kernel
theorem dX8_rowOf_117 : decode cX8_rowOf 117 = .ok (.goto 97, 3) := by decide +kernel
theorem dX8_rowOf_120 : decode cX8_rowOf 120 = .ok (.iload_n 1, 1) := by decide +kernel
theorem dX8_rowOf_121 : decode cX8_rowOf 121 = .ok (.bipush 14, 2) := by decide +kernel
theorem dX8_rowOf_123 : decode cX8_rowOf 123 = .ok (.if_icmp .ne 38, 3) := by decide +kernel
theorem dX8_rowOf_126 : decode cX8_rowOf 126 = .ok (.iload 10, 2) := by decide +kernel
theorem dX8_rowOf_128 : decode cX8_rowOf 128 = .ok (.iload 4, 2) := by decide +kernel
theorem dX8_rowOf_130 : decode cX8_rowOf 130 = .ok (.if_icmp .ge 15, 3) := by decide +kernel
theorem dX8_rowOf_133 : decode cX8_rowOf 133 = .ok (.aload_n 0, 1) := by decide +kernel
theorem dX8_rowOf_134 : decode cX8_rowOf 134 = .ok (.getfield 49, 3) := by decide +kernel
theorem dX8_rowOf_137 : decode cX8_rowOf 137 = .ok (.iload_n 3, 1) := by decide +kernel
theorem dX8_rowOf_138 : decode cX8_rowOf 138 = .ok (.iload 10, 2) := by decide +kernel
theorem dX8_rowOf_140 : decode cX8_rowOf 140 = .ok (.iadd, 1) := by decide +kernel
theorem dX8_rowOf_141 : decode cX8_rowOf 141 = .ok (.iaload, 1) := by decide +kernel
theorem dX8_rowOf_142 : decode cX8_rowOf 142 = .ok (.goto 72, 3) := by decide +kernel
theorem dX8_rowOf_145 : decode cX8_rowOf 145 = .ok (.aload_n 0, 1) := by decide +kernel
theorem dX8_rowOf_146 : decode cX8_rowOf 146 = .ok (.getfield 49, 3) := by decide +kernel
theorem dX8_rowOf_149 : decode cX8_rowOf 149 = .ok (.iload 8, 2) := by decide +kernel
theorem dX8_rowOf_151 : decode cX8_rowOf 151 = .ok (.iload 10, 2) := by decide +kernel
theorem dX8_rowOf_153 : decode cX8_rowOf 153 = .ok (.iadd, 1) := by decide +kernel
theorem dX8_rowOf_154 : decode cX8_rowOf 154 = .ok (.iload 4, 2) := by decide +kernel
theorem dX8_rowOf_156 : decode cX8_rowOf 156 = .ok (.isub, 1) := by decide +kernel
theorem dX8_rowOf_157 : decode cX8_rowOf 157 = .ok (.iaload, 1) := by decide +kernel
theorem dX8_rowOf_158 : decode cX8_rowOf 158 = .ok (.goto 56, 3) := by decide +kernel
theorem dX8_rowOf_161 : decode cX8_rowOf 161 = .ok (.iload_n 1, 1) := by decide +kernel
theorem dX8_rowOf_162 : decode cX8_rowOf 162 = .ok (.bipush 15, 2) := by decide +kernel
theorem dX8_rowOf_164 : decode cX8_rowOf 164 = .ok (.if_icmp .ne 18, 3) := by decide +kernel
theorem dX8_rowOf_167 : decode cX8_rowOf 167 = .ok (.aload_n 0, 1) := by decide +kernel
theorem dX8_rowOf_168 : decode cX8_rowOf 168 = .ok (.getfield 49, 3) := by decide +kernel
theorem dX8_rowOf_171 : decode cX8_rowOf 171 = .ok (.iload_n 3, 1) := by decide +kernel
theorem dX8_rowOf_172 : decode cX8_rowOf 172 = .ok (.iload 5, 2) := by decide +kernel
theorem dX8_rowOf_174 : decode cX8_rowOf 174 = .ok (.iadd, 1) := by decide +kernel
theorem dX8_rowOf_175 : decode cX8_rowOf 175 = .ok (.iload 10, 2) := by decide +kernel
theorem dX8_rowOf_177 : decode cX8_rowOf 177 = .ok (.iadd, 1) := by decide +kernel
theorem dX8_rowOf_178 : decode cX8_rowOf 178 = .ok (.iaload, 1) := by decide +kernel
theorem dX8_rowOf_179 : decode cX8_rowOf 179 = .ok (.goto 35, 3) := by decide +kernel
theorem dX8_rowOf_182 : decode cX8_rowOf 182 = .ok (.iload_n 1, 1) := by decide +kernel
theorem dX8_rowOf_183 : decode cX8_rowOf 183 = .ok (.bipush 17, 2) := by decide +kernel
theorem dX8_rowOf_185 : decode cX8_rowOf 185 = .ok (.if_icmp .ne 20, 3) := by decide +kernel
theorem dX8_rowOf_188 : decode cX8_rowOf 188 = .ok (.aload_n 0, 1) := by decide +kernel
theorem dX8_rowOf_189 : decode cX8_rowOf 189 = .ok (.getfield 49, 3) := by decide +kernel
theorem dX8_rowOf_192 : decode cX8_rowOf 192 = .ok (.iload_n 3, 1) := by decide +kernel
theorem dX8_rowOf_193 : decode cX8_rowOf 193 = .ok (.iload 4, 2) := by decide +kernel
theorem dX8_rowOf_195 : decode cX8_rowOf 195 = .ok (.iadd, 1) := by decide +kernel
theorem dX8_rowOf_196 : decode cX8_rowOf 196 = .ok (.iconst 1, 1) := by decide +kernel
theorem dX8_rowOf_197 : decode cX8_rowOf 197 = .ok (.isub, 1) := by decide +kernel
theorem dX8_rowOf_198 : decode cX8_rowOf 198 = .ok (.iload 10, 2) := by decide +kernel
theorem dX8_rowOf_200 : decode cX8_rowOf 200 = .ok (.isub, 1) := by decide +kernel
theorem dX8_rowOf_201 : decode cX8_rowOf 201 = .ok (.iaload, 1) := by decide +kernel
theorem dX8_rowOf_202 : decode cX8_rowOf 202 = .ok (.goto 12, 3) := by decide +kernel
theorem dX8_rowOf_205 : decode cX8_rowOf 205 = .ok (.aload_n 0, 1) := by decide +kernel
theorem dX8_rowOf_206 : decode cX8_rowOf 206 = .ok (.getfield 49, 3) := by decide +kernel
theorem dX8_rowOf_209 : decode cX8_rowOf 209 = .ok (.iload_n 3, 1) := by decide +kernel
theorem dX8_rowOf_210 : decode cX8_rowOf 210 = .ok (.iload 10, 2) := by decide +kernel
theorem dX8_rowOf_212 : decode cX8_rowOf 212 = .ok (.iadd, 1) := by decide +kernel
theorem dX8_rowOf_213 : decode cX8_rowOf 213 = .ok (.iaload, 1) := by decide +kernel
theorem dX8_rowOf_214 : decode cX8_rowOf 214 = .ok (.istore 11, 2) := by decide +kernel
theorem dX8_rowOf_216 : decode cX8_rowOf 216 = .ok (.aload_n 0, 1) := by decide +kernel
theorem dX8_rowOf_217 : decode cX8_rowOf 217 = .ok (.getfield 52, 3) := by decide +kernel
theorem dX8_rowOf_220 : decode cX8_rowOf 220 = .ok (.iload 10, 2) := by decide +kernel
theorem dX8_rowOf_222 : decode cX8_rowOf 222 = .ok (.iload 11, 2) := by decide +kernel
theorem dX8_rowOf_224 : decode cX8_rowOf 224 = .ok (.iastore, 1) := by decide +kernel
theorem dX8_rowOf_225 : decode cX8_rowOf 225 = .ok (.iinc 10 1, 3) := by decide +kernel
theorem dX8_rowOf_228 : decode cX8_rowOf 228 = .ok (.goto (-155), 3) := by decide +kernel
theorem dX8_rowOf_231 : decode cX8_rowOf 231 = .ok (.iconst 1, 1) := by decide +kernel
theorem dX8_rowOf_232 : decode cX8_rowOf 232 = .ok (.istore 10, 2) := by decide +kernel
theorem dX8_rowOf_234 : decode cX8_rowOf 234 = .ok (.iload_n 1, 1) := by decide +kernel
theorem dX8_rowOf_235 : decode cX8_rowOf 235 = .ok (.bipush 16, 2) := by decide +kernel
theorem dX8_rowOf_237 : decode cX8_rowOf 237 = .ok (.if_icmp .ne 79, 3) := by decide +kernel
theorem dX8_rowOf_240 : decode cX8_rowOf 240 = .ok (.iload 10, 2) := by decide +kernel
theorem dX8_rowOf_242 : decode cX8_rowOf 242 = .ok (.iload 7, 2) := by decide +kernel
theorem dX8_rowOf_244 : decode cX8_rowOf 244 = .ok (.if_icmp .ge 72, 3) := by decide +kernel
theorem dX8_rowOf_247 : decode cX8_rowOf 247 = .ok (.aload_n 0, 1) := by decide +kernel
theorem dX8_rowOf_248 : decode cX8_rowOf 248 = .ok (.getfield 52, 3) := by decide +kernel
theorem dX8_rowOf_251 : decode cX8_rowOf 251 = .ok (.iload 10, 2) := by decide +kernel
theorem dX8_rowOf_253 : decode cX8_rowOf 253 = .ok (.iaload, 1) := by decide +kernel
theorem dX8_rowOf_254 : decode cX8_rowOf 254 = .ok (.istore 11, 2) := by decide +kernel
theorem dX8_rowOf_256 : decode cX8_rowOf 256 = .ok (.iload 10, 2) := by decide +kernel
theorem dX8_rowOf_258 : decode cX8_rowOf 258 = .ok (.istore 12, 2) := by decide +kernel
theorem dX8_rowOf_260 : decode cX8_rowOf 260 = .ok (.iload 12, 2) := by decide +kernel
theorem dX8_rowOf_262 : decode cX8_rowOf 262 = .ok (.ifCond .le 39, 3) := by decide +kernel
theorem dX8_rowOf_265 : decode cX8_rowOf 265 = .ok (.aload_n 0, 1) := by decide +kernel
theorem dX8_rowOf_266 : decode cX8_rowOf 266 = .ok (.getfield 52, 3) := by decide +kernel
theorem dX8_rowOf_269 : decode cX8_rowOf 269 = .ok (.iload 12, 2) := by decide +kernel
theorem dX8_rowOf_271 : decode cX8_rowOf 271 = .ok (.iconst 1, 1) := by decide +kernel
theorem dX8_rowOf_272 : decode cX8_rowOf 272 = .ok (.isub, 1) := by decide +kernel
theorem dX8_rowOf_273 : decode cX8_rowOf 273 = .ok (.iaload, 1) := by decide +kernel
theorem dX8_rowOf_274 : decode cX8_rowOf 274 = .ok (.iload 11, 2) := by decide +kernel
theorem dX8_rowOf_276 : decode cX8_rowOf 276 = .ok (.if_icmp .le 25, 3) := by decide +kernel
theorem dX8_rowOf_279 : decode cX8_rowOf 279 = .ok (.aload_n 0, 1) := by decide +kernel
theorem dX8_rowOf_280 : decode cX8_rowOf 280 = .ok (.getfield 52, 3) := by decide +kernel
theorem dX8_rowOf_283 : decode cX8_rowOf 283 = .ok (.iload 12, 2) := by decide +kernel
theorem dX8_rowOf_285 : decode cX8_rowOf 285 = .ok (.aload_n 0, 1) := by decide +kernel
theorem dX8_rowOf_286 : decode cX8_rowOf 286 = .ok (.getfield 52, 3) := by decide +kernel
theorem dX8_rowOf_289 : decode cX8_rowOf 289 = .ok (.iload 12, 2) := by decide +kernel
theorem dX8_rowOf_291 : decode cX8_rowOf 291 = .ok (.iconst 1, 1) := by decide +kernel
theorem dX8_rowOf_292 : decode cX8_rowOf 292 = .ok (.isub, 1) := by decide +kernel
theorem dX8_rowOf_293 : decode cX8_rowOf 293 = .ok (.iaload, 1) := by decide +kernel
theorem dX8_rowOf_294 : decode cX8_rowOf 294 = .ok (.iastore, 1) := by decide +kernel
theorem dX8_rowOf_295 : decode cX8_rowOf 295 = .ok (.iinc 12 (-1), 3) := by decide +kernel
theorem dX8_rowOf_298 : decode cX8_rowOf 298 = .ok (.goto (-38), 3) := by decide +kernel
theorem dX8_rowOf_301 : decode cX8_rowOf 301 = .ok (.aload_n 0, 1) := by decide +kernel
theorem dX8_rowOf_302 : decode cX8_rowOf 302 = .ok (.getfield 52, 3) := by decide +kernel
theorem dX8_rowOf_305 : decode cX8_rowOf 305 = .ok (.iload 12, 2) := by decide +kernel
theorem dX8_rowOf_307 : decode cX8_rowOf 307 = .ok (.iload 11, 2) := by decide +kernel
theorem dX8_rowOf_309 : decode cX8_rowOf 309 = .ok (.iastore, 1) := by decide +kernel
theorem dX8_rowOf_310 : decode cX8_rowOf 310 = .ok (.iinc 10 1, 3) := by decide +kernel
theorem dX8_rowOf_313 : decode cX8_rowOf 313 = .ok (.goto (-79), 3) := by decide +kernel
theorem dX8_rowOf_316 : decode cX8_rowOf 316 = .ok (.iconst 0, 1) := by decide +kernel
theorem dX8_rowOf_317 : decode cX8_rowOf 317 = .ok (.istore 10, 2) := by decide +kernel
theorem dX8_rowOf_319 : decode cX8_rowOf 319 = .ok (.iload 10, 2) := by decide +kernel
theorem dX8_rowOf_321 : decode cX8_rowOf 321 = .ok (.iload 7, 2) := by decide +kernel
theorem dX8_rowOf_323 : decode cX8_rowOf 323 = .ok (.if_icmp .ge 26, 3) := by decide +kernel
theorem dX8_rowOf_326 : decode cX8_rowOf 326 = .ok (.aload_n 0, 1) := by decide +kernel
theorem dX8_rowOf_327 : decode cX8_rowOf 327 = .ok (.getfield 49, 3) := by decide +kernel
theorem dX8_rowOf_330 : decode cX8_rowOf 330 = .ok (.iload 9, 2) := by decide +kernel
theorem dX8_rowOf_332 : decode cX8_rowOf 332 = .ok (.iload 10, 2) := by decide +kernel
theorem dX8_rowOf_334 : decode cX8_rowOf 334 = .ok (.iadd, 1) := by decide +kernel
theorem dX8_rowOf_335 : decode cX8_rowOf 335 = .ok (.aload_n 0, 1) := by decide +kernel
theorem dX8_rowOf_336 : decode cX8_rowOf 336 = .ok (.getfield 52, 3) := by decide +kernel
theorem dX8_rowOf_339 : decode cX8_rowOf 339 = .ok (.iload 10, 2) := by decide +kernel
theorem dX8_rowOf_341 : decode cX8_rowOf 341 = .ok (.iaload, 1) := by decide +kernel
theorem dX8_rowOf_342 : decode cX8_rowOf 342 = .ok (.iastore, 1) := by decide +kernel
theorem dX8_rowOf_343 : decode cX8_rowOf 343 = .ok (.iinc 10 1, 3) := by decide +kernel
theorem dX8_rowOf_346 : decode cX8_rowOf 346 = .ok (.goto (-27), 3) := by decide +kernel
theorem dX8_rowOf_349 : decode cX8_rowOf 349 = .ok (.return_, 1) := by decide +kernel
theorem dX8_property_0 : decode cX8_property 0 = .ok (.iload_n 1, 1) := by decide +kernel
theorem dX8_property_1 : decode cX8_property 1 = .ok (.iconst (-1), 1) := by decide +kernel
theorem dX8_property_2 : decode cX8_property 2 = .ok (.iconst 1, 1) := by decide +kernel
theorem dX8_property_3 : decode cX8_property 3 = .ok (.invokestatic 95, 3) := by decide +kernel
theorem dX8_property_6 : decode cX8_property 6 = .ok (.ifCond .eq 71, 3) := by decide +kernel
theorem dX8_property_9 : decode cX8_property 9 = .ok (.iload_n 2, 1) := by decide +kernel
theorem dX8_property_10 : decode cX8_property 10 = .ok (.iconst (-1), 1) := by decide +kernel
theorem dX8_property_11 : decode cX8_property 11 = .ok (.iconst 1, 1) := by decide +kernel
theorem dX8_property_12 : decode cX8_property 12 = .ok (.invokestatic 95, 3) := by decide +kernel
theorem dX8_property_15 : decode cX8_property 15 = .ok (.ifCond .eq 62, 3) := by decide +kernel
theorem dX8_property_18 : decode cX8_property 18 = .ok (.iload_n 3, 1) := by decide +kernel
theorem dX8_property_19 : decode cX8_property 19 = .ok (.iconst (-1), 1) := by decide +kernel
theorem dX8_property_20 : decode cX8_property 20 = .ok (.iconst 1, 1) := by decide +kernel
theorem dX8_property_21 : decode cX8_property 21 = .ok (.invokestatic 95, 3) := by decide +kernel
theorem dX8_property_24 : decode cX8_property 24 = .ok (.ifCond .eq 53, 3) := by decide +kernel
theorem dX8_property_27 : decode cX8_property 27 = .ok (.iload 4, 2) := by decide +kernel
theorem dX8_property_29 : decode cX8_property 29 = .ok (.iconst (-1), 1) := by decide +kernel
theorem dX8_property_30 : decode cX8_property 30 = .ok (.if_icmp .eq 12, 3) := by decide +kernel
theorem dX8_property_33 : decode cX8_property 33 = .ok (.aload_n 0, 1) := by decide +kernel
theorem dX8_property_34 : decode cX8_property 34 = .ok (.iload 4, 2) := by decide +kernel
theorem dX8_property_36 : decode cX8_property 36 = .ok (.invokevirtual 103, 3) := by decide +kernel
theorem dX8_property_39 : decode cX8_property 39 = .ok (.ifCond .eq 38, 3) := by decide +kernel
theorem dX8_property_42 : decode cX8_property 42 = .ok (.aload_n 0, 1) := by decide +kernel
theorem dX8_property_43 : decode cX8_property 43 = .ok (.iload 5, 2) := by decide +kernel
theorem dX8_property_45 : decode cX8_property 45 = .ok (.invokevirtual 103, 3) := by decide +kernel
theorem dX8_property_48 : decode cX8_property 48 = .ok (.ifCond .eq 29, 3) := by decide +kernel
theorem dX8_property_51 : decode cX8_property 51 = .ok (.iload 6, 2) := by decide +kernel
theorem dX8_property_53 : decode cX8_property 53 = .ok (.iconst (-1), 1) := by decide +kernel
theorem dX8_property_54 : decode cX8_property 54 = .ok (.if_icmp .eq 12, 3) := by decide +kernel
theorem dX8_property_57 : decode cX8_property 57 = .ok (.aload_n 0, 1) := by decide +kernel
theorem dX8_property_58 : decode cX8_property 58 = .ok (.iload 6, 2) := by decide +kernel
theorem dX8_property_60 : decode cX8_property 60 = .ok (.invokevirtual 103, 3) := by decide +kernel
theorem dX8_property_63 : decode cX8_property 63 = .ok (.ifCond .eq 14, 3) := by decide +kernel
theorem dX8_property_66 : decode cX8_property 66 = .ok (.iload 7, 2) := by decide +kernel
theorem dX8_property_68 : decode cX8_property 68 = .ok (.iconst 0, 1) := by decide +kernel
theorem dX8_property_69 : decode cX8_property 69 = .ok (.bipush 7, 2) := by decide +kernel
theorem dX8_property_71 : decode cX8_property 71 = .ok (.invokestatic 95, 3) := by decide +kernel
theorem dX8_property_74 : decode cX8_property 74 = .ok (.ifCond .ne 5, 3) := by decide +kernel
theorem dX8_property_77 : decode cX8_property 77 = .ok (.iconst (-1), 1) := by decide +kernel
theorem dX8_property_78 : decode cX8_property 78 = .ok (.ireturn, 1) := by decide +kernel
theorem dX8_property_79 : decode cX8_property 79 = .ok (.aload_n 0, 1) := by decide +kernel
theorem dX8_property_80 : decode cX8_property 80 = .ok (.getfield 175, 3) := by decide +kernel
theorem dX8_property_83 : decode cX8_property 83 = .ok (.bipush 8, 2) := by decide +kernel
theorem dX8_property_85 : decode cX8_property 85 = .ok (.if_icmp .ne 6, 3) := by decide +kernel
theorem dX8_property_88 : decode cX8_property 88 = .ok (.bipush (-2), 2) := by decide +kernel
theorem dX8_property_90 : decode cX8_property 90 = .ok (.ireturn, 1) := by decide +kernel
theorem dX8_property_91 : decode cX8_property 91 = .ok (.aload_n 0, 1) := by decide +kernel
theorem dX8_property_92 : decode cX8_property 92 = .ok (.getfield 55, 3) := by decide +kernel
theorem dX8_property_95 : decode cX8_property 95 = .ok (.iconst 3, 1) := by decide +kernel
theorem dX8_property_96 : decode cX8_property 96 = .ok (.aload_n 0, 1) := by decide +kernel
theorem dX8_property_97 : decode cX8_property 97 = .ok (.getfield 175, 3) := by decide +kernel
theorem dX8_property_100 : decode cX8_property 100 = .ok (.imul, 1) := by decide +kernel
theorem dX8_property_101 : decode cX8_property 101 = .ok (.iload_n 1, 1) := by decide +kernel
theorem dX8_property_102 : decode cX8_property 102 = .ok (.iastore, 1) := by decide +kernel
theorem dX8_property_103 : decode cX8_property 103 = .ok (.aload_n 0, 1) := by decide +kernel
theorem dX8_property_104 : decode cX8_property 104 = .ok (.getfield 55, 3) := by decide +kernel
theorem dX8_property_107 : decode cX8_property 107 = .ok (.iconst 3, 1) := by decide +kernel
theorem dX8_property_108 : decode cX8_property 108 = .ok (.aload_n 0, 1) := by decide +kernel
theorem dX8_property_109 : decode cX8_property 109 = .ok (.getfield 175, 3) := by decide +kernel
theorem dX8_property_112 : decode cX8_property 112 = .ok (.imul, 1) := by decide +kernel
theorem dX8_property_113 : decode cX8_property 113 = .ok (.iconst 1, 1) := by decide +kernel
theorem dX8_property_114 : decode cX8_property 114 = .ok (.iadd, 1) := by decide +kernel
theorem dX8_property_115 : decode cX8_property 115 = .ok (.iload_n 2, 1) := by decide +kernel
theorem dX8_property_116 : decode cX8_property 116 = .ok (.iastore, 1) := by decide +kernel
theorem dX8_property_117 : decode cX8_property 117 = .ok (.aload_n 0, 1) := by decide +kernel
theorem dX8_property_118 : decode cX8_property 118 = .ok (.getfield 55, 3) := by decide +kernel
theorem dX8_property_121 : decode cX8_property 121 = .ok (.iconst 3, 1) := by decide +kernel
theorem dX8_property_122 : decode cX8_property 122 = .ok (.aload_n 0, 1) := by decide +kernel
theorem dX8_property_123 : decode cX8_property 123 = .ok (.getfield 175, 3) := by decide +kernel
theorem dX8_property_126 : decode cX8_property 126 = .ok (.imul, 1) := by decide +kernel
theorem dX8_property_127 : decode cX8_property 127 = .ok (.iconst 2, 1) := by decide +kernel
theorem dX8_property_128 : decode cX8_property 128 = .ok (.iadd, 1) := by decide +kernel
theorem dX8_property_129 : decode cX8_property 129 = .ok (.iload_n 3, 1) := by decide +kernel
theorem dX8_property_130 : decode cX8_property 130 = .ok (.iastore, 1) := by decide +kernel
theorem dX8_property_131 : decode cX8_property 131 = .ok (.aload_n 0, 1) := by decide +kernel
theorem dX8_property_132 : decode cX8_property 132 = .ok (.getfield 58, 3) := by decide +kernel
theorem dX8_property_135 : decode cX8_property 135 = .ok (.aload_n 0, 1) := by decide +kernel
theorem dX8_property_136 : decode cX8_property 136 = .ok (.getfield 175, 3) := by decide +kernel
theorem dX8_property_139 : decode cX8_property 139 = .ok (.iload 4, 2) := by decide +kernel
theorem dX8_property_141 : decode cX8_property 141 = .ok (.iastore, 1) := by decide +kernel
theorem dX8_property_142 : decode cX8_property 142 = .ok (.aload_n 0, 1) := by decide +kernel
theorem dX8_property_143 : decode cX8_property 143 = .ok (.getfield 61, 3) := by decide +kernel
theorem dX8_property_146 : decode cX8_property 146 = .ok (.aload_n 0, 1) := by decide +kernel
theorem dX8_property_147 : decode cX8_property 147 = .ok (.getfield 175, 3) := by decide +kernel
theorem dX8_property_150 : decode cX8_property 150 = .ok (.iload 5, 2) := by decide +kernel
theorem dX8_property_152 : decode cX8_property 152 = .ok (.iastore, 1) := by decide +kernel
theorem dX8_property_153 : decode cX8_property 153 = .ok (.aload_n 0, 1) := by decide +kernel
theorem dX8_property_154 : decode cX8_property 154 = .ok (.getfield 64, 3) := by decide +kernel
theorem dX8_property_157 : decode cX8_property 157 = .ok (.aload_n 0, 1) := by decide +kernel
theorem dX8_property_158 : decode cX8_property 158 = .ok (.getfield 175, 3) := by decide +kernel
theorem dX8_property_161 : decode cX8_property 161 = .ok (.iload 6, 2) := by decide +kernel
theorem dX8_property_163 : decode cX8_property 163 = .ok (.iastore, 1) := by decide +kernel
theorem dX8_property_164 : decode cX8_property 164 = .ok (.aload_n 0, 1) := by decide +kernel
theorem dX8_property_165 : decode cX8_property 165 = .ok (.getfield 67, 3) := by decide +kernel
theorem dX8_property_168 : decode cX8_property 168 = .ok (.aload_n 0, 1) := by decide +kernel
theorem dX8_property_169 : decode cX8_property 169 = .ok (.getfield 175, 3) := by decide +kernel
theorem dX8_property_172 : decode cX8_property 172 = .ok (.iload 7, 2) := by decide +kernel
theorem dX8_property_174 : decode cX8_property 174 = .ok (.iastore, 1) := by decide +kernel
theorem dX8_property_175 : decode cX8_property 175 = .ok (.aload_n 0, 1) := by decide +kernel
theorem dX8_property_176 : decode cX8_property 176 = .ok (.dup, 1) := by decide +kernel
theorem dX8_property_177 : decode cX8_property 177 = .ok (.getfield 175, 3) := by decide +kernel
theorem dX8_property_180 : decode cX8_property 180 = .ok (.dup_x1, 1) := by decide +kernel
theorem dX8_property_181 : decode cX8_property 181 = .ok (.iconst 1, 1) := by decide +kernel
theorem dX8_property_182 : decode cX8_property 182 = .ok (.iadd, 1) := by decide +kernel
theorem dX8_property_183 : decode cX8_property 183 = .ok (.putfield 175, 3) := by decide +kernel
theorem dX8_property_186 : decode cX8_property 186 = .ok (.ireturn, 1) := by decide +kernel
theorem dX8_outcome_0 : decode cX8_outcome 0 = .ok (.aload_n 0, 1) := by decide +kernel
theorem dX8_outcome_1 : decode cX8_outcome 1 = .ok (.dup, 1) := by decide +kernel
theorem dX8_outcome_2 : decode cX8_outcome 2 = .ok (.getfield 178, 3) := by decide +kernel
theorem dX8_outcome_5 : decode cX8_outcome 5 = .ok (.iconst 1, 1) := by decide +kernel
theorem dX8_outcome_6 : decode cX8_outcome 6 = .ok (.iadd, 1) := by decide +kernel
theorem dX8_outcome_7 : decode cX8_outcome 7 = .ok (.putfield 178, 3) := by decide +kernel
theorem dX8_outcome_10 : decode cX8_outcome 10 = .ok (.aload_n 0, 1) := by decide +kernel
theorem dX8_outcome_11 : decode cX8_outcome 11 = .ok (.iconst 0, 1) := by decide +kernel
theorem dX8_outcome_12 : decode cX8_outcome 12 = .ok (.putfield 107, 3) := by decide +kernel
theorem dX8_outcome_15 : decode cX8_outcome 15 = .ok (.aload_n 0, 1) := by decide +kernel
theorem dX8_outcome_16 : decode cX8_outcome 16 = .ok (.iconst 0, 1) := by decide +kernel
theorem dX8_outcome_17 : decode cX8_outcome 17 = .ok (.putfield 144, 3) := by decide +kernel
theorem dX8_outcome_20 : decode cX8_outcome 20 = .ok (.iconst 0, 1) := by decide +kernel
theorem dX8_outcome_21 : decode cX8_outcome 21 = .ok (.istore_n 3, 1) := by decide +kernel
theorem dX8_outcome_22 : decode cX8_outcome 22 = .ok (.iload_n 3, 1) := by decide +kernel
theorem dX8_outcome_23 : decode cX8_outcome 23 = .ok (.bipush 48, 2) := by decide +kernel
theorem dX8_outcome_25 : decode cX8_outcome 25 = .ok (.if_icmp .ge 21, 3) := by decide +kernel
theorem dX8_outcome_28 : decode cX8_outcome 28 = .ok (.aload_n 0, 1) := by decide +kernel
theorem dX8_outcome_29 : decode cX8_outcome 29 = .ok (.getfield 49, 3) := by decide +kernel
theorem dX8_outcome_32 : decode cX8_outcome 32 = .ok (.iload_n 3, 1) := by decide +kernel
theorem dX8_outcome_33 : decode cX8_outcome 33 = .ok (.aload_n 0, 1) := by decide +kernel
theorem dX8_outcome_34 : decode cX8_outcome 34 = .ok (.getfield 31, 3) := by decide +kernel
theorem dX8_outcome_37 : decode cX8_outcome 37 = .ok (.iload_n 3, 1) := by decide +kernel
theorem dX8_outcome_38 : decode cX8_outcome 38 = .ok (.iaload, 1) := by decide +kernel
theorem dX8_outcome_39 : decode cX8_outcome 39 = .ok (.iastore, 1) := by decide +kernel
theorem dX8_outcome_40 : decode cX8_outcome 40 = .ok (.iinc 3 1, 3) := by decide +kernel
theorem dX8_outcome_43 : decode cX8_outcome 43 = .ok (.goto (-21), 3) := by decide +kernel
theorem dX8_outcome_46 : decode cX8_outcome 46 = .ok (.iconst 0, 1) := by decide +kernel
theorem dX8_outcome_47 : decode cX8_outcome 47 = .ok (.istore_n 3, 1) := by decide +kernel
theorem dX8_outcome_48 : decode cX8_outcome 48 = .ok (.iload_n 3, 1) := by decide +kernel
theorem dX8_outcome_49 : decode cX8_outcome 49 = .ok (.iconst 3, 1) := by decide +kernel
theorem dX8_outcome_50 : decode cX8_outcome 50 = .ok (.if_icmp .ge 25, 3) := by decide +kernel
theorem dX8_outcome_53 : decode cX8_outcome 53 = .ok (.aload_n 0, 1) := by decide +kernel
theorem dX8_outcome_54 : decode cX8_outcome 54 = .ok (.getfield 25, 3) := by decide +kernel
theorem dX8_outcome_57 : decode cX8_outcome 57 = .ok (.iload_n 3, 1) := by decide +kernel
theorem dX8_outcome_58 : decode cX8_outcome 58 = .ok (.aload_n 0, 1) := by decide +kernel
theorem dX8_outcome_59 : decode cX8_outcome 59 = .ok (.getfield 55, 3) := by decide +kernel
theorem dX8_outcome_62 : decode cX8_outcome 62 = .ok (.iconst 3, 1) := by decide +kernel
theorem dX8_outcome_63 : decode cX8_outcome 63 = .ok (.iload_n 1, 1) := by decide +kernel
theorem dX8_outcome_64 : decode cX8_outcome 64 = .ok (.imul, 1) := by decide +kernel
theorem dX8_outcome_65 : decode cX8_outcome 65 = .ok (.iload_n 3, 1) := by decide +kernel
theorem dX8_outcome_66 : decode cX8_outcome 66 = .ok (.iadd, 1) := by decide +kernel
theorem dX8_outcome_67 : decode cX8_outcome 67 = .ok (.iaload, 1) := by decide +kernel
theorem dX8_outcome_68 : decode cX8_outcome 68 = .ok (.iastore, 1) := by decide +kernel
theorem dX8_outcome_69 : decode cX8_outcome 69 = .ok (.iinc 3 1, 3) := by decide +kernel
theorem dX8_outcome_72 : decode cX8_outcome 72 = .ok (.goto (-24), 3) := by decide +kernel
theorem dX8_outcome_75 : decode cX8_outcome 75 = .ok (.aload_n 0, 1) := by decide +kernel
theorem dX8_outcome_76 : decode cX8_outcome 76 = .ok (.getfield 58, 3) := by decide +kernel
theorem dX8_outcome_79 : decode cX8_outcome 79 = .ok (.iload_n 1, 1) := by decide +kernel
theorem dX8_outcome_80 : decode cX8_outcome 80 = .ok (.iaload, 1) := by decide +kernel
theorem dX8_outcome_81 : decode cX8_outcome 81 = .ok (.ifCond .lt 51, 3) := by decide +kernel
theorem dX8_outcome_84 : decode cX8_outcome 84 = .ok (.aload_n 0, 1) := by decide +kernel
theorem dX8_outcome_85 : decode cX8_outcome 85 = .ok (.aload_n 0, 1) := by decide +kernel
theorem dX8_outcome_86 : decode cX8_outcome 86 = .ok (.getfield 58, 3) := by decide +kernel
theorem dX8_outcome_89 : decode cX8_outcome 89 = .ok (.iload_n 1, 1) := by decide +kernel
theorem dX8_outcome_90 : decode cX8_outcome 90 = .ok (.iaload, 1) := by decide +kernel
theorem dX8_outcome_91 : decode cX8_outcome 91 = .ok (.invokevirtual 181, 3) := by decide +kernel
theorem dX8_outcome_94 : decode cX8_outcome 94 = .ok (.ifCond .ne 8, 3) := by decide +kernel
theorem dX8_outcome_97 : decode cX8_outcome 97 = .ok (.aload_n 0, 1) := by decide +kernel
theorem dX8_outcome_98 : decode cX8_outcome 98 = .ok (.getfield 110, 3) := by decide +kernel
theorem dX8_outcome_101 : decode cX8_outcome 101 = .ok (.ireturn, 1) := by decide +kernel
theorem dX8_outcome_102 : decode cX8_outcome 102 = .ok (.aload_n 0, 1) := by decide +kernel
theorem dX8_outcome_103 : decode cX8_outcome 103 = .ok (.getfield 128, 3) := by decide +kernel
theorem dX8_outcome_106 : decode cX8_outcome 106 = .ok (.ifCond .eq 17, 3) := by decide +kernel
theorem dX8_outcome_109 : decode cX8_outcome 109 = .ok (.aload_n 0, 1) := by decide +kernel
theorem dX8_outcome_110 : decode cX8_outcome 110 = .ok (.getfield 128, 3) := by decide +kernel
theorem dX8_outcome_113 : decode cX8_outcome 113 = .ok (.iconst 1, 1) := by decide +kernel
theorem dX8_outcome_114 : decode cX8_outcome 114 = .ok (.if_icmp .ne 7, 3) := by decide +kernel
theorem dX8_outcome_117 : decode cX8_outcome 117 = .ok (.iconst 4, 1) := by decide +kernel
theorem dX8_outcome_118 : decode cX8_outcome 118 = .ok (.goto 4, 3) := by decide +kernel
theorem dX8_outcome_121 : decode cX8_outcome 121 = .ok (.iconst 1, 1) := by decide +kernel
theorem dX8_outcome_122 : decode cX8_outcome 122 = .ok (.ireturn, 1) := by decide +kernel
theorem dX8_outcome_123 : decode cX8_outcome 123 = .ok (.aload_n 0, 1) := by decide +kernel
theorem dX8_outcome_124 : decode cX8_outcome 124 = .ok (.getfield 131, 3) := by decide +kernel
theorem dX8_outcome_127 : decode cX8_outcome 127 = .ok (.ifCond .ne 5, 3) := by decide +kernel
theorem dX8_outcome_130 : decode cX8_outcome 130 = .ok (.iconst (-1), 1) := by decide +kernel
theorem dX8_outcome_131 : decode cX8_outcome 131 = .ok (.ireturn, 1) := by decide +kernel
theorem dX8_outcome_132 : decode cX8_outcome 132 = .ok (.aload_n 0, 1) := by decide +kernel
theorem dX8_outcome_133 : decode cX8_outcome 133 = .ok (.iload_n 1, 1) := by decide +kernel
theorem dX8_outcome_134 : decode cX8_outcome 134 = .ok (.invokevirtual 184, 3) := by decide +kernel
theorem dX8_outcome_137 : decode cX8_outcome 137 = .ok (.istore_n 3, 1) := by decide +kernel
theorem dX8_outcome_138 : decode cX8_outcome 138 = .ok (.iload_n 3, 1) := by decide +kernel
theorem dX8_outcome_139 : decode cX8_outcome 139 = .ok (.ifCond .ne 79, 3) := by decide +kernel
theorem dX8_outcome_142 : decode cX8_outcome 142 = .ok (.aload_n 0, 1) := by decide +kernel
theorem dX8_outcome_143 : decode cX8_outcome 143 = .ok (.getfield 64, 3) := by decide +kernel
theorem dX8_outcome_146 : decode cX8_outcome 146 = .ok (.iload_n 1, 1) := by decide +kernel
theorem dX8_outcome_147 : decode cX8_outcome 147 = .ok (.iaload, 1) := by decide +kernel
theorem dX8_outcome_148 : decode cX8_outcome 148 = .ok (.ifCond .lt 70, 3) := by decide +kernel
theorem dX8_outcome_151 : decode cX8_outcome 151 = .ok (.aload_n 0, 1) := by decide +kernel
theorem dX8_outcome_152 : decode cX8_outcome 152 = .ok (.aload_n 0, 1) := by decide +kernel
theorem dX8_outcome_153 : decode cX8_outcome 153 = .ok (.getfield 64, 3) := by decide +kernel
theorem dX8_outcome_156 : decode cX8_outcome 156 = .ok (.iload_n 1, 1) := by decide +kernel
theorem dX8_outcome_157 : decode cX8_outcome 157 = .ok (.iaload, 1) := by decide +kernel
theorem dX8_outcome_158 : decode cX8_outcome 158 = .ok (.invokevirtual 181, 3) := by decide +kernel
theorem dX8_outcome_161 : decode cX8_outcome 161 = .ok (.ifCond .eq 27, 3) := by decide +kernel
theorem dX8_outcome_164 : decode cX8_outcome 164 = .ok (.aload_n 0, 1) := by decide +kernel
theorem dX8_outcome_165 : decode cX8_outcome 165 = .ok (.getfield 128, 3) := by decide +kernel
theorem dX8_outcome_168 : decode cX8_outcome 168 = .ok (.ifCond .ne 20, 3) := by decide +kernel
theorem dX8_outcome_171 : decode cX8_outcome 171 = .ok (.aload_n 0, 1) := by decide +kernel
theorem dX8_outcome_172 : decode cX8_outcome 172 = .ok (.getfield 131, 3) := by decide +kernel
theorem dX8_outcome_175 : decode cX8_outcome 175 = .ok (.iconst 0, 1) := by decide +kernel
theorem dX8_outcome_176 : decode cX8_outcome 176 = .ok (.bipush 7, 2) := by decide +kernel
theorem dX8_outcome_178 : decode cX8_outcome 178 = .ok (.invokestatic 95, 3) := by decide +kernel
theorem dX8_outcome_181 : decode cX8_outcome 181 = .ok (.ifCond .eq 7, 3) := by decide +kernel
theorem dX8_outcome_184 : decode cX8_outcome 184 = .ok (.iconst 1, 1) := by decide +kernel
theorem dX8_outcome_185 : decode cX8_outcome 185 = .ok (.goto 4, 3) := by decide +kernel
theorem dX8_outcome_188 : decode cX8_outcome 188 = .ok (.iconst 0, 1) := by decide +kernel
theorem dX8_outcome_189 : decode cX8_outcome 189 = .ok (.istore 4, 2) := by decide +kernel
theorem dX8_outcome_191 : decode cX8_outcome 191 = .ok (.iload_n 2, 1) := by decide +kernel
theorem dX8_outcome_192 : decode cX8_outcome 192 = .ok (.ifCond .eq 26, 3) := by decide +kernel
theorem dX8_outcome_195 : decode cX8_outcome 195 = .ok (.aload_n 0, 1) := by decide +kernel
theorem dX8_outcome_196 : decode cX8_outcome 196 = .ok (.getfield 70, 3) := by decide +kernel
theorem dX8_outcome_199 : decode cX8_outcome 199 = .ok (.iload 4, 2) := by decide +kernel
theorem dX8_outcome_201 : decode cX8_outcome 201 = .ok (.ifCond .eq 10, 3) := by decide +kernel
theorem dX8_outcome_204 : decode cX8_outcome 204 = .ok (.aload_n 0, 1) := by decide +kernel
theorem dX8_outcome_205 : decode cX8_outcome 205 = .ok (.getfield 131, 3) := by decide +kernel
theorem dX8_outcome_208 : decode cX8_outcome 208 = .ok (.goto 5, 3) := by decide +kernel
theorem dX8_outcome_211 : decode cX8_outcome 211 = .ok (.bipush 8, 2) := by decide +kernel
theorem dX8_outcome_213 : decode cX8_outcome 213 = .ok (.dup2, 1) := by decide +kernel
theorem dX8_outcome_214 : decode cX8_outcome 214 = .ok (.iaload, 1) := by decide +kernel
theorem dX8_outcome_215 : decode cX8_outcome 215 = .ok (.iconst 1, 1) := by decide +kernel
theorem dX8_outcome_216 : decode cX8_outcome 216 = .ok (.iadd, 1) := by decide +kernel
theorem dX8_outcome_217 : decode cX8_outcome 217 = .ok (.iastore, 1) := by decide +kernel
theorem dX8_outcome_218 : decode cX8_outcome 218 = .ok (.iload_n 3, 1) := by decide +kernel
theorem dX8_outcome_219 : decode cX8_outcome 219 = .ok (.ireturn, 1) := by decide +kernel
theorem dX8_ended_0 : decode cX8_ended 0 = .ok (.aload_n 0, 1) := by decide +kernel
theorem dX8_ended_1 : decode cX8_ended 1 = .ok (.aload_n 0, 1) := by decide +kernel
theorem dX8_ended_2 : decode cX8_ended 2 = .ok (.getfield 61, 3) := by decide +kernel
theorem dX8_ended_5 : decode cX8_ended 5 = .ok (.iload_n 1, 1) := by decide +kernel
theorem dX8_ended_6 : decode cX8_ended 6 = .ok (.iaload, 1) := by decide +kernel
theorem dX8_ended_7 : decode cX8_ended 7 = .ok (.invokevirtual 181, 3) := by decide +kernel
theorem dX8_ended_10 : decode cX8_ended 10 = .ok (.ifCond .eq 31, 3) := by decide +kernel
theorem dX8_ended_13 : decode cX8_ended 13 = .ok (.aload_n 0, 1) := by decide +kernel
theorem dX8_ended_14 : decode cX8_ended 14 = .ok (.getfield 128, 3) := by decide +kernel
theorem dX8_ended_17 : decode cX8_ended 17 = .ok (.iconst 1, 1) := by decide +kernel
theorem dX8_ended_18 : decode cX8_ended 18 = .ok (.if_icmp .ne 7, 3) := by decide +kernel
theorem dX8_ended_21 : decode cX8_ended 21 = .ok (.iconst 4, 1) := by decide +kernel
theorem dX8_ended_22 : decode cX8_ended 22 = .ok (.goto 23, 3) := by decide +kernel
theorem dX8_ended_25 : decode cX8_ended 25 = .ok (.aload_n 0, 1) := by decide +kernel
theorem dX8_ended_26 : decode cX8_ended 26 = .ok (.getfield 128, 3) := by decide +kernel
theorem dX8_ended_29 : decode cX8_ended 29 = .ok (.iconst 2, 1) := by decide +kernel
theorem dX8_ended_30 : decode cX8_ended 30 = .ok (.if_icmp .ne 7, 3) := by decide +kernel
theorem dX8_ended_33 : decode cX8_ended 33 = .ok (.iconst 1, 1) := by decide +kernel
theorem dX8_ended_34 : decode cX8_ended 34 = .ok (.goto 11, 3) := by decide +kernel
theorem dX8_ended_37 : decode cX8_ended 37 = .ok (.iconst 0, 1) := by decide +kernel
theorem dX8_ended_38 : decode cX8_ended 38 = .ok (.goto 7, 3) := by decide +kernel
theorem dX8_ended_41 : decode cX8_ended 41 = .ok (.aload_n 0, 1) := by decide +kernel
theorem dX8_ended_42 : decode cX8_ended 42 = .ok (.getfield 110, 3) := by decide +kernel
theorem dX8_ended_45 : decode cX8_ended 45 = .ok (.istore_n 2, 1) := by decide +kernel
theorem dX8_ended_46 : decode cX8_ended 46 = .ok (.iload_n 2, 1) := by decide +kernel
theorem dX8_ended_47 : decode cX8_ended 47 = .ok (.ifCond .eq 19, 3) := by decide +kernel
theorem dX8_ended_50 : decode cX8_ended 50 = .ok (.iload_n 2, 1) := by decide +kernel
theorem dX8_ended_51 : decode cX8_ended 51 = .ok (.aload_n 0, 1) := by decide +kernel
theorem dX8_ended_52 : decode cX8_ended 52 = .ok (.getfield 67, 3) := by decide +kernel
theorem dX8_ended_55 : decode cX8_ended 55 = .ok (.iload_n 1, 1) := by decide +kernel
theorem dX8_ended_56 : decode cX8_ended 56 = .ok (.iaload, 1) := by decide +kernel
theorem dX8_ended_57 : decode cX8_ended 57 = .ok (.if_icmp .ne 7, 3) := by decide +kernel
theorem dX8_ended_60 : decode cX8_ended 60 = .ok (.iconst 0, 1) := by decide +kernel
theorem dX8_ended_61 : decode cX8_ended 61 = .ok (.goto 4, 3) := by decide +kernel
theorem dX8_ended_64 : decode cX8_ended 64 = .ok (.iload_n 2, 1) := by decide +kernel
theorem dX8_ended_65 : decode cX8_ended 65 = .ok (.ireturn, 1) := by decide +kernel
theorem dX8_ended_66 : decode cX8_ended 66 = .ok (.aload_n 0, 1) := by decide +kernel
theorem dX8_ended_67 : decode cX8_ended 67 = .ok (.getfield 67, 3) := by decide +kernel
theorem dX8_ended_70 : decode cX8_ended 70 = .ok (.iload_n 1, 1) := by decide +kernel
theorem dX8_ended_71 : decode cX8_ended 71 = .ok (.iaload, 1) := by decide +kernel
theorem dX8_ended_72 : decode cX8_ended 72 = .ok (.ifCond .eq 8, 3) := by decide +kernel
theorem dX8_ended_75 : decode cX8_ended 75 = .ok (.bipush 8, 2) := by decide +kernel
theorem dX8_ended_77 : decode cX8_ended 77 = .ok (.goto 16, 3) := by decide +kernel
theorem dX8_ended_80 : decode cX8_ended 80 = .ok (.aload_n 0, 1) := by decide +kernel
theorem dX8_ended_81 : decode cX8_ended 81 = .ok (.getfield 131, 3) := by decide +kernel
theorem dX8_ended_84 : decode cX8_ended 84 = .ok (.ifCond .eq 7, 3) := by decide +kernel
theorem dX8_ended_87 : decode cX8_ended 87 = .ok (.iconst 0, 1) := by decide +kernel
theorem dX8_ended_88 : decode cX8_ended 88 = .ok (.goto 5, 3) := by decide +kernel
theorem dX8_ended_91 : decode cX8_ended 91 = .ok (.bipush 9, 2) := by decide +kernel
theorem dX8_ended_93 : decode cX8_ended 93 = .ok (.ireturn, 1) := by decide +kernel
theorem dX8_hash_0 : decode cX8_hash 0 = .ok (.iload_n 0, 1) := by decide +kernel
theorem dX8_hash_1 : decode cX8_hash 1 = .ok (.iload_n 1, 1) := by decide +kernel
theorem dX8_hash_2 : decode cX8_hash 2 = .ok (.ldc 187, 2) := by decide +kernel
theorem dX8_hash_4 : decode cX8_hash 4 = .ok (.imul, 1) := by decide +kernel
theorem dX8_hash_5 : decode cX8_hash 5 = .ok (.iadd, 1) := by decide +kernel
theorem dX8_hash_6 : decode cX8_hash 6 = .ok (.istore_n 2, 1) := by decide +kernel
theorem dX8_hash_7 : decode cX8_hash 7 = .ok (.iload_n 2, 1) := by decide +kernel
theorem dX8_hash_8 : decode cX8_hash 8 = .ok (.iload_n 2, 1) := by decide +kernel
theorem dX8_hash_9 : decode cX8_hash 9 = .ok (.bipush 16, 2) := by decide +kernel
theorem dX8_hash_11 : decode cX8_hash 11 = .ok (.iushr, 1) := by decide +kernel
theorem dX8_hash_12 : decode cX8_hash 12 = .ok (.ixor, 1) := by decide +kernel
theorem dX8_hash_13 : decode cX8_hash 13 = .ok (.ldc 188, 2) := by decide +kernel
theorem dX8_hash_15 : decode cX8_hash 15 = .ok (.imul, 1) := by decide +kernel
theorem dX8_hash_16 : decode cX8_hash 16 = .ok (.istore_n 2, 1) := by decide +kernel
theorem dX8_hash_17 : decode cX8_hash 17 = .ok (.iload_n 2, 1) := by decide +kernel
theorem dX8_hash_18 : decode cX8_hash 18 = .ok (.iload_n 2, 1) := by decide +kernel
theorem dX8_hash_19 : decode cX8_hash 19 = .ok (.bipush 13, 2) := by decide +kernel
theorem dX8_hash_21 : decode cX8_hash 21 = .ok (.iushr, 1) := by decide +kernel
theorem dX8_hash_22 : decode cX8_hash 22 = .ok (.ixor, 1) := by decide +kernel
theorem dX8_hash_23 : decode cX8_hash 23 = .ok (.ldc 189, 2) := by decide +kernel
theorem dX8_hash_25 : decode cX8_hash 25 = .ok (.imul, 1) := by decide +kernel
theorem dX8_hash_26 : decode cX8_hash 26 = .ok (.istore_n 2, 1) := by decide +kernel
theorem dX8_hash_27 : decode cX8_hash 27 = .ok (.iload_n 2, 1) := by decide +kernel
theorem dX8_hash_28 : decode cX8_hash 28 = .ok (.iload_n 2, 1) := by decide +kernel
theorem dX8_hash_29 : decode cX8_hash 29 = .ok (.bipush 16, 2) := by decide +kernel
theorem dX8_hash_31 : decode cX8_hash 31 = .ok (.iushr, 1) := by decide +kernel
theorem dX8_hash_32 : decode cX8_hash 32 = .ok (.ixor, 1) := by decide +kernel
theorem dX8_hash_33 : decode cX8_hash 33 = .ok (.ireturn, 1) := by decide +kernel
theorem dX8_modulo_0 : decode cX8_modulo 0 = .ok (.iload_n 0, 1) := by decide +kernel
theorem dX8_modulo_1 : decode cX8_modulo 1 = .ok (.iload_n 1, 1) := by decide +kernel
theorem dX8_modulo_2 : decode cX8_modulo 2 = .ok (.irem, 1) := by decide +kernel
theorem dX8_modulo_3 : decode cX8_modulo 3 = .ok (.istore_n 2, 1) := by decide +kernel
theorem dX8_modulo_4 : decode cX8_modulo 4 = .ok (.iload_n 2, 1) := by decide +kernel
theorem dX8_modulo_5 : decode cX8_modulo 5 = .ok (.ifCond .ge 9, 3) := by decide +kernel
theorem dX8_modulo_8 : decode cX8_modulo 8 = .ok (.iload_n 2, 1) := by decide +kernel
theorem dX8_modulo_9 : decode cX8_modulo 9 = .ok (.iload_n 1, 1) := by decide +kernel
theorem dX8_modulo_10 : decode cX8_modulo 10 = .ok (.iadd, 1) := by decide +kernel
theorem dX8_modulo_11 : decode cX8_modulo 11 = .ok (.goto 4, 3) := by decide +kernel
theorem dX8_modulo_14 : decode cX8_modulo 14 = .ok (.iload_n 2, 1) := by decide +kernel
theorem dX8_modulo_15 : decode cX8_modulo 15 = .ok (.ireturn, 1) := by decide +kernel
theorem dX8_draw_0 : decode cX8_draw 0 = .ok (.iconst 1, 1) := by decide +kernel
theorem dX8_draw_1 : decode cX8_draw 1 = .ok (.iload_n 2, 1) := by decide +kernel
theorem dX8_draw_2 : decode cX8_draw 2 = .ok (.bipush 12, 2) := by decide +kernel
theorem dX8_draw_4 : decode cX8_draw 4 = .ok (.irem, 1) := by decide +kernel
theorem dX8_draw_5 : decode cX8_draw 5 = .ok (.iadd, 1) := by decide +kernel
theorem dX8_draw_6 : decode cX8_draw 6 = .ok (.istore 5, 2) := by decide +kernel
theorem dX8_draw_8 : decode cX8_draw 8 = .ok (.iload_n 1, 1) := by decide +kernel
theorem dX8_draw_9 : decode cX8_draw 9 = .ok (.bipush 16, 2) := by decide +kernel
theorem dX8_draw_11 : decode cX8_draw 11 = .ok (.iload_n 2, 1) := by decide +kernel
theorem dX8_draw_12 : decode cX8_draw 12 = .ok (.imul, 1) := by decide +kernel
theorem dX8_draw_13 : decode cX8_draw 13 = .ok (.iload_n 3, 1) := by decide +kernel
theorem dX8_draw_14 : decode cX8_draw 14 = .ok (.iadd, 1) := by decide +kernel
theorem dX8_draw_15 : decode cX8_draw 15 = .ok (.invokestatic 190, 3) := by decide +kernel
theorem dX8_draw_18 : decode cX8_draw 18 = .ok (.istore 6, 2) := by decide +kernel
theorem dX8_draw_20 : decode cX8_draw 20 = .ok (.aload_n 0, 1) := by decide +kernel
theorem dX8_draw_21 : decode cX8_draw 21 = .ok (.iload 4, 2) := by decide +kernel
theorem dX8_draw_23 : decode cX8_draw 23 = .ok (.ifCond .ne 20, 3) := by decide +kernel
theorem dX8_draw_26 : decode cX8_draw 26 = .ok (.iload 6, 2) := by decide +kernel
theorem dX8_draw_28 : decode cX8_draw 28 = .ok (.iconst 2, 1) := by decide +kernel
theorem dX8_draw_29 : decode cX8_draw 29 = .ok (.iload 5, 2) := by decide +kernel
theorem dX8_draw_31 : decode cX8_draw 31 = .ok (.imul, 1) := by decide +kernel
theorem dX8_draw_32 : decode cX8_draw 32 = .ok (.iconst 1, 1) := by decide +kernel
theorem dX8_draw_33 : decode cX8_draw 33 = .ok (.iadd, 1) := by decide +kernel
theorem dX8_draw_34 : decode cX8_draw 34 = .ok (.invokestatic 193, 3) := by decide +kernel
theorem dX8_draw_37 : decode cX8_draw 37 = .ok (.iload 5, 2) := by decide +kernel
theorem dX8_draw_39 : decode cX8_draw 39 = .ok (.isub, 1) := by decide +kernel
theorem dX8_draw_40 : decode cX8_draw 40 = .ok (.goto 14, 3) := by decide +kernel
theorem dX8_draw_43 : decode cX8_draw 43 = .ok (.iload 6, 2) := by decide +kernel
theorem dX8_draw_45 : decode cX8_draw 45 = .ok (.iload 5, 2) := by decide +kernel
theorem dX8_draw_47 : decode cX8_draw 47 = .ok (.iconst 2, 1) := by decide +kernel
theorem dX8_draw_48 : decode cX8_draw 48 = .ok (.idiv, 1) := by decide +kernel
theorem dX8_draw_49 : decode cX8_draw 49 = .ok (.iconst 1, 1) := by decide +kernel
theorem dX8_draw_50 : decode cX8_draw 50 = .ok (.iadd, 1) := by decide +kernel
theorem dX8_draw_51 : decode cX8_draw 51 = .ok (.invokestatic 193, 3) := by decide +kernel
theorem dX8_draw_54 : decode cX8_draw 54 = .ok (.putfield 196, 3) := by decide +kernel
theorem dX8_draw_57 : decode cX8_draw 57 = .ok (.iconst 0, 1) := by decide +kernel
theorem dX8_draw_58 : decode cX8_draw 58 = .ok (.istore 7, 2) := by decide +kernel
theorem dX8_draw_60 : decode cX8_draw 60 = .ok (.iload 4, 2) := by decide +kernel
theorem dX8_draw_62 : decode cX8_draw 62 = .ok (.iconst 1, 1) := by decide +kernel
theorem dX8_draw_63 : decode cX8_draw 63 = .ok (.if_icmp .ne 46, 3) := by decide +kernel
theorem dX8_draw_66 : decode cX8_draw 66 = .ok (.iload 7, 2) := by decide +kernel
theorem dX8_draw_68 : decode cX8_draw 68 = .ok (.aload_n 0, 1) := by decide +kernel
theorem dX8_draw_69 : decode cX8_draw 69 = .ok (.getfield 196, 3) := by decide +kernel
theorem dX8_draw_72 : decode cX8_draw 72 = .ok (.if_icmp .ge 37, 3) := by decide +kernel
theorem dX8_draw_75 : decode cX8_draw 75 = .ok (.aload_n 0, 1) := by decide +kernel
theorem dX8_draw_76 : decode cX8_draw 76 = .ok (.getfield 73, 3) := by decide +kernel
theorem dX8_draw_79 : decode cX8_draw 79 = .ok (.iload 7, 2) := by decide +kernel
theorem dX8_draw_81 : decode cX8_draw 81 = .ok (.iload 6, 2) := by decide +kernel
theorem dX8_draw_83 : decode cX8_draw 83 = .ok (.iload 7, 2) := by decide +kernel
theorem dX8_draw_85 : decode cX8_draw 85 = .ok (.iconst 1, 1) := by decide +kernel
theorem dX8_draw_86 : decode cX8_draw 86 = .ok (.iadd, 1) := by decide +kernel
theorem dX8_draw_87 : decode cX8_draw 87 = .ok (.invokestatic 190, 3) := by decide +kernel
theorem dX8_draw_90 : decode cX8_draw 90 = .ok (.iconst 2, 1) := by decide +kernel
theorem dX8_draw_91 : decode cX8_draw 91 = .ok (.iload 5, 2) := by decide +kernel
theorem dX8_draw_93 : decode cX8_draw 93 = .ok (.imul, 1) := by decide +kernel
theorem dX8_draw_94 : decode cX8_draw 94 = .ok (.iconst 1, 1) := by decide +kernel
theorem dX8_draw_95 : decode cX8_draw 95 = .ok (.iadd, 1) := by decide +kernel
theorem dX8_draw_96 : decode cX8_draw 96 = .ok (.invokestatic 193, 3) := by decide +kernel
theorem dX8_draw_99 : decode cX8_draw 99 = .ok (.iload 5, 2) := by decide +kernel
theorem dX8_draw_101 : decode cX8_draw 101 = .ok (.isub, 1) := by decide +kernel
theorem dX8_draw_102 : decode cX8_draw 102 = .ok (.iastore, 1) := by decide +kernel
theorem dX8_draw_103 : decode cX8_draw 103 = .ok (.iinc 7 1, 3) := by decide +kernel
theorem dX8_draw_106 : decode cX8_draw 106 = .ok (.goto (-46), 3) := by decide +kernel
theorem dX8_draw_109 : decode cX8_draw 109 = .ok (.return_, 1) := by decide +kernel
theorem dX8_drawn_0 : decode cX8_drawn 0 = .ok (.iload_n 2, 1) := by decide +kernel
theorem dX8_drawn_1 : decode cX8_drawn 1 = .ok (.iconst 0, 1) := by decide +kernel
theorem dX8_drawn_2 : decode cX8_drawn 2 = .ok (.sipush 199, 3) := by decide +kernel
theorem dX8_drawn_5 : decode cX8_drawn 5 = .ok (.invokestatic 95, 3) := by decide +kernel
theorem dX8_drawn_8 : decode cX8_drawn 8 = .ok (.ifCond .eq 22, 3) := by decide +kernel
theorem dX8_drawn_11 : decode cX8_drawn 11 = .ok (.iload_n 3, 1) := by decide +kernel
theorem dX8_drawn_12 : decode cX8_drawn 12 = .ok (.iconst 0, 1) := by decide +kernel
theorem dX8_drawn_13 : decode cX8_drawn 13 = .ok (.iconst 2, 1) := by decide +kernel
theorem dX8_drawn_14 : decode cX8_drawn 14 = .ok (.invokestatic 95, 3) := by decide +kernel
theorem dX8_drawn_17 : decode cX8_drawn 17 = .ok (.ifCond .eq 13, 3) := by decide +kernel
theorem dX8_drawn_20 : decode cX8_drawn 20 = .ok (.iload 4, 2) := by decide +kernel
theorem dX8_drawn_22 : decode cX8_drawn 22 = .ok (.iconst 0, 1) := by decide +kernel
theorem dX8_drawn_23 : decode cX8_drawn 23 = .ok (.iconst 1, 1) := by decide +kernel
theorem dX8_drawn_24 : decode cX8_drawn 24 = .ok (.invokestatic 95, 3) := by decide +kernel
theorem dX8_drawn_27 : decode cX8_drawn 27 = .ok (.ifCond .ne 6, 3) := by decide +kernel
theorem dX8_drawn_30 : decode cX8_drawn 30 = .ok (.ldc 199, 2) := by decide +kernel
theorem dX8_drawn_32 : decode cX8_drawn 32 = .ok (.ireturn, 1) := by decide +kernel
theorem dX8_drawn_33 : decode cX8_drawn 33 = .ok (.aload_n 0, 1) := by decide +kernel
theorem dX8_drawn_34 : decode cX8_drawn 34 = .ok (.iload_n 1, 1) := by decide +kernel
theorem dX8_drawn_35 : decode cX8_drawn 35 = .ok (.iload_n 2, 1) := by decide +kernel
theorem dX8_drawn_36 : decode cX8_drawn 36 = .ok (.iload_n 3, 1) := by decide +kernel
theorem dX8_drawn_37 : decode cX8_drawn 37 = .ok (.iload 4, 2) := by decide +kernel
theorem dX8_drawn_39 : decode cX8_drawn 39 = .ok (.invokevirtual 200, 3) := by decide +kernel
theorem dX8_drawn_42 : decode cX8_drawn 42 = .ok (.iload 5, 2) := by decide +kernel
theorem dX8_drawn_44 : decode cX8_drawn 44 = .ok (.iconst (-1), 1) := by decide +kernel
theorem dX8_drawn_45 : decode cX8_drawn 45 = .ok (.if_icmp .ne 8, 3) := by decide +kernel
theorem dX8_drawn_48 : decode cX8_drawn 48 = .ok (.aload_n 0, 1) := by decide +kernel
theorem dX8_drawn_49 : decode cX8_drawn 49 = .ok (.getfield 196, 3) := by decide +kernel
theorem dX8_drawn_52 : decode cX8_drawn 52 = .ok (.ireturn, 1) := by decide +kernel
theorem dX8_drawn_53 : decode cX8_drawn 53 = .ok (.iload 4, 2) := by decide +kernel
theorem dX8_drawn_55 : decode cX8_drawn 55 = .ok (.iconst 1, 1) := by decide +kernel
theorem dX8_drawn_56 : decode cX8_drawn 56 = .ok (.if_icmp .ne 28, 3) := by decide +kernel
theorem dX8_drawn_59 : decode cX8_drawn 59 = .ok (.iload 5, 2) := by decide +kernel
theorem dX8_drawn_61 : decode cX8_drawn 61 = .ok (.iconst 0, 1) := by decide +kernel
theorem dX8_drawn_62 : decode cX8_drawn 62 = .ok (.aload_n 0, 1) := by decide +kernel
theorem dX8_drawn_63 : decode cX8_drawn 63 = .ok (.getfield 196, 3) := by decide +kernel
theorem dX8_drawn_66 : decode cX8_drawn 66 = .ok (.iconst 1, 1) := by decide +kernel
theorem dX8_drawn_67 : decode cX8_drawn 67 = .ok (.isub, 1) := by decide +kernel
theorem dX8_drawn_68 : decode cX8_drawn 68 = .ok (.invokestatic 95, 3) := by decide +kernel
theorem dX8_drawn_71 : decode cX8_drawn 71 = .ok (.ifCond .eq 13, 3) := by decide +kernel
theorem dX8_drawn_74 : decode cX8_drawn 74 = .ok (.aload_n 0, 1) := by decide +kernel
theorem dX8_drawn_75 : decode cX8_drawn 75 = .ok (.getfield 73, 3) := by decide +kernel
theorem dX8_drawn_78 : decode cX8_drawn 78 = .ok (.iload 5, 2) := by decide +kernel
theorem dX8_drawn_80 : decode cX8_drawn 80 = .ok (.iaload, 1) := by decide +kernel
theorem dX8_drawn_81 : decode cX8_drawn 81 = .ok (.goto 5, 3) := by decide +kernel
theorem dX8_drawn_84 : decode cX8_drawn 84 = .ok (.ldc 199, 2) := by decide +kernel
theorem dX8_drawn_86 : decode cX8_drawn 86 = .ok (.ireturn, 1) := by decide +kernel
theorem dX8_anew_0 : decode cX8_anew 0 = .ok (.aload_n 0, 1) := by decide +kernel
theorem dX8_anew_1 : decode cX8_anew 1 = .ok (.iconst 0, 1) := by decide +kernel
theorem dX8_anew_2 : decode cX8_anew 2 = .ok (.putfield 203, 3) := by decide +kernel
theorem dX8_anew_5 : decode cX8_anew 5 = .ok (.aload_n 0, 1) := by decide +kernel
theorem dX8_anew_6 : decode cX8_anew 6 = .ok (.iconst 0, 1) := by decide +kernel
theorem dX8_anew_7 : decode cX8_anew 7 = .ok (.putfield 206, 3) := by decide +kernel
theorem dX8_anew_10 : decode cX8_anew 10 = .ok (.aload_n 0, 1) := by decide +kernel
theorem dX8_anew_11 : decode cX8_anew 11 = .ok (.iconst 0, 1) := by decide +kernel
theorem dX8_anew_12 : decode cX8_anew 12 = .ok (.putfield 209, 3) := by decide +kernel
theorem dX8_anew_15 : decode cX8_anew 15 = .ok (.aload_n 0, 1) := by decide +kernel
theorem dX8_anew_16 : decode cX8_anew 16 = .ok (.iconst 0, 1) := by decide +kernel
theorem dX8_anew_17 : decode cX8_anew 17 = .ok (.putfield 212, 3) := by decide +kernel
theorem dX8_anew_20 : decode cX8_anew 20 = .ok (.aload_n 0, 1) := by decide +kernel
theorem dX8_anew_21 : decode cX8_anew 21 = .ok (.iconst (-1), 1) := by decide +kernel
theorem dX8_anew_22 : decode cX8_anew 22 = .ok (.putfield 89, 3) := by decide +kernel
theorem dX8_anew_25 : decode cX8_anew 25 = .ok (.aload_n 0, 1) := by decide +kernel
theorem dX8_anew_26 : decode cX8_anew 26 = .ok (.iconst 0, 1) := by decide +kernel
theorem dX8_anew_27 : decode cX8_anew 27 = .ok (.putfield 215, 3) := by decide +kernel
theorem dX8_anew_30 : decode cX8_anew 30 = .ok (.aload_n 0, 1) := by decide +kernel
theorem dX8_anew_31 : decode cX8_anew 31 = .ok (.iconst 0, 1) := by decide +kernel
theorem dX8_anew_32 : decode cX8_anew 32 = .ok (.putfield 218, 3) := by decide +kernel
theorem dX8_anew_35 : decode cX8_anew 35 = .ok (.aload_n 0, 1) := by decide +kernel
theorem dX8_anew_36 : decode cX8_anew 36 = .ok (.iconst 0, 1) := by decide +kernel
theorem dX8_anew_37 : decode cX8_anew 37 = .ok (.putfield 221, 3) := by decide +kernel
theorem dX8_anew_40 : decode cX8_anew 40 = .ok (.aload_n 0, 1) := by decide +kernel
theorem dX8_anew_41 : decode cX8_anew 41 = .ok (.iconst (-1), 1) := by decide +kernel
theorem dX8_anew_42 : decode cX8_anew 42 = .ok (.putfield 76, 3) := by decide +kernel
theorem dX8_anew_45 : decode cX8_anew 45 = .ok (.iconst 0, 1) := by decide +kernel
theorem dX8_anew_46 : decode cX8_anew 46 = .ok (.istore_n 1, 1) := by decide +kernel
theorem dX8_anew_47 : decode cX8_anew 47 = .ok (.iload_n 1, 1) := by decide +kernel
theorem dX8_anew_48 : decode cX8_anew 48 = .ok (.bipush 9, 2) := by decide +kernel
theorem dX8_anew_50 : decode cX8_anew 50 = .ok (.if_icmp .ge 16, 3) := by decide +kernel
theorem dX8_anew_53 : decode cX8_anew 53 = .ok (.aload_n 0, 1) := by decide +kernel
theorem dX8_anew_54 : decode cX8_anew 54 = .ok (.getfield 70, 3) := by decide +kernel
theorem dX8_anew_57 : decode cX8_anew 57 = .ok (.iload_n 1, 1) := by decide +kernel
theorem dX8_anew_58 : decode cX8_anew 58 = .ok (.iconst 0, 1) := by decide +kernel
theorem dX8_anew_59 : decode cX8_anew 59 = .ok (.iastore, 1) := by decide +kernel
theorem dX8_anew_60 : decode cX8_anew 60 = .ok (.iinc 1 1, 3) := by decide +kernel
theorem dX8_anew_63 : decode cX8_anew 63 = .ok (.goto (-16), 3) := by decide +kernel
theorem dX8_anew_66 : decode cX8_anew 66 = .ok (.return_, 1) := by decide +kernel
theorem dX8_isFailed_0 : decode cX8_isFailed 0 = .ok (.aload_n 0, 1) := by decide +kernel
theorem dX8_isFailed_1 : decode cX8_isFailed 1 = .ok (.iload_n 1, 1) := by decide +kernel
theorem dX8_isFailed_2 : decode cX8_isFailed 2 = .ok (.iconst 1, 1) := by decide +kernel
theorem dX8_isFailed_3 : decode cX8_isFailed 3 = .ok (.invokevirtual 224, 3) := by decide +kernel
theorem dX8_isFailed_6 : decode cX8_isFailed 6 = .ok (.istore_n 2, 1) := by decide +kernel
theorem dX8_isFailed_7 : decode cX8_isFailed 7 = .ok (.aload_n 0, 1) := by decide +kernel
theorem dX8_isFailed_8 : decode cX8_isFailed 8 = .ok (.dup, 1) := by decide +kernel
theorem dX8_isFailed_9 : decode cX8_isFailed 9 = .ok (.getfield 203, 3) := by decide +kernel
theorem dX8_isFailed_12 : decode cX8_isFailed 12 = .ok (.iconst 1, 1) := by decide +kernel
theorem dX8_isFailed_13 : decode cX8_isFailed 13 = .ok (.iadd, 1) := by decide +kernel
theorem dX8_isFailed_14 : decode cX8_isFailed 14 = .ok (.putfield 203, 3) := by decide +kernel
theorem dX8_isFailed_17 : decode cX8_isFailed 17 = .ok (.aload_n 0, 1) := by decide +kernel
theorem dX8_isFailed_18 : decode cX8_isFailed 18 = .ok (.dup, 1) := by decide +kernel
theorem dX8_isFailed_19 : decode cX8_isFailed 19 = .ok (.getfield 206, 3) := by decide +kernel
theorem dX8_isFailed_22 : decode cX8_isFailed 22 = .ok (.iload_n 2, 1) := by decide +kernel
theorem dX8_isFailed_23 : decode cX8_isFailed 23 = .ok (.ifCond .ne 7, 3) := by decide +kernel
theorem dX8_isFailed_26 : decode cX8_isFailed 26 = .ok (.iconst 1, 1) := by decide +kernel
theorem dX8_isFailed_27 : decode cX8_isFailed 27 = .ok (.goto 4, 3) := by decide +kernel
theorem dX8_isFailed_30 : decode cX8_isFailed 30 = .ok (.iconst 0, 1) := by decide +kernel
theorem dX8_isFailed_31 : decode cX8_isFailed 31 = .ok (.iadd, 1) := by decide +kernel
theorem dX8_isFailed_32 : decode cX8_isFailed 32 = .ok (.putfield 206, 3) := by decide +kernel
theorem dX8_isFailed_35 : decode cX8_isFailed 35 = .ok (.aload_n 0, 1) := by decide +kernel
theorem dX8_isFailed_36 : decode cX8_isFailed 36 = .ok (.dup, 1) := by decide +kernel
theorem dX8_isFailed_37 : decode cX8_isFailed 37 = .ok (.getfield 209, 3) := by decide +kernel
theorem dX8_isFailed_40 : decode cX8_isFailed 40 = .ok (.iload_n 2, 1) := by decide +kernel
theorem dX8_isFailed_41 : decode cX8_isFailed 41 = .ok (.ifCond .ge 7, 3) := by decide +kernel
theorem dX8_isFailed_44 : decode cX8_isFailed 44 = .ok (.iconst 1, 1) := by decide +kernel
theorem dX8_isFailed_45 : decode cX8_isFailed 45 = .ok (.goto 4, 3) := by decide +kernel
theorem dX8_isFailed_48 : decode cX8_isFailed 48 = .ok (.iconst 0, 1) := by decide +kernel
theorem dX8_isFailed_49 : decode cX8_isFailed 49 = .ok (.iadd, 1) := by decide +kernel
theorem dX8_isFailed_50 : decode cX8_isFailed 50 = .ok (.putfield 209, 3) := by decide +kernel
theorem dX8_isFailed_53 : decode cX8_isFailed 53 = .ok (.iload_n 2, 1) := by decide +kernel
theorem dX8_isFailed_54 : decode cX8_isFailed 54 = .ok (.ifCond .le 23, 3) := by decide +kernel
theorem dX8_isFailed_57 : decode cX8_isFailed 57 = .ok (.aload_n 0, 1) := by decide +kernel
theorem dX8_isFailed_58 : decode cX8_isFailed 58 = .ok (.iload_n 2, 1) := by decide +kernel
theorem dX8_isFailed_59 : decode cX8_isFailed 59 = .ok (.putfield 212, 3) := by decide +kernel
theorem dX8_isFailed_62 : decode cX8_isFailed 62 = .ok (.aload_n 0, 1) := by decide +kernel
theorem dX8_isFailed_63 : decode cX8_isFailed 63 = .ok (.aload_n 0, 1) := by decide +kernel
theorem dX8_isFailed_64 : decode cX8_isFailed 64 = .ok (.getfield 203, 3) := by decide +kernel
theorem dX8_isFailed_67 : decode cX8_isFailed 67 = .ok (.iconst 1, 1) := by decide +kernel
theorem dX8_isFailed_68 : decode cX8_isFailed 68 = .ok (.isub, 1) := by decide +kernel
theorem dX8_isFailed_69 : decode cX8_isFailed 69 = .ok (.putfield 89, 3) := by decide +kernel
theorem dX8_isFailed_72 : decode cX8_isFailed 72 = .ok (.aload_n 0, 1) := by decide +kernel
theorem dX8_isFailed_73 : decode cX8_isFailed 73 = .ok (.iload_n 1, 1) := by decide +kernel
theorem dX8_isFailed_74 : decode cX8_isFailed 74 = .ok (.invokevirtual 228, 3) := by decide +kernel
theorem dX8_isFailed_77 : decode cX8_isFailed 77 = .ok (.iload_n 2, 1) := by decide +kernel
theorem dX8_isFailed_78 : decode cX8_isFailed 78 = .ok (.ifCond .le 7, 3) := by decide +kernel
theorem dX8_isFailed_81 : decode cX8_isFailed 81 = .ok (.iconst 1, 1) := by decide +kernel
theorem dX8_isFailed_82 : decode cX8_isFailed 82 = .ok (.goto 4, 3) := by decide +kernel
theorem dX8_isFailed_85 : decode cX8_isFailed 85 = .ok (.iconst 0, 1) := by decide +kernel
theorem dX8_isFailed_86 : decode cX8_isFailed 86 = .ok (.ireturn, 1) := by decide +kernel
theorem dX8_keep_0 : decode cX8_keep 0 = .ok (.aload_n 0, 1) := by decide +kernel
theorem dX8_keep_1 : decode cX8_keep 1 = .ok (.iload_n 1, 1) := by decide +kernel
theorem dX8_keep_2 : decode cX8_keep 2 = .ok (.putfield 76, 3) := by decide +kernel
theorem dX8_keep_5 : decode cX8_keep 5 = .ok (.iconst 0, 1) := by decide +kernel
theorem dX8_keep_6 : decode cX8_keep 6 = .ok (.istore_n 2, 1) := by decide +kernel
theorem dX8_keep_7 : decode cX8_keep 7 = .ok (.iload_n 2, 1) := by decide +kernel
theorem dX8_keep_8 : decode cX8_keep 8 = .ok (.iconst 3, 1) := by decide +kernel
theorem dX8_keep_9 : decode cX8_keep 9 = .ok (.if_icmp .ge 37, 3) := by decide +kernel
theorem dX8_keep_12 : decode cX8_keep 12 = .ok (.aload_n 0, 1) := by decide +kernel
theorem dX8_keep_13 : decode cX8_keep 13 = .ok (.getfield 80, 3) := by decide +kernel
theorem dX8_keep_16 : decode cX8_keep 16 = .ok (.iload_n 2, 1) := by decide +kernel
theorem dX8_keep_17 : decode cX8_keep 17 = .ok (.aload_n 0, 1) := by decide +kernel
theorem dX8_keep_18 : decode cX8_keep 18 = .ok (.getfield 55, 3) := by decide +kernel
theorem dX8_keep_21 : decode cX8_keep 21 = .ok (.iconst 3, 1) := by decide +kernel
theorem dX8_keep_22 : decode cX8_keep 22 = .ok (.iload_n 1, 1) := by decide +kernel
theorem dX8_keep_23 : decode cX8_keep 23 = .ok (.imul, 1) := by decide +kernel
theorem dX8_keep_24 : decode cX8_keep 24 = .ok (.iload_n 2, 1) := by decide +kernel
theorem dX8_keep_25 : decode cX8_keep 25 = .ok (.iadd, 1) := by decide +kernel
theorem dX8_keep_26 : decode cX8_keep 26 = .ok (.iaload, 1) := by decide +kernel
theorem dX8_keep_27 : decode cX8_keep 27 = .ok (.iastore, 1) := by decide +kernel
theorem dX8_keep_28 : decode cX8_keep 28 = .ok (.aload_n 0, 1) := by decide +kernel
theorem dX8_keep_29 : decode cX8_keep 29 = .ok (.getfield 83, 3) := by decide +kernel
theorem dX8_keep_32 : decode cX8_keep 32 = .ok (.iload_n 2, 1) := by decide +kernel
theorem dX8_keep_33 : decode cX8_keep 33 = .ok (.aload_n 0, 1) := by decide +kernel
theorem dX8_keep_34 : decode cX8_keep 34 = .ok (.getfield 28, 3) := by decide +kernel
theorem dX8_keep_37 : decode cX8_keep 37 = .ok (.iload_n 2, 1) := by decide +kernel
theorem dX8_keep_38 : decode cX8_keep 38 = .ok (.iaload, 1) := by decide +kernel
theorem dX8_keep_39 : decode cX8_keep 39 = .ok (.iastore, 1) := by decide +kernel
theorem dX8_keep_40 : decode cX8_keep 40 = .ok (.iinc 2 1, 3) := by decide +kernel
theorem dX8_keep_43 : decode cX8_keep 43 = .ok (.goto (-36), 3) := by decide +kernel
theorem dX8_keep_46 : decode cX8_keep 46 = .ok (.iconst 0, 1) := by decide +kernel
theorem dX8_keep_47 : decode cX8_keep 47 = .ok (.istore_n 2, 1) := by decide +kernel
theorem dX8_keep_48 : decode cX8_keep 48 = .ok (.iload_n 2, 1) := by decide +kernel
theorem dX8_keep_49 : decode cX8_keep 49 = .ok (.bipush 48, 2) := by decide +kernel
theorem dX8_keep_51 : decode cX8_keep 51 = .ok (.if_icmp .ge 21, 3) := by decide +kernel
theorem dX8_keep_54 : decode cX8_keep 54 = .ok (.aload_n 0, 1) := by decide +kernel
theorem dX8_keep_55 : decode cX8_keep 55 = .ok (.getfield 86, 3) := by decide +kernel
theorem dX8_keep_58 : decode cX8_keep 58 = .ok (.iload_n 2, 1) := by decide +kernel
theorem dX8_keep_59 : decode cX8_keep 59 = .ok (.aload_n 0, 1) := by decide +kernel
theorem dX8_keep_60 : decode cX8_keep 60 = .ok (.getfield 31, 3) := by decide +kernel
theorem dX8_keep_63 : decode cX8_keep 63 = .ok (.iload_n 2, 1) := by decide +kernel
theorem dX8_keep_64 : decode cX8_keep 64 = .ok (.iaload, 1) := by decide +kernel
theorem dX8_keep_65 : decode cX8_keep 65 = .ok (.iastore, 1) := by decide +kernel
theorem dX8_keep_66 : decode cX8_keep 66 = .ok (.iinc 2 1, 3) := by decide +kernel
theorem dX8_keep_69 : decode cX8_keep 69 = .ok (.goto (-21), 3) := by decide +kernel
theorem dX8_keep_72 : decode cX8_keep 72 = .ok (.return_, 1) := by decide +kernel
theorem dX8_takeCounter_0 : decode cX8_takeCounter 0 = .ok (.iconst 0, 1) := by decide +kernel
theorem dX8_takeCounter_1 : decode cX8_takeCounter 1 = .ok (.istore_n 1, 1) := by decide +kernel
theorem dX8_takeCounter_2 : decode cX8_takeCounter 2 = .ok (.iload_n 1, 1) := by decide +kernel
theorem dX8_takeCounter_3 : decode cX8_takeCounter 3 = .ok (.iconst 3, 1) := by decide +kernel
theorem dX8_takeCounter_4 : decode cX8_takeCounter 4 = .ok (.if_icmp .ge 21, 3) := by decide +kernel
theorem dX8_takeCounter_7 : decode cX8_takeCounter 7 = .ok (.aload_n 0, 1) := by decide +kernel
theorem dX8_takeCounter_8 : decode cX8_takeCounter 8 = .ok (.getfield 28, 3) := by decide +kernel
theorem dX8_takeCounter_11 : decode cX8_takeCounter 11 = .ok (.iload_n 1, 1) := by decide +kernel
theorem dX8_takeCounter_12 : decode cX8_takeCounter 12 = .ok (.aload_n 0, 1) := by decide +kernel
theorem dX8_takeCounter_13 : decode cX8_takeCounter 13 = .ok (.getfield 83, 3) := by decide +kernel
theorem dX8_takeCounter_16 : decode cX8_takeCounter 16 = .ok (.iload_n 1, 1) := by decide +kernel
theorem dX8_takeCounter_17 : decode cX8_takeCounter 17 = .ok (.iaload, 1) := by decide +kernel
theorem dX8_takeCounter_18 : decode cX8_takeCounter 18 = .ok (.iastore, 1) := by decide +kernel
theorem dX8_takeCounter_19 : decode cX8_takeCounter 19 = .ok (.iinc 1 1, 3) := by decide +kernel
theorem dX8_takeCounter_22 : decode cX8_takeCounter 22 = .ok (.goto (-20), 3) := by decide +kernel
theorem dX8_takeCounter_25 : decode cX8_takeCounter 25 = .ok (.iconst 0, 1) := by decide +kernel
theorem dX8_takeCounter_26 : decode cX8_takeCounter 26 = .ok (.istore_n 1, 1) := by decide +kernel
theorem dX8_takeCounter_27 : decode cX8_takeCounter 27 = .ok (.iload_n 1, 1) := by decide +kernel
theorem dX8_takeCounter_28 : decode cX8_takeCounter 28 = .ok (.bipush 48, 2) := by decide +kernel
theorem dX8_takeCounter_30 : decode cX8_takeCounter 30 = .ok (.if_icmp .ge 21, 3) := by decide +kernel
theorem dX8_takeCounter_33 : decode cX8_takeCounter 33 = .ok (.aload_n 0, 1) := by decide +kernel
theorem dX8_takeCounter_34 : decode cX8_takeCounter 34 = .ok (.getfield 31, 3) := by decide +kernel
theorem dX8_takeCounter_37 : decode cX8_takeCounter 37 = .ok (.iload_n 1, 1) := by decide +kernel
theorem dX8_takeCounter_38 : decode cX8_takeCounter 38 = .ok (.aload_n 0, 1) := by decide +kernel
theorem dX8_takeCounter_39 : decode cX8_takeCounter 39 = .ok (.getfield 86, 3) := by decide +kernel
theorem dX8_takeCounter_42 : decode cX8_takeCounter 42 = .ok (.iload_n 1, 1) := by decide +kernel
theorem dX8_takeCounter_43 : decode cX8_takeCounter 43 = .ok (.iaload, 1) := by decide +kernel
theorem dX8_takeCounter_44 : decode cX8_takeCounter 44 = .ok (.iastore, 1) := by decide +kernel
theorem dX8_takeCounter_45 : decode cX8_takeCounter 45 = .ok (.iinc 1 1, 3) := by decide +kernel
theorem dX8_takeCounter_48 : decode cX8_takeCounter 48 = .ok (.goto (-21), 3) := by decide +kernel
theorem dX8_takeCounter_51 : decode cX8_takeCounter 51 = .ok (.return_, 1) := by decide +kernel
theorem dX8_isProperty_0 : decode cX8_isProperty 0 = .ok (.iload_n 1, 1) := by decide +kernel
theorem dX8_isProperty_1 : decode cX8_isProperty 1 = .ok (.iconst 0, 1) := by decide +kernel
theorem dX8_isProperty_2 : decode cX8_isProperty 2 = .ok (.aload_n 0, 1) := by decide +kernel
theorem dX8_isProperty_3 : decode cX8_isProperty 3 = .ok (.getfield 175, 3) := by decide +kernel
theorem dX8_isProperty_6 : decode cX8_isProperty 6 = .ok (.iconst 1, 1) := by decide +kernel
theorem dX8_isProperty_7 : decode cX8_isProperty 7 = .ok (.isub, 1) := by decide +kernel
theorem dX8_isProperty_8 : decode cX8_isProperty 8 = .ok (.invokestatic 95, 3) := by decide +kernel
theorem dX8_isProperty_11 : decode cX8_isProperty 11 = .ok (.ireturn, 1) := by decide +kernel
theorem dX8_run_0 : decode cX8_run 0 = .ok (.aload_n 0, 1) := by decide +kernel
theorem dX8_run_1 : decode cX8_run 1 = .ok (.iload_n 1, 1) := by decide +kernel
theorem dX8_run_2 : decode cX8_run 2 = .ok (.invokevirtual 231, 3) := by decide +kernel
theorem dX8_run_5 : decode cX8_run 5 = .ok (.ifCond .eq 14, 3) := by decide +kernel
theorem dX8_run_8 : decode cX8_run 8 = .ok (.iload_n 2, 1) := by decide +kernel
theorem dX8_run_9 : decode cX8_run 9 = .ok (.iconst 1, 1) := by decide +kernel
theorem dX8_run_10 : decode cX8_run 10 = .ok (.sipush 200, 3) := by decide +kernel
theorem dX8_run_13 : decode cX8_run 13 = .ok (.invokestatic 95, 3) := by decide +kernel
theorem dX8_run_16 : decode cX8_run 16 = .ok (.ifCond .ne 5, 3) := by decide +kernel
theorem dX8_run_19 : decode cX8_run 19 = .ok (.iconst (-1), 1) := by decide +kernel
theorem dX8_run_20 : decode cX8_run 20 = .ok (.ireturn, 1) := by decide +kernel
theorem dX8_run_21 : decode cX8_run 21 = .ok (.aload_n 0, 1) := by decide +kernel
theorem dX8_run_22 : decode cX8_run 22 = .ok (.getfield 178, 3) := by decide +kernel
theorem dX8_run_25 : decode cX8_run 25 = .ok (.iload_n 2, 1) := by decide +kernel
theorem dX8_run_26 : decode cX8_run 26 = .ok (.iadd, 1) := by decide +kernel
theorem dX8_run_27 : decode cX8_run 27 = .ok (.sipush 200, 3) := by decide +kernel
theorem dX8_run_30 : decode cX8_run 30 = .ok (.iadd, 1) := by decide +kernel
theorem dX8_run_31 : decode cX8_run 31 = .ok (.sipush 3000, 3) := by decide +kernel
theorem dX8_run_34 : decode cX8_run 34 = .ok (.if_icmp .le 6, 3) := by decide +kernel
theorem dX8_run_37 : decode cX8_run 37 = .ok (.bipush (-2), 2) := by decide +kernel
theorem dX8_run_39 : decode cX8_run 39 = .ok (.ireturn, 1) := by decide +kernel
theorem dX8_run_40 : decode cX8_run 40 = .ok (.aload_n 0, 1) := by decide +kernel
theorem dX8_run_41 : decode cX8_run 41 = .ok (.invokevirtual 234, 3) := by decide +kernel
theorem dX8_run_44 : decode cX8_run 44 = .ok (.iconst 0, 1) := by decide +kernel
theorem dX8_run_45 : decode cX8_run 45 = .ok (.istore 4, 2) := by decide +kernel
theorem dX8_run_47 : decode cX8_run 47 = .ok (.iconst 0, 1) := by decide +kernel
theorem dX8_run_48 : decode cX8_run 48 = .ok (.istore 5, 2) := by decide +kernel
theorem dX8_run_50 : decode cX8_run 50 = .ok (.iload 5, 2) := by decide +kernel
theorem dX8_run_52 : decode cX8_run 52 = .ok (.iload_n 2, 1) := by decide +kernel
theorem dX8_run_53 : decode cX8_run 53 = .ok (.if_icmp .ge 117, 3) := by decide +kernel
theorem dX8_run_56 : decode cX8_run 56 = .ok (.iload 4, 2) := by decide +kernel
theorem dX8_run_58 : decode cX8_run 58 = .ok (.ifCond .ne 112, 3) := by decide +kernel
theorem dX8_run_61 : decode cX8_run 61 = .ok (.iconst 0, 1) := by decide +kernel
theorem dX8_run_62 : decode cX8_run 62 = .ok (.istore 6, 2) := by decide +kernel
theorem dX8_run_64 : decode cX8_run 64 = .ok (.iload 6, 2) := by decide +kernel
end
section
theorem dX8_run_66 : decode cX8_run 66 = .ok (.iconst 3, 1) := by decide +kernel
theorem dX8_run_67 : decode cX8_run 67 = .ok (.if_icmp .ge 90, 3) := by decide +kernel
theorem dX8_run_70 : decode cX8_run 70 = .ok (.aload_n 0, 1) := by decide +kernel
theorem dX8_run_71 : decode cX8_run 71 = .ok (.getfield 55, 3) := by decide +kernel
theorem dX8_run_74 : decode cX8_run 74 = .ok (.iconst 3, 1) := by decide +kernel
theorem dX8_run_75 : decode cX8_run 75 = .ok (.iload_n 1, 1) := by decide +kernel
theorem dX8_run_76 : decode cX8_run 76 = .ok (.imul, 1) := by decide +kernel
theorem dX8_run_77 : decode cX8_run 77 = .ok (.iload 6, 2) := by decide +kernel
theorem dX8_run_79 : decode cX8_run 79 = .ok (.iadd, 1) := by decide +kernel
theorem dX8_run_80 : decode cX8_run 80 = .ok (.iaload, 1) := by decide +kernel
theorem dX8_run_81 : decode cX8_run 81 = .ok (.ifCond .lt 70, 3) := by decide +kernel
theorem dX8_run_84 : decode cX8_run 84 = .ok (.aload_n 0, 1) := by decide +kernel
theorem dX8_run_85 : decode cX8_run 85 = .ok (.iload_n 3, 1) := by decide +kernel
theorem dX8_run_86 : decode cX8_run 86 = .ok (.iload 5, 2) := by decide +kernel
theorem dX8_run_88 : decode cX8_run 88 = .ok (.iload 6, 2) := by decide +kernel
theorem dX8_run_90 : decode cX8_run 90 = .ok (.aload_n 0, 1) := by decide +kernel
theorem dX8_run_91 : decode cX8_run 91 = .ok (.getfield 55, 3) := by decide +kernel
theorem dX8_run_94 : decode cX8_run 94 = .ok (.iconst 3, 1) := by decide +kernel
theorem dX8_run_95 : decode cX8_run 95 = .ok (.iload_n 1, 1) := by decide +kernel
theorem dX8_run_96 : decode cX8_run 96 = .ok (.imul, 1) := by decide +kernel
theorem dX8_run_97 : decode cX8_run 97 = .ok (.iload 6, 2) := by decide +kernel
theorem dX8_run_99 : decode cX8_run 99 = .ok (.iadd, 1) := by decide +kernel
theorem dX8_run_100 : decode cX8_run 100 = .ok (.iaload, 1) := by decide +kernel
theorem dX8_run_101 : decode cX8_run 101 = .ok (.invokevirtual 200, 3) := by decide +kernel
theorem dX8_run_104 : decode cX8_run 104 = .ok (.aload_n 0, 1) := by decide +kernel
theorem dX8_run_105 : decode cX8_run 105 = .ok (.getfield 28, 3) := by decide +kernel
theorem dX8_run_108 : decode cX8_run 108 = .ok (.iload 6, 2) := by decide +kernel
theorem dX8_run_110 : decode cX8_run 110 = .ok (.aload_n 0, 1) := by decide +kernel
theorem dX8_run_111 : decode cX8_run 111 = .ok (.getfield 196, 3) := by decide +kernel
theorem dX8_run_114 : decode cX8_run 114 = .ok (.iastore, 1) := by decide +kernel
theorem dX8_run_115 : decode cX8_run 115 = .ok (.iconst 0, 1) := by decide +kernel
theorem dX8_run_116 : decode cX8_run 116 = .ok (.istore 7, 2) := by decide +kernel
theorem dX8_run_118 : decode cX8_run 118 = .ok (.iload 7, 2) := by decide +kernel
theorem dX8_run_120 : decode cX8_run 120 = .ok (.bipush 16, 2) := by decide +kernel
theorem dX8_run_122 : decode cX8_run 122 = .ok (.if_icmp .ge 29, 3) := by decide +kernel
theorem dX8_run_125 : decode cX8_run 125 = .ok (.aload_n 0, 1) := by decide +kernel
theorem dX8_run_126 : decode cX8_run 126 = .ok (.getfield 31, 3) := by decide +kernel
theorem dX8_run_129 : decode cX8_run 129 = .ok (.bipush 16, 2) := by decide +kernel
theorem dX8_run_131 : decode cX8_run 131 = .ok (.iload 6, 2) := by decide +kernel
theorem dX8_run_133 : decode cX8_run 133 = .ok (.imul, 1) := by decide +kernel
theorem dX8_run_134 : decode cX8_run 134 = .ok (.iload 7, 2) := by decide +kernel
theorem dX8_run_136 : decode cX8_run 136 = .ok (.iadd, 1) := by decide +kernel
theorem dX8_run_137 : decode cX8_run 137 = .ok (.aload_n 0, 1) := by decide +kernel
theorem dX8_run_138 : decode cX8_run 138 = .ok (.getfield 73, 3) := by decide +kernel
theorem dX8_run_141 : decode cX8_run 141 = .ok (.iload 7, 2) := by decide +kernel
theorem dX8_run_143 : decode cX8_run 143 = .ok (.iaload, 1) := by decide +kernel
theorem dX8_run_144 : decode cX8_run 144 = .ok (.iastore, 1) := by decide +kernel
theorem dX8_run_145 : decode cX8_run 145 = .ok (.iinc 7 1, 3) := by decide +kernel
theorem dX8_run_148 : decode cX8_run 148 = .ok (.goto (-30), 3) := by decide +kernel
theorem dX8_run_151 : decode cX8_run 151 = .ok (.iinc 6 1, 3) := by decide +kernel
theorem dX8_run_154 : decode cX8_run 154 = .ok (.goto (-90), 3) := by decide +kernel
theorem dX8_run_157 : decode cX8_run 157 = .ok (.aload_n 0, 1) := by decide +kernel
theorem dX8_run_158 : decode cX8_run 158 = .ok (.iload_n 1, 1) := by decide +kernel
theorem dX8_run_159 : decode cX8_run 159 = .ok (.invokevirtual 237, 3) := by decide +kernel
theorem dX8_run_162 : decode cX8_run 162 = .ok (.istore 4, 2) := by decide +kernel
theorem dX8_run_164 : decode cX8_run 164 = .ok (.iinc 5 1, 3) := by decide +kernel
theorem dX8_run_167 : decode cX8_run 167 = .ok (.goto (-117), 3) := by decide +kernel
theorem dX8_run_170 : decode cX8_run 170 = .ok (.iload 4, 2) := by decide +kernel
theorem dX8_run_172 : decode cX8_run 172 = .ok (.ifCond .eq 10, 3) := by decide +kernel
theorem dX8_run_175 : decode cX8_run 175 = .ok (.aload_n 0, 1) := by decide +kernel
theorem dX8_run_176 : decode cX8_run 176 = .ok (.iload_n 1, 1) := by decide +kernel
theorem dX8_run_177 : decode cX8_run 177 = .ok (.invokevirtual 240, 3) := by decide +kernel
theorem dX8_run_180 : decode cX8_run 180 = .ok (.iconst 0, 1) := by decide +kernel
theorem dX8_run_181 : decode cX8_run 181 = .ok (.ireturn, 1) := by decide +kernel
theorem dX8_run_182 : decode cX8_run 182 = .ok (.bipush 10, 2) := by decide +kernel
theorem dX8_run_184 : decode cX8_run 184 = .ok (.aload_n 0, 1) := by decide +kernel
theorem dX8_run_185 : decode cX8_run 185 = .ok (.getfield 206, 3) := by decide +kernel
theorem dX8_run_188 : decode cX8_run 188 = .ok (.imul, 1) := by decide +kernel
theorem dX8_run_189 : decode cX8_run 189 = .ok (.iload_n 2, 1) := by decide +kernel
theorem dX8_run_190 : decode cX8_run 190 = .ok (.if_icmp .ge 7, 3) := by decide +kernel
theorem dX8_run_193 : decode cX8_run 193 = .ok (.iconst 2, 1) := by decide +kernel
theorem dX8_run_194 : decode cX8_run 194 = .ok (.goto 4, 3) := by decide +kernel
theorem dX8_run_197 : decode cX8_run 197 = .ok (.iconst 1, 1) := by decide +kernel
theorem dX8_run_198 : decode cX8_run 198 = .ok (.ireturn, 1) := by decide +kernel
theorem dX8_smaller_0 : decode cX8_smaller 0 = .ok (.iconst 1, 1) := by decide +kernel
theorem dX8_smaller_1 : decode cX8_smaller 1 = .ok (.istore_n 2, 1) := by decide +kernel
theorem dX8_smaller_2 : decode cX8_smaller 2 = .ok (.iload_n 2, 1) := by decide +kernel
theorem dX8_smaller_3 : decode cX8_smaller 3 = .ok (.ifCond .eq 127, 3) := by decide +kernel
theorem dX8_smaller_6 : decode cX8_smaller 6 = .ok (.iconst 0, 1) := by decide +kernel
theorem dX8_smaller_7 : decode cX8_smaller 7 = .ok (.istore_n 3, 1) := by decide +kernel
theorem dX8_smaller_8 : decode cX8_smaller 8 = .ok (.iconst 0, 1) := by decide +kernel
theorem dX8_smaller_9 : decode cX8_smaller 9 = .ok (.istore 4, 2) := by decide +kernel
theorem dX8_smaller_11 : decode cX8_smaller 11 = .ok (.iload 4, 2) := by decide +kernel
theorem dX8_smaller_13 : decode cX8_smaller 13 = .ok (.ifCond .ne 66, 3) := by decide +kernel
theorem dX8_smaller_16 : decode cX8_smaller 16 = .ok (.iload_n 2, 1) := by decide +kernel
theorem dX8_smaller_17 : decode cX8_smaller 17 = .ok (.ifCond .eq 62, 3) := by decide +kernel
theorem dX8_smaller_20 : decode cX8_smaller 20 = .ok (.aload_n 0, 1) := by decide +kernel
theorem dX8_smaller_21 : decode cX8_smaller 21 = .ok (.iload_n 3, 1) := by decide +kernel
theorem dX8_smaller_22 : decode cX8_smaller 22 = .ok (.invokevirtual 243, 3) := by decide +kernel
theorem dX8_smaller_25 : decode cX8_smaller 25 = .ok (.ifCond .eq 54, 3) := by decide +kernel
theorem dX8_smaller_28 : decode cX8_smaller 28 = .ok (.aload_n 0, 1) := by decide +kernel
theorem dX8_smaller_29 : decode cX8_smaller 29 = .ok (.getfield 215, 3) := by decide +kernel
theorem dX8_smaller_32 : decode cX8_smaller 32 = .ok (.sipush 200, 3) := by decide +kernel
theorem dX8_smaller_35 : decode cX8_smaller 35 = .ok (.if_icmp .ne 8, 3) := by decide +kernel
theorem dX8_smaller_38 : decode cX8_smaller 38 = .ok (.iconst 0, 1) := by decide +kernel
theorem dX8_smaller_39 : decode cX8_smaller 39 = .ok (.istore_n 2, 1) := by decide +kernel
theorem dX8_smaller_40 : decode cX8_smaller 40 = .ok (.goto 33, 3) := by decide +kernel
theorem dX8_smaller_43 : decode cX8_smaller 43 = .ok (.aload_n 0, 1) := by decide +kernel
theorem dX8_smaller_44 : decode cX8_smaller 44 = .ok (.dup, 1) := by decide +kernel
theorem dX8_smaller_45 : decode cX8_smaller 45 = .ok (.getfield 215, 3) := by decide +kernel
theorem dX8_smaller_48 : decode cX8_smaller 48 = .ok (.iconst 1, 1) := by decide +kernel
theorem dX8_smaller_49 : decode cX8_smaller 49 = .ok (.iadd, 1) := by decide +kernel
theorem dX8_smaller_50 : decode cX8_smaller 50 = .ok (.putfield 215, 3) := by decide +kernel
theorem dX8_smaller_53 : decode cX8_smaller 53 = .ok (.aload_n 0, 1) := by decide +kernel
theorem dX8_smaller_54 : decode cX8_smaller 54 = .ok (.iload_n 1, 1) := by decide +kernel
theorem dX8_smaller_55 : decode cX8_smaller 55 = .ok (.iconst 0, 1) := by decide +kernel
theorem dX8_smaller_56 : decode cX8_smaller 56 = .ok (.invokevirtual 224, 3) := by decide +kernel
theorem dX8_smaller_59 : decode cX8_smaller 59 = .ok (.aload_n 0, 1) := by decide +kernel
theorem dX8_smaller_60 : decode cX8_smaller 60 = .ok (.getfield 212, 3) := by decide +kernel
theorem dX8_smaller_63 : decode cX8_smaller 63 = .ok (.if_icmp .ne 7, 3) := by decide +kernel
theorem dX8_smaller_66 : decode cX8_smaller 66 = .ok (.iconst 1, 1) := by decide +kernel
theorem dX8_smaller_67 : decode cX8_smaller 67 = .ok (.goto 4, 3) := by decide +kernel
theorem dX8_smaller_70 : decode cX8_smaller 70 = .ok (.iconst 0, 1) := by decide +kernel
theorem dX8_smaller_71 : decode cX8_smaller 71 = .ok (.istore 4, 2) := by decide +kernel
theorem dX8_smaller_73 : decode cX8_smaller 73 = .ok (.iinc 3 1, 3) := by decide +kernel
theorem dX8_smaller_76 : decode cX8_smaller 76 = .ok (.goto (-65), 3) := by decide +kernel
theorem dX8_smaller_79 : decode cX8_smaller 79 = .ok (.iload 4, 2) := by decide +kernel
theorem dX8_smaller_81 : decode cX8_smaller 81 = .ok (.ifCond .eq 21, 3) := by decide +kernel
theorem dX8_smaller_84 : decode cX8_smaller 84 = .ok (.aload_n 0, 1) := by decide +kernel
theorem dX8_smaller_85 : decode cX8_smaller 85 = .ok (.dup, 1) := by decide +kernel
theorem dX8_smaller_86 : decode cX8_smaller 86 = .ok (.getfield 218, 3) := by decide +kernel
theorem dX8_smaller_89 : decode cX8_smaller 89 = .ok (.iconst 1, 1) := by decide +kernel
theorem dX8_smaller_90 : decode cX8_smaller 90 = .ok (.iadd, 1) := by decide +kernel
theorem dX8_smaller_91 : decode cX8_smaller 91 = .ok (.putfield 218, 3) := by decide +kernel
theorem dX8_smaller_94 : decode cX8_smaller 94 = .ok (.aload_n 0, 1) := by decide +kernel
theorem dX8_smaller_95 : decode cX8_smaller 95 = .ok (.iload_n 1, 1) := by decide +kernel
theorem dX8_smaller_96 : decode cX8_smaller 96 = .ok (.invokevirtual 228, 3) := by decide +kernel
theorem dX8_smaller_99 : decode cX8_smaller 99 = .ok (.goto 28, 3) := by decide +kernel
theorem dX8_smaller_102 : decode cX8_smaller 102 = .ok (.aload_n 0, 1) := by decide +kernel
theorem dX8_smaller_103 : decode cX8_smaller 103 = .ok (.iload_n 2, 1) := by decide +kernel
theorem dX8_smaller_104 : decode cX8_smaller 104 = .ok (.ifCond .eq 17, 3) := by decide +kernel
theorem dX8_smaller_107 : decode cX8_smaller 107 = .ok (.aload_n 0, 1) := by decide +kernel
theorem dX8_smaller_108 : decode cX8_smaller 108 = .ok (.getfield 215, 3) := by decide +kernel
theorem dX8_smaller_111 : decode cX8_smaller 111 = .ok (.sipush 200, 3) := by decide +kernel
theorem dX8_smaller_114 : decode cX8_smaller 114 = .ok (.if_icmp .ge 7, 3) := by decide +kernel
theorem dX8_smaller_117 : decode cX8_smaller 117 = .ok (.iconst 1, 1) := by decide +kernel
theorem dX8_smaller_118 : decode cX8_smaller 118 = .ok (.goto 4, 3) := by decide +kernel
theorem dX8_smaller_121 : decode cX8_smaller 121 = .ok (.iconst 0, 1) := by decide +kernel
theorem dX8_smaller_122 : decode cX8_smaller 122 = .ok (.putfield 221, 3) := by decide +kernel
theorem dX8_smaller_125 : decode cX8_smaller 125 = .ok (.iconst 0, 1) := by decide +kernel
theorem dX8_smaller_126 : decode cX8_smaller 126 = .ok (.istore_n 2, 1) := by decide +kernel
theorem dX8_smaller_127 : decode cX8_smaller 127 = .ok (.goto (-125), 3) := by decide +kernel
theorem dX8_smaller_130 : decode cX8_smaller 130 = .ok (.return_, 1) := by decide +kernel
theorem dX8_less_0 : decode cX8_less 0 = .ok (.iload_n 1, 1) := by decide +kernel
theorem dX8_less_1 : decode cX8_less 1 = .ok (.ifCond .ne 7, 3) := by decide +kernel
theorem dX8_less_4 : decode cX8_less 4 = .ok (.iconst 0, 1) := by decide +kernel
theorem dX8_less_5 : decode cX8_less 5 = .ok (.goto 27, 3) := by decide +kernel
theorem dX8_less_8 : decode cX8_less 8 = .ok (.iload_n 1, 1) := by decide +kernel
theorem dX8_less_9 : decode cX8_less 9 = .ok (.iconst 1, 1) := by decide +kernel
theorem dX8_less_10 : decode cX8_less 10 = .ok (.if_icmp .ne 9, 3) := by decide +kernel
theorem dX8_less_13 : decode cX8_less 13 = .ok (.iload_n 0, 1) := by decide +kernel
theorem dX8_less_14 : decode cX8_less 14 = .ok (.iconst 2, 1) := by decide +kernel
theorem dX8_less_15 : decode cX8_less 15 = .ok (.idiv, 1) := by decide +kernel
theorem dX8_less_16 : decode cX8_less 16 = .ok (.goto 16, 3) := by decide +kernel
theorem dX8_less_19 : decode cX8_less 19 = .ok (.iload_n 0, 1) := by decide +kernel
theorem dX8_less_20 : decode cX8_less 20 = .ok (.ifCond .le 9, 3) := by decide +kernel
theorem dX8_less_23 : decode cX8_less 23 = .ok (.iload_n 0, 1) := by decide +kernel
theorem dX8_less_24 : decode cX8_less 24 = .ok (.iconst 1, 1) := by decide +kernel
theorem dX8_less_25 : decode cX8_less 25 = .ok (.isub, 1) := by decide +kernel
theorem dX8_less_26 : decode cX8_less 26 = .ok (.goto 6, 3) := by decide +kernel
theorem dX8_less_29 : decode cX8_less 29 = .ok (.iload_n 0, 1) := by decide +kernel
theorem dX8_less_30 : decode cX8_less 30 = .ok (.iconst 1, 1) := by decide +kernel
theorem dX8_less_31 : decode cX8_less 31 = .ok (.iadd, 1) := by decide +kernel
theorem dX8_less_32 : decode cX8_less 32 = .ok (.ireturn, 1) := by decide +kernel
theorem dX8_candidate_0 : decode cX8_candidate 0 = .ok (.iload_n 1, 1) := by decide +kernel
theorem dX8_candidate_1 : decode cX8_candidate 1 = .ok (.istore_n 2, 1) := by decide +kernel
theorem dX8_candidate_2 : decode cX8_candidate 2 = .ok (.iconst 0, 1) := by decide +kernel
theorem dX8_candidate_3 : decode cX8_candidate 3 = .ok (.istore_n 3, 1) := by decide +kernel
theorem dX8_candidate_4 : decode cX8_candidate 4 = .ok (.iload_n 3, 1) := by decide +kernel
theorem dX8_candidate_5 : decode cX8_candidate 5 = .ok (.iconst 3, 1) := by decide +kernel
theorem dX8_candidate_6 : decode cX8_candidate 6 = .ok (.if_icmp .ge 174, 3) := by decide +kernel
theorem dX8_candidate_9 : decode cX8_candidate 9 = .ok (.aload_n 0, 1) := by decide +kernel
theorem dX8_candidate_10 : decode cX8_candidate 10 = .ok (.invokevirtual 246, 3) := by decide +kernel
theorem dX8_candidate_13 : decode cX8_candidate 13 = .ok (.aload_n 0, 1) := by decide +kernel
theorem dX8_candidate_14 : decode cX8_candidate 14 = .ok (.getfield 80, 3) := by decide +kernel
theorem dX8_candidate_17 : decode cX8_candidate 17 = .ok (.iload_n 3, 1) := by decide +kernel
theorem dX8_candidate_18 : decode cX8_candidate 18 = .ok (.iaload, 1) := by decide +kernel
theorem dX8_candidate_19 : decode cX8_candidate 19 = .ok (.ifCond .ne 41, 3) := by decide +kernel
theorem dX8_candidate_22 : decode cX8_candidate 22 = .ok (.aload_n 0, 1) := by decide +kernel
theorem dX8_candidate_23 : decode cX8_candidate 23 = .ok (.getfield 83, 3) := by decide +kernel
theorem dX8_candidate_26 : decode cX8_candidate 26 = .ok (.iload_n 3, 1) := by decide +kernel
theorem dX8_candidate_27 : decode cX8_candidate 27 = .ok (.iaload, 1) := by decide +kernel
theorem dX8_candidate_28 : decode cX8_candidate 28 = .ok (.ifCond .eq 32, 3) := by decide +kernel
theorem dX8_candidate_31 : decode cX8_candidate 31 = .ok (.iload_n 2, 1) := by decide +kernel
theorem dX8_candidate_32 : decode cX8_candidate 32 = .ok (.iconst 3, 1) := by decide +kernel
theorem dX8_candidate_33 : decode cX8_candidate 33 = .ok (.if_icmp .ge 21, 3) := by decide +kernel
theorem dX8_candidate_36 : decode cX8_candidate 36 = .ok (.aload_n 0, 1) := by decide +kernel
theorem dX8_candidate_37 : decode cX8_candidate 37 = .ok (.getfield 28, 3) := by decide +kernel
theorem dX8_candidate_40 : decode cX8_candidate 40 = .ok (.iload_n 3, 1) := by decide +kernel
theorem dX8_candidate_41 : decode cX8_candidate 41 = .ok (.aload_n 0, 1) := by decide +kernel
theorem dX8_candidate_42 : decode cX8_candidate 42 = .ok (.getfield 83, 3) := by decide +kernel
theorem dX8_candidate_45 : decode cX8_candidate 45 = .ok (.iload_n 3, 1) := by decide +kernel
theorem dX8_candidate_46 : decode cX8_candidate 46 = .ok (.iaload, 1) := by decide +kernel
theorem dX8_candidate_47 : decode cX8_candidate 47 = .ok (.iload_n 2, 1) := by decide +kernel
theorem dX8_candidate_48 : decode cX8_candidate 48 = .ok (.invokestatic 249, 3) := by decide +kernel
theorem dX8_candidate_51 : decode cX8_candidate 51 = .ok (.iastore, 1) := by decide +kernel
theorem dX8_candidate_52 : decode cX8_candidate 52 = .ok (.iconst 1, 1) := by decide +kernel
theorem dX8_candidate_53 : decode cX8_candidate 53 = .ok (.ireturn, 1) := by decide +kernel
theorem dX8_candidate_54 : decode cX8_candidate 54 = .ok (.iinc 2 (-3), 3) := by decide +kernel
theorem dX8_candidate_57 : decode cX8_candidate 57 = .ok (.goto 117, 3) := by decide +kernel
theorem dX8_candidate_60 : decode cX8_candidate 60 = .ok (.aload_n 0, 1) := by decide +kernel
theorem dX8_candidate_61 : decode cX8_candidate 61 = .ok (.getfield 80, 3) := by decide +kernel
theorem dX8_candidate_64 : decode cX8_candidate 64 = .ok (.iload_n 3, 1) := by decide +kernel
theorem dX8_candidate_65 : decode cX8_candidate 65 = .ok (.iaload, 1) := by decide +kernel
theorem dX8_candidate_66 : decode cX8_candidate 66 = .ok (.iconst 1, 1) := by decide +kernel
theorem dX8_candidate_67 : decode cX8_candidate 67 = .ok (.if_icmp .ne 107, 3) := by decide +kernel
theorem dX8_candidate_70 : decode cX8_candidate 70 = .ok (.iload_n 2, 1) := by decide +kernel
theorem dX8_candidate_71 : decode cX8_candidate 71 = .ok (.aload_n 0, 1) := by decide +kernel
theorem dX8_candidate_72 : decode cX8_candidate 72 = .ok (.getfield 83, 3) := by decide +kernel
theorem dX8_candidate_75 : decode cX8_candidate 75 = .ok (.iload_n 3, 1) := by decide +kernel
theorem dX8_candidate_76 : decode cX8_candidate 76 = .ok (.iaload, 1) := by decide +kernel
theorem dX8_candidate_77 : decode cX8_candidate 77 = .ok (.if_icmp .ge 11, 3) := by decide +kernel
theorem dX8_candidate_80 : decode cX8_candidate 80 = .ok (.aload_n 0, 1) := by decide +kernel
theorem dX8_candidate_81 : decode cX8_candidate 81 = .ok (.iload_n 3, 1) := by decide +kernel
theorem dX8_candidate_82 : decode cX8_candidate 82 = .ok (.iload_n 2, 1) := by decide +kernel
theorem dX8_candidate_83 : decode cX8_candidate 83 = .ok (.invokevirtual 252, 3) := by decide +kernel
theorem dX8_candidate_86 : decode cX8_candidate 86 = .ok (.iconst 1, 1) := by decide +kernel
theorem dX8_candidate_87 : decode cX8_candidate 87 = .ok (.ireturn, 1) := by decide +kernel
theorem dX8_candidate_88 : decode cX8_candidate 88 = .ok (.iload_n 2, 1) := by decide +kernel
theorem dX8_candidate_89 : decode cX8_candidate 89 = .ok (.aload_n 0, 1) := by decide +kernel
theorem dX8_candidate_90 : decode cX8_candidate 90 = .ok (.getfield 83, 3) := by decide +kernel
theorem dX8_candidate_93 : decode cX8_candidate 93 = .ok (.iload_n 3, 1) := by decide +kernel
theorem dX8_candidate_94 : decode cX8_candidate 94 = .ok (.iaload, 1) := by decide +kernel
theorem dX8_candidate_95 : decode cX8_candidate 95 = .ok (.isub, 1) := by decide +kernel
theorem dX8_candidate_96 : decode cX8_candidate 96 = .ok (.istore_n 2, 1) := by decide +kernel
theorem dX8_candidate_97 : decode cX8_candidate 97 = .ok (.iconst 0, 1) := by decide +kernel
theorem dX8_candidate_98 : decode cX8_candidate 98 = .ok (.istore 4, 2) := by decide +kernel
theorem dX8_candidate_100 : decode cX8_candidate 100 = .ok (.iload 4, 2) := by decide +kernel
theorem dX8_candidate_102 : decode cX8_candidate 102 = .ok (.aload_n 0, 1) := by decide +kernel
theorem dX8_candidate_103 : decode cX8_candidate 103 = .ok (.getfield 83, 3) := by decide +kernel
theorem dX8_candidate_106 : decode cX8_candidate 106 = .ok (.iload_n 3, 1) := by decide +kernel
theorem dX8_candidate_107 : decode cX8_candidate 107 = .ok (.iaload, 1) := by decide +kernel
theorem dX8_candidate_108 : decode cX8_candidate 108 = .ok (.if_icmp .ge 66, 3) := by decide +kernel
theorem dX8_candidate_111 : decode cX8_candidate 111 = .ok (.aload_n 0, 1) := by decide +kernel
theorem dX8_candidate_112 : decode cX8_candidate 112 = .ok (.getfield 86, 3) := by decide +kernel
theorem dX8_candidate_115 : decode cX8_candidate 115 = .ok (.bipush 16, 2) := by decide +kernel
theorem dX8_candidate_117 : decode cX8_candidate 117 = .ok (.iload_n 3, 1) := by decide +kernel
theorem dX8_candidate_118 : decode cX8_candidate 118 = .ok (.imul, 1) := by decide +kernel
theorem dX8_candidate_119 : decode cX8_candidate 119 = .ok (.iload 4, 2) := by decide +kernel
theorem dX8_candidate_121 : decode cX8_candidate 121 = .ok (.iadd, 1) := by decide +kernel
theorem dX8_candidate_122 : decode cX8_candidate 122 = .ok (.iaload, 1) := by decide +kernel
theorem dX8_candidate_123 : decode cX8_candidate 123 = .ok (.istore 5, 2) := by decide +kernel
theorem dX8_candidate_125 : decode cX8_candidate 125 = .ok (.iload 5, 2) := by decide +kernel
theorem dX8_candidate_127 : decode cX8_candidate 127 = .ok (.ifCond .eq 28, 3) := by decide +kernel
theorem dX8_candidate_130 : decode cX8_candidate 130 = .ok (.iload_n 2, 1) := by decide +kernel
theorem dX8_candidate_131 : decode cX8_candidate 131 = .ok (.iconst 3, 1) := by decide +kernel
theorem dX8_candidate_132 : decode cX8_candidate 132 = .ok (.if_icmp .ge 23, 3) := by decide +kernel
theorem dX8_candidate_135 : decode cX8_candidate 135 = .ok (.aload_n 0, 1) := by decide +kernel
theorem dX8_candidate_136 : decode cX8_candidate 136 = .ok (.getfield 31, 3) := by decide +kernel
theorem dX8_candidate_139 : decode cX8_candidate 139 = .ok (.bipush 16, 2) := by decide +kernel
theorem dX8_candidate_141 : decode cX8_candidate 141 = .ok (.iload_n 3, 1) := by decide +kernel
theorem dX8_candidate_142 : decode cX8_candidate 142 = .ok (.imul, 1) := by decide +kernel
theorem dX8_candidate_143 : decode cX8_candidate 143 = .ok (.iload 4, 2) := by decide +kernel
theorem dX8_candidate_145 : decode cX8_candidate 145 = .ok (.iadd, 1) := by decide +kernel
theorem dX8_candidate_146 : decode cX8_candidate 146 = .ok (.iload 5, 2) := by decide +kernel
theorem dX8_candidate_148 : decode cX8_candidate 148 = .ok (.iload_n 2, 1) := by decide +kernel
theorem dX8_candidate_149 : decode cX8_candidate 149 = .ok (.invokestatic 249, 3) := by decide +kernel
theorem dX8_candidate_152 : decode cX8_candidate 152 = .ok (.iastore, 1) := by decide +kernel
theorem dX8_candidate_153 : decode cX8_candidate 153 = .ok (.iconst 1, 1) := by decide +kernel
theorem dX8_candidate_154 : decode cX8_candidate 154 = .ok (.ireturn, 1) := by decide +kernel
theorem dX8_candidate_155 : decode cX8_candidate 155 = .ok (.iload_n 2, 1) := by decide +kernel
theorem dX8_candidate_156 : decode cX8_candidate 156 = .ok (.iload 5, 2) := by decide +kernel
theorem dX8_candidate_158 : decode cX8_candidate 158 = .ok (.ifCond .eq 7, 3) := by decide +kernel
theorem dX8_candidate_161 : decode cX8_candidate 161 = .ok (.iconst 3, 1) := by decide +kernel
theorem dX8_candidate_162 : decode cX8_candidate 162 = .ok (.goto 4, 3) := by decide +kernel
theorem dX8_candidate_165 : decode cX8_candidate 165 = .ok (.iconst 0, 1) := by decide +kernel
theorem dX8_candidate_166 : decode cX8_candidate 166 = .ok (.isub, 1) := by decide +kernel
theorem dX8_candidate_167 : decode cX8_candidate 167 = .ok (.istore_n 2, 1) := by decide +kernel
theorem dX8_candidate_168 : decode cX8_candidate 168 = .ok (.iinc 4 1, 3) := by decide +kernel
theorem dX8_candidate_171 : decode cX8_candidate 171 = .ok (.goto (-71), 3) := by decide +kernel
theorem dX8_candidate_174 : decode cX8_candidate 174 = .ok (.iinc 3 1, 3) := by decide +kernel
theorem dX8_candidate_177 : decode cX8_candidate 177 = .ok (.goto (-173), 3) := by decide +kernel
theorem dX8_candidate_180 : decode cX8_candidate 180 = .ok (.iconst 0, 1) := by decide +kernel
theorem dX8_candidate_181 : decode cX8_candidate 181 = .ok (.ireturn, 1) := by decide +kernel
theorem dX8_without_0 : decode cX8_without 0 = .ok (.iload_n 2, 1) := by decide +kernel
theorem dX8_without_1 : decode cX8_without 1 = .ok (.istore_n 3, 1) := by decide +kernel
theorem dX8_without_2 : decode cX8_without 2 = .ok (.iload_n 3, 1) := by decide +kernel
theorem dX8_without_3 : decode cX8_without 3 = .ok (.iconst 1, 1) := by decide +kernel
theorem dX8_without_4 : decode cX8_without 4 = .ok (.iadd, 1) := by decide +kernel
theorem dX8_without_5 : decode cX8_without 5 = .ok (.aload_n 0, 1) := by decide +kernel
theorem dX8_without_6 : decode cX8_without 6 = .ok (.getfield 83, 3) := by decide +kernel
theorem dX8_without_9 : decode cX8_without 9 = .ok (.iload_n 1, 1) := by decide +kernel
theorem dX8_without_10 : decode cX8_without 10 = .ok (.iaload, 1) := by decide +kernel
theorem dX8_without_11 : decode cX8_without 11 = .ok (.if_icmp .ge 33, 3) := by decide +kernel
theorem dX8_without_14 : decode cX8_without 14 = .ok (.aload_n 0, 1) := by decide +kernel
theorem dX8_without_15 : decode cX8_without 15 = .ok (.getfield 31, 3) := by decide +kernel
theorem dX8_without_18 : decode cX8_without 18 = .ok (.bipush 16, 2) := by decide +kernel
theorem dX8_without_20 : decode cX8_without 20 = .ok (.iload_n 1, 1) := by decide +kernel
theorem dX8_without_21 : decode cX8_without 21 = .ok (.imul, 1) := by decide +kernel
theorem dX8_without_22 : decode cX8_without 22 = .ok (.iload_n 3, 1) := by decide +kernel
theorem dX8_without_23 : decode cX8_without 23 = .ok (.iadd, 1) := by decide +kernel
theorem dX8_without_24 : decode cX8_without 24 = .ok (.aload_n 0, 1) := by decide +kernel
theorem dX8_without_25 : decode cX8_without 25 = .ok (.getfield 86, 3) := by decide +kernel
theorem dX8_without_28 : decode cX8_without 28 = .ok (.bipush 16, 2) := by decide +kernel
theorem dX8_without_30 : decode cX8_without 30 = .ok (.iload_n 1, 1) := by decide +kernel
theorem dX8_without_31 : decode cX8_without 31 = .ok (.imul, 1) := by decide +kernel
theorem dX8_without_32 : decode cX8_without 32 = .ok (.iload_n 3, 1) := by decide +kernel
theorem dX8_without_33 : decode cX8_without 33 = .ok (.iadd, 1) := by decide +kernel
theorem dX8_without_34 : decode cX8_without 34 = .ok (.iconst 1, 1) := by decide +kernel
theorem dX8_without_35 : decode cX8_without 35 = .ok (.iadd, 1) := by decide +kernel
theorem dX8_without_36 : decode cX8_without 36 = .ok (.iaload, 1) := by decide +kernel
theorem dX8_without_37 : decode cX8_without 37 = .ok (.iastore, 1) := by decide +kernel
theorem dX8_without_38 : decode cX8_without 38 = .ok (.iinc 3 1, 3) := by decide +kernel
theorem dX8_without_41 : decode cX8_without 41 = .ok (.goto (-39), 3) := by decide +kernel
theorem dX8_without_44 : decode cX8_without 44 = .ok (.aload_n 0, 1) := by decide +kernel
theorem dX8_without_45 : decode cX8_without 45 = .ok (.getfield 28, 3) := by decide +kernel
theorem dX8_without_48 : decode cX8_without 48 = .ok (.iload_n 1, 1) := by decide +kernel
theorem dX8_without_49 : decode cX8_without 49 = .ok (.aload_n 0, 1) := by decide +kernel
theorem dX8_without_50 : decode cX8_without 50 = .ok (.getfield 83, 3) := by decide +kernel
theorem dX8_without_53 : decode cX8_without 53 = .ok (.iload_n 1, 1) := by decide +kernel
theorem dX8_without_54 : decode cX8_without 54 = .ok (.iaload, 1) := by decide +kernel
theorem dX8_without_55 : decode cX8_without 55 = .ok (.iconst 1, 1) := by decide +kernel
theorem dX8_without_56 : decode cX8_without 56 = .ok (.isub, 1) := by decide +kernel
theorem dX8_without_57 : decode cX8_without 57 = .ok (.iastore, 1) := by decide +kernel
theorem dX8_without_58 : decode cX8_without 58 = .ok (.return_, 1) := by decide +kernel
theorem dX8_power_0 : decode cX8_power 0 = .ok (.iconst 1, 1) := by decide +kernel
theorem dX8_power_1 : decode cX8_power 1 = .ok (.istore_n 2, 1) := by decide +kernel
theorem dX8_power_2 : decode cX8_power 2 = .ok (.iconst 0, 1) := by decide +kernel
theorem dX8_power_3 : decode cX8_power 3 = .ok (.istore_n 3, 1) := by decide +kernel
theorem dX8_power_4 : decode cX8_power 4 = .ok (.iload_n 3, 1) := by decide +kernel
theorem dX8_power_5 : decode cX8_power 5 = .ok (.iload_n 1, 1) := by decide +kernel
theorem dX8_power_6 : decode cX8_power 6 = .ok (.if_icmp .ge 13, 3) := by decide +kernel
theorem dX8_power_9 : decode cX8_power 9 = .ok (.iload_n 2, 1) := by decide +kernel
theorem dX8_power_10 : decode cX8_power 10 = .ok (.iload_n 0, 1) := by decide +kernel
theorem dX8_power_11 : decode cX8_power 11 = .ok (.imul, 1) := by decide +kernel
theorem dX8_power_12 : decode cX8_power 12 = .ok (.istore_n 2, 1) := by decide +kernel
theorem dX8_power_13 : decode cX8_power 13 = .ok (.iinc 3 1, 3) := by decide +kernel
theorem dX8_power_16 : decode cX8_power 16 = .ok (.goto (-12), 3) := by decide +kernel
theorem dX8_power_19 : decode cX8_power 19 = .ok (.iload_n 2, 1) := by decide +kernel
theorem dX8_power_20 : decode cX8_power 20 = .ok (.ireturn, 1) := by decide +kernel
theorem dX8_sort_0 : decode cX8_sort 0 = .ok (.iload_n 0, 1) := by decide +kernel
theorem dX8_sort_1 : decode cX8_sort 1 = .ok (.ifCond .ge 5, 3) := by decide +kernel
theorem dX8_sort_4 : decode cX8_sort 4 = .ok (.iconst 1, 1) := by decide +kernel
theorem dX8_sort_5 : decode cX8_sort 5 = .ok (.ireturn, 1) := by decide +kernel
theorem dX8_sort_6 : decode cX8_sort 6 = .ok (.iload_n 0, 1) := by decide +kernel
theorem dX8_sort_7 : decode cX8_sort 7 = .ok (.ifCond .ne 9, 3) := by decide +kernel
theorem dX8_sort_10 : decode cX8_sort 10 = .ok (.iconst 2, 1) := by decide +kernel
theorem dX8_sort_11 : decode cX8_sort 11 = .ok (.iload_n 1, 1) := by decide +kernel
theorem dX8_sort_12 : decode cX8_sort 12 = .ok (.imul, 1) := by decide +kernel
theorem dX8_sort_13 : decode cX8_sort 13 = .ok (.iconst 1, 1) := by decide +kernel
theorem dX8_sort_14 : decode cX8_sort 14 = .ok (.iadd, 1) := by decide +kernel
theorem dX8_sort_15 : decode cX8_sort 15 = .ok (.ireturn, 1) := by decide +kernel
theorem dX8_sort_16 : decode cX8_sort 16 = .ok (.iconst 0, 1) := by decide +kernel
theorem dX8_sort_17 : decode cX8_sort 17 = .ok (.istore_n 2, 1) := by decide +kernel
theorem dX8_sort_18 : decode cX8_sort 18 = .ok (.iconst 0, 1) := by decide +kernel
theorem dX8_sort_19 : decode cX8_sort 19 = .ok (.istore_n 3, 1) := by decide +kernel
theorem dX8_sort_20 : decode cX8_sort 20 = .ok (.iload_n 3, 1) := by decide +kernel
theorem dX8_sort_21 : decode cX8_sort 21 = .ok (.iload_n 1, 1) := by decide +kernel
theorem dX8_sort_22 : decode cX8_sort 22 = .ok (.if_icmp .gt 21, 3) := by decide +kernel
theorem dX8_sort_25 : decode cX8_sort 25 = .ok (.iload_n 2, 1) := by decide +kernel
theorem dX8_sort_26 : decode cX8_sort 26 = .ok (.iconst 2, 1) := by decide +kernel
theorem dX8_sort_27 : decode cX8_sort 27 = .ok (.iload_n 1, 1) := by decide +kernel
theorem dX8_sort_28 : decode cX8_sort 28 = .ok (.imul, 1) := by decide +kernel
theorem dX8_sort_29 : decode cX8_sort 29 = .ok (.iconst 1, 1) := by decide +kernel
theorem dX8_sort_30 : decode cX8_sort 30 = .ok (.iadd, 1) := by decide +kernel
theorem dX8_sort_31 : decode cX8_sort 31 = .ok (.iload_n 3, 1) := by decide +kernel
theorem dX8_sort_32 : decode cX8_sort 32 = .ok (.invokestatic 255, 3) := by decide +kernel
theorem dX8_sort_35 : decode cX8_sort 35 = .ok (.iadd, 1) := by decide +kernel
theorem dX8_sort_36 : decode cX8_sort 36 = .ok (.istore_n 2, 1) := by decide +kernel
theorem dX8_sort_37 : decode cX8_sort 37 = .ok (.iinc 3 1, 3) := by decide +kernel
theorem dX8_sort_40 : decode cX8_sort 40 = .ok (.goto (-20), 3) := by decide +kernel
theorem dX8_sort_43 : decode cX8_sort 43 = .ok (.iload_n 2, 1) := by decide +kernel
theorem dX8_sort_44 : decode cX8_sort 44 = .ok (.ireturn, 1) := by decide +kernel
theorem dX8_all_0 : decode cX8_all 0 = .ok (.aload_n 0, 1) := by decide +kernel
theorem dX8_all_1 : decode cX8_all 1 = .ok (.getfield 55, 3) := by decide +kernel
theorem dX8_all_4 : decode cX8_all 4 = .ok (.iconst 3, 1) := by decide +kernel
theorem dX8_all_5 : decode cX8_all 5 = .ok (.iload_n 1, 1) := by decide +kernel
theorem dX8_all_6 : decode cX8_all 6 = .ok (.imul, 1) := by decide +kernel
theorem dX8_all_7 : decode cX8_all 7 = .ok (.iaload, 1) := by decide +kernel
theorem dX8_all_8 : decode cX8_all 8 = .ok (.iload_n 2, 1) := by decide +kernel
theorem dX8_all_9 : decode cX8_all 9 = .ok (.invokestatic 258, 3) := by decide +kernel
theorem dX8_all_12 : decode cX8_all 12 = .ok (.aload_n 0, 1) := by decide +kernel
theorem dX8_all_13 : decode cX8_all 13 = .ok (.getfield 55, 3) := by decide +kernel
theorem dX8_all_16 : decode cX8_all 16 = .ok (.iconst 3, 1) := by decide +kernel
theorem dX8_all_17 : decode cX8_all 17 = .ok (.iload_n 1, 1) := by decide +kernel
theorem dX8_all_18 : decode cX8_all 18 = .ok (.imul, 1) := by decide +kernel
theorem dX8_all_19 : decode cX8_all 19 = .ok (.iconst 1, 1) := by decide +kernel
theorem dX8_all_20 : decode cX8_all 20 = .ok (.iadd, 1) := by decide +kernel
theorem dX8_all_21 : decode cX8_all 21 = .ok (.iaload, 1) := by decide +kernel
theorem dX8_all_22 : decode cX8_all 22 = .ok (.iload_n 2, 1) := by decide +kernel
theorem dX8_all_23 : decode cX8_all 23 = .ok (.invokestatic 258, 3) := by decide +kernel
theorem dX8_all_26 : decode cX8_all 26 = .ok (.imul, 1) := by decide +kernel
theorem dX8_all_27 : decode cX8_all 27 = .ok (.aload_n 0, 1) := by decide +kernel
theorem dX8_all_28 : decode cX8_all 28 = .ok (.getfield 55, 3) := by decide +kernel
theorem dX8_all_31 : decode cX8_all 31 = .ok (.iconst 3, 1) := by decide +kernel
theorem dX8_all_32 : decode cX8_all 32 = .ok (.iload_n 1, 1) := by decide +kernel
theorem dX8_all_33 : decode cX8_all 33 = .ok (.imul, 1) := by decide +kernel
theorem dX8_all_34 : decode cX8_all 34 = .ok (.iconst 2, 1) := by decide +kernel
theorem dX8_all_35 : decode cX8_all 35 = .ok (.iadd, 1) := by decide +kernel
theorem dX8_all_36 : decode cX8_all 36 = .ok (.iaload, 1) := by decide +kernel
theorem dX8_all_37 : decode cX8_all 37 = .ok (.iload_n 2, 1) := by decide +kernel
theorem dX8_all_38 : decode cX8_all 38 = .ok (.invokestatic 258, 3) := by decide +kernel
theorem dX8_all_41 : decode cX8_all 41 = .ok (.imul, 1) := by decide +kernel
theorem dX8_all_42 : decode cX8_all 42 = .ok (.ireturn, 1) := by decide +kernel
theorem dX8_many_0 : decode cX8_many 0 = .ok (.aload_n 0, 1) := by decide +kernel
theorem dX8_many_1 : decode cX8_many 1 = .ok (.iload_n 1, 1) := by decide +kernel
theorem dX8_many_2 : decode cX8_many 2 = .ok (.invokevirtual 231, 3) := by decide +kernel
theorem dX8_many_5 : decode cX8_many 5 = .ok (.ifCond .eq 12, 3) := by decide +kernel
theorem dX8_many_8 : decode cX8_many 8 = .ok (.iload_n 2, 1) := by decide +kernel
theorem dX8_many_9 : decode cX8_many 9 = .ok (.iconst 0, 1) := by decide +kernel
theorem dX8_many_10 : decode cX8_many 10 = .ok (.iconst 3, 1) := by decide +kernel
theorem dX8_many_11 : decode cX8_many 11 = .ok (.invokestatic 95, 3) := by decide +kernel
theorem dX8_many_14 : decode cX8_many 14 = .ok (.ifCond .ne 5, 3) := by decide +kernel
theorem dX8_many_17 : decode cX8_many 17 = .ok (.iconst (-1), 1) := by decide +kernel
theorem dX8_many_18 : decode cX8_many 18 = .ok (.ireturn, 1) := by decide +kernel
theorem dX8_many_19 : decode cX8_many 19 = .ok (.aload_n 0, 1) := by decide +kernel
theorem dX8_many_20 : decode cX8_many 20 = .ok (.iload_n 1, 1) := by decide +kernel
theorem dX8_many_21 : decode cX8_many 21 = .ok (.iload_n 2, 1) := by decide +kernel
theorem dX8_many_22 : decode cX8_many 22 = .ok (.invokevirtual 261, 3) := by decide +kernel
theorem dX8_many_25 : decode cX8_many 25 = .ok (.istore_n 3, 1) := by decide +kernel
theorem dX8_many_26 : decode cX8_many 26 = .ok (.iload_n 3, 1) := by decide +kernel
theorem dX8_many_27 : decode cX8_many 27 = .ok (.sipush 3000, 3) := by decide +kernel
theorem dX8_many_30 : decode cX8_many 30 = .ok (.if_icmp .le 8, 3) := by decide +kernel
theorem dX8_many_33 : decode cX8_many 33 = .ok (.bipush (-2), 2) := by decide +kernel
theorem dX8_many_35 : decode cX8_many 35 = .ok (.goto 4, 3) := by decide +kernel
theorem dX8_many_38 : decode cX8_many 38 = .ok (.iload_n 3, 1) := by decide +kernel
theorem dX8_many_39 : decode cX8_many 39 = .ok (.ireturn, 1) := by decide +kernel
theorem dX8_ranked_0 : decode cX8_ranked 0 = .ok (.iload_n 0, 1) := by decide +kernel
theorem dX8_ranked_1 : decode cX8_ranked 1 = .ok (.iconst 2, 1) := by decide +kernel
theorem dX8_ranked_2 : decode cX8_ranked 2 = .ok (.irem, 1) := by decide +kernel
theorem dX8_ranked_3 : decode cX8_ranked 3 = .ok (.iconst 1, 1) := by decide +kernel
theorem dX8_ranked_4 : decode cX8_ranked 4 = .ok (.if_icmp .ne 11, 3) := by decide +kernel
theorem dX8_ranked_7 : decode cX8_ranked 7 = .ok (.iload_n 0, 1) := by decide +kernel
theorem dX8_ranked_8 : decode cX8_ranked 8 = .ok (.iconst 1, 1) := by decide +kernel
theorem dX8_ranked_9 : decode cX8_ranked 9 = .ok (.iadd, 1) := by decide +kernel
theorem dX8_ranked_10 : decode cX8_ranked 10 = .ok (.iconst 2, 1) := by decide +kernel
theorem dX8_ranked_11 : decode cX8_ranked 11 = .ok (.idiv, 1) := by decide +kernel
theorem dX8_ranked_12 : decode cX8_ranked 12 = .ok (.goto 7, 3) := by decide +kernel
theorem dX8_ranked_15 : decode cX8_ranked 15 = .ok (.iload_n 0, 1) := by decide +kernel
theorem dX8_ranked_16 : decode cX8_ranked 16 = .ok (.iconst 2, 1) := by decide +kernel
theorem dX8_ranked_17 : decode cX8_ranked 17 = .ok (.idiv, 1) := by decide +kernel
theorem dX8_ranked_18 : decode cX8_ranked 18 = .ok (.ineg, 1) := by decide +kernel
theorem dX8_ranked_19 : decode cX8_ranked 19 = .ok (.ireturn, 1) := by decide +kernel
theorem dX8_takeSmall_0 : decode cX8_takeSmall 0 = .ok (.iload_n 2, 1) := by decide +kernel
theorem dX8_takeSmall_1 : decode cX8_takeSmall 1 = .ok (.ifCond .ne 15, 3) := by decide +kernel
theorem dX8_takeSmall_4 : decode cX8_takeSmall 4 = .ok (.aload_n 0, 1) := by decide +kernel
theorem dX8_takeSmall_5 : decode cX8_takeSmall 5 = .ok (.getfield 28, 3) := by decide +kernel
theorem dX8_takeSmall_8 : decode cX8_takeSmall 8 = .ok (.iload_n 1, 1) := by decide +kernel
theorem dX8_takeSmall_9 : decode cX8_takeSmall 9 = .ok (.iload 4, 2) := by decide +kernel
theorem dX8_takeSmall_11 : decode cX8_takeSmall 11 = .ok (.invokestatic 264, 3) := by decide +kernel
theorem dX8_takeSmall_14 : decode cX8_takeSmall 14 = .ok (.iastore, 1) := by decide +kernel
theorem dX8_takeSmall_15 : decode cX8_takeSmall 15 = .ok (.return_, 1) := by decide +kernel
theorem dX8_takeSmall_16 : decode cX8_takeSmall 16 = .ok (.iconst 2, 1) := by decide +kernel
theorem dX8_takeSmall_17 : decode cX8_takeSmall 17 = .ok (.iload_n 3, 1) := by decide +kernel
theorem dX8_takeSmall_18 : decode cX8_takeSmall 18 = .ok (.imul, 1) := by decide +kernel
theorem dX8_takeSmall_19 : decode cX8_takeSmall 19 = .ok (.iconst 1, 1) := by decide +kernel
theorem dX8_takeSmall_20 : decode cX8_takeSmall 20 = .ok (.iadd, 1) := by decide +kernel
theorem dX8_takeSmall_21 : decode cX8_takeSmall 21 = .ok (.istore 5, 2) := by decide +kernel
theorem dX8_takeSmall_23 : decode cX8_takeSmall 23 = .ok (.iload 4, 2) := by decide +kernel
theorem dX8_takeSmall_25 : decode cX8_takeSmall 25 = .ok (.istore 6, 2) := by decide +kernel
theorem dX8_takeSmall_27 : decode cX8_takeSmall 27 = .ok (.iconst 0, 1) := by decide +kernel
theorem dX8_takeSmall_28 : decode cX8_takeSmall 28 = .ok (.istore 7, 2) := by decide +kernel
theorem dX8_takeSmall_30 : decode cX8_takeSmall 30 = .ok (.iload 6, 2) := by decide +kernel
theorem dX8_takeSmall_32 : decode cX8_takeSmall 32 = .ok (.iload 5, 2) := by decide +kernel
theorem dX8_takeSmall_34 : decode cX8_takeSmall 34 = .ok (.iload 7, 2) := by decide +kernel
theorem dX8_takeSmall_36 : decode cX8_takeSmall 36 = .ok (.invokestatic 255, 3) := by decide +kernel
theorem dX8_takeSmall_39 : decode cX8_takeSmall 39 = .ok (.if_icmp .lt 21, 3) := by decide +kernel
theorem dX8_takeSmall_42 : decode cX8_takeSmall 42 = .ok (.iload 6, 2) := by decide +kernel
theorem dX8_takeSmall_44 : decode cX8_takeSmall 44 = .ok (.iload 5, 2) := by decide +kernel
theorem dX8_takeSmall_46 : decode cX8_takeSmall 46 = .ok (.iload 7, 2) := by decide +kernel
theorem dX8_takeSmall_48 : decode cX8_takeSmall 48 = .ok (.invokestatic 255, 3) := by decide +kernel
theorem dX8_takeSmall_51 : decode cX8_takeSmall 51 = .ok (.isub, 1) := by decide +kernel
theorem dX8_takeSmall_52 : decode cX8_takeSmall 52 = .ok (.istore 6, 2) := by decide +kernel
theorem dX8_takeSmall_54 : decode cX8_takeSmall 54 = .ok (.iinc 7 1, 3) := by decide +kernel
theorem dX8_takeSmall_57 : decode cX8_takeSmall 57 = .ok (.goto (-27), 3) := by decide +kernel
theorem dX8_takeSmall_60 : decode cX8_takeSmall 60 = .ok (.aload_n 0, 1) := by decide +kernel
theorem dX8_takeSmall_61 : decode cX8_takeSmall 61 = .ok (.getfield 28, 3) := by decide +kernel
theorem dX8_takeSmall_64 : decode cX8_takeSmall 64 = .ok (.iload_n 1, 1) := by decide +kernel
theorem dX8_takeSmall_65 : decode cX8_takeSmall 65 = .ok (.iload 7, 2) := by decide +kernel
theorem dX8_takeSmall_67 : decode cX8_takeSmall 67 = .ok (.iastore, 1) := by decide +kernel
theorem dX8_takeSmall_68 : decode cX8_takeSmall 68 = .ok (.iload 7, 2) := by decide +kernel
theorem dX8_takeSmall_70 : decode cX8_takeSmall 70 = .ok (.iconst 1, 1) := by decide +kernel
theorem dX8_takeSmall_71 : decode cX8_takeSmall 71 = .ok (.isub, 1) := by decide +kernel
theorem dX8_takeSmall_72 : decode cX8_takeSmall 72 = .ok (.istore 8, 2) := by decide +kernel
theorem dX8_takeSmall_74 : decode cX8_takeSmall 74 = .ok (.iload 8, 2) := by decide +kernel
theorem dX8_takeSmall_76 : decode cX8_takeSmall 76 = .ok (.ifCond .lt 36, 3) := by decide +kernel
theorem dX8_takeSmall_79 : decode cX8_takeSmall 79 = .ok (.aload_n 0, 1) := by decide +kernel
theorem dX8_takeSmall_80 : decode cX8_takeSmall 80 = .ok (.getfield 31, 3) := by decide +kernel
theorem dX8_takeSmall_83 : decode cX8_takeSmall 83 = .ok (.bipush 16, 2) := by decide +kernel
theorem dX8_takeSmall_85 : decode cX8_takeSmall 85 = .ok (.iload_n 1, 1) := by decide +kernel
theorem dX8_takeSmall_86 : decode cX8_takeSmall 86 = .ok (.imul, 1) := by decide +kernel
theorem dX8_takeSmall_87 : decode cX8_takeSmall 87 = .ok (.iload 8, 2) := by decide +kernel
theorem dX8_takeSmall_89 : decode cX8_takeSmall 89 = .ok (.iadd, 1) := by decide +kernel
theorem dX8_takeSmall_90 : decode cX8_takeSmall 90 = .ok (.iload 6, 2) := by decide +kernel
theorem dX8_takeSmall_92 : decode cX8_takeSmall 92 = .ok (.iload 5, 2) := by decide +kernel
theorem dX8_takeSmall_94 : decode cX8_takeSmall 94 = .ok (.irem, 1) := by decide +kernel
theorem dX8_takeSmall_95 : decode cX8_takeSmall 95 = .ok (.invokestatic 264, 3) := by decide +kernel
theorem dX8_takeSmall_98 : decode cX8_takeSmall 98 = .ok (.iastore, 1) := by decide +kernel
theorem dX8_takeSmall_99 : decode cX8_takeSmall 99 = .ok (.iload 6, 2) := by decide +kernel
theorem dX8_takeSmall_101 : decode cX8_takeSmall 101 = .ok (.iload 5, 2) := by decide +kernel
theorem dX8_takeSmall_103 : decode cX8_takeSmall 103 = .ok (.idiv, 1) := by decide +kernel
theorem dX8_takeSmall_104 : decode cX8_takeSmall 104 = .ok (.istore 6, 2) := by decide +kernel
theorem dX8_takeSmall_106 : decode cX8_takeSmall 106 = .ok (.iinc 8 (-1), 3) := by decide +kernel
theorem dX8_takeSmall_109 : decode cX8_takeSmall 109 = .ok (.goto (-35), 3) := by decide +kernel
theorem dX8_takeSmall_112 : decode cX8_takeSmall 112 = .ok (.return_, 1) := by decide +kernel
theorem dX8_small_0 : decode cX8_small 0 = .ok (.aload_n 0, 1) := by decide +kernel
theorem dX8_small_1 : decode cX8_small 1 = .ok (.iload_n 1, 1) := by decide +kernel
theorem dX8_small_2 : decode cX8_small 2 = .ok (.invokevirtual 231, 3) := by decide +kernel
theorem dX8_small_5 : decode cX8_small 5 = .ok (.ifCond .eq 12, 3) := by decide +kernel
theorem dX8_small_8 : decode cX8_small 8 = .ok (.iload_n 2, 1) := by decide +kernel
theorem dX8_small_9 : decode cX8_small 9 = .ok (.iconst 0, 1) := by decide +kernel
theorem dX8_small_10 : decode cX8_small 10 = .ok (.iconst 3, 1) := by decide +kernel
theorem dX8_small_11 : decode cX8_small 11 = .ok (.invokestatic 95, 3) := by decide +kernel
theorem dX8_small_14 : decode cX8_small 14 = .ok (.ifCond .ne 5, 3) := by decide +kernel
theorem dX8_small_17 : decode cX8_small 17 = .ok (.iconst (-1), 1) := by decide +kernel
theorem dX8_small_18 : decode cX8_small 18 = .ok (.ireturn, 1) := by decide +kernel
theorem dX8_small_19 : decode cX8_small 19 = .ok (.aload_n 0, 1) := by decide +kernel
theorem dX8_small_20 : decode cX8_small 20 = .ok (.iload_n 1, 1) := by decide +kernel
theorem dX8_small_21 : decode cX8_small 21 = .ok (.iload_n 2, 1) := by decide +kernel
theorem dX8_small_22 : decode cX8_small 22 = .ok (.invokevirtual 261, 3) := by decide +kernel
theorem dX8_small_25 : decode cX8_small 25 = .ok (.istore_n 3, 1) := by decide +kernel
theorem dX8_small_26 : decode cX8_small 26 = .ok (.iload_n 3, 1) := by decide +kernel
theorem dX8_small_27 : decode cX8_small 27 = .ok (.sipush 3000, 3) := by decide +kernel
theorem dX8_small_30 : decode cX8_small 30 = .ok (.if_icmp .gt 15, 3) := by decide +kernel
theorem dX8_small_33 : decode cX8_small 33 = .ok (.aload_n 0, 1) := by decide +kernel
theorem dX8_small_34 : decode cX8_small 34 = .ok (.getfield 178, 3) := by decide +kernel
theorem dX8_small_37 : decode cX8_small 37 = .ok (.iload_n 3, 1) := by decide +kernel
theorem dX8_small_38 : decode cX8_small 38 = .ok (.iadd, 1) := by decide +kernel
theorem dX8_small_39 : decode cX8_small 39 = .ok (.sipush 3000, 3) := by decide +kernel
theorem dX8_small_42 : decode cX8_small 42 = .ok (.if_icmp .le 6, 3) := by decide +kernel
theorem dX8_small_45 : decode cX8_small 45 = .ok (.bipush (-2), 2) := by decide +kernel
theorem dX8_small_47 : decode cX8_small 47 = .ok (.ireturn, 1) := by decide +kernel
theorem dX8_small_48 : decode cX8_small 48 = .ok (.aload_n 0, 1) := by decide +kernel
theorem dX8_small_49 : decode cX8_small 49 = .ok (.invokevirtual 234, 3) := by decide +kernel
theorem dX8_small_52 : decode cX8_small 52 = .ok (.aload_n 0, 1) := by decide +kernel
theorem dX8_small_53 : decode cX8_small 53 = .ok (.getfield 55, 3) := by decide +kernel
theorem dX8_small_56 : decode cX8_small 56 = .ok (.iconst 3, 1) := by decide +kernel
theorem dX8_small_57 : decode cX8_small 57 = .ok (.iload_n 1, 1) := by decide +kernel
theorem dX8_small_58 : decode cX8_small 58 = .ok (.imul, 1) := by decide +kernel
theorem dX8_small_59 : decode cX8_small 59 = .ok (.iconst 1, 1) := by decide +kernel
theorem dX8_small_60 : decode cX8_small 60 = .ok (.iadd, 1) := by decide +kernel
theorem dX8_small_61 : decode cX8_small 61 = .ok (.iaload, 1) := by decide +kernel
theorem dX8_small_62 : decode cX8_small 62 = .ok (.iload_n 2, 1) := by decide +kernel
theorem dX8_small_63 : decode cX8_small 63 = .ok (.invokestatic 258, 3) := by decide +kernel
theorem dX8_small_66 : decode cX8_small 66 = .ok (.istore 4, 2) := by decide +kernel
theorem dX8_small_68 : decode cX8_small 68 = .ok (.aload_n 0, 1) := by decide +kernel
theorem dX8_small_69 : decode cX8_small 69 = .ok (.getfield 55, 3) := by decide +kernel
theorem dX8_small_72 : decode cX8_small 72 = .ok (.iconst 3, 1) := by decide +kernel
theorem dX8_small_73 : decode cX8_small 73 = .ok (.iload_n 1, 1) := by decide +kernel
theorem dX8_small_74 : decode cX8_small 74 = .ok (.imul, 1) := by decide +kernel
theorem dX8_small_75 : decode cX8_small 75 = .ok (.iconst 2, 1) := by decide +kernel
theorem dX8_small_76 : decode cX8_small 76 = .ok (.iadd, 1) := by decide +kernel
theorem dX8_small_77 : decode cX8_small 77 = .ok (.iaload, 1) := by decide +kernel
theorem dX8_small_78 : decode cX8_small 78 = .ok (.iload_n 2, 1) := by decide +kernel
theorem dX8_small_79 : decode cX8_small 79 = .ok (.invokestatic 258, 3) := by decide +kernel
theorem dX8_small_82 : decode cX8_small 82 = .ok (.istore 5, 2) := by decide +kernel
theorem dX8_small_84 : decode cX8_small 84 = .ok (.iconst 0, 1) := by decide +kernel
theorem dX8_small_85 : decode cX8_small 85 = .ok (.istore 6, 2) := by decide +kernel
theorem dX8_small_87 : decode cX8_small 87 = .ok (.iconst 0, 1) := by decide +kernel
theorem dX8_small_88 : decode cX8_small 88 = .ok (.istore 7, 2) := by decide +kernel
theorem dX8_small_90 : decode cX8_small 90 = .ok (.iload 7, 2) := by decide +kernel
theorem dX8_small_92 : decode cX8_small 92 = .ok (.iload_n 3, 1) := by decide +kernel
theorem dX8_small_93 : decode cX8_small 93 = .ok (.if_icmp .ge 110, 3) := by decide +kernel
theorem dX8_small_96 : decode cX8_small 96 = .ok (.iload 6, 2) := by decide +kernel
theorem dX8_small_98 : decode cX8_small 98 = .ok (.ifCond .ne 105, 3) := by decide +kernel
theorem dX8_small_101 : decode cX8_small 101 = .ok (.iconst 0, 1) := by decide +kernel
theorem dX8_small_102 : decode cX8_small 102 = .ok (.istore 8, 2) := by decide +kernel
theorem dX8_small_104 : decode cX8_small 104 = .ok (.iload 8, 2) := by decide +kernel
theorem dX8_small_106 : decode cX8_small 106 = .ok (.iconst 3, 1) := by decide +kernel
theorem dX8_small_107 : decode cX8_small 107 = .ok (.if_icmp .ge 83, 3) := by decide +kernel
theorem dX8_small_110 : decode cX8_small 110 = .ok (.iload 8, 2) := by decide +kernel
theorem dX8_small_112 : decode cX8_small 112 = .ok (.ifCond .ne 14, 3) := by decide +kernel
theorem dX8_small_115 : decode cX8_small 115 = .ok (.iload 7, 2) := by decide +kernel
theorem dX8_small_117 : decode cX8_small 117 = .ok (.iload 5, 2) := by decide +kernel
theorem dX8_small_119 : decode cX8_small 119 = .ok (.idiv, 1) := by decide +kernel
theorem dX8_small_120 : decode cX8_small 120 = .ok (.iload 4, 2) := by decide +kernel
theorem dX8_small_122 : decode cX8_small 122 = .ok (.idiv, 1) := by decide +kernel
theorem dX8_small_123 : decode cX8_small 123 = .ok (.goto 25, 3) := by decide +kernel
theorem dX8_small_126 : decode cX8_small 126 = .ok (.iload 8, 2) := by decide +kernel
theorem dX8_small_128 : decode cX8_small 128 = .ok (.iconst 1, 1) := by decide +kernel
theorem dX8_small_129 : decode cX8_small 129 = .ok (.if_icmp .ne 14, 3) := by decide +kernel
theorem dX8_small_132 : decode cX8_small 132 = .ok (.iload 7, 2) := by decide +kernel
theorem dX8_small_134 : decode cX8_small 134 = .ok (.iload 5, 2) := by decide +kernel
theorem dX8_small_136 : decode cX8_small 136 = .ok (.idiv, 1) := by decide +kernel
theorem dX8_small_137 : decode cX8_small 137 = .ok (.iload 4, 2) := by decide +kernel
theorem dX8_small_139 : decode cX8_small 139 = .ok (.irem, 1) := by decide +kernel
theorem dX8_small_140 : decode cX8_small 140 = .ok (.goto 8, 3) := by decide +kernel
theorem dX8_small_143 : decode cX8_small 143 = .ok (.iload 7, 2) := by decide +kernel
theorem dX8_small_145 : decode cX8_small 145 = .ok (.iload 5, 2) := by decide +kernel
theorem dX8_small_147 : decode cX8_small 147 = .ok (.irem, 1) := by decide +kernel
theorem dX8_small_148 : decode cX8_small 148 = .ok (.istore 9, 2) := by decide +kernel
theorem dX8_small_150 : decode cX8_small 150 = .ok (.aload_n 0, 1) := by decide +kernel
theorem dX8_small_151 : decode cX8_small 151 = .ok (.getfield 55, 3) := by decide +kernel
theorem dX8_small_154 : decode cX8_small 154 = .ok (.iconst 3, 1) := by decide +kernel
theorem dX8_small_155 : decode cX8_small 155 = .ok (.iload_n 1, 1) := by decide +kernel
theorem dX8_small_156 : decode cX8_small 156 = .ok (.imul, 1) := by decide +kernel
theorem dX8_small_157 : decode cX8_small 157 = .ok (.iload 8, 2) := by decide +kernel
theorem dX8_small_159 : decode cX8_small 159 = .ok (.iadd, 1) := by decide +kernel
theorem dX8_small_160 : decode cX8_small 160 = .ok (.iaload, 1) := by decide +kernel
theorem dX8_small_161 : decode cX8_small 161 = .ok (.ifCond .lt 23, 3) := by decide +kernel
theorem dX8_small_164 : decode cX8_small 164 = .ok (.aload_n 0, 1) := by decide +kernel
theorem dX8_small_165 : decode cX8_small 165 = .ok (.iload 8, 2) := by decide +kernel
theorem dX8_small_167 : decode cX8_small 167 = .ok (.aload_n 0, 1) := by decide +kernel
theorem dX8_small_168 : decode cX8_small 168 = .ok (.getfield 55, 3) := by decide +kernel
theorem dX8_small_171 : decode cX8_small 171 = .ok (.iconst 3, 1) := by decide +kernel
theorem dX8_small_172 : decode cX8_small 172 = .ok (.iload_n 1, 1) := by decide +kernel
theorem dX8_small_173 : decode cX8_small 173 = .ok (.imul, 1) := by decide +kernel
theorem dX8_small_174 : decode cX8_small 174 = .ok (.iload 8, 2) := by decide +kernel
theorem dX8_small_176 : decode cX8_small 176 = .ok (.iadd, 1) := by decide +kernel
theorem dX8_small_177 : decode cX8_small 177 = .ok (.iaload, 1) := by decide +kernel
theorem dX8_small_178 : decode cX8_small 178 = .ok (.iload_n 2, 1) := by decide +kernel
theorem dX8_small_179 : decode cX8_small 179 = .ok (.iload 9, 2) := by decide +kernel
theorem dX8_small_181 : decode cX8_small 181 = .ok (.invokevirtual 267, 3) := by decide +kernel
theorem dX8_small_184 : decode cX8_small 184 = .ok (.iinc 8 1, 3) := by decide +kernel
theorem dX8_small_187 : decode cX8_small 187 = .ok (.goto (-83), 3) := by decide +kernel
theorem dX8_small_190 : decode cX8_small 190 = .ok (.aload_n 0, 1) := by decide +kernel
theorem dX8_small_191 : decode cX8_small 191 = .ok (.iload_n 1, 1) := by decide +kernel
theorem dX8_small_192 : decode cX8_small 192 = .ok (.invokevirtual 237, 3) := by decide +kernel
theorem dX8_small_195 : decode cX8_small 195 = .ok (.istore 6, 2) := by decide +kernel
theorem dX8_small_197 : decode cX8_small 197 = .ok (.iinc 7 1, 3) := by decide +kernel
theorem dX8_small_200 : decode cX8_small 200 = .ok (.goto (-110), 3) := by decide +kernel
theorem dX8_small_203 : decode cX8_small 203 = .ok (.iload 6, 2) := by decide +kernel
theorem dX8_small_205 : decode cX8_small 205 = .ok (.ifCond .eq 7, 3) := by decide +kernel
theorem dX8_small_208 : decode cX8_small 208 = .ok (.iconst 0, 1) := by decide +kernel
theorem dX8_small_209 : decode cX8_small 209 = .ok (.goto 4, 3) := by decide +kernel
theorem dX8_small_212 : decode cX8_small 212 = .ok (.iconst 1, 1) := by decide +kernel
theorem dX8_small_213 : decode cX8_small 213 = .ok (.ireturn, 1) := by decide +kernel
theorem dX8_again_0 : decode cX8_again 0 = .ok (.aload_n 0, 1) := by decide +kernel
theorem dX8_again_1 : decode cX8_again 1 = .ok (.getfield 76, 3) := by decide +kernel
theorem dX8_again_4 : decode cX8_again 4 = .ok (.ifCond .ge 6, 3) := by decide +kernel
theorem dX8_again_7 : decode cX8_again 7 = .ok (.bipush (-2), 2) := by decide +kernel
theorem dX8_again_9 : decode cX8_again 9 = .ok (.ireturn, 1) := by decide +kernel
theorem dX8_again_10 : decode cX8_again 10 = .ok (.aload_n 0, 1) := by decide +kernel
theorem dX8_again_11 : decode cX8_again 11 = .ok (.getfield 178, 3) := by decide +kernel
theorem dX8_again_14 : decode cX8_again 14 = .ok (.sipush 3000, 3) := by decide +kernel
theorem dX8_again_17 : decode cX8_again 17 = .ok (.if_icmp .ne 6, 3) := by decide +kernel
theorem dX8_again_20 : decode cX8_again 20 = .ok (.bipush (-3), 2) := by decide +kernel
theorem dX8_again_22 : decode cX8_again 22 = .ok (.ireturn, 1) := by decide +kernel
theorem dX8_again_23 : decode cX8_again 23 = .ok (.aload_n 0, 1) := by decide +kernel
theorem dX8_again_24 : decode cX8_again 24 = .ok (.invokevirtual 246, 3) := by decide +kernel
theorem dX8_again_27 : decode cX8_again 27 = .ok (.aload_n 0, 1) := by decide +kernel
theorem dX8_again_28 : decode cX8_again 28 = .ok (.aload_n 0, 1) := by decide +kernel
theorem dX8_again_29 : decode cX8_again 29 = .ok (.getfield 76, 3) := by decide +kernel
theorem dX8_again_32 : decode cX8_again 32 = .ok (.iconst 0, 1) := by decide +kernel
theorem dX8_again_33 : decode cX8_again 33 = .ok (.invokevirtual 224, 3) := by decide +kernel
theorem dX8_again_36 : decode cX8_again 36 = .ok (.ireturn, 1) := by decide +kernel
theorem dX8_counter_0 : decode cX8_counter 0 = .ok (.aload_n 0, 1) := by decide +kernel
theorem dX8_counter_1 : decode cX8_counter 1 = .ok (.getfield 76, 3) := by decide +kernel
theorem dX8_counter_4 : decode cX8_counter 4 = .ok (.ifCond .lt 21, 3) := by decide +kernel
theorem dX8_counter_7 : decode cX8_counter 7 = .ok (.iload_n 1, 1) := by decide +kernel
theorem dX8_counter_8 : decode cX8_counter 8 = .ok (.iconst 0, 1) := by decide +kernel
theorem dX8_counter_9 : decode cX8_counter 9 = .ok (.iconst 2, 1) := by decide +kernel
theorem dX8_counter_10 : decode cX8_counter 10 = .ok (.invokestatic 95, 3) := by decide +kernel
theorem dX8_counter_13 : decode cX8_counter 13 = .ok (.ifCond .eq 12, 3) := by decide +kernel
theorem dX8_counter_16 : decode cX8_counter 16 = .ok (.aload_n 0, 1) := by decide +kernel
theorem dX8_counter_17 : decode cX8_counter 17 = .ok (.getfield 80, 3) := by decide +kernel
theorem dX8_counter_20 : decode cX8_counter 20 = .ok (.iload_n 1, 1) := by decide +kernel
theorem dX8_counter_21 : decode cX8_counter 21 = .ok (.iaload, 1) := by decide +kernel
theorem dX8_counter_22 : decode cX8_counter 22 = .ok (.ifCond .ge 6, 3) := by decide +kernel
theorem dX8_counter_25 : decode cX8_counter 25 = .ok (.ldc 199, 2) := by decide +kernel
theorem dX8_counter_27 : decode cX8_counter 27 = .ok (.ireturn, 1) := by decide +kernel
theorem dX8_counter_28 : decode cX8_counter 28 = .ok (.iload_n 2, 1) := by decide +kernel
theorem dX8_counter_29 : decode cX8_counter 29 = .ok (.iconst (-1), 1) := by decide +kernel
theorem dX8_counter_30 : decode cX8_counter 30 = .ok (.if_icmp .ne 10, 3) := by decide +kernel
theorem dX8_counter_33 : decode cX8_counter 33 = .ok (.aload_n 0, 1) := by decide +kernel
theorem dX8_counter_34 : decode cX8_counter 34 = .ok (.getfield 83, 3) := by decide +kernel
theorem dX8_counter_37 : decode cX8_counter 37 = .ok (.iload_n 1, 1) := by decide +kernel
theorem dX8_counter_38 : decode cX8_counter 38 = .ok (.iaload, 1) := by decide +kernel
theorem dX8_counter_39 : decode cX8_counter 39 = .ok (.ireturn, 1) := by decide +kernel
theorem dX8_counter_40 : decode cX8_counter 40 = .ok (.aload_n 0, 1) := by decide +kernel
theorem dX8_counter_41 : decode cX8_counter 41 = .ok (.getfield 80, 3) := by decide +kernel
theorem dX8_counter_44 : decode cX8_counter 44 = .ok (.iload_n 1, 1) := by decide +kernel
theorem dX8_counter_45 : decode cX8_counter 45 = .ok (.iaload, 1) := by decide +kernel
theorem dX8_counter_46 : decode cX8_counter 46 = .ok (.iconst 1, 1) := by decide +kernel
theorem dX8_counter_47 : decode cX8_counter 47 = .ok (.if_icmp .ne 33, 3) := by decide +kernel
theorem dX8_counter_50 : decode cX8_counter 50 = .ok (.iload_n 2, 1) := by decide +kernel
theorem dX8_counter_51 : decode cX8_counter 51 = .ok (.iconst 0, 1) := by decide +kernel
theorem dX8_counter_52 : decode cX8_counter 52 = .ok (.aload_n 0, 1) := by decide +kernel
theorem dX8_counter_53 : decode cX8_counter 53 = .ok (.getfield 83, 3) := by decide +kernel
theorem dX8_counter_56 : decode cX8_counter 56 = .ok (.iload_n 1, 1) := by decide +kernel
theorem dX8_counter_57 : decode cX8_counter 57 = .ok (.iaload, 1) := by decide +kernel
theorem dX8_counter_58 : decode cX8_counter 58 = .ok (.iconst 1, 1) := by decide +kernel
theorem dX8_counter_59 : decode cX8_counter 59 = .ok (.isub, 1) := by decide +kernel
theorem dX8_counter_60 : decode cX8_counter 60 = .ok (.invokestatic 95, 3) := by decide +kernel
theorem dX8_counter_63 : decode cX8_counter 63 = .ok (.ifCond .eq 17, 3) := by decide +kernel
theorem dX8_counter_66 : decode cX8_counter 66 = .ok (.aload_n 0, 1) := by decide +kernel
theorem dX8_counter_67 : decode cX8_counter 67 = .ok (.getfield 86, 3) := by decide +kernel
theorem dX8_counter_70 : decode cX8_counter 70 = .ok (.bipush 16, 2) := by decide +kernel
theorem dX8_counter_72 : decode cX8_counter 72 = .ok (.iload_n 1, 1) := by decide +kernel
theorem dX8_counter_73 : decode cX8_counter 73 = .ok (.imul, 1) := by decide +kernel
theorem dX8_counter_74 : decode cX8_counter 74 = .ok (.iload_n 2, 1) := by decide +kernel
theorem dX8_counter_75 : decode cX8_counter 75 = .ok (.iadd, 1) := by decide +kernel
theorem dX8_counter_76 : decode cX8_counter 76 = .ok (.iaload, 1) := by decide +kernel
theorem dX8_counter_77 : decode cX8_counter 77 = .ok (.goto 5, 3) := by decide +kernel
theorem dX8_counter_80 : decode cX8_counter 80 = .ok (.ldc 199, 2) := by decide +kernel
theorem dX8_counter_82 : decode cX8_counter 82 = .ok (.ireturn, 1) := by decide +kernel
theorem dX8_told_0 : decode cX8_told 0 = .ok (.iload_n 1, 1) := by decide +kernel
theorem dX8_told_1 : decode cX8_told 1 = .ok (.tableswitch 114 0 10 #[59, 64, 69, 74, 79, 84, 89, 94, 99, 104, 109], 59) := by decide +kernel
theorem dX8_told_60 : decode cX8_told 60 = .ok (.aload_n 0, 1) := by decide +kernel
theorem dX8_told_61 : decode cX8_told 61 = .ok (.getfield 203, 3) := by decide +kernel
theorem dX8_told_64 : decode cX8_told 64 = .ok (.ireturn, 1) := by decide +kernel
theorem dX8_told_65 : decode cX8_told 65 = .ok (.aload_n 0, 1) := by decide +kernel
theorem dX8_told_66 : decode cX8_told 66 = .ok (.getfield 206, 3) := by decide +kernel
theorem dX8_told_69 : decode cX8_told 69 = .ok (.ireturn, 1) := by decide +kernel
theorem dX8_told_70 : decode cX8_told 70 = .ok (.aload_n 0, 1) := by decide +kernel
theorem dX8_told_71 : decode cX8_told 71 = .ok (.getfield 209, 3) := by decide +kernel
theorem dX8_told_74 : decode cX8_told 74 = .ok (.ireturn, 1) := by decide +kernel
theorem dX8_told_75 : decode cX8_told 75 = .ok (.aload_n 0, 1) := by decide +kernel
theorem dX8_told_76 : decode cX8_told 76 = .ok (.getfield 212, 3) := by decide +kernel
theorem dX8_told_79 : decode cX8_told 79 = .ok (.ireturn, 1) := by decide +kernel
theorem dX8_told_80 : decode cX8_told 80 = .ok (.aload_n 0, 1) := by decide +kernel
theorem dX8_told_81 : decode cX8_told 81 = .ok (.getfield 89, 3) := by decide +kernel
theorem dX8_told_84 : decode cX8_told 84 = .ok (.ireturn, 1) := by decide +kernel
theorem dX8_told_85 : decode cX8_told 85 = .ok (.aload_n 0, 1) := by decide +kernel
theorem dX8_told_86 : decode cX8_told 86 = .ok (.getfield 215, 3) := by decide +kernel
theorem dX8_told_89 : decode cX8_told 89 = .ok (.ireturn, 1) := by decide +kernel
theorem dX8_told_90 : decode cX8_told 90 = .ok (.aload_n 0, 1) := by decide +kernel
theorem dX8_told_91 : decode cX8_told 91 = .ok (.getfield 218, 3) := by decide +kernel
theorem dX8_told_94 : decode cX8_told 94 = .ok (.ireturn, 1) := by decide +kernel
theorem dX8_told_95 : decode cX8_told 95 = .ok (.aload_n 0, 1) := by decide +kernel
theorem dX8_told_96 : decode cX8_told 96 = .ok (.getfield 221, 3) := by decide +kernel
theorem dX8_told_99 : decode cX8_told 99 = .ok (.ireturn, 1) := by decide +kernel
theorem dX8_told_100 : decode cX8_told 100 = .ok (.aload_n 0, 1) := by decide +kernel
theorem dX8_told_101 : decode cX8_told 101 = .ok (.getfield 92, 3) := by decide +kernel
theorem dX8_told_104 : decode cX8_told 104 = .ok (.ireturn, 1) := by decide +kernel
theorem dX8_told_105 : decode cX8_told 105 = .ok (.aload_n 0, 1) := by decide +kernel
theorem dX8_told_106 : decode cX8_told 106 = .ok (.getfield 175, 3) := by decide +kernel
theorem dX8_told_109 : decode cX8_told 109 = .ok (.ireturn, 1) := by decide +kernel
theorem dX8_told_110 : decode cX8_told 110 = .ok (.aload_n 0, 1) := by decide +kernel
theorem dX8_told_111 : decode cX8_told 111 = .ok (.getfield 178, 3) := by decide +kernel
theorem dX8_told_114 : decode cX8_told 114 = .ok (.ireturn, 1) := by decide +kernel
theorem dX8_told_115 : decode cX8_told 115 = .ok (.iconst (-1), 1) := by decide +kernel
theorem dX8_told_116 : decode cX8_told 116 = .ok (.ireturn, 1) := by decide +kernel
theorem dX8_label_0 : decode cX8_label 0 = .ok (.iload_n 1, 1) := by decide +kernel
theorem dX8_label_1 : decode cX8_label 1 = .ok (.iconst 0, 1) := by decide +kernel
theorem dX8_label_2 : decode cX8_label 2 = .ok (.bipush 8, 2) := by decide +kernel
theorem dX8_label_4 : decode cX8_label 4 = .ok (.invokestatic 95, 3) := by decide +kernel
theorem dX8_label_7 : decode cX8_label 7 = .ok (.ifCond .eq 12, 3) := by decide +kernel
theorem dX8_label_10 : decode cX8_label 10 = .ok (.aload_n 0, 1) := by decide +kernel
theorem dX8_label_11 : decode cX8_label 11 = .ok (.getfield 70, 3) := by decide +kernel
theorem dX8_label_14 : decode cX8_label 14 = .ok (.iload_n 1, 1) := by decide +kernel
theorem dX8_label_15 : decode cX8_label 15 = .ok (.iaload, 1) := by decide +kernel
theorem dX8_label_16 : decode cX8_label 16 = .ok (.goto 4, 3) := by decide +kernel
theorem dX8_label_19 : decode cX8_label 19 = .ok (.iconst (-1), 1) := by decide +kernel
theorem dX8_label_20 : decode cX8_label 20 = .ok (.ireturn, 1) := by decide +kernel
theorem dJ9_floorMod_7cf53_0 : decode cJ9_floorMod_7cf53 0 = .ok (.iload_n 0, 1) := by decide +kernel
theorem dJ9_floorMod_7cf53_1 : decode cJ9_floorMod_7cf53 1 = .ok (.iload_n 1, 1) := by decide +kernel
theorem dJ9_floorMod_7cf53_2 : decode cJ9_floorMod_7cf53 2 = .ok (.irem, 1) := by decide +kernel
theorem dJ9_floorMod_7cf53_3 : decode cJ9_floorMod_7cf53 3 = .ok (.istore_n 2, 1) := by decide +kernel
theorem dJ9_floorMod_7cf53_4 : decode cJ9_floorMod_7cf53 4 = .ok (.iload_n 0, 1) := by decide +kernel
theorem dJ9_floorMod_7cf53_5 : decode cJ9_floorMod_7cf53 5 = .ok (.iload_n 1, 1) := by decide +kernel
theorem dJ9_floorMod_7cf53_6 : decode cJ9_floorMod_7cf53 6 = .ok (.ixor, 1) := by decide +kernel
theorem dJ9_floorMod_7cf53_7 : decode cJ9_floorMod_7cf53 7 = .ok (.ifCond .ge 11, 3) := by decide +kernel
theorem dJ9_floorMod_7cf53_10 : decode cJ9_floorMod_7cf53 10 = .ok (.iload_n 2, 1) := by decide +kernel
theorem dJ9_floorMod_7cf53_11 : decode cJ9_floorMod_7cf53 11 = .ok (.ifCond .eq 7, 3) := by decide +kernel
theorem dJ9_floorMod_7cf53_14 : decode cJ9_floorMod_7cf53 14 = .ok (.iload_n 2, 1) := by decide +kernel
theorem dJ9_floorMod_7cf53_15 : decode cJ9_floorMod_7cf53 15 = .ok (.iload_n 1, 1) := by decide +kernel
theorem dJ9_floorMod_7cf53_16 : decode cJ9_floorMod_7cf53 16 = .ok (.iadd, 1) := by decide +kernel
theorem dJ9_floorMod_7cf53_17 : decode cJ9_floorMod_7cf53 17 = .ok (.ireturn, 1) := by decide +kernel
theorem dJ9_floorMod_7cf53_18 : decode cJ9_floorMod_7cf53 18 = .ok (.iload_n 2, 1) := by decide +kernel
theorem dJ9_floorMod_7cf53_19 : decode cJ9_floorMod_7cf53 19 = .ok (.ireturn, 1) := by decide +kernel
theorem dL_law_0 : decode cL_law 0 = .ok (.new 7, 3) := by decide +kernel
theorem dL_law_3 : decode cL_law 3 = .ok (.dup, 1) := by decide +kernel
theorem dL_law_4 : decode cL_law 4 = .ok (.invokespecial 9, 3) := by decide +kernel
theorem dL_law_7 : decode cL_law 7 = .ok (.astore_n 1, 1) := by decide +kernel
theorem dL_law_8 : decode cL_law 8 = .ok (.new 10, 3) := by decide +kernel
theorem dL_law_11 : decode cL_law 11 = .ok (.dup, 1) := by decide +kernel
theorem dL_law_12 : decode cL_law 12 = .ok (.invokespecial 12, 3) := by decide +kernel
theorem dL_law_15 : decode cL_law 15 = .ok (.astore_n 2, 1) := by decide +kernel
theorem dL_law_16 : decode cL_law 16 = .ok (.iconst 0, 1) := by decide +kernel
theorem dL_law_17 : decode cL_law 17 = .ok (.istore_n 3, 1) := by decide +kernel
theorem dL_law_18 : decode cL_law 18 = .ok (.iload_n 3, 1) := by decide +kernel
theorem dL_law_19 : decode cL_law 19 = .ok (.aload_n 0, 1) := by decide +kernel
theorem dL_law_20 : decode cL_law 20 = .ok (.arraylength, 1) := by decide +kernel
theorem dL_law_21 : decode cL_law 21 = .ok (.bipush 8, 2) := by decide +kernel
theorem dL_law_23 : decode cL_law 23 = .ok (.isub, 1) := by decide +kernel
theorem dL_law_24 : decode cL_law 24 = .ok (.if_icmp .gt 484, 3) := by decide +kernel
theorem dL_law_27 : decode cL_law 27 = .ok (.aload_n 0, 1) := by decide +kernel
theorem dL_law_28 : decode cL_law 28 = .ok (.iload_n 3, 1) := by decide +kernel
theorem dL_law_29 : decode cL_law 29 = .ok (.iaload, 1) := by decide +kernel
theorem dL_law_30 : decode cL_law 30 = .ok (.bipush 15, 2) := by decide +kernel
theorem dL_law_32 : decode cL_law 32 = .ok (.iand, 1) := by decide +kernel
theorem dL_law_33 : decode cL_law 33 = .ok (.tableswitch 469 0 9 #[55, 118, 205, 248, 281, 314, 327, 360, 423, 446], 55) := by decide +kernel
theorem dL_law_88 : decode cL_law 88 = .ok (.aload_n 1, 1) := by decide +kernel
theorem dL_law_89 : decode cL_law 89 = .ok (.aload_n 0, 1) := by decide +kernel
theorem dL_law_90 : decode cL_law 90 = .ok (.iload_n 3, 1) := by decide +kernel
theorem dL_law_91 : decode cL_law 91 = .ok (.iconst 1, 1) := by decide +kernel
theorem dL_law_92 : decode cL_law 92 = .ok (.iadd, 1) := by decide +kernel
theorem dL_law_93 : decode cL_law 93 = .ok (.iaload, 1) := by decide +kernel
theorem dL_law_94 : decode cL_law 94 = .ok (.aload_n 0, 1) := by decide +kernel
theorem dL_law_95 : decode cL_law 95 = .ok (.iload_n 3, 1) := by decide +kernel
theorem dL_law_96 : decode cL_law 96 = .ok (.iconst 2, 1) := by decide +kernel
theorem dL_law_97 : decode cL_law 97 = .ok (.iadd, 1) := by decide +kernel
theorem dL_law_98 : decode cL_law 98 = .ok (.iaload, 1) := by decide +kernel
theorem dL_law_99 : decode cL_law 99 = .ok (.aload_n 0, 1) := by decide +kernel
theorem dL_law_100 : decode cL_law 100 = .ok (.iload_n 3, 1) := by decide +kernel
theorem dL_law_101 : decode cL_law 101 = .ok (.iconst 3, 1) := by decide +kernel
theorem dL_law_102 : decode cL_law 102 = .ok (.iadd, 1) := by decide +kernel
theorem dL_law_103 : decode cL_law 103 = .ok (.iaload, 1) := by decide +kernel
theorem dL_law_104 : decode cL_law 104 = .ok (.aload_n 0, 1) := by decide +kernel
theorem dL_law_105 : decode cL_law 105 = .ok (.iload_n 3, 1) := by decide +kernel
theorem dL_law_106 : decode cL_law 106 = .ok (.iconst 4, 1) := by decide +kernel
theorem dL_law_107 : decode cL_law 107 = .ok (.iadd, 1) := by decide +kernel
theorem dL_law_108 : decode cL_law 108 = .ok (.iaload, 1) := by decide +kernel
theorem dL_law_109 : decode cL_law 109 = .ok (.aload_n 0, 1) := by decide +kernel
theorem dL_law_110 : decode cL_law 110 = .ok (.iload_n 3, 1) := by decide +kernel
theorem dL_law_111 : decode cL_law 111 = .ok (.iconst 5, 1) := by decide +kernel
theorem dL_law_112 : decode cL_law 112 = .ok (.iadd, 1) := by decide +kernel
theorem dL_law_113 : decode cL_law 113 = .ok (.iaload, 1) := by decide +kernel
theorem dL_law_114 : decode cL_law 114 = .ok (.invokevirtual 13, 3) := by decide +kernel
theorem dL_law_117 : decode cL_law 117 = .ok (.aload_n 2, 1) := by decide +kernel
theorem dL_law_118 : decode cL_law 118 = .ok (.aload_n 0, 1) := by decide +kernel
theorem dL_law_119 : decode cL_law 119 = .ok (.iload_n 3, 1) := by decide +kernel
theorem dL_law_120 : decode cL_law 120 = .ok (.iconst 1, 1) := by decide +kernel
theorem dL_law_121 : decode cL_law 121 = .ok (.iadd, 1) := by decide +kernel
theorem dL_law_122 : decode cL_law 122 = .ok (.iaload, 1) := by decide +kernel
theorem dL_law_123 : decode cL_law 123 = .ok (.aload_n 0, 1) := by decide +kernel
theorem dL_law_124 : decode cL_law 124 = .ok (.iload_n 3, 1) := by decide +kernel
theorem dL_law_125 : decode cL_law 125 = .ok (.iconst 2, 1) := by decide +kernel
theorem dL_law_126 : decode cL_law 126 = .ok (.iadd, 1) := by decide +kernel
theorem dL_law_127 : decode cL_law 127 = .ok (.iaload, 1) := by decide +kernel
theorem dL_law_128 : decode cL_law 128 = .ok (.aload_n 0, 1) := by decide +kernel
theorem dL_law_129 : decode cL_law 129 = .ok (.iload_n 3, 1) := by decide +kernel
theorem dL_law_130 : decode cL_law 130 = .ok (.iconst 3, 1) := by decide +kernel
theorem dL_law_131 : decode cL_law 131 = .ok (.iadd, 1) := by decide +kernel
theorem dL_law_132 : decode cL_law 132 = .ok (.iaload, 1) := by decide +kernel
theorem dL_law_133 : decode cL_law 133 = .ok (.aload_n 0, 1) := by decide +kernel
theorem dL_law_134 : decode cL_law 134 = .ok (.iload_n 3, 1) := by decide +kernel
theorem dL_law_135 : decode cL_law 135 = .ok (.iconst 4, 1) := by decide +kernel
theorem dL_law_136 : decode cL_law 136 = .ok (.iadd, 1) := by decide +kernel
theorem dL_law_137 : decode cL_law 137 = .ok (.iaload, 1) := by decide +kernel
theorem dL_law_138 : decode cL_law 138 = .ok (.aload_n 0, 1) := by decide +kernel
theorem dL_law_139 : decode cL_law 139 = .ok (.iload_n 3, 1) := by decide +kernel
theorem dL_law_140 : decode cL_law 140 = .ok (.iconst 5, 1) := by decide +kernel
theorem dL_law_141 : decode cL_law 141 = .ok (.iadd, 1) := by decide +kernel
theorem dL_law_142 : decode cL_law 142 = .ok (.iaload, 1) := by decide +kernel
theorem dL_law_143 : decode cL_law 143 = .ok (.invokevirtual 17, 3) := by decide +kernel
theorem dL_law_146 : decode cL_law 146 = .ok (.if_icmp .eq 356, 3) := by decide +kernel
theorem dL_law_149 : decode cL_law 149 = .ok (.iconst 0, 1) := by decide +kernel
theorem dL_law_150 : decode cL_law 150 = .ok (.ireturn, 1) := by decide +kernel
theorem dL_law_151 : decode cL_law 151 = .ok (.aload_n 1, 1) := by decide +kernel
theorem dL_law_152 : decode cL_law 152 = .ok (.aload_n 0, 1) := by decide +kernel
theorem dL_law_153 : decode cL_law 153 = .ok (.iload_n 3, 1) := by decide +kernel
theorem dL_law_154 : decode cL_law 154 = .ok (.iconst 1, 1) := by decide +kernel
theorem dL_law_155 : decode cL_law 155 = .ok (.iadd, 1) := by decide +kernel
theorem dL_law_156 : decode cL_law 156 = .ok (.iaload, 1) := by decide +kernel
theorem dL_law_157 : decode cL_law 157 = .ok (.aload_n 0, 1) := by decide +kernel
theorem dL_law_158 : decode cL_law 158 = .ok (.iload_n 3, 1) := by decide +kernel
theorem dL_law_159 : decode cL_law 159 = .ok (.iconst 2, 1) := by decide +kernel
theorem dL_law_160 : decode cL_law 160 = .ok (.iadd, 1) := by decide +kernel
theorem dL_law_161 : decode cL_law 161 = .ok (.iaload, 1) := by decide +kernel
theorem dL_law_162 : decode cL_law 162 = .ok (.aload_n 0, 1) := by decide +kernel
theorem dL_law_163 : decode cL_law 163 = .ok (.iload_n 3, 1) := by decide +kernel
theorem dL_law_164 : decode cL_law 164 = .ok (.iconst 3, 1) := by decide +kernel
theorem dL_law_165 : decode cL_law 165 = .ok (.iadd, 1) := by decide +kernel
theorem dL_law_166 : decode cL_law 166 = .ok (.iaload, 1) := by decide +kernel
theorem dL_law_167 : decode cL_law 167 = .ok (.aload_n 0, 1) := by decide +kernel
theorem dL_law_168 : decode cL_law 168 = .ok (.iload_n 3, 1) := by decide +kernel
theorem dL_law_169 : decode cL_law 169 = .ok (.iconst 4, 1) := by decide +kernel
theorem dL_law_170 : decode cL_law 170 = .ok (.iadd, 1) := by decide +kernel
theorem dL_law_171 : decode cL_law 171 = .ok (.iaload, 1) := by decide +kernel
theorem dL_law_172 : decode cL_law 172 = .ok (.aload_n 0, 1) := by decide +kernel
theorem dL_law_173 : decode cL_law 173 = .ok (.iload_n 3, 1) := by decide +kernel
theorem dL_law_174 : decode cL_law 174 = .ok (.iconst 5, 1) := by decide +kernel
theorem dL_law_175 : decode cL_law 175 = .ok (.iadd, 1) := by decide +kernel
theorem dL_law_176 : decode cL_law 176 = .ok (.iaload, 1) := by decide +kernel
theorem dL_law_177 : decode cL_law 177 = .ok (.aload_n 0, 1) := by decide +kernel
theorem dL_law_178 : decode cL_law 178 = .ok (.iload_n 3, 1) := by decide +kernel
theorem dL_law_179 : decode cL_law 179 = .ok (.bipush 6, 2) := by decide +kernel
theorem dL_law_181 : decode cL_law 181 = .ok (.iadd, 1) := by decide +kernel
theorem dL_law_182 : decode cL_law 182 = .ok (.iaload, 1) := by decide +kernel
theorem dL_law_183 : decode cL_law 183 = .ok (.aload_n 0, 1) := by decide +kernel
theorem dL_law_184 : decode cL_law 184 = .ok (.iload_n 3, 1) := by decide +kernel
theorem dL_law_185 : decode cL_law 185 = .ok (.bipush 7, 2) := by decide +kernel
theorem dL_law_187 : decode cL_law 187 = .ok (.iadd, 1) := by decide +kernel
theorem dL_law_188 : decode cL_law 188 = .ok (.iaload, 1) := by decide +kernel
theorem dL_law_189 : decode cL_law 189 = .ok (.invokevirtual 18, 3) := by decide +kernel
theorem dL_law_192 : decode cL_law 192 = .ok (.aload_n 2, 1) := by decide +kernel
theorem dL_law_193 : decode cL_law 193 = .ok (.aload_n 0, 1) := by decide +kernel
theorem dL_law_194 : decode cL_law 194 = .ok (.iload_n 3, 1) := by decide +kernel
theorem dL_law_195 : decode cL_law 195 = .ok (.iconst 1, 1) := by decide +kernel
theorem dL_law_196 : decode cL_law 196 = .ok (.iadd, 1) := by decide +kernel
theorem dL_law_197 : decode cL_law 197 = .ok (.iaload, 1) := by decide +kernel
theorem dL_law_198 : decode cL_law 198 = .ok (.aload_n 0, 1) := by decide +kernel
theorem dL_law_199 : decode cL_law 199 = .ok (.iload_n 3, 1) := by decide +kernel
theorem dL_law_200 : decode cL_law 200 = .ok (.iconst 2, 1) := by decide +kernel
theorem dL_law_201 : decode cL_law 201 = .ok (.iadd, 1) := by decide +kernel
theorem dL_law_202 : decode cL_law 202 = .ok (.iaload, 1) := by decide +kernel
theorem dL_law_203 : decode cL_law 203 = .ok (.aload_n 0, 1) := by decide +kernel
theorem dL_law_204 : decode cL_law 204 = .ok (.iload_n 3, 1) := by decide +kernel
theorem dL_law_205 : decode cL_law 205 = .ok (.iconst 3, 1) := by decide +kernel
theorem dL_law_206 : decode cL_law 206 = .ok (.iadd, 1) := by decide +kernel
theorem dL_law_207 : decode cL_law 207 = .ok (.iaload, 1) := by decide +kernel
theorem dL_law_208 : decode cL_law 208 = .ok (.aload_n 0, 1) := by decide +kernel
theorem dL_law_209 : decode cL_law 209 = .ok (.iload_n 3, 1) := by decide +kernel
theorem dL_law_210 : decode cL_law 210 = .ok (.iconst 4, 1) := by decide +kernel
theorem dL_law_211 : decode cL_law 211 = .ok (.iadd, 1) := by decide +kernel
theorem dL_law_212 : decode cL_law 212 = .ok (.iaload, 1) := by decide +kernel
theorem dL_law_213 : decode cL_law 213 = .ok (.aload_n 0, 1) := by decide +kernel
theorem dL_law_214 : decode cL_law 214 = .ok (.iload_n 3, 1) := by decide +kernel
theorem dL_law_215 : decode cL_law 215 = .ok (.iconst 5, 1) := by decide +kernel
theorem dL_law_216 : decode cL_law 216 = .ok (.iadd, 1) := by decide +kernel
theorem dL_law_217 : decode cL_law 217 = .ok (.iaload, 1) := by decide +kernel
theorem dL_law_218 : decode cL_law 218 = .ok (.aload_n 0, 1) := by decide +kernel
theorem dL_law_219 : decode cL_law 219 = .ok (.iload_n 3, 1) := by decide +kernel
theorem dL_law_220 : decode cL_law 220 = .ok (.bipush 6, 2) := by decide +kernel
theorem dL_law_222 : decode cL_law 222 = .ok (.iadd, 1) := by decide +kernel
theorem dL_law_223 : decode cL_law 223 = .ok (.iaload, 1) := by decide +kernel
theorem dL_law_224 : decode cL_law 224 = .ok (.aload_n 0, 1) := by decide +kernel
theorem dL_law_225 : decode cL_law 225 = .ok (.iload_n 3, 1) := by decide +kernel
theorem dL_law_226 : decode cL_law 226 = .ok (.bipush 7, 2) := by decide +kernel
theorem dL_law_228 : decode cL_law 228 = .ok (.iadd, 1) := by decide +kernel
theorem dL_law_229 : decode cL_law 229 = .ok (.iaload, 1) := by decide +kernel
theorem dL_law_230 : decode cL_law 230 = .ok (.invokevirtual 22, 3) := by decide +kernel
theorem dL_law_233 : decode cL_law 233 = .ok (.if_icmp .eq 269, 3) := by decide +kernel
theorem dL_law_236 : decode cL_law 236 = .ok (.iconst 0, 1) := by decide +kernel
theorem dL_law_237 : decode cL_law 237 = .ok (.ireturn, 1) := by decide +kernel
theorem dL_law_238 : decode cL_law 238 = .ok (.aload_n 1, 1) := by decide +kernel
theorem dL_law_239 : decode cL_law 239 = .ok (.aload_n 0, 1) := by decide +kernel
theorem dL_law_240 : decode cL_law 240 = .ok (.iload_n 3, 1) := by decide +kernel
theorem dL_law_241 : decode cL_law 241 = .ok (.iconst 1, 1) := by decide +kernel
theorem dL_law_242 : decode cL_law 242 = .ok (.iadd, 1) := by decide +kernel
theorem dL_law_243 : decode cL_law 243 = .ok (.iaload, 1) := by decide +kernel
theorem dL_law_244 : decode cL_law 244 = .ok (.aload_n 0, 1) := by decide +kernel
theorem dL_law_245 : decode cL_law 245 = .ok (.iload_n 3, 1) := by decide +kernel
theorem dL_law_246 : decode cL_law 246 = .ok (.iconst 2, 1) := by decide +kernel
theorem dL_law_247 : decode cL_law 247 = .ok (.iadd, 1) := by decide +kernel
theorem dL_law_248 : decode cL_law 248 = .ok (.iaload, 1) := by decide +kernel
theorem dL_law_249 : decode cL_law 249 = .ok (.aload_n 0, 1) := by decide +kernel
theorem dL_law_250 : decode cL_law 250 = .ok (.iload_n 3, 1) := by decide +kernel
theorem dL_law_251 : decode cL_law 251 = .ok (.iconst 3, 1) := by decide +kernel
theorem dL_law_252 : decode cL_law 252 = .ok (.iadd, 1) := by decide +kernel
theorem dL_law_253 : decode cL_law 253 = .ok (.iaload, 1) := by decide +kernel
theorem dL_law_254 : decode cL_law 254 = .ok (.invokevirtual 23, 3) := by decide +kernel
theorem dL_law_257 : decode cL_law 257 = .ok (.aload_n 2, 1) := by decide +kernel
theorem dL_law_258 : decode cL_law 258 = .ok (.aload_n 0, 1) := by decide +kernel
theorem dL_law_259 : decode cL_law 259 = .ok (.iload_n 3, 1) := by decide +kernel
theorem dL_law_260 : decode cL_law 260 = .ok (.iconst 1, 1) := by decide +kernel
theorem dL_law_261 : decode cL_law 261 = .ok (.iadd, 1) := by decide +kernel
theorem dL_law_262 : decode cL_law 262 = .ok (.iaload, 1) := by decide +kernel
theorem dL_law_263 : decode cL_law 263 = .ok (.aload_n 0, 1) := by decide +kernel
theorem dL_law_264 : decode cL_law 264 = .ok (.iload_n 3, 1) := by decide +kernel
theorem dL_law_265 : decode cL_law 265 = .ok (.iconst 2, 1) := by decide +kernel
theorem dL_law_266 : decode cL_law 266 = .ok (.iadd, 1) := by decide +kernel
theorem dL_law_267 : decode cL_law 267 = .ok (.iaload, 1) := by decide +kernel
theorem dL_law_268 : decode cL_law 268 = .ok (.aload_n 0, 1) := by decide +kernel
theorem dL_law_269 : decode cL_law 269 = .ok (.iload_n 3, 1) := by decide +kernel
theorem dL_law_270 : decode cL_law 270 = .ok (.iconst 3, 1) := by decide +kernel
theorem dL_law_271 : decode cL_law 271 = .ok (.iadd, 1) := by decide +kernel
theorem dL_law_272 : decode cL_law 272 = .ok (.iaload, 1) := by decide +kernel
theorem dL_law_273 : decode cL_law 273 = .ok (.invokevirtual 27, 3) := by decide +kernel
theorem dL_law_276 : decode cL_law 276 = .ok (.if_icmp .eq 226, 3) := by decide +kernel
theorem dL_law_279 : decode cL_law 279 = .ok (.iconst 0, 1) := by decide +kernel
theorem dL_law_280 : decode cL_law 280 = .ok (.ireturn, 1) := by decide +kernel
theorem dL_law_281 : decode cL_law 281 = .ok (.aload_n 1, 1) := by decide +kernel
theorem dL_law_282 : decode cL_law 282 = .ok (.aload_n 0, 1) := by decide +kernel
theorem dL_law_283 : decode cL_law 283 = .ok (.iload_n 3, 1) := by decide +kernel
theorem dL_law_284 : decode cL_law 284 = .ok (.iconst 1, 1) := by decide +kernel
theorem dL_law_285 : decode cL_law 285 = .ok (.iadd, 1) := by decide +kernel
theorem dL_law_286 : decode cL_law 286 = .ok (.iaload, 1) := by decide +kernel
theorem dL_law_287 : decode cL_law 287 = .ok (.aload_n 0, 1) := by decide +kernel
theorem dL_law_288 : decode cL_law 288 = .ok (.iload_n 3, 1) := by decide +kernel
theorem dL_law_289 : decode cL_law 289 = .ok (.iconst 2, 1) := by decide +kernel
theorem dL_law_290 : decode cL_law 290 = .ok (.iadd, 1) := by decide +kernel
theorem dL_law_291 : decode cL_law 291 = .ok (.iaload, 1) := by decide +kernel
theorem dL_law_292 : decode cL_law 292 = .ok (.invokevirtual 28, 3) := by decide +kernel
theorem dL_law_295 : decode cL_law 295 = .ok (.aload_n 2, 1) := by decide +kernel
theorem dL_law_296 : decode cL_law 296 = .ok (.aload_n 0, 1) := by decide +kernel
theorem dL_law_297 : decode cL_law 297 = .ok (.iload_n 3, 1) := by decide +kernel
theorem dL_law_298 : decode cL_law 298 = .ok (.iconst 1, 1) := by decide +kernel
theorem dL_law_299 : decode cL_law 299 = .ok (.iadd, 1) := by decide +kernel
theorem dL_law_300 : decode cL_law 300 = .ok (.iaload, 1) := by decide +kernel
theorem dL_law_301 : decode cL_law 301 = .ok (.aload_n 0, 1) := by decide +kernel
theorem dL_law_302 : decode cL_law 302 = .ok (.iload_n 3, 1) := by decide +kernel
theorem dL_law_303 : decode cL_law 303 = .ok (.iconst 2, 1) := by decide +kernel
theorem dL_law_304 : decode cL_law 304 = .ok (.iadd, 1) := by decide +kernel
theorem dL_law_305 : decode cL_law 305 = .ok (.iaload, 1) := by decide +kernel
theorem dL_law_306 : decode cL_law 306 = .ok (.invokevirtual 32, 3) := by decide +kernel
theorem dL_law_309 : decode cL_law 309 = .ok (.if_icmp .eq 193, 3) := by decide +kernel
theorem dL_law_312 : decode cL_law 312 = .ok (.iconst 0, 1) := by decide +kernel
theorem dL_law_313 : decode cL_law 313 = .ok (.ireturn, 1) := by decide +kernel
theorem dL_law_314 : decode cL_law 314 = .ok (.aload_n 1, 1) := by decide +kernel
theorem dL_law_315 : decode cL_law 315 = .ok (.aload_n 0, 1) := by decide +kernel
theorem dL_law_316 : decode cL_law 316 = .ok (.iload_n 3, 1) := by decide +kernel
theorem dL_law_317 : decode cL_law 317 = .ok (.iconst 1, 1) := by decide +kernel
theorem dL_law_318 : decode cL_law 318 = .ok (.iadd, 1) := by decide +kernel
theorem dL_law_319 : decode cL_law 319 = .ok (.iaload, 1) := by decide +kernel
theorem dL_law_320 : decode cL_law 320 = .ok (.aload_n 0, 1) := by decide +kernel
theorem dL_law_321 : decode cL_law 321 = .ok (.iload_n 3, 1) := by decide +kernel
theorem dL_law_322 : decode cL_law 322 = .ok (.iconst 2, 1) := by decide +kernel
theorem dL_law_323 : decode cL_law 323 = .ok (.iadd, 1) := by decide +kernel
theorem dL_law_324 : decode cL_law 324 = .ok (.iaload, 1) := by decide +kernel
theorem dL_law_325 : decode cL_law 325 = .ok (.invokevirtual 33, 3) := by decide +kernel
theorem dL_law_328 : decode cL_law 328 = .ok (.aload_n 2, 1) := by decide +kernel
theorem dL_law_329 : decode cL_law 329 = .ok (.aload_n 0, 1) := by decide +kernel
theorem dL_law_330 : decode cL_law 330 = .ok (.iload_n 3, 1) := by decide +kernel
theorem dL_law_331 : decode cL_law 331 = .ok (.iconst 1, 1) := by decide +kernel
theorem dL_law_332 : decode cL_law 332 = .ok (.iadd, 1) := by decide +kernel
theorem dL_law_333 : decode cL_law 333 = .ok (.iaload, 1) := by decide +kernel
theorem dL_law_334 : decode cL_law 334 = .ok (.aload_n 0, 1) := by decide +kernel
theorem dL_law_335 : decode cL_law 335 = .ok (.iload_n 3, 1) := by decide +kernel
theorem dL_law_336 : decode cL_law 336 = .ok (.iconst 2, 1) := by decide +kernel
theorem dL_law_337 : decode cL_law 337 = .ok (.iadd, 1) := by decide +kernel
theorem dL_law_338 : decode cL_law 338 = .ok (.iaload, 1) := by decide +kernel
theorem dL_law_339 : decode cL_law 339 = .ok (.invokevirtual 36, 3) := by decide +kernel
theorem dL_law_342 : decode cL_law 342 = .ok (.if_icmp .eq 160, 3) := by decide +kernel
theorem dL_law_345 : decode cL_law 345 = .ok (.iconst 0, 1) := by decide +kernel
theorem dL_law_346 : decode cL_law 346 = .ok (.ireturn, 1) := by decide +kernel
theorem dL_law_347 : decode cL_law 347 = .ok (.aload_n 1, 1) := by decide +kernel
theorem dL_law_348 : decode cL_law 348 = .ok (.invokevirtual 37, 3) := by decide +kernel
theorem dL_law_351 : decode cL_law 351 = .ok (.aload_n 2, 1) := by decide +kernel
theorem dL_law_352 : decode cL_law 352 = .ok (.invokevirtual 41, 3) := by decide +kernel
theorem dL_law_355 : decode cL_law 355 = .ok (.if_icmp .eq 147, 3) := by decide +kernel
theorem dL_law_358 : decode cL_law 358 = .ok (.iconst 0, 1) := by decide +kernel
theorem dL_law_359 : decode cL_law 359 = .ok (.ireturn, 1) := by decide +kernel
theorem dL_law_360 : decode cL_law 360 = .ok (.aload_n 1, 1) := by decide +kernel
theorem dL_law_361 : decode cL_law 361 = .ok (.aload_n 0, 1) := by decide +kernel
theorem dL_law_362 : decode cL_law 362 = .ok (.iload_n 3, 1) := by decide +kernel
theorem dL_law_363 : decode cL_law 363 = .ok (.iconst 1, 1) := by decide +kernel
theorem dL_law_364 : decode cL_law 364 = .ok (.iadd, 1) := by decide +kernel
theorem dL_law_365 : decode cL_law 365 = .ok (.iaload, 1) := by decide +kernel
theorem dL_law_366 : decode cL_law 366 = .ok (.aload_n 0, 1) := by decide +kernel
theorem dL_law_367 : decode cL_law 367 = .ok (.iload_n 3, 1) := by decide +kernel
theorem dL_law_368 : decode cL_law 368 = .ok (.iconst 2, 1) := by decide +kernel
theorem dL_law_369 : decode cL_law 369 = .ok (.iadd, 1) := by decide +kernel
theorem dL_law_370 : decode cL_law 370 = .ok (.iaload, 1) := by decide +kernel
theorem dL_law_371 : decode cL_law 371 = .ok (.invokevirtual 42, 3) := by decide +kernel
theorem dL_law_374 : decode cL_law 374 = .ok (.aload_n 2, 1) := by decide +kernel
theorem dL_law_375 : decode cL_law 375 = .ok (.aload_n 0, 1) := by decide +kernel
theorem dL_law_376 : decode cL_law 376 = .ok (.iload_n 3, 1) := by decide +kernel
theorem dL_law_377 : decode cL_law 377 = .ok (.iconst 1, 1) := by decide +kernel
theorem dL_law_378 : decode cL_law 378 = .ok (.iadd, 1) := by decide +kernel
theorem dL_law_379 : decode cL_law 379 = .ok (.iaload, 1) := by decide +kernel
theorem dL_law_380 : decode cL_law 380 = .ok (.aload_n 0, 1) := by decide +kernel
theorem dL_law_381 : decode cL_law 381 = .ok (.iload_n 3, 1) := by decide +kernel
theorem dL_law_382 : decode cL_law 382 = .ok (.iconst 2, 1) := by decide +kernel
theorem dL_law_383 : decode cL_law 383 = .ok (.iadd, 1) := by decide +kernel
theorem dL_law_384 : decode cL_law 384 = .ok (.iaload, 1) := by decide +kernel
theorem dL_law_385 : decode cL_law 385 = .ok (.invokevirtual 45, 3) := by decide +kernel
theorem dL_law_388 : decode cL_law 388 = .ok (.if_icmp .eq 114, 3) := by decide +kernel
theorem dL_law_391 : decode cL_law 391 = .ok (.iconst 0, 1) := by decide +kernel
theorem dL_law_392 : decode cL_law 392 = .ok (.ireturn, 1) := by decide +kernel
theorem dL_law_393 : decode cL_law 393 = .ok (.aload_n 1, 1) := by decide +kernel
theorem dL_law_394 : decode cL_law 394 = .ok (.aload_n 0, 1) := by decide +kernel
theorem dL_law_395 : decode cL_law 395 = .ok (.iload_n 3, 1) := by decide +kernel
theorem dL_law_396 : decode cL_law 396 = .ok (.iconst 1, 1) := by decide +kernel
theorem dL_law_397 : decode cL_law 397 = .ok (.iadd, 1) := by decide +kernel
theorem dL_law_398 : decode cL_law 398 = .ok (.iaload, 1) := by decide +kernel
theorem dL_law_399 : decode cL_law 399 = .ok (.aload_n 0, 1) := by decide +kernel
theorem dL_law_400 : decode cL_law 400 = .ok (.iload_n 3, 1) := by decide +kernel
theorem dL_law_401 : decode cL_law 401 = .ok (.iconst 2, 1) := by decide +kernel
theorem dL_law_402 : decode cL_law 402 = .ok (.iadd, 1) := by decide +kernel
theorem dL_law_403 : decode cL_law 403 = .ok (.iaload, 1) := by decide +kernel
theorem dL_law_404 : decode cL_law 404 = .ok (.aload_n 0, 1) := by decide +kernel
theorem dL_law_405 : decode cL_law 405 = .ok (.iload_n 3, 1) := by decide +kernel
theorem dL_law_406 : decode cL_law 406 = .ok (.iconst 3, 1) := by decide +kernel
theorem dL_law_407 : decode cL_law 407 = .ok (.iadd, 1) := by decide +kernel
theorem dL_law_408 : decode cL_law 408 = .ok (.iaload, 1) := by decide +kernel
theorem dL_law_409 : decode cL_law 409 = .ok (.aload_n 0, 1) := by decide +kernel
theorem dL_law_410 : decode cL_law 410 = .ok (.iload_n 3, 1) := by decide +kernel
theorem dL_law_411 : decode cL_law 411 = .ok (.iconst 4, 1) := by decide +kernel
theorem dL_law_412 : decode cL_law 412 = .ok (.iadd, 1) := by decide +kernel
theorem dL_law_413 : decode cL_law 413 = .ok (.iaload, 1) := by decide +kernel
theorem dL_law_414 : decode cL_law 414 = .ok (.aload_n 0, 1) := by decide +kernel
theorem dL_law_415 : decode cL_law 415 = .ok (.iload_n 3, 1) := by decide +kernel
theorem dL_law_416 : decode cL_law 416 = .ok (.iconst 5, 1) := by decide +kernel
theorem dL_law_417 : decode cL_law 417 = .ok (.iadd, 1) := by decide +kernel
theorem dL_law_418 : decode cL_law 418 = .ok (.iaload, 1) := by decide +kernel
theorem dL_law_419 : decode cL_law 419 = .ok (.invokevirtual 46, 3) := by decide +kernel
theorem dL_law_422 : decode cL_law 422 = .ok (.aload_n 2, 1) := by decide +kernel
theorem dL_law_423 : decode cL_law 423 = .ok (.aload_n 0, 1) := by decide +kernel
theorem dL_law_424 : decode cL_law 424 = .ok (.iload_n 3, 1) := by decide +kernel
theorem dL_law_425 : decode cL_law 425 = .ok (.iconst 1, 1) := by decide +kernel
theorem dL_law_426 : decode cL_law 426 = .ok (.iadd, 1) := by decide +kernel
theorem dL_law_427 : decode cL_law 427 = .ok (.iaload, 1) := by decide +kernel
theorem dL_law_428 : decode cL_law 428 = .ok (.aload_n 0, 1) := by decide +kernel
theorem dL_law_429 : decode cL_law 429 = .ok (.iload_n 3, 1) := by decide +kernel
theorem dL_law_430 : decode cL_law 430 = .ok (.iconst 2, 1) := by decide +kernel
theorem dL_law_431 : decode cL_law 431 = .ok (.iadd, 1) := by decide +kernel
theorem dL_law_432 : decode cL_law 432 = .ok (.iaload, 1) := by decide +kernel
theorem dL_law_433 : decode cL_law 433 = .ok (.aload_n 0, 1) := by decide +kernel
theorem dL_law_434 : decode cL_law 434 = .ok (.iload_n 3, 1) := by decide +kernel
theorem dL_law_435 : decode cL_law 435 = .ok (.iconst 3, 1) := by decide +kernel
theorem dL_law_436 : decode cL_law 436 = .ok (.iadd, 1) := by decide +kernel
theorem dL_law_437 : decode cL_law 437 = .ok (.iaload, 1) := by decide +kernel
theorem dL_law_438 : decode cL_law 438 = .ok (.aload_n 0, 1) := by decide +kernel
theorem dL_law_439 : decode cL_law 439 = .ok (.iload_n 3, 1) := by decide +kernel
theorem dL_law_440 : decode cL_law 440 = .ok (.iconst 4, 1) := by decide +kernel
theorem dL_law_441 : decode cL_law 441 = .ok (.iadd, 1) := by decide +kernel
theorem dL_law_442 : decode cL_law 442 = .ok (.iaload, 1) := by decide +kernel
theorem dL_law_443 : decode cL_law 443 = .ok (.aload_n 0, 1) := by decide +kernel
theorem dL_law_444 : decode cL_law 444 = .ok (.iload_n 3, 1) := by decide +kernel
theorem dL_law_445 : decode cL_law 445 = .ok (.iconst 5, 1) := by decide +kernel
theorem dL_law_446 : decode cL_law 446 = .ok (.iadd, 1) := by decide +kernel
theorem dL_law_447 : decode cL_law 447 = .ok (.iaload, 1) := by decide +kernel
theorem dL_law_448 : decode cL_law 448 = .ok (.invokevirtual 49, 3) := by decide +kernel
theorem dL_law_451 : decode cL_law 451 = .ok (.if_icmp .eq 51, 3) := by decide +kernel
theorem dL_law_454 : decode cL_law 454 = .ok (.iconst 0, 1) := by decide +kernel
theorem dL_law_455 : decode cL_law 455 = .ok (.ireturn, 1) := by decide +kernel
theorem dL_law_456 : decode cL_law 456 = .ok (.aload_n 1, 1) := by decide +kernel
theorem dL_law_457 : decode cL_law 457 = .ok (.aload_n 0, 1) := by decide +kernel
theorem dL_law_458 : decode cL_law 458 = .ok (.iload_n 3, 1) := by decide +kernel
theorem dL_law_459 : decode cL_law 459 = .ok (.iconst 1, 1) := by decide +kernel
theorem dL_law_460 : decode cL_law 460 = .ok (.iadd, 1) := by decide +kernel
theorem dL_law_461 : decode cL_law 461 = .ok (.iaload, 1) := by decide +kernel
theorem dL_law_462 : decode cL_law 462 = .ok (.invokevirtual 50, 3) := by decide +kernel
theorem dL_law_465 : decode cL_law 465 = .ok (.aload_n 2, 1) := by decide +kernel
theorem dL_law_466 : decode cL_law 466 = .ok (.aload_n 0, 1) := by decide +kernel
theorem dL_law_467 : decode cL_law 467 = .ok (.iload_n 3, 1) := by decide +kernel
theorem dL_law_468 : decode cL_law 468 = .ok (.iconst 1, 1) := by decide +kernel
theorem dL_law_469 : decode cL_law 469 = .ok (.iadd, 1) := by decide +kernel
theorem dL_law_470 : decode cL_law 470 = .ok (.iaload, 1) := by decide +kernel
theorem dL_law_471 : decode cL_law 471 = .ok (.invokevirtual 54, 3) := by decide +kernel
theorem dL_law_474 : decode cL_law 474 = .ok (.if_icmp .eq 28, 3) := by decide +kernel
theorem dL_law_477 : decode cL_law 477 = .ok (.iconst 0, 1) := by decide +kernel
theorem dL_law_478 : decode cL_law 478 = .ok (.ireturn, 1) := by decide +kernel
theorem dL_law_479 : decode cL_law 479 = .ok (.aload_n 1, 1) := by decide +kernel
theorem dL_law_480 : decode cL_law 480 = .ok (.aload_n 0, 1) := by decide +kernel
theorem dL_law_481 : decode cL_law 481 = .ok (.iload_n 3, 1) := by decide +kernel
theorem dL_law_482 : decode cL_law 482 = .ok (.iconst 1, 1) := by decide +kernel
theorem dL_law_483 : decode cL_law 483 = .ok (.iadd, 1) := by decide +kernel
theorem dL_law_484 : decode cL_law 484 = .ok (.iaload, 1) := by decide +kernel
theorem dL_law_485 : decode cL_law 485 = .ok (.invokevirtual 55, 3) := by decide +kernel
theorem dL_law_488 : decode cL_law 488 = .ok (.aload_n 2, 1) := by decide +kernel
theorem dL_law_489 : decode cL_law 489 = .ok (.aload_n 0, 1) := by decide +kernel
theorem dL_law_490 : decode cL_law 490 = .ok (.iload_n 3, 1) := by decide +kernel
theorem dL_law_491 : decode cL_law 491 = .ok (.iconst 1, 1) := by decide +kernel
theorem dL_law_492 : decode cL_law 492 = .ok (.iadd, 1) := by decide +kernel
theorem dL_law_493 : decode cL_law 493 = .ok (.iaload, 1) := by decide +kernel
theorem dL_law_494 : decode cL_law 494 = .ok (.invokevirtual 58, 3) := by decide +kernel
theorem dL_law_497 : decode cL_law 497 = .ok (.if_icmp .eq 5, 3) := by decide +kernel
theorem dL_law_500 : decode cL_law 500 = .ok (.iconst 0, 1) := by decide +kernel
theorem dL_law_501 : decode cL_law 501 = .ok (.ireturn, 1) := by decide +kernel
theorem dL_law_502 : decode cL_law 502 = .ok (.iinc 3 8, 3) := by decide +kernel
theorem dL_law_505 : decode cL_law 505 = .ok (.goto (-487), 3) := by decide +kernel
theorem dL_law_508 : decode cL_law 508 = .ok (.iconst 1, 1) := by decide +kernel
theorem dL_law_509 : decode cL_law 509 = .ok (.ireturn, 1) := by decide +kernel
end
section
/-! A flat picture of the machine: cells by number, ints by cell and place; a judgement 'aw' over it, of which every row below is proved out of the kit's rows -/
abbrev aM : Type := Nat → Nat → Int32
abbrev aF : Type := Option (Option Nat)
abbrev aC : Type := (Nat × List aF) ⊕ (Nat ⊕ (Nat × List (Option Nat)))
abbrev aE : Type := List aC
abbrev aK : Type := va_G × (Nat → ClassId) × Nat × (Nat → Nat)
def aAd (K : aK) (a : Nat) : Nat := if a < 1000000 then K.2.2.1 + a else K.2.2.2 (a - 1000000)
def aRv (K : aK) : Value → Value
  | .ref a => .ref (aAd K a)
  | v => v
def aFv (K : aK) (x : Int32) : aF → Value
  | none => .int x
  | some none => .null
  | some (some r) => .ref (aAd K r)
def aX (K : aK) (M : aM) (a : Nat) : aC → va_E
  | .inl (c, fs) => .inr (c, fs.mapIdx (fun k o => aFv K (M a k) o))
  | .inr (.inl n) => .inl (K.2.1 0, n, .inl (M a))
  | .inr (.inr (t, rs)) => .inl (K.2.1 (t + 1), rs.length, .inr (.inr (.inr (.inr (fun i => ((rs[i]?).getD none).map (aAd K))))))
def aWd (K : aK) (E : aE) (M : aM) : va_W := E.mapIdx (fun a c => (K.2.2.1 + a, aX K M a c))
def aA (K : aK) : Nat → Prop := fun q => K.2.2.1 ≤ q
def aH (K : aK) (E : aE) (M : aM) (H : Heap) : Prop := va_P K.1 vwCl (aWd K E M) H ∧ E.length < 1000000
def aTy (K : aK) : List (ClassId × FieldType) := [(K.2.1 0, .int), (K.2.1 1, .object RX5), (K.2.1 2, .object RX1)]
theorem aRv_cat (K : aK) (v : Value) : (aRv K v).category = v.category := by cases v <;> rfl
theorem aWd_get {K : aK} {E : aE} {M : aM} {a : Nat} {c : aC} (h : E[a]? = some c) : (aWd K E M)[a]? = some (K.2.2.1 + a, aX K M a c) := by
  unfold aWd
  rw [List.getElem?_mapIdx, h]
  rfl
theorem aWd_of {K : aK} {E : aE} {M : aM} {k : Nat} {q : Nat × va_E} (h : (aWd K E M)[k]? = some q) : ∃ c, E[k]? = some c ∧ q = (K.2.2.1 + k, aX K M k c) := by
  unfold aWd at h
  rw [List.getElem?_mapIdx] at h
  cases hc : E[k]? with
  | none => rw [hc] at h; cases h
  | some c => rw [hc] at h; exact ⟨c, rfl, (Option.some.inj h).symm⟩
theorem aWd_len (K : aK) (E : aE) (M : aM) : (aWd K E M).length = E.length := by unfold aWd; exact List.length_mapIdx
theorem aWd_D (K : aK) (E : aE) (M : aM) : va_D (aA K) (aWd K E M) := by
  refine ⟨fun i j p q hi hj hpq => ?_, fun k q hk => ?_⟩
  · obtain ⟨c1, -, e1⟩ := aWd_of hi
    obtain ⟨c2, -, e2⟩ := aWd_of hj
    rw [e1, e2] at hpq
    exact Nat.add_left_cancel hpq
  · obtain ⟨c1, -, e1⟩ := aWd_of hk
    rw [e1]
    exact Nat.le_add_right _ _
def up2 (M : aM) (a k : Nat) (x : Int32) : aM := fun b j => if b = a ∧ j = k then x else M b j
theorem up2_s (M : aM) (a k : Nat) (x : Int32) : up2 M a k x a k = x := by unfold up2; rw [if_pos ⟨rfl, rfl⟩]
theorem up2_a (M : aM) {a k b j : Nat} (x : Int32) (h : b ≠ a) : up2 M a k x b j = M b j := by unfold up2; rw [if_neg (fun q => h q.1)]
theorem up2_ra (M : aM) {a k b : Nat} (x : Int32) (h : b ≠ a) : up2 M a k x b = M b := funext fun _ => up2_a M x h
theorem up2_k (M : aM) {a k b j : Nat} (x : Int32) (h : j ≠ k) : up2 M a k x b j = M b j := by unfold up2; rw [if_neg (fun q => h q.2)]
theorem aWd_ext {K : aK} {E : aE} {M : aM} {w : va_W} (hl : w.length = E.length) (h : ∀ (k : Nat) (c : aC), E[k]? = some c → w[k]? = some (K.2.2.1 + k, aX K M k c)) : w = aWd K E M := by
  apply List.ext_getElem?
  intro k
  cases hc : E[k]? with
  | some c => rw [h k c hc, aWd_get hc]
  | none =>
    have h1 : E.length ≤ k := List.getElem?_eq_none_iff.mp hc
    rw [List.getElem?_eq_none_iff.mpr (by rw [hl]; exact h1), List.getElem?_eq_none_iff.mpr (by rw [aWd_len]; exact h1)]
theorem aX_off {K : aK} {M : aM} {a k b : Nat} {x : Int32} (c : aC) (h : b ≠ a) : aX K (up2 M a k x) b c = aX K M b c := by
  rcases c with ⟨c, fs⟩ | n | ⟨t, rs⟩
  · unfold aX; simp only [up2_ra M x h]
  · unfold aX; simp only [up2_ra M x h]
  · rfl
theorem aWd_set {K : aK} {E : aE} {M M' : aM} {a : Nat} {c : aC} {e : va_E} (hE : E[a]? = some c) (he : e = aX K M' a c) (ho : ∀ b, b ≠ a → M' b = M b) : (aWd K E M).set a (K.2.2.1 + a, e) = aWd K E M' := by
  apply aWd_ext
  · rw [List.length_set, aWd_len]
  · intro k c' hk
    have hlt : k < E.length := (List.getElem?_eq_some_iff.mp hk).1
    rw [List.getElem?_set]
    by_cases hka : a = k
    · subst hka
      rw [if_pos rfl, if_pos (by rw [aWd_len]; exact hlt), he]
      rw [hE] at hk
      cases hk
      rfl
    · rw [if_neg hka, aWd_get hk]
      have h1 := ho k (fun q => hka q.symm)
      rcases c' with ⟨c', fs⟩ | n | ⟨t, rs⟩
      · unfold aX; simp only [h1]
      · unfold aX; simp only [h1]
      · rfl
/-! the words -/
def aTB : List Cond := lw_tbl.filter goodWord
def aNest : Cond → Bool
  | .fieldLinkNest .. => true
  | .methodLinkNest .. => true
  | _ => false
def aNT : List Cond := tables_1.filter aNest
theorem aGood {w : Cond} (h : w ∈ aTB) : GoodIn aTB (w :: aTB) := by
  intro x hx
  rcases List.mem_cons.mp hx with rfl | hx
  · exact ⟨h, good_of_word (List.mem_filter.mp h).2⟩
  · exact ⟨hx, good_of_word (List.mem_filter.mp hx).2⟩
theorem aNest_warm {w : Cond} (hw : w ∈ aNT) {s U : State} (hW : s.WarmedH U.vm) (h : va_Nw w s) : va_Nw w U := by
  have h1 := (List.mem_filter.mp hw).2
  cases w <;> first | (simp [aNest] at h1; done) | exact va_Nw.warmF hW h | exact va_Nw.warmM hW h
/-! what the statics hold -/
def aTab (k j : Nat) : Int32 := (([[0, 0, 0, 2, 2, 2, 2, 2, 2, 2, 2, 1, 1, 3, 2, 3, 1, 1, 1, 3, 2], [4, 4, 4, 0, 0, 0, 0, 0, 0, 2, 1, 1, 0, 1, 1, 1, 1, 1, 1, 0, 0], [4, 4, 4, 0, 0, 0, 0, 0, 0, 3, 0, 4, 4, 0, 1, 0, 4, 4, 4, 4, 0], [4, 4, 4, 4, 4, 4, 4, 4, 4, 4, 4, 4, 4, 0, 4, 0, 4, 4, 4, 4, 4]] : List (List Int32)).getD k []).getD j 0
def aSn (k : Nat) : String × String := match k with
  | 0 => (RX4, "PARTS")
  | 1 => (RX6, "NEED_A")
  | 2 => (RX6, "NEED_B")
  | _ => (RX6, "NEED_C")
def aSt (K : aK) (U : State) : Prop := ∀ k, k < 4 → va_Z (aSn k).1 (aSn k).2 "[I" (.ref (K.2.2.2 k)) (aA K) U U.heap ∧ va_T .int (K.2.2.2 k) 21 (fun j => .int (aTab k j)) (aA K) U U.heap
def aV (K : aK) (U : State) : Prop := va_K K.1 vwCl (aTy K) U ∧ (∀ w ∈ aNT, va_Nw w U) ∧ va_AO RX5 U ∧ va_AO RX1 U ∧ aSt K U
theorem aV.next {K : aK} {s U : State} (h : aV K s) (hW : s.WarmedH U.vm) (hk : ∀ q : Nat, q < s.heap.size → ¬ aA K q → U.heap[q]? = s.heap[q]?) : aV K U := by
  obtain ⟨h1, h2, h3, h4, h5⟩ := h
  exact ⟨va_K.moved hW.alike h1, fun w hw => aNest_warm hw hW (h2 w hw), va_AO.moved hW.alike h3, va_AO.moved hW.alike h4, fun k hk4 => ⟨((h5 k hk4).1.moved hW.alike).kept hk, ((h5 k hk4).2.moved hW.alike).kept hk⟩⟩
theorem aV.same {K : aK} {s U : State} (h : aV K s) (hvm : s.vm = U.vm) (hh : U.heap = s.heap) : aV K U := by
  obtain ⟨h1, h2, h3, h4, h5⟩ := h
  have hA : s.vm.Alike U.vm := by rw [← hvm]; exact Vm.Alike.refl s.vm
  refine ⟨va_K.moved hA h1, fun w hw => ?_, va_AO.moved hA h3, va_AO.moved hA h4, fun k hk4 => ⟨((h5 k hk4).1.moved hA).kept (fun q _ _ => by rw [hh]), ((h5 k hk4).2.moved hA).kept (fun q _ _ => by rw [hh])⟩⟩
  have h6 := (List.mem_filter.mp hw).2
  exact va_Nw.same (by cases w <;> first | (simp [aNest] at h6; done) | rfl) hvm (h2 w hw)
end
section
abbrev aY : Type := MethodName × ByteArray × Nat × Option FieldType
def aL (K : aK) (ls : Array Slot) (n : Nat) (L : List Value) : Prop := ls.size = n ∧ L.length = n ∧ (lv_wf ls ∧ ∀ w ∈ L, w.category = 1) ∧ ∀ (i : Nat) (v : Value), L[i]? = some v → v ≠ .null → ls[i]? = some (.val (aRv K v))
def aCx (K : aK) (Y : aY) (d : Nat) (p : Program) (R : Room) (s : State) (m : MethodId) (args : Array Value) (meth : Method) (c : Code) (mc ms : Nat) : Prop :=
  p.tables.exec = Jvm.exec ∧ c.code = Y.2.1 ∧ c.maxLocals = Y.2.2.1 ∧ meth.sig.returnType = Y.2.2.2 ∧ meth.locks = false ∧ meth.name = Y.1.name ∧ s.vm.findClass Y.1.cls = some m.cls ∧ (∀ w ∈ aTB, w.before args s = true) ∧ aV K s ∧ d ≤ R.frames ∧ 60 * d ≤ R.locals ∧ mc ≤ R.cells ∧ ms ≤ R.slots ∧ K.2.2.1 ≤ s.heap.size
def aQ (K : aK) (Q : Option Value → aE → aM → Prop) (mc : Nat) : Array Value → State → Outcome → State → Prop := fun _ st o t =>
  (∃ (v : Option Value) (E : aE) (M : aM), o = .returned (v.map (aRv K)) ∧ Q v E M ∧ aH K E M t.heap ∧ st.heap.size + mc = K.2.2.1 + E.length) ∧ va_F (aA K) st t
def aw (l : Launch) (K : aK) (Y : aY) (d kc ks pc : Nat) (L st : List Value) (E : aE) (M : aM) (Q : Option Value → aE → aM → Prop) : Prop :=
  ∀ (p : Program) (e : Env) (R : Room) (s : State) (m : MethodId) (args : Array Value) (below : List Frame) (meth : Method) (c : Code) (H : Heap) (locs : List Loc) (cells slots mc ms : Nat) (ls : Array Slot),
    aCx K Y d p R s m args meth c mc ms → aH K E M H → va_S (aA K) s.heap H locs → cells + kc = mc → slots + ks ≤ ms → s.heap.size + cells = K.2.2.1 + E.length → aL K ls Y.2.2.1 L →
    W p l e R s m args below meth c H locs cells slots (MQ below (aQ K Q mc) args s mc ms (aA K)) (F0 m pc ls (st.map (aRv K)))
theorem aw.mono {l : Launch} {K : aK} {Y : aY} {d kc ks pc : Nat} {L st : List Value} {E : aE} {M : aM} {Q Q' : Option Value → aE → aM → Prop} (h : aw l K Y d kc ks pc L st E M Q) (hq : ∀ v E M, Q v E M → Q' v E M) : aw l K Y d kc ks pc L st E M Q' := by
  intro p e R s m args below meth c H locs cells slots mc ms ls C hH hS h1 h2 h3 hl T hT X
  obtain ⟨t, a, o, b1, b2, b3, b4⟩ := h p e R s m args below meth c H locs cells slots mc ms ls C hH hS h1 h2 h3 hl T hT X
  obtain ⟨⟨v, E', M', c1, c2, c3, c4⟩, c5⟩ := b3
  exact ⟨t, a, o, b1, b2, ⟨⟨v, E', M', c1, hq _ _ _ c2, c3, c4⟩, c5⟩, b4⟩
theorem aL_at {K : aK} {ls : Array Slot} {n : Nat} {L : List Value} (h : aL K ls n L) {i : Nat} {v : Value} (hi : L[i]? = some v) (hv : v ≠ .null) : ls[i]? = some (.val (aRv K v)) := h.2.2.2 i v hi hv
/-- the locals as the kit lists them -/
def aLv (K : aK) (L : List Value) : List (Nat × Value) := (List.range L.length).filterMap (fun i => match L[i]? with
  | some v => if v = .null then none else some (i, aRv K v)
  | none => none)
theorem aLv_has {K : aK} {ls : Array Slot} {n : Nat} {L : List Value} (h : aL K ls n L) : lv_has ls n (aLv K L) := by
  refine ⟨h.1, h.2.2.1.1, fun q hq => ?_⟩
  obtain ⟨i, -, hi⟩ := List.mem_filterMap.mp hq
  cases hL : L[i]? with
  | none => rw [hL] at hi; cases hi
  | some v =>
    rw [hL] at hi
    by_cases hv : v = .null
    · simp [hv] at hi
    · simp only [hv, if_false] at hi
      cases hi
      exact h.2.2.2 i v hL hv
theorem aLv_mem {K : aK} {L : List Value} {i : Nat} {v : Value} (hi : L[i]? = some v) (hv : v ≠ .null) : (i, aRv K v) ∈ aLv K L := by
  unfold aLv
  refine List.mem_filterMap.mpr ⟨i, List.mem_range.mpr (List.getElem?_eq_some_iff.mp hi).1, ?_⟩
  simp [hi, hv]
theorem aL_set {K : aK} {ls ls' : Array Slot} {n i : Nat} {L : List Value} {v : Value} (h : aL K ls n L) (hv : v.category = 1) (h' : lv_has ls' n ((i, aRv K v) :: (aLv K L).filter (fun q => !(q.1 == i) && !(q.1 + 1 == i && q.2.category == 2)))) : aL K ls' n (L.set i v) := by
  have hc := h.2.2.1.2
  refine ⟨h'.1, by rw [List.length_set]; exact h.2.1, ⟨h'.2.1, fun w hw => (List.mem_or_eq_of_mem_set hw).elim (hc w) (fun q => by rw [q]; exact hv)⟩, fun j w hj hw => ?_⟩
  rw [List.getElem?_set] at hj
  by_cases hij : i = j
  · subst hij
    rw [if_pos rfl] at hj
    by_cases hl : i < L.length
    · rw [if_pos hl] at hj
      cases hj
      exact h'.2.2 _ List.mem_cons_self
    · rw [if_neg hl] at hj
      cases hj
  · rw [if_neg hij] at hj
    refine h'.2.2 (j, aRv K w) (List.mem_cons_of_mem _ (List.mem_filter.mpr ⟨aLv_mem hj hw, ?_⟩))
    have h1 : w.category = 1 := hc w (List.mem_of_getElem? hj)
    have h2 : ¬ j = i := fun q => hij q.symm
    simp [h2, aRv_cat, h1]
section AW
variable {l : Launch} {K : aK} {Y : aY} {d kc ks pc n : Nat} {L st : List Value} {E : aE} {M : aM} {Q : Option Value → aE → aM → Prop}
theorem aw_iconst {i : Int} {v : Int32} (hd : decode Y.2.1 pc = .ok (.iconst i, 1)) (hv : Int32.ofInt i = v) (hn : pc + 1 = n) (k : aw l K Y d kc ks n L (.int v :: st) E M Q) : aw l K Y d kc ks pc L st E M Q := by
  subst hn
  intro p e R s m args below meth c H locs cells slots mc ms ls C hH hS h1 h2 h3 hl
  exact lv_iconst C.1 C.2.1 hd hv (k p e R s m args below meth c H locs cells slots mc ms ls C hH hS h1 h2 h3 hl)
theorem aw_bipush {i : Int} {v : Int32} (hd : decode Y.2.1 pc = .ok (.bipush i, 2)) (hv : (Int8.ofInt i).toInt32 = v) (hn : pc + 2 = n) (k : aw l K Y d kc ks n L (.int v :: st) E M Q) : aw l K Y d kc ks pc L st E M Q := by
  subst hn
  intro p e R s m args below meth c H locs cells slots mc ms ls C hH hS h1 h2 h3 hl
  exact lv_bipush C.1 C.2.1 hd hv (k p e R s m args below meth c H locs cells slots mc ms ls C hH hS h1 h2 h3 hl)
theorem aw_sipush {i : Int} {v : Int32} (hd : decode Y.2.1 pc = .ok (.sipush i, 3)) (hv : (Int16.ofInt i).toInt32 = v) (hn : pc + 3 = n) (k : aw l K Y d kc ks n L (.int v :: st) E M Q) : aw l K Y d kc ks pc L st E M Q := by
  subst hn
  intro p e R s m args below meth c H locs cells slots mc ms ls C hH hS h1 h2 h3 hl
  exact lv_sipush C.1 C.2.1 hd hv (k p e R s m args below meth c H locs cells slots mc ms ls C hH hS h1 h2 h3 hl)
theorem aw_ldc {i : Nat} {v : Int32} (hd : decode Y.2.1 pc = .ok (.ldc i, 2)) (hw : Cond.constant Y.1.cls i v ∈ aTB) (hn : pc + 2 = n) (k : aw l K Y d kc ks n L (.int v :: st) E M Q) : aw l K Y d kc ks pc L st E M Q := by
  subst hn
  intro p e R s m args below meth c H locs cells slots mc ms ls C hH hS h1 h2 h3 hl
  exact W.ldc C.1 C.2.1 C.2.2.2.2.2.2.1 (C.2.2.2.2.2.2.2.1 _ hw) rfl hd (k p e R s m args below meth c H locs cells slots mc ms ls C hH hS h1 h2 h3 hl)
theorem aw_iload_n {i : Fin 4} {x : Int32} (hd : decode Y.2.1 pc = .ok (.iload_n i, 1)) (hL : L[(i : Nat)]? = some (.int x)) (hn : pc + 1 = n) (k : aw l K Y d kc ks n L (.int x :: st) E M Q) : aw l K Y d kc ks pc L st E M Q := by
  subst hn
  intro p e R s m args below meth c H locs cells slots mc ms ls C hH hS h1 h2 h3 hl
  exact lv_iload_n C.1 C.2.1 hd rfl (aL_at hl hL (fun h => by cases h)) (k p e R s m args below meth c H locs cells slots mc ms ls C hH hS h1 h2 h3 hl)
theorem aw_iload {i : Nat} {x : Int32} (hd : decode Y.2.1 pc = .ok (.iload i, 2)) (hL : L[i]? = some (.int x)) (hn : pc + 2 = n) (k : aw l K Y d kc ks n L (.int x :: st) E M Q) : aw l K Y d kc ks pc L st E M Q := by
  subst hn
  intro p e R s m args below meth c H locs cells slots mc ms ls C hH hS h1 h2 h3 hl
  exact lv_iload C.1 C.2.1 hd (aL_at hl hL (fun h => by cases h)) (k p e R s m args below meth c H locs cells slots mc ms ls C hH hS h1 h2 h3 hl)
theorem aw_aload_n {i : Fin 4} {x : Nat} (hd : decode Y.2.1 pc = .ok (.aload_n i, 1)) (hL : L[(i : Nat)]? = some (.ref x)) (hn : pc + 1 = n) (k : aw l K Y d kc ks n L (.ref x :: st) E M Q) : aw l K Y d kc ks pc L st E M Q := by
  subst hn
  intro p e R s m args below meth c H locs cells slots mc ms ls C hH hS h1 h2 h3 hl
  exact lv_aload_n C.1 C.2.1 hd rfl (aL_at hl hL (fun h => by cases h)) (k p e R s m args below meth c H locs cells slots mc ms ls C hH hS h1 h2 h3 hl)
theorem aw_aload {i : Nat} {x : Nat} (hd : decode Y.2.1 pc = .ok (.aload i, 2)) (hL : L[i]? = some (.ref x)) (hn : pc + 2 = n) (k : aw l K Y d kc ks n L (.ref x :: st) E M Q) : aw l K Y d kc ks pc L st E M Q := by
  subst hn
  intro p e R s m args below meth c H locs cells slots mc ms ls C hH hS h1 h2 h3 hl
  exact lv_aload C.1 C.2.1 hd (aL_at hl hL (fun h => by cases h)) (k p e R s m args below meth c H locs cells slots mc ms ls C hH hS h1 h2 h3 hl)
theorem aw_istore_n {i : Fin 4} {x : Int32} {L' : List Value} (hd : decode Y.2.1 pc = .ok (.istore_n i, 1)) (hi : (i : Nat) < L.length) (hL : L.set i (.int x) = L') (hn : pc + 1 = n) (k : aw l K Y d kc ks n L' st E M Q) : aw l K Y d kc ks pc L (.int x :: st) E M Q := by
  subst hn; subst hL
  intro p e R s m args below meth c H locs cells slots mc ms ls C hH hS h1 h2 h3 hl
  exact lv_istore_n C.1 C.2.1 hd rfl (aLv_has hl) (by rw [← hl.2.1]; exact hi) rfl (fun ls' h' => k p e R s m args below meth c H locs cells slots mc ms ls' C hH hS h1 h2 h3 (aL_set (v := .int x) hl rfl h'))
theorem aw_istore {i : Nat} {x : Int32} {L' : List Value} (hd : decode Y.2.1 pc = .ok (.istore i, 2)) (hi : i < L.length) (hL : L.set i (.int x) = L') (hn : pc + 2 = n) (k : aw l K Y d kc ks n L' st E M Q) : aw l K Y d kc ks pc L (.int x :: st) E M Q := by
  subst hn; subst hL
  intro p e R s m args below meth c H locs cells slots mc ms ls C hH hS h1 h2 h3 hl
  exact lv_istore C.1 C.2.1 hd (aLv_has hl) (by rw [← hl.2.1]; exact hi) rfl (fun ls' h' => k p e R s m args below meth c H locs cells slots mc ms ls' C hH hS h1 h2 h3 (aL_set (v := .int x) hl rfl h'))
theorem aw_astore_n {i : Fin 4} {x : Nat} {L' : List Value} (hd : decode Y.2.1 pc = .ok (.astore_n i, 1)) (hi : (i : Nat) < L.length) (hL : L.set i (.ref x) = L') (hn : pc + 1 = n) (k : aw l K Y d kc ks n L' st E M Q) : aw l K Y d kc ks pc L (.ref x :: st) E M Q := by
  subst hn; subst hL
  intro p e R s m args below meth c H locs cells slots mc ms ls C hH hS h1 h2 h3 hl
  exact lv_astore_n C.1 C.2.1 hd rfl (aLv_has hl) (by rw [← hl.2.1]; exact hi) rfl (fun ls' h' => k p e R s m args below meth c H locs cells slots mc ms ls' C hH hS h1 h2 h3 (aL_set (v := .ref x) hl rfl h'))
theorem aw_astore {i : Nat} {x : Nat} {L' : List Value} (hd : decode Y.2.1 pc = .ok (.astore i, 2)) (hi : i < L.length) (hL : L.set i (.ref x) = L') (hn : pc + 2 = n) (k : aw l K Y d kc ks n L' st E M Q) : aw l K Y d kc ks pc L (.ref x :: st) E M Q := by
  subst hn; subst hL
  intro p e R s m args below meth c H locs cells slots mc ms ls C hH hS h1 h2 h3 hl
  exact lv_astore C.1 C.2.1 hd (aLv_has hl) (by rw [← hl.2.1]; exact hi) rfl (fun ls' h' => k p e R s m args below meth c H locs cells slots mc ms ls' C hH hS h1 h2 h3 (aL_set (v := .ref x) hl rfl h'))
theorem aw_iinc {i : Nat} {z : Int} {x v : Int32} {L' : List Value} (hd : decode Y.2.1 pc = .ok (.iinc i z, 3)) (hx : L[i]? = some (.int x)) (hv : x + Int32.ofInt z = v) (hL : L.set i (.int v) = L') (hn : pc + 3 = n) (k : aw l K Y d kc ks n L' st E M Q) : aw l K Y d kc ks pc L st E M Q := by
  subst hn; subst hL
  intro p e R s m args below meth c H locs cells slots mc ms ls C hH hS h1 h2 h3 hl
  have hm : (i, Value.int x) ∈ aLv K L := aLv_mem (K := K) hx (fun h => by cases h)
  obtain ⟨j, hj⟩ := List.getElem?_of_mem hm
  exact lv_iinc C.1 C.2.1 hd (aLv_has hl) hj hv (by rw [← hl.2.1]; exact (List.getElem?_eq_some_iff.mp hx).1) rfl (fun ls' h' => k p e R s m args below meth c H locs cells slots mc ms ls' C hH hS h1 h2 h3 (aL_set (v := .int v) hl rfl h'))
theorem aw_dup {v : Value} (hd : decode Y.2.1 pc = .ok (.dup, 1)) (hc : v.category = 1) (hn : pc + 1 = n) (k : aw l K Y d kc ks n L (v :: v :: st) E M Q) : aw l K Y d kc ks pc L (v :: st) E M Q := by
  subst hn
  intro p e R s m args below meth c H locs cells slots mc ms ls C hH hS h1 h2 h3 hl
  exact lv_dup C.1 C.2.1 hd (by rw [aRv_cat]; exact hc) (k p e R s m args below meth c H locs cells slots mc ms ls C hH hS h1 h2 h3 hl)
theorem aw_dup_x1 {v w : Value} (hd : decode Y.2.1 pc = .ok (.dup_x1, 1)) (hc : v.category = 1) (hc2 : w.category = 1) (hn : pc + 1 = n) (k : aw l K Y d kc ks n L (v :: w :: v :: st) E M Q) : aw l K Y d kc ks pc L (v :: w :: st) E M Q := by
  subst hn
  intro p e R s m args below meth c H locs cells slots mc ms ls C hH hS h1 h2 h3 hl
  exact lv_dup_x1 C.1 C.2.1 hd (by rw [aRv_cat]; exact hc) (by rw [aRv_cat]; exact hc2) (k p e R s m args below meth c H locs cells slots mc ms ls C hH hS h1 h2 h3 hl)
theorem aw_dup2 {v w : Value} (hd : decode Y.2.1 pc = .ok (.dup2, 1)) (hc : v.category = 1) (hc2 : w.category = 1) (hn : pc + 1 = n) (k : aw l K Y d kc ks n L (v :: w :: v :: w :: st) E M Q) : aw l K Y d kc ks pc L (v :: w :: st) E M Q := by
  subst hn
  intro p e R s m args below meth c H locs cells slots mc ms ls C hH hS h1 h2 h3 hl
  exact lv_dup2_11 C.1 C.2.1 hd (by rw [aRv_cat]; exact hc) (by rw [aRv_cat]; exact hc2) (k p e R s m args below meth c H locs cells slots mc ms ls C hH hS h1 h2 h3 hl)
theorem aw_iadd {x y : Int32} (hd : decode Y.2.1 pc = .ok (.iadd, 1)) (hn : pc + 1 = n) (k : aw l K Y d kc ks n L (.int (x + y) :: st) E M Q) : aw l K Y d kc ks pc L (.int y :: .int x :: st) E M Q := by
  subst hn
  intro p e R s m args below meth c H locs cells slots mc ms ls C hH hS h1 h2 h3 hl
  exact lv_iadd C.1 C.2.1 hd (k p e R s m args below meth c H locs cells slots mc ms ls C hH hS h1 h2 h3 hl)
theorem aw_isub {x y : Int32} (hd : decode Y.2.1 pc = .ok (.isub, 1)) (hn : pc + 1 = n) (k : aw l K Y d kc ks n L (.int (x - y) :: st) E M Q) : aw l K Y d kc ks pc L (.int y :: .int x :: st) E M Q := by
  subst hn
  intro p e R s m args below meth c H locs cells slots mc ms ls C hH hS h1 h2 h3 hl
  exact lv_isub C.1 C.2.1 hd (k p e R s m args below meth c H locs cells slots mc ms ls C hH hS h1 h2 h3 hl)
theorem aw_imul {x y : Int32} (hd : decode Y.2.1 pc = .ok (.imul, 1)) (hn : pc + 1 = n) (k : aw l K Y d kc ks n L (.int (x * y) :: st) E M Q) : aw l K Y d kc ks pc L (.int y :: .int x :: st) E M Q := by
  subst hn
  intro p e R s m args below meth c H locs cells slots mc ms ls C hH hS h1 h2 h3 hl
  exact lv_imul C.1 C.2.1 hd (k p e R s m args below meth c H locs cells slots mc ms ls C hH hS h1 h2 h3 hl)
theorem aw_iand {x y : Int32} (hd : decode Y.2.1 pc = .ok (.iand, 1)) (hn : pc + 1 = n) (k : aw l K Y d kc ks n L (.int (x &&& y) :: st) E M Q) : aw l K Y d kc ks pc L (.int y :: .int x :: st) E M Q := by
  subst hn
  intro p e R s m args below meth c H locs cells slots mc ms ls C hH hS h1 h2 h3 hl
  exact lv_iand C.1 C.2.1 hd (k p e R s m args below meth c H locs cells slots mc ms ls C hH hS h1 h2 h3 hl)
theorem aw_ixor {x y : Int32} (hd : decode Y.2.1 pc = .ok (.ixor, 1)) (hn : pc + 1 = n) (k : aw l K Y d kc ks n L (.int (x ^^^ y) :: st) E M Q) : aw l K Y d kc ks pc L (.int y :: .int x :: st) E M Q := by
  subst hn
  intro p e R s m args below meth c H locs cells slots mc ms ls C hH hS h1 h2 h3 hl
  exact lv_ixor C.1 C.2.1 hd (k p e R s m args below meth c H locs cells slots mc ms ls C hH hS h1 h2 h3 hl)
def aUshr (x y : Int32) : Int32 := (x.toUInt32 >>> (y.toUInt32 &&& Int32.toUInt32 31)).toInt32
theorem aw_iushr {x y : Int32} (hd : decode Y.2.1 pc = .ok (.iushr, 1)) (hn : pc + 1 = n) (k : aw l K Y d kc ks n L (.int (aUshr x y) :: st) E M Q) : aw l K Y d kc ks pc L (.int y :: .int x :: st) E M Q := by
  subst hn
  intro p e R s m args below meth c H locs cells slots mc ms ls C hH hS h1 h2 h3 hl
  exact lv_iushr C.1 C.2.1 hd rfl (k p e R s m args below meth c H locs cells slots mc ms ls C hH hS h1 h2 h3 hl)
theorem aw_ineg {x : Int32} (hd : decode Y.2.1 pc = .ok (.ineg, 1)) (hn : pc + 1 = n) (k : aw l K Y d kc ks n L (.int (-x) :: st) E M Q) : aw l K Y d kc ks pc L (.int x :: st) E M Q := by
  subst hn
  intro p e R s m args below meth c H locs cells slots mc ms ls C hH hS h1 h2 h3 hl
  exact lv_ineg C.1 C.2.1 hd (k p e R s m args below meth c H locs cells slots mc ms ls C hH hS h1 h2 h3 hl)
theorem aw_idiv {x y : Int32} (hd : decode Y.2.1 pc = .ok (.idiv, 1)) (hy : ¬ y = 0) (hn : pc + 1 = n) (k : aw l K Y d kc ks n L (.int (x / y) :: st) E M Q) : aw l K Y d kc ks pc L (.int y :: .int x :: st) E M Q := by
  subst hn
  intro p e R s m args below meth c H locs cells slots mc ms ls C hH hS h1 h2 h3 hl
  exact lv_idiv C.1 C.2.1 hd hy (k p e R s m args below meth c H locs cells slots mc ms ls C hH hS h1 h2 h3 hl)
theorem aw_irem {x y : Int32} (hd : decode Y.2.1 pc = .ok (.irem, 1)) (hy : ¬ y = 0) (hn : pc + 1 = n) (k : aw l K Y d kc ks n L (.int (x - x / y * y) :: st) E M Q) : aw l K Y d kc ks pc L (.int y :: .int x :: st) E M Q := by
  subst hn
  intro p e R s m args below meth c H locs cells slots mc ms ls C hH hS h1 h2 h3 hl
  exact lv_irem C.1 C.2.1 hd hy (k p e R s m args below meth c H locs cells slots mc ms ls C hH hS h1 h2 h3 hl)
theorem aw_goto {off : Int} (hd : decode Y.2.1 pc = .ok (.goto off, 3)) (hn : (pc : Int) + off = (n : Int)) (k : aw l K Y d kc ks n L st E M Q) : aw l K Y d kc ks pc L st E M Q := by
  intro p e R s m args below meth c H locs cells slots mc ms ls C hH hS h1 h2 h3 hl
  exact lv_goto C.1 C.2.1 hd hn (k p e R s m args below meth c H locs cells slots mc ms ls C hH hS h1 h2 h3 hl)
theorem aw_if_eq {x : Int32} {off : Int} {tg : Nat} (hd : decode Y.2.1 pc = .ok (.ifCond .eq off, 3)) (ht : (pc : Int) + off = (tg : Int)) (hn : pc + 3 = n) (kt : x = 0 → aw l K Y d kc ks tg L st E M Q) (kf : ¬ x = 0 → aw l K Y d kc ks n L st E M Q) : aw l K Y d kc ks pc L (.int x :: st) E M Q := by
  subst hn
  intro p e R s m args below meth c H locs cells slots mc ms ls C hH hS h1 h2 h3 hl
  exact lv_if_eq C.1 C.2.1 hd ht (fun h => kt h p e R s m args below meth c H locs cells slots mc ms ls C hH hS h1 h2 h3 hl) (fun h => kf h p e R s m args below meth c H locs cells slots mc ms ls C hH hS h1 h2 h3 hl)
theorem aw_icmp_eq {x y : Int32} {off : Int} {tg : Nat} (hd : decode Y.2.1 pc = .ok (.if_icmp .eq off, 3)) (ht : (pc : Int) + off = (tg : Int)) (hn : pc + 3 = n) (kt : x = y → aw l K Y d kc ks tg L st E M Q) (kf : ¬ x = y → aw l K Y d kc ks n L st E M Q) : aw l K Y d kc ks pc L (.int y :: .int x :: st) E M Q := by
  subst hn
  intro p e R s m args below meth c H locs cells slots mc ms ls C hH hS h1 h2 h3 hl
  exact lv_icmp_eq C.1 C.2.1 hd ht (fun h => kt h p e R s m args below meth c H locs cells slots mc ms ls C hH hS h1 h2 h3 hl) (fun h => kf h p e R s m args below meth c H locs cells slots mc ms ls C hH hS h1 h2 h3 hl)
theorem aw_if_ne {x : Int32} {off : Int} {tg : Nat} (hd : decode Y.2.1 pc = .ok (.ifCond .ne off, 3)) (ht : (pc : Int) + off = (tg : Int)) (hn : pc + 3 = n) (kt : ¬ x = 0 → aw l K Y d kc ks tg L st E M Q) (kf : x = 0 → aw l K Y d kc ks n L st E M Q) : aw l K Y d kc ks pc L (.int x :: st) E M Q := by
  subst hn
  intro p e R s m args below meth c H locs cells slots mc ms ls C hH hS h1 h2 h3 hl
  exact lv_if_ne C.1 C.2.1 hd ht (fun h => kt h p e R s m args below meth c H locs cells slots mc ms ls C hH hS h1 h2 h3 hl) (fun h => kf h p e R s m args below meth c H locs cells slots mc ms ls C hH hS h1 h2 h3 hl)
theorem aw_icmp_ne {x y : Int32} {off : Int} {tg : Nat} (hd : decode Y.2.1 pc = .ok (.if_icmp .ne off, 3)) (ht : (pc : Int) + off = (tg : Int)) (hn : pc + 3 = n) (kt : ¬ x = y → aw l K Y d kc ks tg L st E M Q) (kf : x = y → aw l K Y d kc ks n L st E M Q) : aw l K Y d kc ks pc L (.int y :: .int x :: st) E M Q := by
  subst hn
  intro p e R s m args below meth c H locs cells slots mc ms ls C hH hS h1 h2 h3 hl
  exact lv_icmp_ne C.1 C.2.1 hd ht (fun h => kt h p e R s m args below meth c H locs cells slots mc ms ls C hH hS h1 h2 h3 hl) (fun h => kf h p e R s m args below meth c H locs cells slots mc ms ls C hH hS h1 h2 h3 hl)
theorem aw_if_lt {x : Int32} {off : Int} {tg : Nat} (hd : decode Y.2.1 pc = .ok (.ifCond .lt off, 3)) (ht : (pc : Int) + off = (tg : Int)) (hn : pc + 3 = n) (kt : x < 0 → aw l K Y d kc ks tg L st E M Q) (kf : ¬ x < 0 → aw l K Y d kc ks n L st E M Q) : aw l K Y d kc ks pc L (.int x :: st) E M Q := by
  subst hn
  intro p e R s m args below meth c H locs cells slots mc ms ls C hH hS h1 h2 h3 hl
  exact lv_if_lt C.1 C.2.1 hd ht (fun h => kt h p e R s m args below meth c H locs cells slots mc ms ls C hH hS h1 h2 h3 hl) (fun h => kf h p e R s m args below meth c H locs cells slots mc ms ls C hH hS h1 h2 h3 hl)
theorem aw_icmp_lt {x y : Int32} {off : Int} {tg : Nat} (hd : decode Y.2.1 pc = .ok (.if_icmp .lt off, 3)) (ht : (pc : Int) + off = (tg : Int)) (hn : pc + 3 = n) (kt : x < y → aw l K Y d kc ks tg L st E M Q) (kf : ¬ x < y → aw l K Y d kc ks n L st E M Q) : aw l K Y d kc ks pc L (.int y :: .int x :: st) E M Q := by
  subst hn
  intro p e R s m args below meth c H locs cells slots mc ms ls C hH hS h1 h2 h3 hl
  exact lv_icmp_lt C.1 C.2.1 hd ht (fun h => kt h p e R s m args below meth c H locs cells slots mc ms ls C hH hS h1 h2 h3 hl) (fun h => kf h p e R s m args below meth c H locs cells slots mc ms ls C hH hS h1 h2 h3 hl)
theorem aw_if_ge {x : Int32} {off : Int} {tg : Nat} (hd : decode Y.2.1 pc = .ok (.ifCond .ge off, 3)) (ht : (pc : Int) + off = (tg : Int)) (hn : pc + 3 = n) (kt : 0 ≤ x → aw l K Y d kc ks tg L st E M Q) (kf : ¬ 0 ≤ x → aw l K Y d kc ks n L st E M Q) : aw l K Y d kc ks pc L (.int x :: st) E M Q := by
  subst hn
  intro p e R s m args below meth c H locs cells slots mc ms ls C hH hS h1 h2 h3 hl
  exact lv_if_ge C.1 C.2.1 hd ht (fun h => kt h p e R s m args below meth c H locs cells slots mc ms ls C hH hS h1 h2 h3 hl) (fun h => kf h p e R s m args below meth c H locs cells slots mc ms ls C hH hS h1 h2 h3 hl)
theorem aw_icmp_ge {x y : Int32} {off : Int} {tg : Nat} (hd : decode Y.2.1 pc = .ok (.if_icmp .ge off, 3)) (ht : (pc : Int) + off = (tg : Int)) (hn : pc + 3 = n) (kt : y ≤ x → aw l K Y d kc ks tg L st E M Q) (kf : ¬ y ≤ x → aw l K Y d kc ks n L st E M Q) : aw l K Y d kc ks pc L (.int y :: .int x :: st) E M Q := by
  subst hn
  intro p e R s m args below meth c H locs cells slots mc ms ls C hH hS h1 h2 h3 hl
  exact lv_icmp_ge C.1 C.2.1 hd ht (fun h => kt h p e R s m args below meth c H locs cells slots mc ms ls C hH hS h1 h2 h3 hl) (fun h => kf h p e R s m args below meth c H locs cells slots mc ms ls C hH hS h1 h2 h3 hl)
theorem aw_if_gt {x : Int32} {off : Int} {tg : Nat} (hd : decode Y.2.1 pc = .ok (.ifCond .gt off, 3)) (ht : (pc : Int) + off = (tg : Int)) (hn : pc + 3 = n) (kt : 0 < x → aw l K Y d kc ks tg L st E M Q) (kf : ¬ 0 < x → aw l K Y d kc ks n L st E M Q) : aw l K Y d kc ks pc L (.int x :: st) E M Q := by
  subst hn
  intro p e R s m args below meth c H locs cells slots mc ms ls C hH hS h1 h2 h3 hl
  exact lv_if_gt C.1 C.2.1 hd ht (fun h => kt h p e R s m args below meth c H locs cells slots mc ms ls C hH hS h1 h2 h3 hl) (fun h => kf h p e R s m args below meth c H locs cells slots mc ms ls C hH hS h1 h2 h3 hl)
theorem aw_icmp_gt {x y : Int32} {off : Int} {tg : Nat} (hd : decode Y.2.1 pc = .ok (.if_icmp .gt off, 3)) (ht : (pc : Int) + off = (tg : Int)) (hn : pc + 3 = n) (kt : y < x → aw l K Y d kc ks tg L st E M Q) (kf : ¬ y < x → aw l K Y d kc ks n L st E M Q) : aw l K Y d kc ks pc L (.int y :: .int x :: st) E M Q := by
  subst hn
  intro p e R s m args below meth c H locs cells slots mc ms ls C hH hS h1 h2 h3 hl
  exact lv_icmp_gt C.1 C.2.1 hd ht (fun h => kt h p e R s m args below meth c H locs cells slots mc ms ls C hH hS h1 h2 h3 hl) (fun h => kf h p e R s m args below meth c H locs cells slots mc ms ls C hH hS h1 h2 h3 hl)
theorem aw_if_le {x : Int32} {off : Int} {tg : Nat} (hd : decode Y.2.1 pc = .ok (.ifCond .le off, 3)) (ht : (pc : Int) + off = (tg : Int)) (hn : pc + 3 = n) (kt : x ≤ 0 → aw l K Y d kc ks tg L st E M Q) (kf : ¬ x ≤ 0 → aw l K Y d kc ks n L st E M Q) : aw l K Y d kc ks pc L (.int x :: st) E M Q := by
  subst hn
  intro p e R s m args below meth c H locs cells slots mc ms ls C hH hS h1 h2 h3 hl
  exact lv_if_le C.1 C.2.1 hd ht (fun h => kt h p e R s m args below meth c H locs cells slots mc ms ls C hH hS h1 h2 h3 hl) (fun h => kf h p e R s m args below meth c H locs cells slots mc ms ls C hH hS h1 h2 h3 hl)
theorem aw_icmp_le {x y : Int32} {off : Int} {tg : Nat} (hd : decode Y.2.1 pc = .ok (.if_icmp .le off, 3)) (ht : (pc : Int) + off = (tg : Int)) (hn : pc + 3 = n) (kt : x ≤ y → aw l K Y d kc ks tg L st E M Q) (kf : ¬ x ≤ y → aw l K Y d kc ks n L st E M Q) : aw l K Y d kc ks pc L (.int y :: .int x :: st) E M Q := by
  subst hn
  intro p e R s m args below meth c H locs cells slots mc ms ls C hH hS h1 h2 h3 hl
  exact lv_icmp_le C.1 C.2.1 hd ht (fun h => kt h p e R s m args below meth c H locs cells slots mc ms ls C hH hS h1 h2 h3 hl) (fun h => kf h p e R s m args below meth c H locs cells slots mc ms ls C hH hS h1 h2 h3 hl)
theorem aw_tswIn {x : Int32} {dflt lo hi : Int} {offs : Array Int} {len : Nat} {off : Int} (hd : decode Y.2.1 pc = .ok (.tableswitch dflt lo hi offs, len)) (g1 : ¬ x.toInt < lo) (g2 : ¬ hi < x.toInt) (ho : offs[(x.toInt - lo).toNat]? = some off) (ht : (pc : Int) + off = (n : Int)) (k : aw l K Y d kc ks n L st E M Q) : aw l K Y d kc ks pc L (.int x :: st) E M Q := by
  intro p e R s m args below meth c H locs cells slots mc ms ls C hH hS h1 h2 h3 hl
  exact lv_tableIn C.1 C.2.1 hd g1 g2 ho ht (k p e R s m args below meth c H locs cells slots mc ms ls C hH hS h1 h2 h3 hl)
theorem aw_tswOut {x : Int32} {dflt lo hi : Int} {offs : Array Int} {len : Nat} (hd : decode Y.2.1 pc = .ok (.tableswitch dflt lo hi offs, len)) (g : x.toInt < lo ∨ hi < x.toInt) (ht : (pc : Int) + dflt = (n : Int)) (k : aw l K Y d kc ks n L st E M Q) : aw l K Y d kc ks pc L (.int x :: st) E M Q := by
  intro p e R s m args below meth c H locs cells slots mc ms ls C hH hS h1 h2 h3 hl
  exact lv_tableOut C.1 C.2.1 hd g ht (k p e R s m args below meth c H locs cells slots mc ms ls C hH hS h1 h2 h3 hl)
theorem aw_lsw {x : Int32} {dflt : Int} {ps : Array (Int × Int)} {len : Nat} {off : Int} (hd : decode Y.2.1 pc = .ok (.lookupswitch dflt ps, len)) (hp : (ps.toList.zip (ps.toList.drop 1)).all (fun (a, next) => a.1 < next.1) = true) (ho : Op.lookupswitch.offset ps.toList dflt x.toInt = off) (ht : (pc : Int) + off = (n : Int)) (k : aw l K Y d kc ks n L st E M Q) : aw l K Y d kc ks pc L (.int x :: st) E M Q := by
  intro p e R s m args below meth c H locs cells slots mc ms ls C hH hS h1 h2 h3 hl
  exact lv_lookup C.1 C.2.1 hd hp ho ht (k p e R s m args below meth c H locs cells slots mc ms ls C hH hS h1 h2 h3 hl)
theorem aw_iret {v : Int32} (hd : decode Y.2.1 pc = .ok (.ireturn, 1)) (hr : Y.2.2.2 = some .int) (k : Q (some (.int v)) E M) : aw l K Y d 0 ks pc L [.int v] E M Q := by
  intro p e R s m args below meth c H locs cells slots mc ms ls C hH hS h1 h2 h3 hl
  have e1 : cells = mc := h1
  subst e1
  refine W.widen (k := cells) (n := ms) (Nat.le_refl _) (Nat.le_trans (Nat.le_add_right _ _) h2) ?_
  exact W.iret C.1 C.2.1 (C.2.2.2.1.trans hr) (fun t ht hW => ⟨⟨some (.int v), E, M, rfl, k, by rw [ht]; exact hH, h3⟩, hS.F ht⟩) hS.2.2 hd (hlocks := C.2.2.2.2.1)
theorem aw_zret {v : Int32} (hd : decode Y.2.1 pc = .ok (.ireturn, 1)) (hr : Y.2.2.2 = some .boolean) (hv : v = 0 ∨ v = 1) (k : Q (some (.int v)) E M) : aw l K Y d 0 ks pc L [.int v] E M Q := by
  intro p e R s m args below meth c H locs cells slots mc ms ls C hH hS h1 h2 h3 hl
  have e1 : cells = mc := h1
  subst e1
  refine W.widen (k := cells) (n := ms) (Nat.le_refl _) (Nat.le_trans (Nat.le_add_right _ _) h2) ?_
  exact W.zret C.1 C.2.1 (C.2.2.2.1.trans hr) (by rcases hv with rfl | rfl <;> decide) (fun t ht hW => ⟨⟨some (.int v), E, M, rfl, k, by rw [ht]; exact hH, h3⟩, hS.F ht⟩) hS.2.2 hd (hlocks := C.2.2.2.2.1)
theorem aw_vret (hd : decode Y.2.1 pc = .ok (.return_, 1)) (hr : Y.2.2.2 = none) (k : Q none E M) : aw l K Y d 0 ks pc L [] E M Q := by
  intro p e R s m args below meth c H locs cells slots mc ms ls C hH hS h1 h2 h3 hl
  have e1 : cells = mc := h1
  subst e1
  refine W.widen (k := cells) (n := ms) (Nat.le_refl _) (Nat.le_trans (Nat.le_add_right _ _) h2) ?_
  exact W.vret C.1 C.2.1 (C.2.2.2.1.trans hr) (fun t ht hW => ⟨⟨none, E, M, rfl, k, by rw [ht]; exact hH, h3⟩, hS.F ht⟩) hS.2.2 hd (hlocks := C.2.2.2.2.1)
theorem aw_aret {r : Nat} {rt : FieldType} (hd : decode Y.2.1 pc = .ok (.areturn, 1)) (hr : Y.2.2.2 = some (.array rt)) (k : Q (some (.ref r)) E M) : aw l K Y d 0 ks pc L [.ref r] E M Q := by
  intro p e R s m args below meth c H locs cells slots mc ms ls C hH hS h1 h2 h3 hl
  have e1 : cells = mc := h1
  subst e1
  refine W.widen (k := cells) (n := ms) (Nat.le_refl _) (Nat.le_trans (Nat.le_add_right _ _) h2) ?_
  exact W.aret C.1 C.2.1 (C.2.2.2.1.trans hr) (Or.inr ⟨_, rfl⟩) (Or.inr ⟨_, rfl⟩) (fun t ht hW => ⟨⟨some (.ref r), E, M, rfl, k, by rw [ht]; exact hH, h3⟩, hS.F ht⟩) hS.2.2 hd (hlocks := C.2.2.2.2.1)
def aFd (own : String) (idx ci k : Nat) : Prop := ∃ (C : String) (T : u_T) (N : Nat), vwCl[ci]? = some (C, T, N) ∧ k < N ∧ (∀ w ∈ u_ws C T N, w ∈ aTB) ∧ (Cond.fieldLink own idx (T k).1 (T k).2.1 (T k).2.2.1 ∈ aTB ∨ ∃ host, Cond.fieldLinkNest own idx (T k).1 (T k).2.1 (T k).2.2.1 host ∈ aNT)
def aFp (own : String) (idx ci k : Nat) (fin : Bool) (ty : FieldType) : Prop := ∃ (C : String) (T : u_T) (N : Nat) (ty0 : Nat → FieldType), vwCl[ci]? = some (C, T, N) ∧ k < N ∧ (∀ w ∈ u_ws C T N, w ∈ aTB) ∧ (∀ k, k < N → parseFieldDescriptor (T k).2.2.1 = some (ty0 k)) ∧ (∀ a, a < N → ∀ b, b < N → a ≠ b → (T a).2.1 ≠ (T b).2.1) ∧ (T k).2.2.2 = fin ∧ parseFieldDescriptor (T k).2.2.1 = some ty ∧ ((Cond.fieldLink own idx (T k).1 (T k).2.1 (T k).2.2.1 ∈ aTB ∧ (fin = true → (T k).1 = own)) ∨ (fin = false ∧ ∃ host, Cond.fieldLinkNest own idx (T k).1 (T k).2.1 (T k).2.2.1 host ∈ aNT))
theorem aAd_of {K : aK} {E : aE} {M : aM} {H : Heap} {a : Nat} {c : aC} (h : E[a]? = some c) (hH : aH K E M H) : aAd K a = K.2.2.1 + a := by
  unfold aAd
  rw [if_pos (Nat.lt_trans (List.getElem?_eq_some_iff.mp h).1 hH.2)]
theorem aw_get {idx ci k a : Nat} {fs : List aF} {o : aF} {v : Value} (hd : decode Y.2.1 pc = .ok (.getfield idx, 3)) (hf : aFd Y.1.cls idx ci k) (hE : E[a]? = some (.inl (ci, fs))) (hk : fs[k]? = some o) (hv : aFv K (M a k) o = aRv K v) (hn : pc + 3 = n) (kk : aw l K Y d kc ks n L (v :: st) E M Q) : aw l K Y d kc ks pc L (.ref a :: st) E M Q := by
  subst hn
  intro p e R s m args below meth c H locs cells slots mc ms ls C hH hS h1 h2 h3 hl
  obtain ⟨C0, T, N, hc, hk2, hin, hlink⟩ := hf
  show W p l e R s m args below meth c H locs cells slots _ (F0 m pc ls (.ref (aAd K a) :: st.map (aRv K)))
  rw [aAd_of hE hH]
  have hw := aWd_get (K := K) (M := M) hE
  have hv2 : (fs.mapIdx (fun k o => aFv K (M a k) o))[k]? = some (aRv K v) := by rw [List.getElem?_mapIdx, hk]; exact congrArg some hv
  rcases hlink with hlink | ⟨host, hlink⟩
  · exact va_get C.1 C.2.1 C.2.2.2.2.2.2.2.1 hin C.2.2.2.2.2.2.1 C.2.2.2.2.2.2.2.2.1.1 hH.1 a hw hc k hk2 (C.2.2.2.2.2.2.2.1 _ hlink) (fun _ h => h) hv2 hd (kk p e R s m args below meth c H locs cells slots mc ms ls C hH hS h1 h2 h3 hl)
  · exact va_getN C.1 C.2.1 C.2.2.2.2.2.2.2.1 hin C.2.2.2.2.2.2.1 C.2.2.2.2.2.2.2.2.1.1 hH.1 a hw hc k hk2 (va_Nw.use rfl (C.2.2.2.2.2.2.2.2.1.2.1 _ hlink)) (fun _ h => h) hv2 hd (kk p e R s m args below meth c H locs cells slots mc ms ls C hH hS h1 h2 h3 hl)
theorem aw_geti {idx ci k a : Nat} {fs : List aF} (hd : decode Y.2.1 pc = .ok (.getfield idx, 3)) (hf : aFd Y.1.cls idx ci k) (hE : E[a]? = some (.inl (ci, fs))) (hk : fs[k]? = some none) (hn : pc + 3 = n) (kk : aw l K Y d kc ks n L (.int (M a k) :: st) E M Q) : aw l K Y d kc ks pc L (.ref a :: st) E M Q := aw_get (v := .int (M a k)) hd hf hE hk rfl hn kk
theorem aw_getr {idx ci k a r : Nat} {fs : List aF} (hd : decode Y.2.1 pc = .ok (.getfield idx, 3)) (hf : aFd Y.1.cls idx ci k) (hE : E[a]? = some (.inl (ci, fs))) (hk : fs[k]? = some (some (some r))) (hn : pc + 3 = n) (kk : aw l K Y d kc ks n L (.ref r :: st) E M Q) : aw l K Y d kc ks pc L (.ref a :: st) E M Q := aw_get (v := .ref r) hd hf hE hk rfl hn kk
theorem aFs_set {K : aK} {M : aM} {a k : Nat} {x : Int32} {fs : List aF} (hk : fs[k]? = some none) : (fs.mapIdx (fun j o => aFv K (M a j) o)).set k (.int x) = fs.mapIdx (fun j o => aFv K (up2 M a k x a j) o) := by
  apply List.ext_getElem?
  intro j
  rw [List.getElem?_set, List.getElem?_mapIdx, List.getElem?_mapIdx, List.length_mapIdx]
  by_cases hjk : k = j
  · subst hjk
    rw [if_pos rfl, if_pos (List.getElem?_eq_some_iff.mp hk).1, hk]
    show _ = some (Value.int (up2 M a k x a k))
    rw [up2_s]
  · rw [if_neg hjk]
    cases hj : fs[j]? with
    | none => rfl
    | some o =>
      show some (aFv K (M a j) o) = some (aFv K (up2 M a k x a j) o)
      rw [up2_k M x (fun q => hjk q.symm)]
theorem aw_put {idx ci k a : Nat} {fs : List aF} {x : Int32} {ty : FieldType} (hd : decode Y.2.1 pc = .ok (.putfield idx, 3)) (hf : aFp Y.1.cls idx ci k false ty) (hE : E[a]? = some (.inl (ci, fs))) (hk : fs[k]? = some none) (hnr : narrow ty (.int x) = .int x) (hft : fits ty (.int x) = true) (hn : pc + 3 = n) (kk : aw l K Y d kc ks n L st E (up2 M a k x) Q) : aw l K Y d kc ks pc L (.int x :: .ref a :: st) E M Q := by
  subst hn
  intro p e R s m args below meth c H locs cells slots mc ms ls C hH hS h1 h2 h3 hl
  obtain ⟨C0, T, N, ty0, hc, hk2, hin, hty, hnm, hfin, hds, hlink⟩ := hf
  show W p l e R s m args below meth c H locs cells slots _ (F0 m pc ls (.int x :: .ref (aAd K a) :: st.map (aRv K)))
  rw [aAd_of hE hH]
  have hw := aWd_get (K := K) (M := M) hE
  have hlen : k < (fs.mapIdx (fun j o => aFv K (M a j) o)).length := by rw [List.length_mapIdx]; exact (List.getElem?_eq_some_iff.mp hk).1
  have hset : (aWd K E M).set a (K.2.2.1 + a, .inr (ci, (fs.mapIdx (fun j o => aFv K (M a j) o)).set k (.int x))) = aWd K E (up2 M a k x) :=
    aWd_set hE (by rw [aFs_set hk]; rfl) (fun b hb => up2_ra M x hb)
  rcases hlink with ⟨hlink, -⟩ | ⟨-, host, hlink⟩
  · refine va_put C.1 C.2.1 C.2.2.2.2.2.2.2.1 hin ty0 hty hnm C.2.2.2.2.2.2.1 C.2.2.2.2.2.2.2.2.1.1 hH.1 (aWd_D K E M) hS a hw hc k hk2 (C.2.2.2.2.2.2.2.1 _ hlink) (fun _ h => h) hfin hds hnr hft hlen hd (fun H1 locs1 hP1 hD1 hS1 => ?_)
    exact kk p e R s m args below meth c H1 locs1 cells slots mc ms ls C ⟨hset ▸ hP1, hH.2⟩ hS1 h1 h2 h3 hl
  · refine va_putN C.1 C.2.1 C.2.2.2.2.2.2.2.1 hin ty0 hty hnm C.2.2.2.2.2.2.1 C.2.2.2.2.2.2.2.2.1.1 hH.1 (aWd_D K E M) hS a hw hc k hk2 (va_Nw.use rfl (C.2.2.2.2.2.2.2.2.1.2.1 _ hlink)) (fun _ h => h) hfin hds hnr hft hlen hd (fun H1 locs1 hP1 hD1 hS1 => ?_)
    exact kk p e R s m args below meth c H1 locs1 cells slots mc ms ls C ⟨hset ▸ hP1, hH.2⟩ hS1 h1 h2 h3 hl
theorem aw_puti {idx ci k a : Nat} {fs : List aF} {x : Int32} (hd : decode Y.2.1 pc = .ok (.putfield idx, 3)) (hf : aFp Y.1.cls idx ci k false .int) (hE : E[a]? = some (.inl (ci, fs))) (hk : fs[k]? = some none) (hn : pc + 3 = n) (kk : aw l K Y d kc ks n L st E (up2 M a k x) Q) : aw l K Y d kc ks pc L (.int x :: .ref a :: st) E M Q := aw_put hd hf hE hk rfl rfl hn kk
theorem aw_putz {idx ci k a : Nat} {fs : List aF} {x : Int32} (hd : decode Y.2.1 pc = .ok (.putfield idx, 3)) (hf : aFp Y.1.cls idx ci k false .boolean) (hE : E[a]? = some (.inl (ci, fs))) (hk : fs[k]? = some none) (hx : x = 0 ∨ x = 1) (hn : pc + 3 = n) (kk : aw l K Y d kc ks n L st E (up2 M a k x) Q) : aw l K Y d kc ks pc L (.int x :: .ref a :: st) E M Q := aw_put hd hf hE hk (by rcases hx with rfl | rfl <;> decide) (by rcases hx with rfl | rfl <;> decide) hn kk
end AW
end
section
theorem aAd_t (K : aK) (t : Nat) : aAd K (1000000 + t) = K.2.2.2 t := by
  unfold aAd
  rw [if_neg (Nat.not_lt.mpr (Nat.le_add_right _ _)), Nat.add_sub_cancel_left]
section AW2
variable {l : Launch} {K : aK} {Y : aY} {d kc ks pc n : Nat} {L st : List Value} {E : aE} {M : aM} {Q : Option Value → aE → aM → Prop}
theorem aw_iald {a N : Nat} {i : Int32} (hd : decode Y.2.1 pc = .ok (.iaload, 1)) (hE : E[a]? = some (.inr (.inl N))) (hi : vp_in i N) (hn : pc + 1 = n) (kk : aw l K Y d kc ks n L (.int (M a i.toNatClampNeg) :: st) E M Q) : aw l K Y d kc ks pc L (.int i :: .ref a :: st) E M Q := by
  subst hn
  intro p e R s m args below meth c H locs cells slots mc ms ls C hH hS h1 h2 h3 hl
  show W p l e R s m args below meth c H locs cells slots _ (F0 m pc ls (.int i :: .ref (aAd K a) :: st.map (aRv K)))
  rw [aAd_of hE hH]
  exact va_iald C.1 C.2.1 C.2.2.2.2.2.2.2.2.1.1 hH.1 a 0 (aWd_get hE) rfl hi hd (kk p e R s m args below meth c H locs cells slots mc ms ls C hH hS h1 h2 h3 hl)
theorem aw_iast {a N : Nat} {i x : Int32} (hd : decode Y.2.1 pc = .ok (.iastore, 1)) (hE : E[a]? = some (.inr (.inl N))) (hi : vp_in i N) (hn : pc + 1 = n) (kk : aw l K Y d kc ks n L st E (up2 M a i.toNatClampNeg x) Q) : aw l K Y d kc ks pc L (.int x :: .int i :: .ref a :: st) E M Q := by
  subst hn
  intro p e R s m args below meth c H locs cells slots mc ms ls C hH hS h1 h2 h3 hl
  show W p l e R s m args below meth c H locs cells slots _ (F0 m pc ls (.int x :: .int i :: .ref (aAd K a) :: st.map (aRv K)))
  rw [aAd_of hE hH]
  have hset : (aWd K E M).set a (K.2.2.1 + a, .inl (K.2.1 0, N, .inl (upd (M a) i.toNatClampNeg x))) = aWd K E (up2 M a i.toNatClampNeg x) :=
    aWd_set hE (by
      have h : upd (M a) i.toNatClampNeg x = up2 M a i.toNatClampNeg x a := by
        funext j
        unfold upd up2
        by_cases hj : j = i.toNatClampNeg
        · rw [if_pos hj, if_pos ⟨rfl, hj⟩]
        · rw [if_neg hj, if_neg (fun q => hj q.2)]
      rw [h]; rfl) (fun b hb => up2_ra M x hb)
  refine va_iast C.1 C.2.1 C.2.2.2.2.2.2.2.2.1.1 hH.1 (aWd_D K E M) hS a 0 (aWd_get hE) rfl hi hd (fun H1 locs1 hP1 hD1 hS1 => ?_)
  exact kk p e R s m args below meth c H1 locs1 cells slots mc ms ls C ⟨hset ▸ hP1, hH.2⟩ hS1 h1 h2 h3 hl
theorem aw_aald {a t r : Nat} {rs : List (Option Nat)} {i : Int32} (hd : decode Y.2.1 pc = .ok (.aaload, 1)) (hE : E[a]? = some (.inr (.inr (t, rs)))) (ht : t < 2) (hi : vp_in i rs.length) (hr : rs[i.toNatClampNeg]? = some (some r)) (hn : pc + 1 = n) (kk : aw l K Y d kc ks n L (.ref r :: st) E M Q) : aw l K Y d kc ks pc L (.int i :: .ref a :: st) E M Q := by
  subst hn
  intro p e R s m args below meth c H locs cells slots mc ms ls C hH hS h1 h2 h3 hl
  show W p l e R s m args below meth c H locs cells slots _ (F0 m pc ls (.int i :: .ref (aAd K a) :: st.map (aRv K)))
  rw [aAd_of hE hH]
  have hw := aWd_get (K := K) (M := M) hE
  have hkk := kk p e R s m args below meth c H locs cells slots mc ms ls C hH hS h1 h2 h3 hl
  have e0 : (Value.ref r :: st).map (aRv K) = va_rf (((rs[i.toNatClampNeg]?).getD none).map (aAd K)) :: st.map (aRv K) := by rw [hr]; rfl
  rw [e0] at hkk
  rcases (show t = 0 ∨ t = 1 by omega) with rfl | rfl
  · exact va_aldq (C := RX5) C.1 C.2.1 C.2.2.2.2.2.2.2.2.1.1 hH.1 a 1 hw rfl hi hd hkk
  · exact va_aldq (C := RX1) C.1 C.2.1 C.2.2.2.2.2.2.2.2.1.1 hH.1 a 2 hw rfl hi hd hkk
theorem aw_tld {t : Nat} {i : Int32} (hd : decode Y.2.1 pc = .ok (.iaload, 1)) (ht : t < 4) (hi : vp_in i 21) (hn : pc + 1 = n) (kk : aw l K Y d kc ks n L (.int (aTab t i.toNatClampNeg) :: st) E M Q) : aw l K Y d kc ks pc L (.int i :: .ref (1000000 + t) :: st) E M Q := by
  subst hn
  intro p e R s m args below meth c H locs cells slots mc ms ls C hH hS h1 h2 h3 hl
  show W p l e R s m args below meth c H locs cells slots _ (F0 m pc ls (.int i :: .ref (aAd K (1000000 + t)) :: st.map (aRv K)))
  rw [aAd_t]
  exact va_ti C.1 C.2.1 (C.2.2.2.2.2.2.2.2.1.2.2.2.2 t ht).2 hS hi rfl hd (kk p e R s m args below meth c H locs cells slots mc ms ls C hH hS h1 h2 h3 hl)
theorem aw_gets {idx t : Nat} (hd : decode Y.2.1 pc = .ok (.getstatic idx, 3)) (ht : t < 4) (hlink : Cond.fieldLink Y.1.cls idx (aSn t).1 (aSn t).2 "[I" ∈ aTB ∨ ∃ host, Cond.fieldLinkNest Y.1.cls idx (aSn t).1 (aSn t).2 "[I" host ∈ aNT) (hn : pc + 3 = n) (kk : aw l K Y d kc ks n L (.ref (1000000 + t) :: st) E M Q) : aw l K Y d kc ks pc L st E M Q := by
  subst hn
  intro p e R s m args below meth c H locs cells slots mc ms ls C hH hS h1 h2 h3 hl
  have hkk := kk p e R s m args below meth c H locs cells slots mc ms ls C hH hS h1 h2 h3 hl
  have e1 : (Value.ref (1000000 + t) :: st).map (aRv K) = .ref (K.2.2.2 t) :: st.map (aRv K) := by
    show Value.ref (aAd K (1000000 + t)) :: _ = _
    rw [aAd_t]
  rw [e1] at hkk
  rcases hlink with hlink | ⟨host, hlink⟩
  · exact va_gets C.1 C.2.1 (C.2.2.2.2.2.2.2.2.1.2.2.2.2 t ht).1 hS C.2.2.2.2.2.2.1 (C.2.2.2.2.2.2.2.1 _ hlink) (fun _ h => h) hd hkk
  · exact va_getsN C.1 C.2.1 (C.2.2.2.2.2.2.2.2.1.2.2.2.2 t ht).1 hS C.2.2.2.2.2.2.1 (va_Nw.use rfl (C.2.2.2.2.2.2.2.2.1.2.1 _ hlink)) (fun _ h => h) hd hkk
def aCpy (M : aM) (a b sp dp k : Nat) : aM := fun q j => if q = b ∧ dp ≤ j ∧ j < dp + k then M a (sp + (j - dp)) else M q j
theorem aw_copy {idx a b Na Nb : Nat} {sp dp k : Int32} (hd : decode Y.2.1 pc = .ok (.invokestatic idx, 3)) (hlink : Cond.methodLink Y.1.cls idx arraycopyName ∈ aTB) (hnat : Cond.native arraycopyName ∈ aTB) (hstat : Cond.static arraycopyName ∈ aTB) (hini : Cond.initialized "java/lang/System" ∈ aTB) (hEa : E[a]? = some (.inr (.inl Na))) (hEb : E[b]? = some (.inr (.inl Nb)))
    (g1 : ¬ sp < 0) (g2 : ¬ dp < 0) (g3 : ¬ k < 0) (g4 : sp.toNatClampNeg + k.toNatClampNeg ≤ Na) (g5 : dp.toNatClampNeg + k.toNatClampNeg ≤ Nb) (hst : (st.map fun v => v.category).sum ≤ 8) (hdd : 1 ≤ d) (hn : pc + 3 = n) (kk : aw l K Y d kc ks n L st E (aCpy M a b sp.toNatClampNeg dp.toNatClampNeg k.toNatClampNeg) Q) : aw l K Y d kc ks pc L (.int k :: .int dp :: .ref b :: .int sp :: .ref a :: st) E M Q := by
  subst hn
  intro p e R s m args below meth c H locs cells slots mc ms ls C hH hS h1 h2 h3 hl
  show W p l e R s m args below meth c H locs cells slots _ (F0 m pc ls (.int k :: .int dp :: .ref (aAd K b) :: .int sp :: .ref (aAd K a) :: st.map (aRv K)))
  rw [aAd_of hEa hH, aAd_of hEb hH]
  have hset : (aWd K E M).set b (K.2.2.1 + b, .inl (K.2.1 0, Nb, .inl (va_cpy (M a) (M b) sp.toNatClampNeg dp.toNatClampNeg k.toNatClampNeg))) = aWd K E (aCpy M a b sp.toNatClampNeg dp.toNatClampNeg k.toNatClampNeg) :=
    aWd_set hEb (by
      have h : va_cpy (M a) (M b) sp.toNatClampNeg dp.toNatClampNeg k.toNatClampNeg = aCpy M a b sp.toNatClampNeg dp.toNatClampNeg k.toNatClampNeg b := by
        funext j
        unfold va_cpy aCpy
        by_cases hj : dp.toNatClampNeg ≤ j ∧ j < dp.toNatClampNeg + k.toNatClampNeg
        · rw [if_pos hj, if_pos ⟨rfl, hj⟩]
        · rw [if_neg hj, if_neg (fun q => hj q.2)]
      rw [h]; rfl) (fun q hq => by
        funext j
        unfold aCpy
        rw [if_neg (fun z => hq z.1)])
  have hcat : ((st.map (aRv K)).map fun v => v.category) = st.map fun v => v.category := by
    rw [List.map_map]
    exact List.map_congr_left fun v _ => aRv_cat K v
  have hR : 60 * d ≤ R.locals := C.2.2.2.2.2.2.2.2.2.2.1
  refine va_copyi (ty := .int) C.1 C.2.1 (C.2.2.1.trans hl.1.symm) C.2.2.2.2.2.2.1 (C.2.2.2.2.2.2.2.1 _ hlink) (C.2.2.2.2.2.2.2.1 _ hnat) (C.2.2.2.2.2.2.2.1 _ hstat) (C.2.2.2.2.2.2.2.1 _ hini) C.2.2.2.2.2.2.2.2.1.1 hH.1 (aWd_D K E M) hS a b 0 0 (aWd_get hEa) (aWd_get hEb) rfl rfl rfl g1 g2 g3 g4 g5 (fun _ _ => rfl) (Nat.le_trans hdd C.2.2.2.2.2.2.2.2.2.1) ?_ hd (fun H1 locs1 hP1 hD1 hS1 => ?_)
  · rw [hcat]
    have h9 : nativeFrameWords "java/lang/System" "arraycopy" 5 + 11 ≤ 52 := by decide
    omega
  · exact kk p e R s m args below meth c H1 locs1 cells slots mc ms ls C ⟨hset ▸ hP1, hH.2⟩ hS1 h1 h2 h3 hl
/-! calls -/
def aMd (Z : aY) (np : Nat) : Prop := Cond.code Z.1 Z.2.1 Z.2.2.1 Z.2.2.2 ∈ aTB ∧ Cond.initialized Z.1.cls ∈ aTB ∧ plainFor Z.1 = true ∧ (Z.1.cls ≠ "java/lang/invoke/MethodHandle" ∧ Z.1.cls ≠ "java/lang/invoke/VarHandle" ∧ (parseMethodDescriptor Z.1.desc).map (fun d => d.parameters.length) = some np) ∧ Z.2.2.1 ≤ 41
def aLk (own : String) (idx : Nat) (y : MethodName) : Prop := Cond.methodLink own idx y ∈ aTB ∨ ∃ host, Cond.methodLinkNest own idx y host ∈ aNT
def aPush : Option Value → List Value → List Value
  | none, st => st
  | some v, st => v :: st
def aRm (d mc ms : Nat) : Room := { frames := d, cells := mc, slots := ms, locals := 60 * d }
def aPc (K : aK) (E : aE) (M : aM) (As : List Value) : Array Value → State → Prop := va_Pc (As.map (aRv K)) (fun U => aV K U ∧ aH K E M U.heap ∧ U.heap.size = K.2.2.1 + E.length)
theorem lg_sl_1 {vs : List Value} (h : ∀ v ∈ vs, v.category = 1) : (lg_sl vs).length = vs.length := by
  induction vs with
  | nil => rfl
  | cons v vs ih =>
    have h1 : v.category = 1 := h v List.mem_cons_self
    have h2 := ih (fun w hw => h w (List.mem_cons_of_mem _ hw))
    unfold lg_sl at h2 ⊢
    rw [List.flatMap_cons, List.length_append, h2, if_neg (by rw [h1]; decide)]
    simp [Nat.add_comm]
theorem lv_args_1 {vs : List Value} (h : ∀ v ∈ vs, v.category = 1) : ∀ (i j : Nat) (v : Value), vs[j]? = some v → (i + j, v) ∈ lv_args i vs := by
  induction vs with
  | nil => intro i j v hj; simp at hj
  | cons w vs ih =>
    intro i j v hj
    have h1 : w.category = 1 := h w List.mem_cons_self
    unfold lv_args
    rw [if_neg (by rw [h1]; decide)]
    cases j with
    | zero => cases hj; exact List.mem_cons_self
    | succ j =>
      have h2 := ih (fun w hw => h w (List.mem_cons_of_mem _ hw)) (i + 1) j v hj
      rw [show i + (j + 1) = i + 1 + j by omega]
      exact List.mem_cons_of_mem _ h2
theorem aMet_ofW {l : Launch} {y : MethodName} {ws ws' : List Cond} {rm : Room} {Pc : Array Value → State → Prop} {Qc : Array Value → State → Outcome → State → Prop} {mc ms : Nat} {free : Addr → Prop} {cc : ByteArray} {maxL : Nat} {ret : Option FieldType}
    (hy : plainFor y = true) (hw : ws = Cond.code y cc maxL ret :: ws')
    (body : ∀ p e s m args below meth c s₁, BodyLoose p l y (headSpec ws rm) cc maxL ret e s m args below meth c s₁ → c.maxLocals = maxL → Pc args s →
      W p l e (headSpec ws rm).room s m args below meth c s.heap [] 0 0 (MQ below Qc args s mc ms free) (entryFrame m args maxL)) : Met l y ws rm Pc Qc mc ms free := by
  refine MetFree.of_bodySF (code := cc) (maxLocals := maxL) (ret := ret) hy ?_ ?_
  · intro args s m h hn
    obtain ⟨meth, c, g1, g2, g3, g4, g5, g6, -, -⟩ := Cond.code_spec hn (atoms_spec (ws := ws) h _ (by rw [hw]; exact List.mem_cons_self))
    exact ⟨meth, c, g1, g2, g3, g4, g5, g6⟩
  · intro p e s m args below meth c s₁ B hml hP _
    have hh0 : s₁.heap = s.heap := by rw [B.state]; rfl
    obtain ⟨t, a1, o, b1, b2, b3⟩ := body p e s m args below meth c s₁ B hml hP s₁ hh0 (Stand.of_body B)
    exact ⟨t, o, a1, b1, b2, ⟨b3.1, b3.2⟩⟩
theorem aw_met {Z : aY} {np mc ms : Nat} {As L0 : List Value} (hok : aMd Z np) (hc : ∀ v ∈ As, v.category = 1) (hle : As.length ≤ Z.2.2.1) (hL : As ++ List.replicate (Z.2.2.1 - As.length) .null = L0) (h : aw l K Z d mc ms 0 L0 [] E M Q) : Met l Z.1 (Cond.code Z.1 Z.2.1 Z.2.2.1 Z.2.2.2 :: aTB) (aRm d mc ms) (aPc K E M As) (aQ K Q mc) mc ms (aA K) := by
  refine aMet_ofW (cc := Z.2.1) (maxL := Z.2.2.1) (ret := Z.2.2.2) hok.2.2.1 rfl ?_
  intro p e s m args below meth c s₁ B hml hv
  obtain ⟨rfl, hV, hH, hsz⟩ := hv
  have hts := atoms_spec (ws := Cond.code Z.1 Z.2.1 Z.2.2.1 Z.2.2.2 :: aTB) B.pre
  have hc' : ∀ v ∈ As.map (aRv K), v.category = 1 := by
    intro v hv
    obtain ⟨w, hw, rfl⟩ := List.mem_map.mp hv
    rw [aRv_cat]
    exact hc w hw
  have hlen : (lg_sl (As.map (aRv K))).length = As.length := by rw [lg_sl_1 hc', List.length_map]
  have hl := lv_entry (As.map (aRv K)) (n := Z.2.2.1) (by rw [hlen]; exact hle)
  rw [lg_entry_eq]
  generalize (lg_sl (As.map (aRv K)) ++ List.replicate (Z.2.2.1 - (lg_sl (As.map (aRv K))).length) Slot.unset).toArray = ls at hl ⊢
  subst hL
  refine h p e (headSpec (Cond.code Z.1 Z.2.1 Z.2.2.1 Z.2.2.2 :: aTB) (aRm d mc ms)).room s m _ below meth c s.heap [] 0 0 mc ms ls ⟨B.exec, B.bytes, hml, B.returns, B.notSynchronized, (name_of_methodNamed B.named B.method).1, findClass_of_methodNamed B.named, fun w hw => hts w (List.mem_cons_of_mem _ hw), hV, Nat.le_refl _, Nat.le_refl _, Nat.le_refl _, Nat.le_refl _, by rw [hsz]; exact Nat.le_add_right _ _⟩ hH va_S.rf (Nat.zero_add _) (by rw [Nat.zero_add]; exact Nat.le_refl _) (by rw [Nat.add_zero]; exact hsz) ?_
  refine ⟨hl.1, ?_, ⟨hl.2.1, fun w hw => ?_⟩, fun i v hi hv => ?_⟩
  · rw [List.length_append, List.length_replicate]; omega
  · rcases List.mem_append.mp hw with hw | hw
    · exact hc w hw
    · rw [(List.mem_replicate.mp hw).2]; rfl
  · by_cases hi2 : i < As.length
    · rw [List.getElem?_append_left hi2] at hi
      have h5 := lv_args_1 hc' 0 i (aRv K v) (by rw [List.getElem?_map, hi]; rfl)
      rw [Nat.zero_add] at h5
      exact hl.2.2 _ h5
    · rw [List.getElem?_append_right (by omega)] at hi
      exact absurd (List.mem_replicate.mp (List.mem_of_getElem? hi)).2 hv
theorem aH_size {p : Program} {e : Env} {R : Room} {s : State} {m : MethodId} {args : Array Value} {below : List Frame} {meth : Method} {c : Code} {H : Heap} {locs : List Loc} {cells slots : Nat} {Q0 : State → Prop} {g : JFrame} (hb : K.2.2.1 ≤ s.heap.size) (hH : aH K E M H) (hS : va_S (aA K) s.heap H locs) (h3 : s.heap.size + cells = K.2.2.1 + E.length)
    (k : H.size = K.2.2.1 + E.length → W p l e R s m args below meth c H locs cells slots Q0 g) : W p l e R s m args below meth c H locs cells slots Q0 g := by
  intro T hT X
  refine k (Nat.le_antisymm ?_ ?_) T hT X
  · rw [← h3, ← hT]; exact X.heapSize
  · cases hE : E.length with
    | zero => rw [Nat.add_zero]; exact Nat.le_trans hb hS.1
    | succ j =>
      have hj : j < E.length := by omega
      have h1 := (hH.1 j _ (aWd_get (List.getElem?_eq_getElem hj))).lt
      exact h1
end AW2
end
section
section AW3
variable {l : Launch} {K : aK} {Y : aY} {d kc ks pc n : Nat} {L st : List Value} {E : aE} {M : aM} {Q : Option Value → aE → aM → Prop}
theorem aw_back {p : Program} {e : Env} {R : Room} {s : State} {m : MethodId} {args : Array Value} {below : List Frame} {meth : Method} {c : Code} {H : Heap} {locs : List Loc} {cells slots mc ms kc1 ks1 kc2 ks2 : Nat} {ls : Array Slot} {st0 : List Value} {rest : List Value} {Q' : Option Value → aE → aM → Prop} {a : Array Value}
    (C : aCx K Y d p R s m args meth c mc ms) (hS : va_S (aA K) s.heap H locs) (h1 : cells + (kc1 + kc2) = mc) (h2 : slots + (ks1 + ks2) ≤ ms) (h3 : s.heap.size + cells = K.2.2.1 + E.length) (hsz : H.size = K.2.2.1 + E.length) (hl : aL K ls Y.2.2.1 L)
    (hr : va_Run p l e R s m args below meth c H locs cells slots kc1 ks1 (F0 m pc ls st0) (rest.map (aRv K)) (aQ K Q' kc1 a) (aA K)) (hk : ∀ (v : Option Value) (E' : aE) (M' : aM), Q' v E' M' → aw l K Y d kc2 ks2 (pc + 3) L (aPush v rest) E' M' Q) :
    W p l e R s m args below meth c H locs cells slots (MQ below (aQ K Q mc) args s mc ms (aA K)) (F0 m pc ls st0) := by
  intro T hT X
  obtain ⟨v, st₀, t, T', Lc, h0, X', hL, e1, e2, ⟨⟨v', E', M', hv, hq, hH', hsz'⟩, hz, hkq⟩, go⟩ := hr T hT X
  have hv' : v = v'.map (aRv K) := by injection hv
  subst hv'
  rw [h0] at hz hkq hsz'
  have hkk := hk v' E' M' hq p e R s m args below meth c T'.heap (locs ++ Lc) (cells + kc1) (slots + ks1) mc ms ls C (by rw [e1]; exact hH')
    ⟨Nat.le_trans hS.1 (by rw [e1]; exact hz), fun q g1 g2 => by rw [e1, hkq q (Nat.lt_of_lt_of_le g1 hS.1) g2]; exact hS.2.1 q g1 g2, fun q hq => by
      rcases List.mem_append.mp hq with h | h
      · exact hS.2.2 q h
      · exact hL q h⟩ (by omega) (by omega) (by omega) hl T' rfl X'
  obtain ⟨t2, a1, b1⟩ := hkk
  refine ⟨t2, go t2 ?_, b1⟩
  cases v' with
  | none => exact a1
  | some v' => exact a1
theorem aPc_blind (As : List Value) : FrameBlind (aPc K E M As) := fun a U g mk q => ⟨q.1, aV.same q.2.1 rfl rfl, q.2.2⟩
theorem aPc_in {s U : State} {H : Heap} {locs : List Loc} {As : List Value} (hV : aV K s) (hH : aH K E M H) (hS : va_S (aA K) s.heap H locs) (hsz : H.size = K.2.2.1 + E.length) (hU : U.heap = H) (hW : s.WarmedH U.vm) : aPc K E M As (As.map (aRv K)).toArray U :=
  ⟨rfl, aV.next hV hW (fun q h1 h2 => by rw [hU]; exact hS.2.1 q h1 h2), by rw [hU]; exact hH, by rw [hU]; exact hsz⟩
theorem aw_scall {Z : aY} {idx np d1 kc1 kc2 ks1 ks2 : Nat} {As L0 rest : List Value} (hd : decode Y.2.1 pc = .ok (.invokestatic idx, 3)) (hok : aMd Z np) (hlk : aLk Y.1.cls idx Z.1) (hstt : Cond.static Z.1 ∈ aTB) (hnp : As.length = np) (hc : ∀ v ∈ As, v.category = 1) (hle : As.length ≤ Z.2.2.1) (hL : As ++ List.replicate (Z.2.2.1 - As.length) .null = L0) (hd1 : d1 + 1 ≤ d) (hrest : (rest.map fun v => v.category).sum ≤ 8)
    (kk : aw l K Z d1 kc1 ks1 0 L0 [] E M (fun v E' M' => aw l K Y d kc2 ks2 (pc + 3) L (aPush v rest) E' M' Q)) : aw l K Y d (kc1 + kc2) (ks1 + ks2) pc L (As.reverse ++ rest) E M Q := by
  intro p e R s m args below meth c H locs cells slots mc ms ls C hH hS h1 h2 h3 hl
  refine aH_size C.2.2.2.2.2.2.2.2.2.2.2.2.2 hH hS h3 (fun hsz => ?_)
  have hM := aw_met hok hc hle hL kk
  have hcat : ((rest.map (aRv K)).map fun v => v.category) = rest.map fun v => v.category := by
    rw [List.map_map]
    exact List.map_congr_left fun v _ => aRv_cat K v
  have hfr : d ≤ R.frames := C.2.2.2.2.2.2.2.2.2.1
  have hlo : 60 * d ≤ R.locals := C.2.2.2.2.2.2.2.2.2.2.1
  have hmc : mc ≤ R.cells := C.2.2.2.2.2.2.2.2.2.2.2.1
  have hms : ms ≤ R.slots := C.2.2.2.2.2.2.2.2.2.2.2.2.1
  have hnL : Z.2.2.1 ≤ 41 := hok.2.2.2.2
  have hR : (aRm d1 kc1 ks1).frames + 1 ≤ R.frames ∧ 8 + (Z.2.2.1 + 11) + (aRm d1 kc1 ks1).locals ≤ R.locals := by
    refine ⟨?_, ?_⟩
    · show d1 + 1 ≤ R.frames; omega
    · show 8 + (Z.2.2.1 + 11) + 60 * d1 ≤ R.locals; omega
  have hts := C.2.2.2.2.2.2.2.1
  have hfx : CallFix p m c Y.2.1 Y.2.2.1 s args aTB Y.1.cls := ⟨C.1, C.2.1, C.2.2.1, C.2.2.2.2.2.2.1, hts⟩
  have hstk : (F0 m pc ls ((As.reverse ++ rest).map (aRv K))).stack = (As.map (aRv K)).reverse ++ rest.map (aRv K) := by
    show (As.reverse ++ rest).map (aRv K) = _
    rw [List.map_append, List.map_reverse]
  have hlm : (As.map (aRv K)).length = np := by rw [List.length_map]; exact hnp
  have hcr : ((rest.map (aRv K)).map fun v => v.category).sum ≤ 8 := by rw [hcat]; exact hrest
  have hpre : PreS s H (aPc K E M As) (As.map (aRv K)) := ⟨aPc_blind As, fun U hU hW => aPc_in C.2.2.2.2.2.2.2.2.1 hH hS hsz hU hW⟩
  rcases hlk with hlk | ⟨host, hlk⟩
  · exact aw_back C hS h1 h2 h3 hsz hl (va_runS hfx hM ⟨callB_of np hts (aGood hok.1) rfl rfl rfl (hts _ hok.2.1) (hts _ hlk) hok.2.2.2.1 hR, hts _ hstt⟩ hpre rfl hlm hl.1 hstk (lv_room hcr) hd ⟨by omega, by omega⟩) (fun v E' M' h => h)
  · exact aw_back C hS h1 h2 h3 hsz hl (va_runSN hfx hM ⟨va_cnB np hts (aGood hok.1) rfl rfl rfl (C.2.2.2.2.2.2.2.2.1.2.1 _ hlk) (hts _ hok.2.1) hok.2.2.2.1 hR, hts _ hstt, trivial⟩ hpre rfl hlm hl.1 hstk (lv_room hcr) hd ⟨by omega, by omega⟩) (fun v E' M' h => h)
theorem aw_vcall {Z : aY} {idx np d1 kc1 kc2 ks1 ks2 b ci : Nat} {q : vw_C} {fs : List aF} {As L0 rest : List Value} (hd : decode Y.2.1 pc = .ok (.invokevirtual idx, 3)) (hok : aMd Z np) (hlk : aLk Y.1.cls idx Z.1) (hinst : Cond.instanceMethod Z.1 ∈ aTB) (hsel : Cond.selects Z.1.cls Z.1 Z.1 ∈ aTB) (hcl : vwCl[ci]? = some q) (hq : q.1 = Z.1.cls) (hE : E[b]? = some (.inl (ci, fs))) (hnp : As.length = np) (hc : ∀ v ∈ As, v.category = 1) (hle : As.length + 1 ≤ Z.2.2.1) (hL : .ref b :: As ++ List.replicate (Z.2.2.1 - (As.length + 1)) .null = L0) (hd1 : d1 + 1 ≤ d) (hrest : (rest.map fun v => v.category).sum ≤ 8)
    (kk : aw l K Z d1 kc1 ks1 0 L0 [] E M (fun v E' M' => aw l K Y d kc2 ks2 (pc + 3) L (aPush v rest) E' M' Q)) : aw l K Y d (kc1 + kc2) (ks1 + ks2) pc L (As.reverse ++ .ref b :: rest) E M Q := by
  intro p e R s m args below meth c H locs cells slots mc ms ls C hH hS h1 h2 h3 hl
  refine aH_size C.2.2.2.2.2.2.2.2.2.2.2.2.2 hH hS h3 (fun hsz => ?_)
  have hc2 : ∀ v ∈ Value.ref b :: As, v.category = 1 := fun v hv => (List.mem_cons.mp hv).elim (fun h => by rw [h]; rfl) (hc v)
  have hM := aw_met (As := .ref b :: As) hok hc2 hle hL kk
  have hcat : ((rest.map (aRv K)).map fun v => v.category) = rest.map fun v => v.category := by
    rw [List.map_map]
    exact List.map_congr_left fun v _ => aRv_cat K v
  have hfr : d ≤ R.frames := C.2.2.2.2.2.2.2.2.2.1
  have hlo : 60 * d ≤ R.locals := C.2.2.2.2.2.2.2.2.2.2.1
  have hmc : mc ≤ R.cells := C.2.2.2.2.2.2.2.2.2.2.2.1
  have hms : ms ≤ R.slots := C.2.2.2.2.2.2.2.2.2.2.2.2.1
  have hnL : Z.2.2.1 ≤ 41 := hok.2.2.2.2
  have hR : (aRm d1 kc1 ks1).frames + 1 ≤ R.frames ∧ 8 + (Z.2.2.1 + 11) + (aRm d1 kc1 ks1).locals ≤ R.locals := by
    refine ⟨?_, ?_⟩
    · show d1 + 1 ≤ R.frames; omega
    · show 8 + (Z.2.2.1 + 11) + 60 * d1 ≤ R.locals; omega
  have hts := C.2.2.2.2.2.2.2.1
  have hfx : CallFix p m c Y.2.1 Y.2.2.1 s args aTB Y.1.cls := ⟨C.1, C.2.1, C.2.2.1, C.2.2.2.2.2.2.1, hts⟩
  have hstk : (F0 m pc ls ((As.reverse ++ .ref b :: rest).map (aRv K))).stack = (As.map (aRv K)).reverse ++ .ref (aAd K b) :: rest.map (aRv K) := by
    show (As.reverse ++ .ref b :: rest).map (aRv K) = _
    rw [List.map_append, List.map_reverse]
    rfl
  have hlm : (As.map (aRv K)).length = np := by rw [List.length_map]; exact hnp
  have hcr : ((rest.map (aRv K)).map fun v => v.category).sum ≤ 8 := by rw [hcat]; exact hrest
  have hw := aWd_get (K := K) (M := M) hE
  have hrv : ∃ cell : Cell, H[aAd K b]? = some cell ∧ cell.vm.isStatics = false ∧ s.vm.findClass Z.1.cls = some cell.cls := by
    rw [aAd_of hE hH, ← hq]
    exact va_recv C.2.2.2.2.2.2.2.2.1.1 hH.1 hcl hw
  have hpre : PreV s H Z.1.cls (aAd K b) (aPc K E M (.ref b :: As)) (As.map (aRv K)) := ⟨aPc_blind _, hrv, fun U hU hW => aPc_in (As := .ref b :: As) C.2.2.2.2.2.2.2.2.1 hH hS hsz hU hW⟩
  rcases hlk with hlk | ⟨host, hlk⟩
  · exact aw_back C hS h1 h2 h3 hsz hl (va_runV hfx hM ⟨callB_of np hts (aGood hok.1) rfl rfl rfl (hts _ hok.2.1) (hts _ hlk) hok.2.2.2.1 hR, hts _ hinst, hts _ hsel⟩ hpre rfl hlm hl.1 hstk (lv_room hcr) hd ⟨by omega, by omega⟩) (fun v E' M' h => h)
  · exact aw_back C hS h1 h2 h3 hsz hl (va_runVN hfx hM ⟨va_cnB np hts (aGood hok.1) rfl rfl rfl (C.2.2.2.2.2.2.2.2.1.2.1 _ hlk) (hts _ hok.2.1) hok.2.2.2.1 hR, hts _ hinst, hts _ hsel⟩ hpre rfl hlm hl.1 hstk (lv_room hcr) hd ⟨by omega, by omega⟩) (fun v E' M' h => h)
theorem aw_ccall {Z : aY} {idx np d1 kc1 kc2 ks1 ks2 b : Nat} {As L0 rest : List Value} (hd : decode Y.2.1 pc = .ok (.invokespecial idx, 3)) (hok : aMd Z np) (hlk : aLk Y.1.cls idx Z.1) (hnm : Z.1.name = "<init>") (hrn : Z.2.2.2 = none) (hinst : Cond.instanceMethod Z.1 ∈ aTB) (hnp : As.length = np) (hc : ∀ v ∈ As, v.category = 1) (hle : As.length + 1 ≤ Z.2.2.1) (hL : .ref b :: As ++ List.replicate (Z.2.2.1 - (As.length + 1)) .null = L0) (hd1 : d1 + 1 ≤ d) (hrest : (rest.map fun v => v.category).sum ≤ 8)
    (kk : aw l K Z d1 kc1 ks1 0 L0 [] E M (fun v E' M' => aw l K Y d kc2 ks2 (pc + 3) L (aPush v rest) E' M' Q)) : aw l K Y d (kc1 + kc2) (ks1 + ks2) pc L (As.reverse ++ .ref b :: rest) E M Q := by
  intro p e R s m args below meth c H locs cells slots mc ms ls C hH hS h1 h2 h3 hl
  refine aH_size C.2.2.2.2.2.2.2.2.2.2.2.2.2 hH hS h3 (fun hsz => ?_)
  have hc2 : ∀ v ∈ Value.ref b :: As, v.category = 1 := fun v hv => (List.mem_cons.mp hv).elim (fun h => by rw [h]; rfl) (hc v)
  have hM := aw_met (As := .ref b :: As) hok hc2 hle hL kk
  have hcat : ((rest.map (aRv K)).map fun v => v.category) = rest.map fun v => v.category := by
    rw [List.map_map]
    exact List.map_congr_left fun v _ => aRv_cat K v
  have hfr : d ≤ R.frames := C.2.2.2.2.2.2.2.2.2.1
  have hlo : 60 * d ≤ R.locals := C.2.2.2.2.2.2.2.2.2.2.1
  have hmc : mc ≤ R.cells := C.2.2.2.2.2.2.2.2.2.2.2.1
  have hms : ms ≤ R.slots := C.2.2.2.2.2.2.2.2.2.2.2.2.1
  have hnL : Z.2.2.1 ≤ 41 := hok.2.2.2.2
  have hR : (aRm d1 kc1 ks1).frames + 1 ≤ R.frames ∧ 8 + (Z.2.2.1 + 11) + (aRm d1 kc1 ks1).locals ≤ R.locals := by
    refine ⟨?_, ?_⟩
    · show d1 + 1 ≤ R.frames; omega
    · show 8 + (Z.2.2.1 + 11) + 60 * d1 ≤ R.locals; omega
  have hts := C.2.2.2.2.2.2.2.1
  have hfx : CallFix p m c Y.2.1 Y.2.2.1 s args aTB Y.1.cls := ⟨C.1, C.2.1, C.2.2.1, C.2.2.2.2.2.2.1, hts⟩
  have hstk : (F0 m pc ls ((As.reverse ++ .ref b :: rest).map (aRv K))).stack = (As.map (aRv K)).reverse ++ .ref (aAd K b) :: rest.map (aRv K) := by
    show (As.reverse ++ .ref b :: rest).map (aRv K) = _
    rw [List.map_append, List.map_reverse]
    rfl
  have hlm : (As.map (aRv K)).length = np := by rw [List.length_map]; exact hnp
  have hcr : ((rest.map (aRv K)).map fun v => v.category).sum ≤ 8 := by rw [hcat]; exact hrest
  have hpre : PreS s H (aPc K E M (.ref b :: As)) (.ref (aAd K b) :: As.map (aRv K)) := ⟨aPc_blind _, fun U hU hW => aPc_in (As := .ref b :: As) C.2.2.2.2.2.2.2.2.1 hH hS hsz hU hW⟩
  have hcode : Cond.code Z.1 Z.2.1 Z.2.2.1 none ∈ aTB := hrn ▸ hok.1
  have hM2 : Met l Z.1 (Cond.code Z.1 Z.2.1 Z.2.2.1 none :: aTB) (aRm d1 kc1 ks1) (aPc K E M (.ref b :: As)) (aQ K (fun v E' M' => aw l K Y d kc2 ks2 (pc + 3) L (aPush v rest) E' M' Q) kc1) kc1 ks1 (aA K) := by
    have h9 : Cond.code Z.1 Z.2.1 Z.2.2.1 Z.2.2.2 = Cond.code Z.1 Z.2.1 Z.2.2.1 none := by rw [hrn]
    rw [← h9]
    exact hM
  rcases hlk with hlk | ⟨host, hlk⟩
  · exact aw_back C hS h1 h2 h3 hsz hl (va_runI hfx hM2 ⟨callB_of np hts (aGood hcode) rfl rfl rfl (hts _ hok.2.1) (hts _ hlk) hok.2.2.2.1 hR, hnm, hts _ hinst⟩ hpre rfl hlm hl.1 hstk (lv_room hcr) hd ⟨by omega, by omega⟩) (fun v E' M' h => h)
  · exact aw_back C hS h1 h2 h3 hsz hl (va_runIN hfx hM2 ⟨va_cnB np hts (aGood hcode) rfl rfl rfl (C.2.2.2.2.2.2.2.2.1.2.1 _ hlk) (hts _ hok.2.1) hok.2.2.2.1 hR, hnm, hts _ hinst⟩ hpre rfl hlm hl.1 hstk (lv_room hcr) hd ⟨by omega, by omega⟩) (fun v E' M' h => h)
end AW3
end
section
def aClr (M : aM) (a : Nat) : aM := fun b j => if b = a then 0 else M b j
theorem aClr_s (M : aM) (a : Nat) : aClr M a a = fun _ => 0 := by funext j; unfold aClr; rw [if_pos rfl]
theorem aClr_n (M : aM) {a b : Nat} (h : b ≠ a) : aClr M a b = M b := by funext j; unfold aClr; rw [if_neg h]
theorem aX_eq {K : aK} {M M' : aM} {a : Nat} (c : aC) (h : M a = M' a) : aX K M a c = aX K M' a c := by
  rcases c with ⟨c, fs⟩ | n | ⟨t, rs⟩
  · unfold aX; simp only [h]
  · unfold aX; simp only [h]
  · rfl
theorem aWd_push {K : aK} {E : aE} {M : aM} {c : aC} {e : va_E} (he : e = aX K (aClr M E.length) E.length c) : aWd K E M ++ [(K.2.2.1 + E.length, e)] = aWd K (E ++ [c]) (aClr M E.length) := by
  apply aWd_ext
  · rw [List.length_append, aWd_len, List.length_append]; rfl
  · intro k c' hk
    by_cases h : k < E.length
    · rw [List.getElem?_append_left h] at hk
      rw [List.getElem?_append_left (by rw [aWd_len]; exact h), aWd_get hk, aX_eq c' (aClr_n M (Nat.ne_of_lt h)).symm]
    · have h1 : k < (E ++ [c]).length := (List.getElem?_eq_some_iff.mp hk).1
      rw [List.length_append] at h1
      have h2 : k = E.length := by simp at h1; omega
      subst h2
      rw [List.getElem?_append_right (Nat.le_refl _), Nat.sub_self] at hk
      cases hk
      rw [List.getElem?_append_right (by rw [aWd_len]; exact Nat.le_refl _), aWd_len, Nat.sub_self, he]
      rfl
theorem aWd_setE {K : aK} {E : aE} {M : aM} {a : Nat} {c c' : aC} {e : va_E} (hE : E[a]? = some c) (he : e = aX K M a c') : (aWd K E M).set a (K.2.2.1 + a, e) = aWd K (E.set a c') M := by
  apply aWd_ext
  · rw [List.length_set, aWd_len, List.length_set]
  · intro k c2 hk
    have hlt : a < E.length := (List.getElem?_eq_some_iff.mp hE).1
    rw [List.getElem?_set] at hk ⊢
    by_cases hka : a = k
    · subst hka
      rw [if_pos rfl, if_pos hlt] at hk
      cases hk
      rw [if_pos rfl, if_pos (by rw [aWd_len]; exact hlt), he]
    · rw [if_neg hka] at hk ⊢
      exact aWd_get hk
section AW4
variable {l : Launch} {K : aK} {Y : aY} {d kc ks pc n : Nat} {L st : List Value} {E : aE} {M : aM} {Q : Option Value → aE → aM → Prop}
/-- a cell that is new has the next number -/
theorem aNew {p : Program} {e : Env} {R : Room} {s : State} {m : MethodId} {args : Array Value} {below : List Frame} {meth : Method} {c : Code} {H1 : Heap} {locs : List Loc} {cells slots q : Nat} {Q0 : State → Prop} {g : JFrame} {x : va_E} (hP : va_P K.1 vwCl (aWd K E M ++ [(q, x)]) H1) (hD : va_D (aA K) (aWd K E M ++ [(q, x)])) (h3 : s.heap.size + cells = K.2.2.1 + E.length)
    (k : q = K.2.2.1 + E.length → W p l e R s m args below meth c H1 locs (cells + 1) slots Q0 g) : W p l e R s m args below meth c H1 locs (cells + 1) slots Q0 g := by
  intro T hT X
  refine k ?_ T hT X
  have hl : (aWd K E M ++ [(q, x)])[E.length]? = some (q, x) := by
    rw [List.getElem?_append_right (by rw [aWd_len]; exact Nat.le_refl _), aWd_len, Nat.sub_self]
    rfl
  have h1 : q < H1.size := (hP _ _ hl).lt
  have h2 : H1.size ≤ s.heap.size + (cells + 1) := by rw [← hT]; exact X.heapSize
  have h4 : K.2.2.1 ≤ q := hD.2 _ _ hl
  by_cases h5 : q < K.2.2.1 + E.length
  · have h6 : q - K.2.2.1 < E.length := by omega
    have h7 : (aWd K E M ++ [(q, x)])[q - K.2.2.1]? = some (K.2.2.1 + (q - K.2.2.1), aX K M (q - K.2.2.1) E[q - K.2.2.1]) := by
      rw [List.getElem?_append_left (by rw [aWd_len]; exact h6)]
      exact aWd_get (List.getElem?_eq_getElem h6)
    have h8 := hD.1 _ _ _ _ hl h7 (by show q = K.2.2.1 + (q - K.2.2.1); omega)
    omega
  · omega
def aNwk (own : String) (idx ci N : Nat) (fs : List aF) : Prop := ∃ (C : String) (T : u_T) (ty : Nat → FieldType), vwCl[ci]? = some (C, T, N) ∧ (∀ w ∈ u_ws C T N, w ∈ aTB) ∧ (∀ k, k < N → parseFieldDescriptor (T k).2.2.1 = some (ty k)) ∧ Cond.classLink own idx C ∈ aTB ∧ Cond.instantiable C N ∈ aTB ∧ Cond.initialized C ∈ aTB ∧ ∀ j, j < N → (fs[j]? = some none ∧ defaultValue (ty j) = .int 0) ∨ (fs[j]? = some (some none) ∧ defaultValue (ty j) = .null)
theorem aw_new {idx ci N : Nat} {fs : List aF} (hd : decode Y.2.1 pc = .ok (.new idx, 3)) (hw : aNwk Y.1.cls idx ci N fs) (hsm : E.length + 1 < 1000000) (hn : pc + 3 = n) (kk : aw l K Y d kc ks n L (.ref E.length :: st) (E ++ [.inl (ci, fs)]) (aClr M E.length) Q) : aw l K Y d (kc + 1) (ks + N) pc L st E M Q := by
  subst hn
  intro p e R s m args below meth c H locs cells slots mc ms ls C hH hS h1 h2 h3 hl
  obtain ⟨C0, T, ty, hc, hin, hty, w1, w2, w3, hdf⟩ := hw
  have hts := C.2.2.2.2.2.2.2.1
  have hb : K.2.2.1 ≤ s.heap.size := C.2.2.2.2.2.2.2.2.2.2.2.2.2
  have hmc : mc ≤ R.cells := C.2.2.2.2.2.2.2.2.2.2.2.1
  have hms : ms ≤ R.slots := C.2.2.2.2.2.2.2.2.2.2.2.2.1
  refine va_new (ci := ci) (fs := fs.mapIdx (fun k o => aFv K (aClr M E.length E.length k) o)) C.1 C.2.1 hts hin ty hty C.2.2.2.2.2.2.1 (hts _ w1) (hts _ w2) (hts _ w3) C.2.2.2.2.2.2.2.2.1.1 hH.1 (aWd_D K E M) hS (fun q hq => Nat.le_trans hb hq) hc (fun j hj => ?_) (by omega) (by omega) hd (fun q H1 hP1 hD1 hS1 => ?_)
  · unfold vp_V
    rw [List.getD_eq_getElem?_getD, List.getElem?_mapIdx]
    rcases hdf j hj with ⟨g1, g2⟩ | ⟨g1, g2⟩
    · rw [g1, g2, aClr_s]; rfl
    · rw [g1, g2]; rfl
  · refine aNew hP1 hD1 h3 (fun hq => ?_)
    subst hq
    have hpu := aWd_push (K := K) (M := M) (E := E) (c := .inl (ci, fs)) (e := .inr (ci, fs.mapIdx (fun k o => aFv K (aClr M E.length E.length k) o))) rfl
    rw [hpu] at hP1
    have hk := kk p e R s m args below meth c H1 locs (cells + 1) (slots + N) mc ms ls C ⟨hP1, by rw [List.length_append]; exact hsm⟩ hS1 (by omega) (by omega) (by rw [List.length_append]; show s.heap.size + (cells + 1) = K.2.2.1 + (E.length + 1); omega) hl
    have e1 : (Value.ref E.length :: st).map (aRv K) = .ref (K.2.2.1 + E.length) :: st.map (aRv K) := by
      show Value.ref (aAd K E.length) :: _ = _
      unfold aAd
      rw [if_pos (by omega)]
    rw [e1] at hk
    exact hk
theorem aw_newa {i : Int32} {N : Nat} (hd : decode Y.2.1 pc = .ok (.newarray .int, 2)) (hac : Cond.arrayClass .int ∈ aTB) (hi : ¬ i < 0) (hN : i.toNatClampNeg = N) (hby : N ≤ 100000000) (hsm : E.length + 1 < 1000000) (hn : pc + 2 = n) (kk : aw l K Y d kc ks n L (.ref E.length :: st) (E ++ [.inr (.inl N)]) (aClr M E.length) Q) : aw l K Y d (kc + 1) (ks + N) pc L (.int i :: st) E M Q := by
  subst hn
  intro p e R s m args below meth c H locs cells slots mc ms ls C hH hS h1 h2 h3 hl
  have hts := C.2.2.2.2.2.2.2.1
  have hb : K.2.2.1 ≤ s.heap.size := C.2.2.2.2.2.2.2.2.2.2.2.2.2
  have hmc : mc ≤ R.cells := C.2.2.2.2.2.2.2.2.2.2.2.1
  have hms : ms ≤ R.slots := C.2.2.2.2.2.2.2.2.2.2.2.2.1
  refine va_newa (atype := .int) (ty := .int) (a0 := (N, .inl (aClr M E.length E.length))) C.1 C.2.1 (hts _ hac) rfl C.2.2.2.2.2.2.2.2.1.1 hH.1 (aWd_D K E M) hS (fun q hq => Nat.le_trans hb hq) (fun cA => by rw [aClr_s]; rfl) hi hN (by show N * 4 ≤ 536870912; omega) (by omega) (by omega) hd (fun q cA H1 hK1 hP1 hD1 hS1 => ?_)
  have hcA : cA = K.2.1 0 := by
    have g1 : va_RA s cA .int := (hK1.2 3 (cA, .int) rfl).2
    have g2 : va_RA s (K.2.1 0) .int := (C.2.2.2.2.2.2.2.2.1.1.2 0 (K.2.1 0, .int) rfl).2
    exact Option.some.inj (g1.symm.trans g2)
  subst hcA
  refine aNew hP1 hD1 h3 (fun hq => ?_)
  subst hq
  have hpu := aWd_push (K := K) (M := M) (E := E) (c := .inr (.inl N)) (e := .inl (K.2.1 0, N, .inl (aClr M E.length E.length))) rfl
  rw [hpu] at hP1
  have hk := kk p e R s m args below meth c H1 locs (cells + 1) (slots + N) mc ms ls C ⟨hP1, by rw [List.length_append]; exact hsm⟩ hS1 (by omega) (by omega) (by rw [List.length_append]; show s.heap.size + (cells + 1) = K.2.2.1 + (E.length + 1); omega) hl
  have e1 : (Value.ref E.length :: st).map (aRv K) = .ref (K.2.2.1 + E.length) :: st.map (aRv K) := by
    show Value.ref (aAd K E.length) :: _ = _
    unfold aAd
    rw [if_pos (by omega)]
  rw [e1] at hk
  exact hk
def aTn (t : Nat) : String := match t with
  | 0 => RX5
  | _ => RX1
theorem aw_anew {i : Int32} {idx t N : Nat} (hd : decode Y.2.1 pc = .ok (.anewarray idx, 3)) (ht : t < 2) (hcl : Cond.classLink Y.1.cls idx (aTn t) ∈ aTB) (hi : ¬ i < 0) (hN : i.toNatClampNeg = N) (hby : N ≤ 100000000) (hsm : E.length + 1 < 1000000) (hn : pc + 3 = n) (kk : aw l K Y d kc ks n L (.ref E.length :: st) (E ++ [.inr (.inr (t, List.replicate N none))]) (aClr M E.length) Q) : aw l K Y d (kc + 1) (ks + N) pc L (.int i :: st) E M Q := by
  subst hn
  intro p e R s m args below meth c H locs cells slots mc ms ls C hH hS h1 h2 h3 hl
  have hts := C.2.2.2.2.2.2.2.1
  have hb : K.2.2.1 ≤ s.heap.size := C.2.2.2.2.2.2.2.2.2.2.2.2.2
  have hmc : mc ≤ R.cells := C.2.2.2.2.2.2.2.2.2.2.2.1
  have hms : ms ≤ R.slots := C.2.2.2.2.2.2.2.2.2.2.2.2.1
  have hAO : va_AO (aTn t) s := by
    rcases (show t = 0 ∨ t = 1 by omega) with rfl | rfl
    · exact C.2.2.2.2.2.2.2.2.1.2.2.1
    · exact C.2.2.2.2.2.2.2.2.1.2.2.2.1
  refine va_newq C.1 C.2.1 C.2.2.2.2.2.2.1 (hts _ hcl) hAO C.2.2.2.2.2.2.2.2.1.1 hH.1 (aWd_D K E M) hS (fun q hq => Nat.le_trans hb hq) hi hN (by omega) (by omega) (by omega) hd (fun q cA H1 hK1 hP1 hD1 hS1 => ?_)
  have hcA : cA = K.2.1 (t + 1) := by
    obtain ⟨-, -, -, -, -, g1⟩ := (hK1.2 3 (cA, .object (aTn t)) rfl).2
    have g2 : s.vm.findClass ("[" ++ (FieldType.object (aTn t)).toString) = some (K.2.1 (t + 1)) := by
      rcases (show t = 0 ∨ t = 1 by omega) with rfl | rfl
      · obtain ⟨-, -, -, -, -, g⟩ := (C.2.2.2.2.2.2.2.2.1.1.2 1 (K.2.1 1, .object RX5) rfl).2
        exact g
      · obtain ⟨-, -, -, -, -, g⟩ := (C.2.2.2.2.2.2.2.2.1.1.2 2 (K.2.1 2, .object RX1) rfl).2
        exact g
    exact Option.some.inj (g1.symm.trans g2)
  subst hcA
  refine aNew hP1 hD1 h3 (fun hq => ?_)
  subst hq
  have hx : (.inl (K.2.1 (t + 1), N, .inr (.inr (.inr (.inr (fun _ => none))))) : va_E) = aX K (aClr M E.length) E.length (.inr (.inr (t, List.replicate N none))) := by
    show _ = (.inl (K.2.1 (t + 1), (List.replicate N (none : Option Nat)).length, .inr (.inr (.inr (.inr (fun (i : Nat) => (((List.replicate N (none : Option Nat))[i]?).getD none).map (aAd K)))))) : va_E)
    have hf : (fun (i : Nat) => (((List.replicate N (none : Option Nat))[i]?).getD none).map (aAd K)) = fun _ => none := by
      funext i
      rw [List.getElem?_replicate]
      by_cases hi : i < N
      · rw [if_pos hi]; rfl
      · rw [if_neg hi]; rfl
    rw [hf, List.length_replicate]
  rw [aWd_push hx] at hP1
  have hk := kk p e R s m args below meth c H1 locs (cells + 1) (slots + N) mc ms ls C ⟨hP1, by rw [List.length_append]; exact hsm⟩ hS1 (by omega) (by omega) (by rw [List.length_append]; show s.heap.size + (cells + 1) = K.2.2.1 + (E.length + 1); omega) hl
  have e1 : (Value.ref E.length :: st).map (aRv K) = .ref (K.2.2.1 + E.length) :: st.map (aRv K) := by
    show Value.ref (aAd K E.length) :: _ = _
    unfold aAd
    rw [if_pos (by omega)]
  rw [e1] at hk
  exact hk
theorem aw_putF {idx ci k a r : Nat} {fs : List aF} {ty : FieldType} (hd : decode Y.2.1 pc = .ok (.putfield idx, 3)) (hf : aFp Y.1.cls idx ci k true ty) (hnm : Y.1.name = "<init>") (hE : E[a]? = some (.inl (ci, fs))) (hk : k < fs.length) (hnr : ∀ q, narrow ty (.ref q) = .ref q) (hft : ∀ q, fits ty (.ref q) = true) (hn : pc + 3 = n) (kk : aw l K Y d kc ks n L st (E.set a (.inl (ci, fs.set k (some (some r))))) M Q) : aw l K Y d kc ks pc L (.ref r :: .ref a :: st) E M Q := by
  subst hn
  intro p e R s m args below meth c H locs cells slots mc ms ls C hH hS h1 h2 h3 hl
  obtain ⟨C0, T, N, ty0, hc, hk2, hin, hty, hnm2, hfin, hds, hlink⟩ := hf
  show W p l e R s m args below meth c H locs cells slots _ (F0 m pc ls (.ref (aAd K r) :: .ref (aAd K a) :: st.map (aRv K)))
  rw [aAd_of hE hH]
  have hw := aWd_get (K := K) (M := M) hE
  have hlen : k < (fs.mapIdx (fun j o => aFv K (M a j) o)).length := by rw [List.length_mapIdx]; exact hk
  have hfs : (fs.mapIdx (fun j o => aFv K (M a j) o)).set k (.ref (aAd K r)) = (fs.set k (some (some r))).mapIdx (fun j o => aFv K (M a j) o) := by
    apply List.ext_getElem?
    intro j
    rw [List.getElem?_set, List.getElem?_mapIdx, List.getElem?_mapIdx, List.length_mapIdx, List.getElem?_set]
    by_cases hjk : k = j
    · rw [if_pos hjk, if_pos hjk]
      by_cases h : k < fs.length
      · rw [if_pos h, if_pos h]; rfl
      · rw [if_neg h, if_neg h]; rfl
    · rw [if_neg hjk, if_neg hjk]
  have hset : (aWd K E M).set a (K.2.2.1 + a, .inr (ci, (fs.mapIdx (fun j o => aFv K (M a j) o)).set k (.ref (aAd K r)))) = aWd K (E.set a (.inl (ci, fs.set k (some (some r))))) M :=
    aWd_setE hE (by rw [hfs]; rfl)
  rcases hlink with ⟨hlink, hown⟩ | ⟨hff, -⟩
  · refine va_putF C.1 C.2.1 C.2.2.2.2.2.2.2.1 hin ty0 hty hnm2 C.2.2.2.2.2.2.1 C.2.2.2.2.2.2.2.2.1.1 hH.1 (aWd_D K E M) hS a hw hc k hk2 (C.2.2.2.2.2.2.2.1 _ hlink) (fun _ h => h) hfin (C.2.2.2.2.2.1.trans hnm) (hown rfl) hds (hnr _) (hft _) hlen hd (fun H1 locs1 hP1 hD1 hS1 => ?_)
    exact kk p e R s m args below meth c H1 locs1 cells slots mc ms ls C ⟨hset ▸ hP1, by rw [List.length_set]; exact hH.2⟩ hS1 h1 h2 (by rw [List.length_set]; exact h3) hl
  · cases hff
theorem aw_aast {a t r ci : Nat} {rs : List (Option Nat)} {fs : List aF} {q : vw_C} {i : Int32} (hd : decode Y.2.1 pc = .ok (.aastore, 1)) (hE : E[a]? = some (.inr (.inr (t, rs)))) (ht : t < 2) (hi : vp_in i rs.length) (hr : E[r]? = some (.inl (ci, fs))) (hcl : vwCl[ci]? = some q) (hq : q.1 = aTn t) (hn : pc + 1 = n) (kk : aw l K Y d kc ks n L st (E.set a (.inr (.inr (t, rs.set i.toNatClampNeg (some r))))) M Q) : aw l K Y d kc ks pc L (.ref r :: .int i :: .ref a :: st) E M Q := by
  subst hn
  intro p e R s m args below meth c H locs cells slots mc ms ls C hH hS h1 h2 h3 hl
  show W p l e R s m args below meth c H locs cells slots _ (F0 m pc ls (.ref (aAd K r) :: .int i :: .ref (aAd K a) :: st.map (aRv K)))
  have hrr := aAd_of hr hH
  rw [aAd_of hE hH, hrr]
  have hw := aWd_get (K := K) (M := M) hE
  have hw2 := aWd_get (K := K) (M := M) hr
  have hset : (aWd K E M).set a (K.2.2.1 + a, .inl (K.2.1 (t + 1), rs.length, .inr (.inr (.inr (.inr (va_up (fun i => ((rs[i]?).getD none).map (aAd K)) i.toNatClampNeg (some (K.2.2.1 + r)))))))) = aWd K (E.set a (.inr (.inr (t, rs.set i.toNatClampNeg (some r))))) M := by
    refine aWd_setE hE ?_
    show _ = (.inl (K.2.1 (t + 1), (rs.set i.toNatClampNeg (some r)).length, .inr (.inr (.inr (.inr (fun j => (((rs.set i.toNatClampNeg (some r))[j]?).getD none).map (aAd K)))))) : va_E)
    have hf : (fun j => (((rs.set i.toNatClampNeg (some r))[j]?).getD none).map (aAd K)) = va_up (fun i => ((rs[i]?).getD none).map (aAd K)) i.toNatClampNeg (some (K.2.2.1 + r)) := by
      funext j
      unfold va_up
      rw [List.getElem?_set]
      by_cases hj : j = i.toNatClampNeg
      · have h9 : i.toNatClampNeg < rs.length := Nat.not_le.mp fun z => hi (Or.inr z)
        rw [if_pos hj.symm, if_pos h9, if_pos hj, ← hrr]
        rfl
      · rw [if_neg (fun z => hj z.symm), if_neg hj]
    rw [hf, List.length_set]
  have hty : (aTy K)[t + 1]? = some (K.2.1 (t + 1), .object q.1) := by
    rw [hq]
    rcases (show t = 0 ∨ t = 1 by omega) with rfl | rfl <;> rfl
  refine va_astq C.1 C.2.1 C.2.2.2.2.2.2.2.2.1.1 hH.1 (aWd_D K E M) hS a (t + 1) r ci hw hty hw2 hcl hi hd (fun H1 locs1 hP1 hD1 hS1 => ?_)
  exact kk p e R s m args below meth c H1 locs1 cells slots mc ms ls C ⟨hset ▸ hP1, by rw [List.length_set]; exact hH.2⟩ hS1 h1 h2 (by rw [List.length_set]; exact h3) hl
theorem aw_oinit {idx a : Nat} (hd : decode Y.2.1 pc = .ok (.invokespecial idx, 3)) (hlink : Cond.methodLink Y.1.cls idx objectInit ∈ aTB) (hinst : Cond.instanceMethod objectInit ∈ aTB) (hcode : Cond.code objectInit ⟨#[0xb1]⟩ 1 none ∈ aTB) (hdd : 1 ≤ d) (hst : (st.map fun v => v.category).sum ≤ 8) (hn : pc + 3 = n) (kk : aw l K Y d kc ks n L st E M Q) : aw l K Y d kc ks pc L (.ref a :: st) E M Q := by
  subst hn
  intro p e R s m args below meth c H locs cells slots mc ms ls C hH hS h1 h2 h3 hl
  have hts := C.2.2.2.2.2.2.2.1
  have hcat : ((st.map (aRv K)).map fun v => v.category) = st.map fun v => v.category := by
    rw [List.map_map]
    exact List.map_congr_left fun v _ => aRv_cat K v
  have hR : 60 * d ≤ R.locals := C.2.2.2.2.2.2.2.2.2.2.1
  have hroom := lv_room (m := m) (pc := pc) (ls := ls) (rest := (Value.ref a :: st).map (aRv K)) (st := st.map (aRv K)) (by rw [hcat]; exact hst)
  exact W.objInit C.1 C.2.1 C.2.2.2.2.2.2.1 (hts _ hlink) (hts _ hinst) (hts _ hcode) rfl (by rw [C.2.2.1]; exact hl.1) rfl hd (Nat.le_trans hdd C.2.2.2.2.2.2.2.2.2.1) (by omega) (kk p e R s m args below meth c H locs cells slots mc ms ls C hH hS h1 h2 h3 hl)
end AW4
end
section
theorem aTB_at {w : Cond} (i : Nat) (h : lw_tbl[i]? = some w) (g : goodWord w = true) : w ∈ aTB := List.mem_filter.mpr ⟨List.mem_of_getElem? h, g⟩
theorem aNT_at {w : Cond} (i : Nat) (h : tables_1[i]? = some w) (g : aNest w = true) : w ∈ aNT := List.mem_filter.mpr ⟨List.mem_of_getElem? h, g⟩
set_option maxRecDepth 20000 in
theorem uX1 : ∀ w ∈ u_ws RX1 TX1 5, w ∈ aTB := by decide +kernel
set_option maxRecDepth 20000 in
theorem uX3 : ∀ w ∈ u_ws RX3 TX3 9, w ∈ aTB := by decide +kernel
set_option maxRecDepth 20000 in
theorem uX4 : ∀ w ∈ u_ws RX4 TX4 6, w ∈ aTB := by decide +kernel
set_option maxRecDepth 20000 in
theorem uX5 : ∀ w ∈ u_ws RX5 TX5 4, w ∈ aTB := by decide +kernel
set_option maxRecDepth 20000 in
theorem uX6 : ∀ w ∈ u_ws RX6 TX6 5, w ∈ aTB := by decide +kernel
set_option maxRecDepth 20000 in
theorem uX7 : ∀ w ∈ u_ws RX7 TX7 9, w ∈ aTB := by decide +kernel
set_option maxRecDepth 20000 in
theorem uX8 : ∀ w ∈ u_ws RX8 TX8 45, w ∈ aTB := by decide +kernel
abbrev mX7_init : aY := (yX7_init, cX7_init, 2, none)
set_option maxRecDepth 20000 in
theorem kX7_init : aMd mX7_init 0 := ⟨aTB_at 75 rfl rfl, aTB_at 60 (by decide +kernel) rfl, plainFor_of_name (by decide), ⟨by decide, by decide, by decide +kernel⟩, by decide⟩
theorem k_objectInit : Cond.code objectInit ⟨#[0xb1]⟩ 1 none ∈ aTB := aTB_at 78 (by decide +kernel) rfl
abbrev mX6_init : aY := (yX6_init, cX6_init, 1, none)
set_option maxRecDepth 20000 in
theorem kX6_init : aMd mX6_init 0 := ⟨aTB_at 83 rfl rfl, aTB_at 61 (by decide +kernel) rfl, plainFor_of_name (by decide), ⟨by decide, by decide, by decide +kernel⟩, by decide⟩
abbrev mX4_init : aY := (yX4_init, cX4_init, 1, none)
set_option maxRecDepth 20000 in
theorem kX4_init : aMd mX4_init 0 := ⟨aTB_at 89 rfl rfl, aTB_at 62 (by decide +kernel) rfl, plainFor_of_name (by decide), ⟨by decide, by decide, by decide +kernel⟩, by decide⟩
abbrev mX7_newValues : aY := (yX7_newValues, cX7_newValues, 3, some (.array (.object "PropertyTests$Value")))
set_option maxRecDepth 20000 in
theorem kX7_newValues : aMd mX7_newValues 1 := ⟨aTB_at 119 rfl rfl, aTB_at 60 (by decide +kernel) rfl, plainFor_of_name (by decide), ⟨by decide, by decide, by decide +kernel⟩, by decide⟩
abbrev mX5_init : aY := (yX5_init, cX5_init, 1, none)
set_option maxRecDepth 20000 in
theorem kX5_init : aMd mX5_init 0 := ⟨aTB_at 125 rfl rfl, aTB_at 63 (by decide +kernel) rfl, plainFor_of_name (by decide), ⟨by decide, by decide, by decide +kernel⟩, by decide⟩
abbrev mX1_init : aY := (yX1_init, cX1_init, 1, none)
set_option maxRecDepth 20000 in
theorem kX1_init : aMd mX1_init 0 := ⟨aTB_at 172 rfl rfl, aTB_at 64 (by decide +kernel) rfl, plainFor_of_name (by decide), ⟨by decide, by decide, by decide +kernel⟩, by decide⟩
abbrev mX3_init : aY := (yX3_init, cX3_init, 1, none)
set_option maxRecDepth 20000 in
theorem kX3_init : aMd mX3_init 0 := ⟨aTB_at 200 rfl rfl, aTB_at 65 (by decide +kernel) rfl, plainFor_of_name (by decide), ⟨by decide, by decide, by decide +kernel⟩, by decide⟩
abbrev mX7_term : aY := (yX7_term, cX7_term, 6, some (.int))
set_option maxRecDepth 20000 in
theorem kX7_term : aMd mX7_term 5 := ⟨aTB_at 267 rfl rfl, aTB_at 60 (by decide +kernel) rfl, plainFor_of_name (by decide), ⟨by decide, by decide, by decide +kernel⟩, by decide⟩
abbrev mX4_allows : aY := (yX4_allows, cX4_allows, 3, some (.boolean))
set_option maxRecDepth 20000 in
theorem kX4_allows : aMd mX4_allows 2 := ⟨aTB_at 271 rfl rfl, aTB_at 62 (by decide +kernel) rfl, plainFor_of_name (by decide), ⟨by decide, by decide, by decide +kernel⟩, by decide⟩
abbrev mX4_hasParts : aY := (yX4_hasParts, cX4_hasParts, 6, some (.boolean))
set_option maxRecDepth 20000 in
theorem kX4_hasParts : aMd mX4_hasParts 4 := ⟨aTB_at 275 rfl rfl, aTB_at 62 (by decide +kernel) rfl, plainFor_of_name (by decide), ⟨by decide, by decide, by decide +kernel⟩, by decide⟩
abbrev mX4_has : aY := (yX4_has, cX4_has, 2, some (.boolean))
set_option maxRecDepth 20000 in
theorem kX4_has : aMd mX4_has 1 := ⟨aTB_at 281 rfl rfl, aTB_at 62 (by decide +kernel) rfl, plainFor_of_name (by decide), ⟨by decide, by decide, by decide +kernel⟩, by decide⟩
abbrev mX4_add : aY := (yX4_add, cX4_add, 6, some (.int))
set_option maxRecDepth 20000 in
theorem kX4_add : aMd mX4_add 5 := ⟨aTB_at 285 rfl rfl, aTB_at 62 (by decide +kernel) rfl, plainFor_of_name (by decide), ⟨by decide, by decide, by decide +kernel⟩, by decide⟩
abbrev mX7_property : aY := (yX7_property, cX7_property, 9, some (.int))
set_option maxRecDepth 20000 in
theorem kX7_property : aMd mX7_property 7 := ⟨aTB_at 289 rfl rfl, aTB_at 60 (by decide +kernel) rfl, plainFor_of_name (by decide), ⟨by decide, by decide, by decide +kernel⟩, by decide⟩
abbrev mX7_isType : aY := (yX7_isType, cX7_isType, 1, some (.boolean))
set_option maxRecDepth 20000 in
theorem kX7_isType : aMd mX7_isType 1 := ⟨aTB_at 292 rfl rfl, aTB_at 60 (by decide +kernel) rfl, plainFor_of_name (by decide), ⟨by decide, by decide, by decide +kernel⟩, by decide⟩
abbrev mX4_hasOrNone : aY := (yX4_hasOrNone, cX4_hasOrNone, 2, some (.boolean))
set_option maxRecDepth 20000 in
theorem kX4_hasOrNone : aMd mX4_hasOrNone 1 := ⟨aTB_at 296 rfl rfl, aTB_at 62 (by decide +kernel) rfl, plainFor_of_name (by decide), ⟨by decide, by decide, by decide +kernel⟩, by decide⟩
abbrev mX1_setTypes : aY := (yX1_setTypes, cX1_setTypes, 4, none)
set_option maxRecDepth 20000 in
theorem kX1_setTypes : aMd mX1_setTypes 3 := ⟨aTB_at 301 rfl rfl, aTB_at 64 (by decide +kernel) rfl, plainFor_of_name (by decide), ⟨by decide, by decide, by decide +kernel⟩, by decide⟩
abbrev mX1_setTerms : aY := (yX1_setTerms, cX1_setTerms, 5, none)
set_option maxRecDepth 20000 in
theorem kX1_setTerms : aMd mX1_setTerms 4 := ⟨aTB_at 305 rfl rfl, aTB_at 64 (by decide +kernel) rfl, plainFor_of_name (by decide), ⟨by decide, by decide, by decide +kernel⟩, by decide⟩
abbrev mX7_run : aY := (yX7_run, cX7_run, 6, some (.int))
set_option maxRecDepth 20000 in
theorem kX7_run : aMd mX7_run 3 := ⟨aTB_at 309 rfl rfl, aTB_at 60 (by decide +kernel) rfl, plainFor_of_name (by decide), ⟨by decide, by decide, by decide +kernel⟩, by decide⟩
abbrev mX7_isProperty : aY := (yX7_isProperty, cX7_isProperty, 2, some (.boolean))
set_option maxRecDepth 20000 in
theorem kX7_isProperty : aMd mX7_isProperty 1 := ⟨aTB_at 313 rfl rfl, aTB_at 60 (by decide +kernel) rfl, plainFor_of_name (by decide), ⟨by decide, by decide, by decide +kernel⟩, by decide⟩
abbrev mX7_forgetLatest : aY := (yX7_forgetLatest, cX7_forgetLatest, 1, none)
set_option maxRecDepth 20000 in
theorem kX7_forgetLatest : aMd mX7_forgetLatest 0 := ⟨aTB_at 317 rfl rfl, aTB_at 60 (by decide +kernel) rfl, plainFor_of_name (by decide), ⟨by decide, by decide, by decide +kernel⟩, by decide⟩
abbrev mX3_clear : aY := (yX3_clear, cX3_clear, 2, none)
set_option maxRecDepth 20000 in
theorem kX3_clear : aMd mX3_clear 0 := ⟨aTB_at 321 rfl rfl, aTB_at 65 (by decide +kernel) rfl, plainFor_of_name (by decide), ⟨by decide, by decide, by decide +kernel⟩, by decide⟩
abbrev mX0_into : aY := (yX0_into, cX0_into, 8, none)
set_option maxRecDepth 20000 in
theorem kX0_into : aMd mX0_into 5 := ⟨aTB_at 324 rfl rfl, aTB_at 67 (by decide +kernel) rfl, plainFor_of_name (by decide), ⟨by decide, by decide, by decide +kernel⟩, by decide⟩
abbrev mX0_hash : aY := (yX0_hash, cX0_hash, 3, some (.int))
set_option maxRecDepth 20000 in
theorem kX0_hash : aMd mX0_hash 2 := ⟨aTB_at 327 rfl rfl, aTB_at 67 (by decide +kernel) rfl, plainFor_of_name (by decide), ⟨by decide, by decide, by decide +kernel⟩, by decide⟩
abbrev mX0_between : aY := (yX0_between, cX0_between, 2, some (.int))
set_option maxRecDepth 20000 in
theorem kX0_between : aMd mX0_between 2 := ⟨aTB_at 333 rfl rfl, aTB_at 67 (by decide +kernel) rfl, plainFor_of_name (by decide), ⟨by decide, by decide, by decide +kernel⟩, by decide⟩
abbrev mJ9_floorMod_7cf53 : aY := (yJ9_floorMod_7cf53, cJ9_floorMod_7cf53, 3, some (.int))
set_option maxRecDepth 20000 in
theorem kJ9_floorMod_7cf53 : aMd mJ9_floorMod_7cf53 2 := ⟨aTB_at 336 rfl rfl, aTB_at 68 (by decide +kernel) rfl, by decide +kernel, ⟨by decide, by decide, by decide +kernel⟩, by decide⟩
abbrev mX5_setWhole : aY := (yX5_setWhole, cX5_setWhole, 2, none)
set_option maxRecDepth 20000 in
theorem kX5_setWhole : aMd mX5_setWhole 1 := ⟨aTB_at 340 rfl rfl, aTB_at 63 (by decide +kernel) rfl, plainFor_of_name (by decide), ⟨by decide, by decide, by decide +kernel⟩, by decide⟩
abbrev mX5_setRow : aY := (yX5_setRow, cX5_setRow, 2, none)
set_option maxRecDepth 20000 in
theorem kX5_setRow : aMd mX5_setRow 1 := ⟨aTB_at 344 rfl rfl, aTB_at 63 (by decide +kernel) rfl, plainFor_of_name (by decide), ⟨by decide, by decide, by decide +kernel⟩, by decide⟩
abbrev mX5_setNothing : aY := (yX5_setNothing, cX5_setNothing, 1, none)
set_option maxRecDepth 20000 in
theorem kX5_setNothing : aMd mX5_setNothing 0 := ⟨aTB_at 348 rfl rfl, aTB_at 63 (by decide +kernel) rfl, plainFor_of_name (by decide), ⟨by decide, by decide, by decide +kernel⟩, by decide⟩
abbrev mX7_tryCase : aY := (yX7_tryCase, cX7_tryCase, 3, none)
set_option maxRecDepth 20000 in
theorem kX7_tryCase : aMd mX7_tryCase 1 := ⟨aTB_at 352 rfl rfl, aTB_at 60 (by decide +kernel) rfl, plainFor_of_name (by decide), ⟨by decide, by decide, by decide +kernel⟩, by decide⟩
abbrev mX6_outcome : aY := (yX6_outcome, cX6_outcome, 3, some (.int))
set_option maxRecDepth 20000 in
theorem kX6_outcome : aMd mX6_outcome 1 := ⟨aTB_at 356 rfl rfl, aTB_at 61 (by decide +kernel) rfl, plainFor_of_name (by decide), ⟨by decide, by decide, by decide +kernel⟩, by decide⟩
abbrev mX6_work : aY := (yX6_work, cX6_work, 9, some (.int))
set_option maxRecDepth 20000 in
theorem kX6_work : aMd mX6_work 1 := ⟨aTB_at 360 rfl rfl, aTB_at 61 (by decide +kernel) rfl, plainFor_of_name (by decide), ⟨by decide, by decide, by decide +kernel⟩, by decide⟩
abbrev mX6_asWhole : aY := (yX6_asWhole, cX6_asWhole, 3, some (.int))
set_option maxRecDepth 20000 in
theorem kX6_asWhole : aMd mX6_asWhole 1 := ⟨aTB_at 365 rfl rfl, aTB_at 61 (by decide +kernel) rfl, plainFor_of_name (by decide), ⟨by decide, by decide, by decide +kernel⟩, by decide⟩
abbrev mX6_lookAt : aY := (yX6_lookAt, cX6_lookAt, 2, some (.int))
set_option maxRecDepth 20000 in
theorem kX6_lookAt : aMd mX6_lookAt 2 := ⟨aTB_at 368 rfl rfl, aTB_at 61 (by decide +kernel) rfl, plainFor_of_name (by decide), ⟨by decide, by decide, by decide +kernel⟩, by decide⟩
abbrev mX6_workChosen : aY := (yX6_workChosen, cX6_workChosen, 6, some (.int))
set_option maxRecDepth 20000 in
theorem kX6_workChosen : aMd mX6_workChosen 3 := ⟨aTB_at 372 rfl rfl, aTB_at 61 (by decide +kernel) rfl, plainFor_of_name (by decide), ⟨by decide, by decide, by decide +kernel⟩, by decide⟩
abbrev mX6_setTruth : aY := (yX6_setTruth, cX6_setTruth, 2, none)
set_option maxRecDepth 20000 in
theorem kX6_setTruth : aMd mX6_setTruth 2 := ⟨aTB_at 375 rfl rfl, aTB_at 61 (by decide +kernel) rfl, plainFor_of_name (by decide), ⟨by decide, by decide, by decide +kernel⟩, by decide⟩
abbrev mX6_lookAtAll : aY := (yX6_lookAtAll, cX6_lookAtAll, 5, some (.int))
set_option maxRecDepth 20000 in
theorem kX6_lookAtAll : aMd mX6_lookAtAll 4 := ⟨aTB_at 379 rfl rfl, aTB_at 61 (by decide +kernel) rfl, plainFor_of_name (by decide), ⟨by decide, by decide, by decide +kernel⟩, by decide⟩
abbrev mX6_comeTo : aY := (yX6_comeTo, cX6_comeTo, 7, some (.int))
set_option maxRecDepth 20000 in
theorem kX6_comeTo : aMd mX6_comeTo 5 := ⟨aTB_at 389 rfl rfl, aTB_at 61 (by decide +kernel) rfl, plainFor_of_name (by decide), ⟨by decide, by decide, by decide +kernel⟩, by decide⟩
abbrev mX5_copy : aY := (yX5_copy, cX5_copy, 3, none)
set_option maxRecDepth 20000 in
theorem kX5_copy : aMd mX5_copy 1 := ⟨aTB_at 393 rfl rfl, aTB_at 63 (by decide +kernel) rfl, plainFor_of_name (by decide), ⟨by decide, by decide, by decide +kernel⟩, by decide⟩
abbrev mX6_areLike : aY := (yX6_areLike, cX6_areLike, 3, some (.boolean))
set_option maxRecDepth 20000 in
theorem kX6_areLike : aMd mX6_areLike 2 := ⟨aTB_at 397 rfl rfl, aTB_at 61 (by decide +kernel) rfl, plainFor_of_name (by decide), ⟨by decide, by decide, by decide +kernel⟩, by decide⟩
abbrev mX6_setAt : aY := (yX6_setAt, cX6_setAt, 3, some (.int))
set_option maxRecDepth 20000 in
theorem kX6_setAt : aMd mX6_setAt 3 := ⟨aTB_at 400 rfl rfl, aTB_at 61 (by decide +kernel) rfl, plainFor_of_name (by decide), ⟨by decide, by decide, by decide +kernel⟩, by decide⟩
abbrev mX5_hasPlace : aY := (yX5_hasPlace, cX5_hasPlace, 2, some (.boolean))
set_option maxRecDepth 20000 in
theorem kX5_hasPlace : aMd mX5_hasPlace 1 := ⟨aTB_at 404 rfl rfl, aTB_at 63 (by decide +kernel) rfl, plainFor_of_name (by decide), ⟨by decide, by decide, by decide +kernel⟩, by decide⟩
abbrev mX6_setZeros : aY := (yX6_setZeros, cX6_setZeros, 3, some (.int))
set_option maxRecDepth 20000 in
theorem kX6_setZeros : aMd mX6_setZeros 2 := ⟨aTB_at 407 rfl rfl, aTB_at 61 (by decide +kernel) rfl, plainFor_of_name (by decide), ⟨by decide, by decide, by decide +kernel⟩, by decide⟩
abbrev mX6_setPut : aY := (yX6_setPut, cX6_setPut, 4, some (.int))
set_option maxRecDepth 20000 in
theorem kX6_setPut : aMd mX6_setPut 4 := ⟨aTB_at 411 rfl rfl, aTB_at 61 (by decide +kernel) rfl, plainFor_of_name (by decide), ⟨by decide, by decide, by decide +kernel⟩, by decide⟩
abbrev mX6_setJoined : aY := (yX6_setJoined, cX6_setJoined, 3, some (.int))
set_option maxRecDepth 20000 in
theorem kX6_setJoined : aMd mX6_setJoined 3 := ⟨aTB_at 414 rfl rfl, aTB_at 61 (by decide +kernel) rfl, plainFor_of_name (by decide), ⟨by decide, by decide, by decide +kernel⟩, by decide⟩
abbrev mX6_setPart : aY := (yX6_setPart, cX6_setPart, 4, some (.int))
set_option maxRecDepth 20000 in
theorem kX6_setPart : aMd mX6_setPart 4 := ⟨aTB_at 420 rfl rfl, aTB_at 61 (by decide +kernel) rfl, plainFor_of_name (by decide), ⟨by decide, by decide, by decide +kernel⟩, by decide⟩
abbrev mX6_setSorted : aY := (yX6_setSorted, cX6_setSorted, 5, none)
set_option maxRecDepth 20000 in
theorem kX6_setSorted : aMd mX6_setSorted 2 := ⟨aTB_at 423 rfl rfl, aTB_at 61 (by decide +kernel) rfl, plainFor_of_name (by decide), ⟨by decide, by decide, by decide +kernel⟩, by decide⟩
abbrev mX6_setTurned : aY := (yX6_setTurned, cX6_setTurned, 3, none)
set_option maxRecDepth 20000 in
theorem kX6_setTurned : aMd mX6_setTurned 2 := ⟨aTB_at 426 rfl rfl, aTB_at 61 (by decide +kernel) rfl, plainFor_of_name (by decide), ⟨by decide, by decide, by decide +kernel⟩, by decide⟩
abbrev mX6_sum : aY := (yX6_sum, cX6_sum, 3, some (.int))
set_option maxRecDepth 20000 in
theorem kX6_sum : aMd mX6_sum 1 := ⟨aTB_at 429 rfl rfl, aTB_at 61 (by decide +kernel) rfl, plainFor_of_name (by decide), ⟨by decide, by decide, by decide +kernel⟩, by decide⟩
abbrev mX6_setOfWholes : aY := (yX6_setOfWholes, cX6_setOfWholes, 4, some (.int))
set_option maxRecDepth 20000 in
theorem kX6_setOfWholes : aMd mX6_setOfWholes 4 := ⟨aTB_at 432 rfl rfl, aTB_at 61 (by decide +kernel) rfl, plainFor_of_name (by decide), ⟨by decide, by decide, by decide +kernel⟩, by decide⟩
abbrev mX3_countCase : aY := (yX3_countCase, cX3_countCase, 2, none)
set_option maxRecDepth 20000 in
theorem kX3_countCase : aMd mX3_countCase 1 := ⟨aTB_at 436 rfl rfl, aTB_at 65 (by decide +kernel) rfl, plainFor_of_name (by decide), ⟨by decide, by decide, by decide +kernel⟩, by decide⟩
abbrev mX6_labelled : aY := (yX6_labelled, cX6_labelled, 4, some (.int))
set_option maxRecDepth 20000 in
theorem kX6_labelled : aMd mX6_labelled 1 := ⟨aTB_at 440 rfl rfl, aTB_at 61 (by decide +kernel) rfl, plainFor_of_name (by decide), ⟨by decide, by decide, by decide +kernel⟩, by decide⟩
abbrev mX7_copyAll : aY := (yX7_copyAll, cX7_copyAll, 3, none)
set_option maxRecDepth 20000 in
theorem kX7_copyAll : aMd mX7_copyAll 2 := ⟨aTB_at 443 rfl rfl, aTB_at 60 (by decide +kernel) rfl, plainFor_of_name (by decide), ⟨by decide, by decide, by decide +kernel⟩, by decide⟩
abbrev mX7_makeSmaller : aY := (yX7_makeSmaller, cX7_makeSmaller, 3, none)
set_option maxRecDepth 20000 in
theorem kX7_makeSmaller : aMd mX7_makeSmaller 0 := ⟨aTB_at 448 rfl rfl, aTB_at 60 (by decide +kernel) rfl, plainFor_of_name (by decide), ⟨by decide, by decide, by decide +kernel⟩, by decide⟩
abbrev mX7_takeCandidate : aY := (yX7_takeCandidate, cX7_takeCandidate, 5, some (.boolean))
set_option maxRecDepth 20000 in
theorem kX7_takeCandidate : aMd mX7_takeCandidate 1 := ⟨aTB_at 452 rfl rfl, aTB_at 60 (by decide +kernel) rfl, plainFor_of_name (by decide), ⟨by decide, by decide, by decide +kernel⟩, by decide⟩
abbrev mX5_candidateCount : aY := (yX5_candidateCount, cX5_candidateCount, 3, some (.int))
set_option maxRecDepth 20000 in
theorem kX5_candidateCount : aMd mX5_candidateCount 0 := ⟨aTB_at 456 rfl rfl, aTB_at 63 (by decide +kernel) rfl, plainFor_of_name (by decide), ⟨by decide, by decide, by decide +kernel⟩, by decide⟩
abbrev mX5_becomeCandidate : aY := (yX5_becomeCandidate, cX5_becomeCandidate, 2, none)
set_option maxRecDepth 20000 in
theorem kX5_becomeCandidate : aMd mX5_becomeCandidate 1 := ⟨aTB_at 460 rfl rfl, aTB_at 63 (by decide +kernel) rfl, plainFor_of_name (by decide), ⟨by decide, by decide, by decide +kernel⟩, by decide⟩
abbrev mX5_nearerToZero : aY := (yX5_nearerToZero, cX5_nearerToZero, 2, some (.int))
set_option maxRecDepth 20000 in
theorem kX5_nearerToZero : aMd mX5_nearerToZero 2 := ⟨aTB_at 463 rfl rfl, aTB_at 63 (by decide +kernel) rfl, plainFor_of_name (by decide), ⟨by decide, by decide, by decide +kernel⟩, by decide⟩
abbrev mX5_dropPlace : aY := (yX5_dropPlace, cX5_dropPlace, 3, none)
set_option maxRecDepth 20000 in
theorem kX5_dropPlace : aMd mX5_dropPlace 1 := ⟨aTB_at 467 rfl rfl, aTB_at 63 (by decide +kernel) rfl, plainFor_of_name (by decide), ⟨by decide, by decide, by decide +kernel⟩, by decide⟩
abbrev mX5_shrinkAnInt : aY := (yX5_shrinkAnInt, cX5_shrinkAnInt, 4, none)
set_option maxRecDepth 20000 in
theorem kX5_shrinkAnInt : aMd mX5_shrinkAnInt 1 := ⟨aTB_at 471 rfl rfl, aTB_at 63 (by decide +kernel) rfl, plainFor_of_name (by decide), ⟨by decide, by decide, by decide +kernel⟩, by decide⟩
abbrev mX7_small : aY := (yX7_small, cX7_small, 5, some (.int))
set_option maxRecDepth 20000 in
theorem kX7_small : aMd mX7_small 2 := ⟨aTB_at 475 rfl rfl, aTB_at 60 (by decide +kernel) rfl, plainFor_of_name (by decide), ⟨by decide, by decide, by decide +kernel⟩, by decide⟩
abbrev mX7_isSmall : aY := (yX7_isSmall, cX7_isSmall, 1, some (.boolean))
set_option maxRecDepth 20000 in
theorem kX7_isSmall : aMd mX7_isSmall 1 := ⟨aTB_at 478 rfl rfl, aTB_at 60 (by decide +kernel) rfl, plainFor_of_name (by decide), ⟨by decide, by decide, by decide +kernel⟩, by decide⟩
abbrev mX2_countFor : aY := (yX2_countFor, cX2_countFor, 4, some (.int))
set_option maxRecDepth 20000 in
theorem kX2_countFor : aMd mX2_countFor 2 := ⟨aTB_at 481 rfl rfl, aTB_at 70 (by decide +kernel) rfl, plainFor_of_name (by decide), ⟨by decide, by decide, by decide +kernel⟩, by decide⟩
abbrev mX2_count : aY := (yX2_count, cX2_count, 5, some (.int))
set_option maxRecDepth 20000 in
theorem kX2_count : aMd mX2_count 2 := ⟨aTB_at 484 rfl rfl, aTB_at 70 (by decide +kernel) rfl, plainFor_of_name (by decide), ⟨by decide, by decide, by decide +kernel⟩, by decide⟩
abbrev mX2_wholes : aY := (yX2_wholes, cX2_wholes, 1, some (.int))
set_option maxRecDepth 20000 in
theorem kX2_wholes : aMd mX2_wholes 1 := ⟨aTB_at 487 rfl rfl, aTB_at 70 (by decide +kernel) rfl, plainFor_of_name (by decide), ⟨by decide, by decide, by decide +kernel⟩, by decide⟩
abbrev mX2_fill : aY := (yX2_fill, cX2_fill, 7, none)
set_option maxRecDepth 20000 in
theorem kX2_fill : aMd mX2_fill 4 := ⟨aTB_at 490 rfl rfl, aTB_at 70 (by decide +kernel) rfl, plainFor_of_name (by decide), ⟨by decide, by decide, by decide +kernel⟩, by decide⟩
abbrev mX2_into : aY := (yX2_into, cX2_into, 4, none)
set_option maxRecDepth 20000 in
theorem kX2_into : aMd mX2_into 4 := ⟨aTB_at 493 rfl rfl, aTB_at 70 (by decide +kernel) rfl, plainFor_of_name (by decide), ⟨by decide, by decide, by decide +kernel⟩, by decide⟩
abbrev mX2_whole : aY := (yX2_whole, cX2_whole, 1, some (.int))
set_option maxRecDepth 20000 in
theorem kX2_whole : aMd mX2_whole 1 := ⟨aTB_at 496 rfl rfl, aTB_at 70 (by decide +kernel) rfl, plainFor_of_name (by decide), ⟨by decide, by decide, by decide +kernel⟩, by decide⟩
abbrev mX2_rowInto : aY := (yX2_rowInto, cX2_rowInto, 7, none)
set_option maxRecDepth 20000 in
theorem kX2_rowInto : aMd mX2_rowInto 3 := ⟨aTB_at 500 rfl rfl, aTB_at 70 (by decide +kernel) rfl, plainFor_of_name (by decide), ⟨by decide, by decide, by decide +kernel⟩, by decide⟩
abbrev mX7_many : aY := (yX7_many, cX7_many, 4, some (.int))
set_option maxRecDepth 20000 in
theorem kX7_many : aMd mX7_many 2 := ⟨aTB_at 506 rfl rfl, aTB_at 60 (by decide +kernel) rfl, plainFor_of_name (by decide), ⟨by decide, by decide, by decide +kernel⟩, by decide⟩
abbrev mX7_again : aY := (yX7_again, cX7_again, 1, some (.int))
set_option maxRecDepth 20000 in
theorem kX7_again : aMd mX7_again 0 := ⟨aTB_at 510 rfl rfl, aTB_at 60 (by decide +kernel) rfl, plainFor_of_name (by decide), ⟨by decide, by decide, by decide +kernel⟩, by decide⟩
abbrev mX7_counter : aY := (yX7_counter, cX7_counter, 3, some (.int))
set_option maxRecDepth 20000 in
theorem kX7_counter : aMd mX7_counter 2 := ⟨aTB_at 514 rfl rfl, aTB_at 60 (by decide +kernel) rfl, plainFor_of_name (by decide), ⟨by decide, by decide, by decide +kernel⟩, by decide⟩
abbrev mX5_read : aY := (yX5_read, cX5_read, 2, some (.int))
set_option maxRecDepth 20000 in
theorem kX5_read : aMd mX5_read 1 := ⟨aTB_at 519 rfl rfl, aTB_at 63 (by decide +kernel) rfl, plainFor_of_name (by decide), ⟨by decide, by decide, by decide +kernel⟩, by decide⟩
abbrev mX7_drawn : aY := (yX7_drawn, cX7_drawn, 6, some (.int))
set_option maxRecDepth 20000 in
theorem kX7_drawn : aMd mX7_drawn 5 := ⟨aTB_at 524 rfl rfl, aTB_at 60 (by decide +kernel) rfl, plainFor_of_name (by decide), ⟨by decide, by decide, by decide +kernel⟩, by decide⟩
abbrev mX7_told : aY := (yX7_told, cX7_told, 2, some (.int))
set_option maxRecDepth 20000 in
theorem kX7_told : aMd mX7_told 1 := ⟨aTB_at 528 rfl rfl, aTB_at 60 (by decide +kernel) rfl, plainFor_of_name (by decide), ⟨by decide, by decide, by decide +kernel⟩, by decide⟩
abbrev mX3_read : aY := (yX3_read, cX3_read, 2, some (.int))
set_option maxRecDepth 20000 in
theorem kX3_read : aMd mX3_read 1 := ⟨aTB_at 532 rfl rfl, aTB_at 65 (by decide +kernel) rfl, plainFor_of_name (by decide), ⟨by decide, by decide, by decide +kernel⟩, by decide⟩
abbrev mX7_label : aY := (yX7_label, cX7_label, 2, some (.int))
set_option maxRecDepth 20000 in
theorem kX7_label : aMd mX7_label 1 := ⟨aTB_at 536 rfl rfl, aTB_at 60 (by decide +kernel) rfl, plainFor_of_name (by decide), ⟨by decide, by decide, by decide +kernel⟩, by decide⟩
abbrev mX8_init : aY := (yX8_init, cX8_init, 2, none)
set_option maxRecDepth 20000 in
theorem kX8_init : aMd mX8_init 0 := ⟨aTB_at 541 rfl rfl, aTB_at 66 (by decide +kernel) rfl, plainFor_of_name (by decide), ⟨by decide, by decide, by decide +kernel⟩, by decide⟩
abbrev mX8_term : aY := (yX8_term, cX8_term, 6, some (.int))
set_option maxRecDepth 20000 in
theorem kX8_term : aMd mX8_term 5 := ⟨aTB_at 682 rfl rfl, aTB_at 66 (by decide +kernel) rfl, plainFor_of_name (by decide), ⟨by decide, by decide, by decide +kernel⟩, by decide⟩
abbrev mX8_in : aY := (yX8_in, cX8_in, 3, some (.boolean))
set_option maxRecDepth 20000 in
theorem kX8_in : aMd mX8_in 3 := ⟨aTB_at 685 rfl rfl, aTB_at 66 (by decide +kernel) rfl, plainFor_of_name (by decide), ⟨by decide, by decide, by decide +kernel⟩, by decide⟩
abbrev mX8_parts : aY := (yX8_parts, cX8_parts, 1, some (.int))
set_option maxRecDepth 20000 in
theorem kX8_parts : aMd mX8_parts 1 := ⟨aTB_at 688 rfl rfl, aTB_at 66 (by decide +kernel) rfl, plainFor_of_name (by decide), ⟨by decide, by decide, by decide +kernel⟩, by decide⟩
abbrev mX8_isTerm : aY := (yX8_isTerm, cX8_isTerm, 2, some (.boolean))
set_option maxRecDepth 20000 in
theorem kX8_isTerm : aMd mX8_isTerm 1 := ⟨aTB_at 692 rfl rfl, aTB_at 66 (by decide +kernel) rfl, plainFor_of_name (by decide), ⟨by decide, by decide, by decide +kernel⟩, by decide⟩
abbrev mX8_property : aY := (yX8_property, cX8_property, 8, some (.int))
set_option maxRecDepth 20000 in
theorem kX8_property : aMd mX8_property 7 := ⟨aTB_at 696 rfl rfl, aTB_at 66 (by decide +kernel) rfl, plainFor_of_name (by decide), ⟨by decide, by decide, by decide +kernel⟩, by decide⟩
abbrev mX8_drawn : aY := (yX8_drawn, cX8_drawn, 6, some (.int))
set_option maxRecDepth 20000 in
theorem kX8_drawn : aMd mX8_drawn 5 := ⟨aTB_at 700 rfl rfl, aTB_at 66 (by decide +kernel) rfl, plainFor_of_name (by decide), ⟨by decide, by decide, by decide +kernel⟩, by decide⟩
abbrev mX8_draw : aY := (yX8_draw, cX8_draw, 8, none)
set_option maxRecDepth 20000 in
theorem kX8_draw : aMd mX8_draw 4 := ⟨aTB_at 705 rfl rfl, aTB_at 66 (by decide +kernel) rfl, plainFor_of_name (by decide), ⟨by decide, by decide, by decide +kernel⟩, by decide⟩
abbrev mX8_hash : aY := (yX8_hash, cX8_hash, 3, some (.int))
set_option maxRecDepth 20000 in
theorem kX8_hash : aMd mX8_hash 2 := ⟨aTB_at 708 rfl rfl, aTB_at 66 (by decide +kernel) rfl, plainFor_of_name (by decide), ⟨by decide, by decide, by decide +kernel⟩, by decide⟩
abbrev mX8_modulo : aY := (yX8_modulo, cX8_modulo, 3, some (.int))
set_option maxRecDepth 20000 in
theorem kX8_modulo : aMd mX8_modulo 2 := ⟨aTB_at 714 rfl rfl, aTB_at 66 (by decide +kernel) rfl, plainFor_of_name (by decide), ⟨by decide, by decide, by decide +kernel⟩, by decide⟩
abbrev mX8_run : aY := (yX8_run, cX8_run, 8, some (.int))
set_option maxRecDepth 20000 in
theorem kX8_run : aMd mX8_run 3 := ⟨aTB_at 718 rfl rfl, aTB_at 66 (by decide +kernel) rfl, plainFor_of_name (by decide), ⟨by decide, by decide, by decide +kernel⟩, by decide⟩
abbrev mX8_isProperty : aY := (yX8_isProperty, cX8_isProperty, 2, some (.boolean))
set_option maxRecDepth 20000 in
theorem kX8_isProperty : aMd mX8_isProperty 1 := ⟨aTB_at 722 rfl rfl, aTB_at 66 (by decide +kernel) rfl, plainFor_of_name (by decide), ⟨by decide, by decide, by decide +kernel⟩, by decide⟩
abbrev mX8_anew : aY := (yX8_anew, cX8_anew, 2, none)
set_option maxRecDepth 20000 in
theorem kX8_anew : aMd mX8_anew 0 := ⟨aTB_at 726 rfl rfl, aTB_at 66 (by decide +kernel) rfl, plainFor_of_name (by decide), ⟨by decide, by decide, by decide +kernel⟩, by decide⟩
abbrev mX8_isFailed : aY := (yX8_isFailed, cX8_isFailed, 3, some (.boolean))
set_option maxRecDepth 20000 in
theorem kX8_isFailed : aMd mX8_isFailed 1 := ⟨aTB_at 730 rfl rfl, aTB_at 66 (by decide +kernel) rfl, plainFor_of_name (by decide), ⟨by decide, by decide, by decide +kernel⟩, by decide⟩
abbrev mX8_outcome : aY := (yX8_outcome, cX8_outcome, 5, some (.int))
set_option maxRecDepth 20000 in
theorem kX8_outcome : aMd mX8_outcome 2 := ⟨aTB_at 734 rfl rfl, aTB_at 66 (by decide +kernel) rfl, plainFor_of_name (by decide), ⟨by decide, by decide, by decide +kernel⟩, by decide⟩
abbrev mX8_work : aY := (yX8_work, cX8_work, 6, some (.boolean))
set_option maxRecDepth 20000 in
theorem kX8_work : aMd mX8_work 1 := ⟨aTB_at 738 rfl rfl, aTB_at 66 (by decide +kernel) rfl, plainFor_of_name (by decide), ⟨by decide, by decide, by decide +kernel⟩, by decide⟩
abbrev mX8_begin : aY := (yX8_begin, cX8_begin, 2, none)
set_option maxRecDepth 20000 in
theorem kX8_begin : aMd mX8_begin 1 := ⟨aTB_at 742 rfl rfl, aTB_at 66 (by decide +kernel) rfl, plainFor_of_name (by decide), ⟨by decide, by decide, by decide +kernel⟩, by decide⟩
abbrev mX8_nextPart : aY := (yX8_nextPart, cX8_nextPart, 5, some (.int))
set_option maxRecDepth 20000 in
theorem kX8_nextPart : aMd mX8_nextPart 2 := ⟨aTB_at 746 rfl rfl, aTB_at 66 (by decide +kernel) rfl, plainFor_of_name (by decide), ⟨by decide, by decide, by decide +kernel⟩, by decide⟩
abbrev mX8_nextOfChoice : aY := (yX8_nextOfChoice, cX8_nextOfChoice, 5, some (.int))
set_option maxRecDepth 20000 in
theorem kX8_nextOfChoice : aMd mX8_nextOfChoice 3 := ⟨aTB_at 750 rfl rfl, aTB_at 66 (by decide +kernel) rfl, plainFor_of_name (by decide), ⟨by decide, by decide, by decide +kernel⟩, by decide⟩
abbrev mX8_wrong : aY := (yX8_wrong, cX8_wrong, 3, some (.int))
set_option maxRecDepth 20000 in
theorem kX8_wrong : aMd mX8_wrong 2 := ⟨aTB_at 754 rfl rfl, aTB_at 66 (by decide +kernel) rfl, plainFor_of_name (by decide), ⟨by decide, by decide, by decide +kernel⟩, by decide⟩
abbrev mX8_end : aY := (yX8_end, cX8_end, 5, none)
set_option maxRecDepth 20000 in
theorem kX8_end : aMd mX8_end 2 := ⟨aTB_at 758 rfl rfl, aTB_at 66 (by decide +kernel) rfl, plainFor_of_name (by decide), ⟨by decide, by decide, by decide +kernel⟩, by decide⟩
abbrev mX8_input : aY := (yX8_input, cX8_input, 2, none)
set_option maxRecDepth 20000 in
theorem kX8_input : aMd mX8_input 1 := ⟨aTB_at 762 rfl rfl, aTB_at 66 (by decide +kernel) rfl, plainFor_of_name (by decide), ⟨by decide, by decide, by decide +kernel⟩, by decide⟩
abbrev mX8_whole : aY := (yX8_whole, cX8_whole, 2, none)
set_option maxRecDepth 20000 in
theorem kX8_whole : aMd mX8_whole 1 := ⟨aTB_at 766 rfl rfl, aTB_at 66 (by decide +kernel) rfl, plainFor_of_name (by decide), ⟨by decide, by decide, by decide +kernel⟩, by decide⟩
abbrev mX8_numbers : aY := (yX8_numbers, cX8_numbers, 5, none)
set_option maxRecDepth 20000 in
theorem kX8_numbers : aMd mX8_numbers 2 := ⟨aTB_at 770 rfl rfl, aTB_at 66 (by decide +kernel) rfl, plainFor_of_name (by decide), ⟨by decide, by decide, by decide +kernel⟩, by decide⟩
abbrev mX8_like : aY := (yX8_like, cX8_like, 4, none)
set_option maxRecDepth 20000 in
theorem kX8_like : aMd mX8_like 1 := ⟨aTB_at 774 rfl rfl, aTB_at 66 (by decide +kernel) rfl, plainFor_of_name (by decide), ⟨by decide, by decide, by decide +kernel⟩, by decide⟩
abbrev mX8_both : aY := (yX8_both, cX8_both, 3, none)
set_option maxRecDepth 20000 in
theorem kX8_both : aMd mX8_both 2 := ⟨aTB_at 778 rfl rfl, aTB_at 66 (by decide +kernel) rfl, plainFor_of_name (by decide), ⟨by decide, by decide, by decide +kernel⟩, by decide⟩
abbrev mX8_rows : aY := (yX8_rows, cX8_rows, 8, none)
set_option maxRecDepth 20000 in
theorem kX8_rows : aMd mX8_rows 2 := ⟨aTB_at 782 rfl rfl, aTB_at 66 (by decide +kernel) rfl, plainFor_of_name (by decide), ⟨by decide, by decide, by decide +kernel⟩, by decide⟩
abbrev mX8_refused : aY := (yX8_refused, cX8_refused, 4, some (.int))
set_option maxRecDepth 20000 in
theorem kX8_refused : aMd mX8_refused 4 := ⟨aTB_at 785 rfl rfl, aTB_at 66 (by decide +kernel) rfl, plainFor_of_name (by decide), ⟨by decide, by decide, by decide +kernel⟩, by decide⟩
abbrev mX8_rowOf : aY := (yX8_rowOf, cX8_rowOf, 13, none)
set_option maxRecDepth 20000 in
theorem kX8_rowOf : aMd mX8_rowOf 4 := ⟨aTB_at 789 rfl rfl, aTB_at 66 (by decide +kernel) rfl, plainFor_of_name (by decide), ⟨by decide, by decide, by decide +kernel⟩, by decide⟩
abbrev mX8_row : aY := (yX8_row, cX8_row, 2, some (.int))
set_option maxRecDepth 20000 in
theorem kX8_row : aMd mX8_row 1 := ⟨aTB_at 793 rfl rfl, aTB_at 66 (by decide +kernel) rfl, plainFor_of_name (by decide), ⟨by decide, by decide, by decide +kernel⟩, by decide⟩
abbrev mX8_ended : aY := (yX8_ended, cX8_ended, 3, some (.int))
set_option maxRecDepth 20000 in
theorem kX8_ended : aMd mX8_ended 1 := ⟨aTB_at 797 rfl rfl, aTB_at 66 (by decide +kernel) rfl, plainFor_of_name (by decide), ⟨by decide, by decide, by decide +kernel⟩, by decide⟩
abbrev mX8_keep : aY := (yX8_keep, cX8_keep, 3, none)
set_option maxRecDepth 20000 in
theorem kX8_keep : aMd mX8_keep 1 := ⟨aTB_at 801 rfl rfl, aTB_at 66 (by decide +kernel) rfl, plainFor_of_name (by decide), ⟨by decide, by decide, by decide +kernel⟩, by decide⟩
abbrev mX8_smaller : aY := (yX8_smaller, cX8_smaller, 5, none)
set_option maxRecDepth 20000 in
theorem kX8_smaller : aMd mX8_smaller 1 := ⟨aTB_at 805 rfl rfl, aTB_at 66 (by decide +kernel) rfl, plainFor_of_name (by decide), ⟨by decide, by decide, by decide +kernel⟩, by decide⟩
abbrev mX8_candidate : aY := (yX8_candidate, cX8_candidate, 6, some (.boolean))
set_option maxRecDepth 20000 in
theorem kX8_candidate : aMd mX8_candidate 1 := ⟨aTB_at 809 rfl rfl, aTB_at 66 (by decide +kernel) rfl, plainFor_of_name (by decide), ⟨by decide, by decide, by decide +kernel⟩, by decide⟩
abbrev mX8_takeCounter : aY := (yX8_takeCounter, cX8_takeCounter, 2, none)
set_option maxRecDepth 20000 in
theorem kX8_takeCounter : aMd mX8_takeCounter 0 := ⟨aTB_at 813 rfl rfl, aTB_at 66 (by decide +kernel) rfl, plainFor_of_name (by decide), ⟨by decide, by decide, by decide +kernel⟩, by decide⟩
abbrev mX8_less : aY := (yX8_less, cX8_less, 2, some (.int))
set_option maxRecDepth 20000 in
theorem kX8_less : aMd mX8_less 2 := ⟨aTB_at 816 rfl rfl, aTB_at 66 (by decide +kernel) rfl, plainFor_of_name (by decide), ⟨by decide, by decide, by decide +kernel⟩, by decide⟩
abbrev mX8_without : aY := (yX8_without, cX8_without, 4, none)
set_option maxRecDepth 20000 in
theorem kX8_without : aMd mX8_without 2 := ⟨aTB_at 820 rfl rfl, aTB_at 66 (by decide +kernel) rfl, plainFor_of_name (by decide), ⟨by decide, by decide, by decide +kernel⟩, by decide⟩
abbrev mX8_many : aY := (yX8_many, cX8_many, 4, some (.int))
set_option maxRecDepth 20000 in
theorem kX8_many : aMd mX8_many 2 := ⟨aTB_at 824 rfl rfl, aTB_at 66 (by decide +kernel) rfl, plainFor_of_name (by decide), ⟨by decide, by decide, by decide +kernel⟩, by decide⟩
abbrev mX8_all : aY := (yX8_all, cX8_all, 3, some (.int))
set_option maxRecDepth 20000 in
theorem kX8_all : aMd mX8_all 2 := ⟨aTB_at 828 rfl rfl, aTB_at 66 (by decide +kernel) rfl, plainFor_of_name (by decide), ⟨by decide, by decide, by decide +kernel⟩, by decide⟩
abbrev mX8_sort : aY := (yX8_sort, cX8_sort, 4, some (.int))
set_option maxRecDepth 20000 in
theorem kX8_sort : aMd mX8_sort 2 := ⟨aTB_at 831 rfl rfl, aTB_at 66 (by decide +kernel) rfl, plainFor_of_name (by decide), ⟨by decide, by decide, by decide +kernel⟩, by decide⟩
abbrev mX8_power : aY := (yX8_power, cX8_power, 4, some (.int))
set_option maxRecDepth 20000 in
theorem kX8_power : aMd mX8_power 2 := ⟨aTB_at 834 rfl rfl, aTB_at 66 (by decide +kernel) rfl, plainFor_of_name (by decide), ⟨by decide, by decide, by decide +kernel⟩, by decide⟩
abbrev mX8_small : aY := (yX8_small, cX8_small, 10, some (.int))
set_option maxRecDepth 20000 in
theorem kX8_small : aMd mX8_small 2 := ⟨aTB_at 838 rfl rfl, aTB_at 66 (by decide +kernel) rfl, plainFor_of_name (by decide), ⟨by decide, by decide, by decide +kernel⟩, by decide⟩
abbrev mX8_takeSmall : aY := (yX8_takeSmall, cX8_takeSmall, 9, none)
set_option maxRecDepth 20000 in
theorem kX8_takeSmall : aMd mX8_takeSmall 4 := ⟨aTB_at 842 rfl rfl, aTB_at 66 (by decide +kernel) rfl, plainFor_of_name (by decide), ⟨by decide, by decide, by decide +kernel⟩, by decide⟩
abbrev mX8_ranked : aY := (yX8_ranked, cX8_ranked, 1, some (.int))
set_option maxRecDepth 20000 in
theorem kX8_ranked : aMd mX8_ranked 1 := ⟨aTB_at 845 rfl rfl, aTB_at 66 (by decide +kernel) rfl, plainFor_of_name (by decide), ⟨by decide, by decide, by decide +kernel⟩, by decide⟩
abbrev mX8_again : aY := (yX8_again, cX8_again, 1, some (.int))
set_option maxRecDepth 20000 in
theorem kX8_again : aMd mX8_again 0 := ⟨aTB_at 849 rfl rfl, aTB_at 66 (by decide +kernel) rfl, plainFor_of_name (by decide), ⟨by decide, by decide, by decide +kernel⟩, by decide⟩
abbrev mX8_counter : aY := (yX8_counter, cX8_counter, 3, some (.int))
set_option maxRecDepth 20000 in
theorem kX8_counter : aMd mX8_counter 2 := ⟨aTB_at 853 rfl rfl, aTB_at 66 (by decide +kernel) rfl, plainFor_of_name (by decide), ⟨by decide, by decide, by decide +kernel⟩, by decide⟩
abbrev mX8_told : aY := (yX8_told, cX8_told, 2, some (.int))
set_option maxRecDepth 20000 in
theorem kX8_told : aMd mX8_told 1 := ⟨aTB_at 857 rfl rfl, aTB_at 66 (by decide +kernel) rfl, plainFor_of_name (by decide), ⟨by decide, by decide, by decide +kernel⟩, by decide⟩
abbrev mX8_label : aY := (yX8_label, cX8_label, 2, some (.int))
set_option maxRecDepth 20000 in
theorem kX8_label : aMd mX8_label 1 := ⟨aTB_at 861 rfl rfl, aTB_at 66 (by decide +kernel) rfl, plainFor_of_name (by decide), ⟨by decide, by decide, by decide +kernel⟩, by decide⟩
theorem z_PropertyTestsLaw : Cond.initialized "PropertyTestsLaw" ∈ aTB := aTB_at 59 (by decide +kernel) rfl
theorem z_PropertyTests : Cond.initialized "PropertyTests" ∈ aTB := aTB_at 60 (by decide +kernel) rfl
theorem z_PropertyTests_Worker : Cond.initialized "PropertyTests$Worker" ∈ aTB := aTB_at 61 (by decide +kernel) rfl
theorem z_PropertyTests_Terms : Cond.initialized "PropertyTests$Terms" ∈ aTB := aTB_at 62 (by decide +kernel) rfl
theorem z_PropertyTests_Value : Cond.initialized "PropertyTests$Value" ∈ aTB := aTB_at 63 (by decide +kernel) rfl
theorem z_PropertyTests_Property : Cond.initialized "PropertyTests$Property" ∈ aTB := aTB_at 64 (by decide +kernel) rfl
theorem z_PropertyTests_Tally : Cond.initialized "PropertyTests$Tally" ∈ aTB := aTB_at 65 (by decide +kernel) rfl
theorem z_PropertyTestsModel : Cond.initialized "PropertyTestsModel" ∈ aTB := aTB_at 66 (by decide +kernel) rfl
theorem z_PropertyTests_Draw : Cond.initialized "PropertyTests$Draw" ∈ aTB := aTB_at 67 (by decide +kernel) rfl
theorem z_java_lang_Math : Cond.initialized "java/lang/Math" ∈ aTB := aTB_at 68 (by decide +kernel) rfl
theorem z_java_lang_System : Cond.initialized "java/lang/System" ∈ aTB := aTB_at 69 (by decide +kernel) rfl
theorem z_PropertyTests_Small : Cond.initialized "PropertyTests$Small" ∈ aTB := aTB_at 70 (by decide +kernel) rfl
theorem gL_9 : aLk RL 9 yX7_init := Or.inl (aTB_at 73 (by decide +kernel) rfl)
theorem iyX7_init : Cond.instanceMethod yX7_init ∈ aTB := aTB_at 74 (by decide +kernel) rfl
theorem gX7_1 : Cond.methodLink RX7 1 objectInit ∈ aTB := aTB_at 76 (by decide +kernel) rfl
theorem iobjectInit : Cond.instanceMethod objectInit ∈ aTB := aTB_at 77 (by decide +kernel) rfl
theorem gX7_9 : aLk RX7 9 yX6_init := Or.inr ⟨"PropertyTests", aNT_at 22 (by decide +kernel) rfl⟩
theorem iyX6_init : Cond.instanceMethod yX6_init ∈ aTB := aTB_at 82 (by decide +kernel) rfl
theorem gX6_3 : Cond.methodLink RX6 3 objectInit ∈ aTB := aTB_at 84 (by decide +kernel) rfl
theorem gX6_11 : aLk RX6 11 yX4_init := Or.inr ⟨"PropertyTests", aNT_at 28 (by decide +kernel) rfl⟩
theorem iyX4_init : Cond.instanceMethod yX4_init ∈ aTB := aTB_at 88 (by decide +kernel) rfl
theorem gX4_3 : Cond.methodLink RX4 3 objectInit ∈ aTB := aTB_at 90 (by decide +kernel) rfl
theorem fX4_9 : aFd RX4 9 2 0 := ⟨RX4, TX4, 6, rfl, by decide, uX4, Or.inl (aTB_at 91 (by decide +kernel) rfl)⟩
theorem pX4_9 : aFp RX4 9 2 0 true (.array .int) := ⟨RX4, TX4, 6, tyX4, rfl, by decide, uX4, tyX4_ok, nmX4, rfl, by decide +kernel, Or.inl ⟨aTB_at 91 (by decide +kernel) rfl, fun _ => rfl⟩⟩
theorem fX6_66 : aFd RX6 66 2 0 := ⟨RX4, TX4, 6, rfl, by decide, uX4, Or.inr ⟨"PropertyTests", aNT_at 33 (by decide +kernel) rfl⟩⟩
theorem fX4_15 : aFd RX4 15 2 1 := ⟨RX4, TX4, 6, rfl, by decide, uX4, Or.inl (aTB_at 93 (by decide +kernel) rfl)⟩
theorem pX4_15 : aFp RX4 15 2 1 true (.array .int) := ⟨RX4, TX4, 6, tyX4, rfl, by decide, uX4, tyX4_ok, nmX4, rfl, by decide +kernel, Or.inl ⟨aTB_at 93 (by decide +kernel) rfl, fun _ => rfl⟩⟩
theorem fX6_73 : aFd RX6 73 2 1 := ⟨RX4, TX4, 6, rfl, by decide, uX4, Or.inr ⟨"PropertyTests", aNT_at 35 (by decide +kernel) rfl⟩⟩
theorem fX4_18 : aFd RX4 18 2 2 := ⟨RX4, TX4, 6, rfl, by decide, uX4, Or.inl (aTB_at 95 (by decide +kernel) rfl)⟩
theorem pX4_18 : aFp RX4 18 2 2 true (.array .int) := ⟨RX4, TX4, 6, tyX4, rfl, by decide, uX4, tyX4_ok, nmX4, rfl, by decide +kernel, Or.inl ⟨aTB_at 95 (by decide +kernel) rfl, fun _ => rfl⟩⟩
theorem fX6_80 : aFd RX6 80 2 2 := ⟨RX4, TX4, 6, rfl, by decide, uX4, Or.inr ⟨"PropertyTests", aNT_at 37 (by decide +kernel) rfl⟩⟩
theorem fX4_21 : aFd RX4 21 2 3 := ⟨RX4, TX4, 6, rfl, by decide, uX4, Or.inl (aTB_at 97 (by decide +kernel) rfl)⟩
theorem pX4_21 : aFp RX4 21 2 3 true (.array .int) := ⟨RX4, TX4, 6, tyX4, rfl, by decide, uX4, tyX4_ok, nmX4, rfl, by decide +kernel, Or.inl ⟨aTB_at 97 (by decide +kernel) rfl, fun _ => rfl⟩⟩
theorem fX6_83 : aFd RX6 83 2 3 := ⟨RX4, TX4, 6, rfl, by decide, uX4, Or.inr ⟨"PropertyTests", aNT_at 39 (by decide +kernel) rfl⟩⟩
theorem fX4_24 : aFd RX4 24 2 4 := ⟨RX4, TX4, 6, rfl, by decide, uX4, Or.inl (aTB_at 99 (by decide +kernel) rfl)⟩
theorem pX4_24 : aFp RX4 24 2 4 true (.array .int) := ⟨RX4, TX4, 6, tyX4, rfl, by decide, uX4, tyX4_ok, nmX4, rfl, by decide +kernel, Or.inl ⟨aTB_at 99 (by decide +kernel) rfl, fun _ => rfl⟩⟩
theorem fX6_110 : aFd RX6 110 2 4 := ⟨RX4, TX4, 6, rfl, by decide, uX4, Or.inr ⟨"PropertyTests", aNT_at 41 (by decide +kernel) rfl⟩⟩
theorem fX4_27 : aFd RX4 27 2 5 := ⟨RX4, TX4, 6, rfl, by decide, uX4, Or.inl (aTB_at 101 (by decide +kernel) rfl)⟩
theorem pX4_27 : aFp RX4 27 2 5 false (.int) := ⟨RX4, TX4, 6, tyX4, rfl, by decide, uX4, tyX4_ok, nmX4, rfl, by decide +kernel, Or.inl ⟨aTB_at 101 (by decide +kernel) rfl, fun h => by cases h⟩⟩
theorem fX7_73 : aFd RX7 73 2 5 := ⟨RX4, TX4, 6, rfl, by decide, uX4, Or.inr ⟨"PropertyTests", aNT_at 43 (by decide +kernel) rfl⟩⟩
theorem pX7_73 : aFp RX7 73 2 5 false (.int) := ⟨RX4, TX4, 6, tyX4, rfl, by decide, uX4, tyX4_ok, nmX4, rfl, by decide +kernel, Or.inr ⟨rfl, "PropertyTests", aNT_at 43 (by decide +kernel) rfl⟩⟩
theorem arrI : Cond.arrayClass .int ∈ aTB := aTB_at 116 (by decide +kernel) rfl
theorem gX6_18 : aLk RX6 18 yX7_newValues := Or.inr ⟨"PropertyTests", aNT_at 58 (by decide +kernel) rfl⟩
theorem syX7_newValues : Cond.static yX7_newValues ∈ aTB := aTB_at 118 (by decide +kernel) rfl
theorem gX7_37 : aLk RX7 37 yX5_init := Or.inr ⟨"PropertyTests", aNT_at 64 (by decide +kernel) rfl⟩
theorem iyX5_init : Cond.instanceMethod yX5_init ∈ aTB := aTB_at 124 (by decide +kernel) rfl
theorem gX5_3 : Cond.methodLink RX5 3 objectInit ∈ aTB := aTB_at 126 (by decide +kernel) rfl
theorem fX5_9 : aFd RX5 9 3 0 := ⟨RX5, TX5, 4, rfl, by decide, uX5, Or.inl (aTB_at 127 (by decide +kernel) rfl)⟩
theorem pX5_9 : aFp RX5 9 3 0 false (.int) := ⟨RX5, TX5, 4, tyX5, rfl, by decide, uX5, tyX5_ok, nmX5, rfl, by decide +kernel, Or.inl ⟨aTB_at 127 (by decide +kernel) rfl, fun h => by cases h⟩⟩
theorem fX6_104 : aFd RX6 104 3 0 := ⟨RX5, TX5, 4, rfl, by decide, uX5, Or.inr ⟨"PropertyTests", aNT_at 69 (by decide +kernel) rfl⟩⟩
theorem pX6_104 : aFp RX6 104 3 0 false (.int) := ⟨RX5, TX5, 4, tyX5, rfl, by decide, uX5, tyX5_ok, nmX5, rfl, by decide +kernel, Or.inr ⟨rfl, "PropertyTests", aNT_at 69 (by decide +kernel) rfl⟩⟩
theorem fX5_15 : aFd RX5 15 3 1 := ⟨RX5, TX5, 4, rfl, by decide, uX5, Or.inl (aTB_at 129 (by decide +kernel) rfl)⟩
theorem pX5_15 : aFp RX5 15 3 1 false (.int) := ⟨RX5, TX5, 4, tyX5, rfl, by decide, uX5, tyX5_ok, nmX5, rfl, by decide +kernel, Or.inl ⟨aTB_at 129 (by decide +kernel) rfl, fun h => by cases h⟩⟩
theorem fX6_48 : aFd RX6 48 3 1 := ⟨RX5, TX5, 4, rfl, by decide, uX5, Or.inr ⟨"PropertyTests", aNT_at 71 (by decide +kernel) rfl⟩⟩
theorem pX6_48 : aFp RX6 48 3 1 false (.int) := ⟨RX5, TX5, 4, tyX5, rfl, by decide, uX5, tyX5_ok, nmX5, rfl, by decide +kernel, Or.inr ⟨rfl, "PropertyTests", aNT_at 71 (by decide +kernel) rfl⟩⟩
theorem fX5_18 : aFd RX5 18 3 2 := ⟨RX5, TX5, 4, rfl, by decide, uX5, Or.inl (aTB_at 131 (by decide +kernel) rfl)⟩
theorem pX5_18 : aFp RX5 18 3 2 false (.int) := ⟨RX5, TX5, 4, tyX5, rfl, by decide, uX5, tyX5_ok, nmX5, rfl, by decide +kernel, Or.inl ⟨aTB_at 131 (by decide +kernel) rfl, fun h => by cases h⟩⟩
theorem fX0_35 : aFd RX0 35 3 2 := ⟨RX5, TX5, 4, rfl, by decide, uX5, Or.inr ⟨"PropertyTests", aNT_at 73 (by decide +kernel) rfl⟩⟩
theorem pX0_35 : aFp RX0 35 3 2 false (.int) := ⟨RX5, TX5, 4, tyX5, rfl, by decide, uX5, tyX5_ok, nmX5, rfl, by decide +kernel, Or.inr ⟨rfl, "PropertyTests", aNT_at 73 (by decide +kernel) rfl⟩⟩
theorem fX6_132 : aFd RX6 132 3 2 := ⟨RX5, TX5, 4, rfl, by decide, uX5, Or.inr ⟨"PropertyTests", aNT_at 74 (by decide +kernel) rfl⟩⟩
theorem pX6_132 : aFp RX6 132 3 2 false (.int) := ⟨RX5, TX5, 4, tyX5, rfl, by decide, uX5, tyX5_ok, nmX5, rfl, by decide +kernel, Or.inr ⟨rfl, "PropertyTests", aNT_at 74 (by decide +kernel) rfl⟩⟩
theorem fX5_21 : aFd RX5 21 3 3 := ⟨RX5, TX5, 4, rfl, by decide, uX5, Or.inl (aTB_at 134 (by decide +kernel) rfl)⟩
theorem pX5_21 : aFp RX5 21 3 3 true (.array .int) := ⟨RX5, TX5, 4, tyX5, rfl, by decide, uX5, tyX5_ok, nmX5, rfl, by decide +kernel, Or.inl ⟨aTB_at 134 (by decide +kernel) rfl, fun _ => rfl⟩⟩
theorem fX0_39 : aFd RX0 39 3 3 := ⟨RX5, TX5, 4, rfl, by decide, uX5, Or.inr ⟨"PropertyTests", aNT_at 76 (by decide +kernel) rfl⟩⟩
theorem fX2_42 : aFd RX2 42 3 3 := ⟨RX5, TX5, 4, rfl, by decide, uX5, Or.inr ⟨"PropertyTests", aNT_at 77 (by decide +kernel) rfl⟩⟩
theorem fX6_164 : aFd RX6 164 3 3 := ⟨RX5, TX5, 4, rfl, by decide, uX5, Or.inr ⟨"PropertyTests", aNT_at 78 (by decide +kernel) rfl⟩⟩
theorem fX6_12 : aFd RX6 12 4 0 := ⟨RX6, TX6, 5, rfl, by decide, uX6, Or.inl (aTB_at 147 (by decide +kernel) rfl)⟩
theorem pX6_12 : aFp RX6 12 4 0 true (.object "PropertyTests$Terms") := ⟨RX6, TX6, 5, tyX6, rfl, by decide, uX6, tyX6_ok, nmX6, rfl, by decide +kernel, Or.inl ⟨aTB_at 147 (by decide +kernel) rfl, fun _ => rfl⟩⟩
theorem fX7_16 : aFd RX7 16 4 0 := ⟨RX6, TX6, 5, rfl, by decide, uX6, Or.inr ⟨"PropertyTests", aNT_at 89 (by decide +kernel) rfl⟩⟩
theorem fX6_22 : aFd RX6 22 4 1 := ⟨RX6, TX6, 5, rfl, by decide, uX6, Or.inl (aTB_at 149 (by decide +kernel) rfl)⟩
theorem pX6_22 : aFp RX6 22 4 1 true (.array (.object "PropertyTests$Value")) := ⟨RX6, TX6, 5, tyX6, rfl, by decide, uX6, tyX6_ok, nmX6, rfl, by decide +kernel, Or.inl ⟨aTB_at 149 (by decide +kernel) rfl, fun _ => rfl⟩⟩
theorem fX7_21 : aFd RX7 21 4 1 := ⟨RX6, TX6, 5, rfl, by decide, uX6, Or.inr ⟨"PropertyTests", aNT_at 91 (by decide +kernel) rfl⟩⟩
theorem fX6_26 : aFd RX6 26 4 2 := ⟨RX6, TX6, 5, rfl, by decide, uX6, Or.inl (aTB_at 151 (by decide +kernel) rfl)⟩
theorem pX6_26 : aFp RX6 26 4 2 true (.array (.object "PropertyTests$Value")) := ⟨RX6, TX6, 5, tyX6, rfl, by decide, uX6, tyX6_ok, nmX6, rfl, by decide +kernel, Or.inl ⟨aTB_at 151 (by decide +kernel) rfl, fun _ => rfl⟩⟩
theorem fX6_29 : aFd RX6 29 4 3 := ⟨RX6, TX6, 5, rfl, by decide, uX6, Or.inl (aTB_at 152 (by decide +kernel) rfl)⟩
theorem pX6_29 : aFp RX6 29 4 3 false (.int) := ⟨RX6, TX6, 5, tyX6, rfl, by decide, uX6, tyX6_ok, nmX6, rfl, by decide +kernel, Or.inl ⟨aTB_at 152 (by decide +kernel) rfl, fun h => by cases h⟩⟩
theorem fX6_33 : aFd RX6 33 4 4 := ⟨RX6, TX6, 5, rfl, by decide, uX6, Or.inl (aTB_at 153 (by decide +kernel) rfl)⟩
theorem pX6_33 : aFp RX6 33 4 4 false (.int) := ⟨RX6, TX6, 5, tyX6, rfl, by decide, uX6, tyX6_ok, nmX6, rfl, by decide +kernel, Or.inl ⟨aTB_at 153 (by decide +kernel) rfl, fun h => by cases h⟩⟩
theorem fX7_101 : aFd RX7 101 4 4 := ⟨RX6, TX6, 5, rfl, by decide, uX6, Or.inr ⟨"PropertyTests", aNT_at 95 (by decide +kernel) rfl⟩⟩
theorem pX7_101 : aFp RX7 101 4 4 false (.int) := ⟨RX6, TX6, 5, tyX6, rfl, by decide, uX6, tyX6_ok, nmX6, rfl, by decide +kernel, Or.inr ⟨rfl, "PropertyTests", aNT_at 95 (by decide +kernel) rfl⟩⟩
theorem gX7_28 : aLk RX7 28 yX7_newValues := Or.inl (aTB_at 166 (by decide +kernel) rfl)
theorem gX7_48 : aLk RX7 48 yX1_init := Or.inr ⟨"PropertyTests", aNT_at 111 (by decide +kernel) rfl⟩
theorem iyX1_init : Cond.instanceMethod yX1_init ∈ aTB := aTB_at 171 (by decide +kernel) rfl
theorem gX1_3 : Cond.methodLink RX1 3 objectInit ∈ aTB := aTB_at 173 (by decide +kernel) rfl
theorem fX1_9 : aFd RX1 9 0 0 := ⟨RX1, TX1, 5, rfl, by decide, uX1, Or.inl (aTB_at 174 (by decide +kernel) rfl)⟩
theorem pX1_9 : aFp RX1 9 0 0 true (.array .int) := ⟨RX1, TX1, 5, tyX1, rfl, by decide, uX1, tyX1_ok, nmX1, rfl, by decide +kernel, Or.inl ⟨aTB_at 174 (by decide +kernel) rfl, fun _ => rfl⟩⟩
theorem fX7_107 : aFd RX7 107 0 0 := ⟨RX1, TX1, 5, rfl, by decide, uX1, Or.inr ⟨"PropertyTests", aNT_at 116 (by decide +kernel) rfl⟩⟩
theorem fX1_15 : aFd RX1 15 0 1 := ⟨RX1, TX1, 5, rfl, by decide, uX1, Or.inl (aTB_at 176 (by decide +kernel) rfl)⟩
theorem pX1_15 : aFp RX1 15 0 1 false (.int) := ⟨RX1, TX1, 5, tyX1, rfl, by decide, uX1, tyX1_ok, nmX1, rfl, by decide +kernel, Or.inl ⟨aTB_at 176 (by decide +kernel) rfl, fun h => by cases h⟩⟩
theorem fX6_36 : aFd RX6 36 0 1 := ⟨RX1, TX1, 5, rfl, by decide, uX1, Or.inr ⟨"PropertyTests", aNT_at 118 (by decide +kernel) rfl⟩⟩
theorem pX6_36 : aFp RX6 36 0 1 false (.int) := ⟨RX1, TX1, 5, tyX1, rfl, by decide, uX1, tyX1_ok, nmX1, rfl, by decide +kernel, Or.inr ⟨rfl, "PropertyTests", aNT_at 118 (by decide +kernel) rfl⟩⟩
theorem fX1_19 : aFd RX1 19 0 2 := ⟨RX1, TX1, 5, rfl, by decide, uX1, Or.inl (aTB_at 178 (by decide +kernel) rfl)⟩
theorem pX1_19 : aFp RX1 19 0 2 false (.int) := ⟨RX1, TX1, 5, tyX1, rfl, by decide, uX1, tyX1_ok, nmX1, rfl, by decide +kernel, Or.inl ⟨aTB_at 178 (by decide +kernel) rfl, fun h => by cases h⟩⟩
theorem fX6_53 : aFd RX6 53 0 2 := ⟨RX1, TX1, 5, rfl, by decide, uX1, Or.inr ⟨"PropertyTests", aNT_at 120 (by decide +kernel) rfl⟩⟩
theorem pX6_53 : aFp RX6 53 0 2 false (.int) := ⟨RX1, TX1, 5, tyX1, rfl, by decide, uX1, tyX1_ok, nmX1, rfl, by decide +kernel, Or.inr ⟨rfl, "PropertyTests", aNT_at 120 (by decide +kernel) rfl⟩⟩
theorem fX1_22 : aFd RX1 22 0 3 := ⟨RX1, TX1, 5, rfl, by decide, uX1, Or.inl (aTB_at 180 (by decide +kernel) rfl)⟩
theorem pX1_22 : aFp RX1 22 0 3 false (.int) := ⟨RX1, TX1, 5, tyX1, rfl, by decide, uX1, tyX1_ok, nmX1, rfl, by decide +kernel, Or.inl ⟨aTB_at 180 (by decide +kernel) rfl, fun h => by cases h⟩⟩
theorem fX6_59 : aFd RX6 59 0 3 := ⟨RX1, TX1, 5, rfl, by decide, uX1, Or.inr ⟨"PropertyTests", aNT_at 122 (by decide +kernel) rfl⟩⟩
theorem pX6_59 : aFp RX6 59 0 3 false (.int) := ⟨RX1, TX1, 5, tyX1, rfl, by decide, uX1, tyX1_ok, nmX1, rfl, by decide +kernel, Or.inr ⟨rfl, "PropertyTests", aNT_at 122 (by decide +kernel) rfl⟩⟩
theorem fX7_167 : aFd RX7 167 0 3 := ⟨RX1, TX1, 5, rfl, by decide, uX1, Or.inr ⟨"PropertyTests", aNT_at 123 (by decide +kernel) rfl⟩⟩
theorem pX7_167 : aFp RX7 167 0 3 false (.int) := ⟨RX1, TX1, 5, tyX1, rfl, by decide, uX1, tyX1_ok, nmX1, rfl, by decide +kernel, Or.inr ⟨rfl, "PropertyTests", aNT_at 123 (by decide +kernel) rfl⟩⟩
theorem fX1_25 : aFd RX1 25 0 4 := ⟨RX1, TX1, 5, rfl, by decide, uX1, Or.inl (aTB_at 183 (by decide +kernel) rfl)⟩
theorem pX1_25 : aFp RX1 25 0 4 false (.int) := ⟨RX1, TX1, 5, tyX1, rfl, by decide, uX1, tyX1_ok, nmX1, rfl, by decide +kernel, Or.inl ⟨aTB_at 183 (by decide +kernel) rfl, fun h => by cases h⟩⟩
theorem fX6_56 : aFd RX6 56 0 4 := ⟨RX1, TX1, 5, rfl, by decide, uX1, Or.inr ⟨"PropertyTests", aNT_at 125 (by decide +kernel) rfl⟩⟩
theorem pX6_56 : aFp RX6 56 0 4 false (.int) := ⟨RX1, TX1, 5, tyX1, rfl, by decide, uX1, tyX1_ok, nmX1, rfl, by decide +kernel, Or.inr ⟨rfl, "PropertyTests", aNT_at 125 (by decide +kernel) rfl⟩⟩
theorem gX7_51 : aLk RX7 51 yX3_init := Or.inr ⟨"PropertyTests", aNT_at 139 (by decide +kernel) rfl⟩
theorem iyX3_init : Cond.instanceMethod yX3_init ∈ aTB := aTB_at 199 (by decide +kernel) rfl
theorem gX3_3 : Cond.methodLink RX3 3 objectInit ∈ aTB := aTB_at 201 (by decide +kernel) rfl
theorem fX3_9 : aFd RX3 9 1 0 := ⟨RX3, TX3, 9, rfl, by decide, uX3, Or.inl (aTB_at 202 (by decide +kernel) rfl)⟩
theorem pX3_9 : aFp RX3 9 1 0 true (.array .int) := ⟨RX3, TX3, 9, tyX3, rfl, by decide, uX3, tyX3_ok, nmX3, rfl, by decide +kernel, Or.inl ⟨aTB_at 202 (by decide +kernel) rfl, fun _ => rfl⟩⟩
theorem fX7_154 : aFd RX7 154 1 0 := ⟨RX3, TX3, 9, rfl, by decide, uX3, Or.inr ⟨"PropertyTests", aNT_at 144 (by decide +kernel) rfl⟩⟩
theorem fX3_15 : aFd RX3 15 1 1 := ⟨RX3, TX3, 9, rfl, by decide, uX3, Or.inl (aTB_at 204 (by decide +kernel) rfl)⟩
theorem pX3_15 : aFp RX3 15 1 1 false (.int) := ⟨RX3, TX3, 9, tyX3, rfl, by decide, uX3, tyX3_ok, nmX3, rfl, by decide +kernel, Or.inl ⟨aTB_at 204 (by decide +kernel) rfl, fun h => by cases h⟩⟩
theorem fX3_19 : aFd RX3 19 1 2 := ⟨RX3, TX3, 9, rfl, by decide, uX3, Or.inl (aTB_at 205 (by decide +kernel) rfl)⟩
theorem pX3_19 : aFp RX3 19 1 2 false (.int) := ⟨RX3, TX3, 9, tyX3, rfl, by decide, uX3, tyX3_ok, nmX3, rfl, by decide +kernel, Or.inl ⟨aTB_at 205 (by decide +kernel) rfl, fun h => by cases h⟩⟩
theorem fX7_124 : aFd RX7 124 1 2 := ⟨RX3, TX3, 9, rfl, by decide, uX3, Or.inr ⟨"PropertyTests", aNT_at 147 (by decide +kernel) rfl⟩⟩
theorem pX7_124 : aFp RX7 124 1 2 false (.int) := ⟨RX3, TX3, 9, tyX3, rfl, by decide, uX3, tyX3_ok, nmX3, rfl, by decide +kernel, Or.inr ⟨rfl, "PropertyTests", aNT_at 147 (by decide +kernel) rfl⟩⟩
theorem fX3_22 : aFd RX3 22 1 3 := ⟨RX3, TX3, 9, rfl, by decide, uX3, Or.inl (aTB_at 207 (by decide +kernel) rfl)⟩
theorem pX3_22 : aFp RX3 22 1 3 false (.int) := ⟨RX3, TX3, 9, tyX3, rfl, by decide, uX3, tyX3_ok, nmX3, rfl, by decide +kernel, Or.inl ⟨aTB_at 207 (by decide +kernel) rfl, fun h => by cases h⟩⟩
theorem fX3_25 : aFd RX3 25 1 4 := ⟨RX3, TX3, 9, rfl, by decide, uX3, Or.inl (aTB_at 208 (by decide +kernel) rfl)⟩
theorem pX3_25 : aFp RX3 25 1 4 false (.int) := ⟨RX3, TX3, 9, tyX3, rfl, by decide, uX3, tyX3_ok, nmX3, rfl, by decide +kernel, Or.inl ⟨aTB_at 208 (by decide +kernel) rfl, fun h => by cases h⟩⟩
theorem fX7_179 : aFd RX7 179 1 4 := ⟨RX3, TX3, 9, rfl, by decide, uX3, Or.inr ⟨"PropertyTests", aNT_at 150 (by decide +kernel) rfl⟩⟩
theorem pX7_179 : aFp RX7 179 1 4 false (.int) := ⟨RX3, TX3, 9, tyX3, rfl, by decide, uX3, tyX3_ok, nmX3, rfl, by decide +kernel, Or.inr ⟨rfl, "PropertyTests", aNT_at 150 (by decide +kernel) rfl⟩⟩
theorem fX3_28 : aFd RX3 28 1 5 := ⟨RX3, TX3, 9, rfl, by decide, uX3, Or.inl (aTB_at 210 (by decide +kernel) rfl)⟩
theorem pX3_28 : aFp RX3 28 1 5 false (.int) := ⟨RX3, TX3, 9, tyX3, rfl, by decide, uX3, tyX3_ok, nmX3, rfl, by decide +kernel, Or.inl ⟨aTB_at 210 (by decide +kernel) rfl, fun h => by cases h⟩⟩
theorem fX3_31 : aFd RX3 31 1 6 := ⟨RX3, TX3, 9, rfl, by decide, uX3, Or.inl (aTB_at 211 (by decide +kernel) rfl)⟩
theorem pX3_31 : aFp RX3 31 1 6 false (.int) := ⟨RX3, TX3, 9, tyX3, rfl, by decide, uX3, tyX3_ok, nmX3, rfl, by decide +kernel, Or.inl ⟨aTB_at 211 (by decide +kernel) rfl, fun h => by cases h⟩⟩
theorem fX7_176 : aFd RX7 176 1 6 := ⟨RX3, TX3, 9, rfl, by decide, uX3, Or.inr ⟨"PropertyTests", aNT_at 153 (by decide +kernel) rfl⟩⟩
theorem pX7_176 : aFp RX7 176 1 6 false (.int) := ⟨RX3, TX3, 9, tyX3, rfl, by decide, uX3, tyX3_ok, nmX3, rfl, by decide +kernel, Or.inr ⟨rfl, "PropertyTests", aNT_at 153 (by decide +kernel) rfl⟩⟩
theorem fX3_34 : aFd RX3 34 1 7 := ⟨RX3, TX3, 9, rfl, by decide, uX3, Or.inl (aTB_at 213 (by decide +kernel) rfl)⟩
theorem pX3_34 : aFp RX3 34 1 7 false (.int) := ⟨RX3, TX3, 9, tyX3, rfl, by decide, uX3, tyX3_ok, nmX3, rfl, by decide +kernel, Or.inl ⟨aTB_at 213 (by decide +kernel) rfl, fun h => by cases h⟩⟩
theorem fX7_181 : aFd RX7 181 1 7 := ⟨RX3, TX3, 9, rfl, by decide, uX3, Or.inr ⟨"PropertyTests", aNT_at 155 (by decide +kernel) rfl⟩⟩
theorem pX7_181 : aFp RX7 181 1 7 false (.int) := ⟨RX3, TX3, 9, tyX3, rfl, by decide, uX3, tyX3_ok, nmX3, rfl, by decide +kernel, Or.inr ⟨rfl, "PropertyTests", aNT_at 155 (by decide +kernel) rfl⟩⟩
theorem fX3_37 : aFd RX3 37 1 8 := ⟨RX3, TX3, 9, rfl, by decide, uX3, Or.inl (aTB_at 215 (by decide +kernel) rfl)⟩
theorem pX3_37 : aFp RX3 37 1 8 false (.boolean) := ⟨RX3, TX3, 9, tyX3, rfl, by decide, uX3, tyX3_ok, nmX3, rfl, by decide +kernel, Or.inl ⟨aTB_at 215 (by decide +kernel) rfl, fun h => by cases h⟩⟩
theorem fX7_184 : aFd RX7 184 1 8 := ⟨RX3, TX3, 9, rfl, by decide, uX3, Or.inr ⟨"PropertyTests", aNT_at 157 (by decide +kernel) rfl⟩⟩
theorem pX7_184 : aFp RX7 184 1 8 false (.boolean) := ⟨RX3, TX3, 9, tyX3, rfl, by decide, uX3, tyX3_ok, nmX3, rfl, by decide +kernel, Or.inr ⟨rfl, "PropertyTests", aNT_at 157 (by decide +kernel) rfl⟩⟩
theorem fX7_10 : aFd RX7 10 5 0 := ⟨RX7, TX7, 9, rfl, by decide, uX7, Or.inl (aTB_at 236 (by decide +kernel) rfl)⟩
theorem pX7_10 : aFp RX7 10 5 0 true (.object "PropertyTests$Worker") := ⟨RX7, TX7, 9, tyX7, rfl, by decide, uX7, tyX7_ok, nmX7, rfl, by decide +kernel, Or.inl ⟨aTB_at 236 (by decide +kernel) rfl, fun _ => rfl⟩⟩
theorem fX7_20 : aFd RX7 20 5 1 := ⟨RX7, TX7, 9, rfl, by decide, uX7, Or.inl (aTB_at 237 (by decide +kernel) rfl)⟩
theorem pX7_20 : aFp RX7 20 5 1 true (.object "PropertyTests$Terms") := ⟨RX7, TX7, 9, tyX7, rfl, by decide, uX7, tyX7_ok, nmX7, rfl, by decide +kernel, Or.inl ⟨aTB_at 237 (by decide +kernel) rfl, fun _ => rfl⟩⟩
theorem fX7_25 : aFd RX7 25 5 2 := ⟨RX7, TX7, 9, rfl, by decide, uX7, Or.inl (aTB_at 238 (by decide +kernel) rfl)⟩
theorem pX7_25 : aFp RX7 25 5 2 true (.array (.object "PropertyTests$Value")) := ⟨RX7, TX7, 9, tyX7, rfl, by decide, uX7, tyX7_ok, nmX7, rfl, by decide +kernel, Or.inl ⟨aTB_at 238 (by decide +kernel) rfl, fun _ => rfl⟩⟩
theorem fX7_32 : aFd RX7 32 5 3 := ⟨RX7, TX7, 9, rfl, by decide, uX7, Or.inl (aTB_at 239 (by decide +kernel) rfl)⟩
theorem pX7_32 : aFp RX7 32 5 3 true (.array (.object "PropertyTests$Value")) := ⟨RX7, TX7, 9, tyX7, rfl, by decide, uX7, tyX7_ok, nmX7, rfl, by decide +kernel, Or.inl ⟨aTB_at 239 (by decide +kernel) rfl, fun _ => rfl⟩⟩
theorem fX7_38 : aFd RX7 38 5 4 := ⟨RX7, TX7, 9, rfl, by decide, uX7, Or.inl (aTB_at 240 (by decide +kernel) rfl)⟩
theorem pX7_38 : aFp RX7 38 5 4 true (.object "PropertyTests$Value") := ⟨RX7, TX7, 9, tyX7, rfl, by decide, uX7, tyX7_ok, nmX7, rfl, by decide +kernel, Or.inl ⟨aTB_at 240 (by decide +kernel) rfl, fun _ => rfl⟩⟩
theorem fX7_44 : aFd RX7 44 5 5 := ⟨RX7, TX7, 9, rfl, by decide, uX7, Or.inl (aTB_at 241 (by decide +kernel) rfl)⟩
theorem pX7_44 : aFp RX7 44 5 5 true (.array (.object "PropertyTests$Property")) := ⟨RX7, TX7, 9, tyX7, rfl, by decide, uX7, tyX7_ok, nmX7, rfl, by decide +kernel, Or.inl ⟨aTB_at 241 (by decide +kernel) rfl, fun _ => rfl⟩⟩
theorem fX7_52 : aFd RX7 52 5 6 := ⟨RX7, TX7, 9, rfl, by decide, uX7, Or.inl (aTB_at 242 (by decide +kernel) rfl)⟩
theorem pX7_52 : aFp RX7 52 5 6 true (.object "PropertyTests$Tally") := ⟨RX7, TX7, 9, tyX7, rfl, by decide, uX7, tyX7_ok, nmX7, rfl, by decide +kernel, Or.inl ⟨aTB_at 242 (by decide +kernel) rfl, fun _ => rfl⟩⟩
theorem fX7_56 : aFd RX7 56 5 7 := ⟨RX7, TX7, 9, rfl, by decide, uX7, Or.inl (aTB_at 243 (by decide +kernel) rfl)⟩
theorem pX7_56 : aFp RX7 56 5 7 false (.int) := ⟨RX7, TX7, 9, tyX7, rfl, by decide, uX7, tyX7_ok, nmX7, rfl, by decide +kernel, Or.inl ⟨aTB_at 243 (by decide +kernel) rfl, fun h => by cases h⟩⟩
theorem fX7_60 : aFd RX7 60 5 8 := ⟨RX7, TX7, 9, rfl, by decide, uX7, Or.inl (aTB_at 244 (by decide +kernel) rfl)⟩
theorem pX7_60 : aFp RX7 60 5 8 false (.int) := ⟨RX7, TX7, 9, tyX7, rfl, by decide, uX7, tyX7_ok, nmX7, rfl, by decide +kernel, Or.inl ⟨aTB_at 244 (by decide +kernel) rfl, fun h => by cases h⟩⟩
theorem gL_13 : aLk RL 13 yX7_term := Or.inl (aTB_at 264 (by decide +kernel) rfl)
theorem iyX7_term : Cond.instanceMethod yX7_term ∈ aTB := aTB_at 265 (by decide +kernel) rfl
theorem eyX7_term : Cond.selects RX7 yX7_term yX7_term ∈ aTB := aTB_at 266 (by decide +kernel) rfl
theorem gX7_63 : aLk RX7 63 yX4_allows := Or.inr ⟨"PropertyTests", aNT_at 209 (by decide +kernel) rfl⟩
theorem iyX4_allows : Cond.instanceMethod yX4_allows ∈ aTB := aTB_at 270 (by decide +kernel) rfl
theorem gX7_69 : aLk RX7 69 yX4_hasParts := Or.inr ⟨"PropertyTests", aNT_at 213 (by decide +kernel) rfl⟩
theorem iyX4_hasParts : Cond.instanceMethod yX4_hasParts ∈ aTB := aTB_at 274 (by decide +kernel) rfl
theorem tX4_35 : Cond.fieldLink RX4 35 (aSn 0).1 (aSn 0).2 "[I" ∈ aTB ∨ ∃ host, Cond.fieldLinkNest RX4 35 (aSn 0).1 (aSn 0).2 "[I" host ∈ aNT := Or.inl (aTB_at 276 (by decide +kernel) rfl)
theorem gX4_31 : aLk RX4 31 yX4_has := Or.inl (aTB_at 278 (by decide +kernel) rfl)
theorem iyX4_has : Cond.instanceMethod yX4_has ∈ aTB := aTB_at 280 (by decide +kernel) rfl
theorem gX7_76 : aLk RX7 76 yX4_add := Or.inr ⟨"PropertyTests", aNT_at 223 (by decide +kernel) rfl⟩
theorem iyX4_add : Cond.instanceMethod yX4_add ∈ aTB := aTB_at 284 (by decide +kernel) rfl
theorem gL_18 : aLk RL 18 yX7_property := Or.inl (aTB_at 286 (by decide +kernel) rfl)
theorem iyX7_property : Cond.instanceMethod yX7_property ∈ aTB := aTB_at 287 (by decide +kernel) rfl
theorem eyX7_property : Cond.selects RX7 yX7_property yX7_property ∈ aTB := aTB_at 288 (by decide +kernel) rfl
theorem gX7_80 : aLk RX7 80 yX7_isType := Or.inl (aTB_at 290 (by decide +kernel) rfl)
theorem syX7_isType : Cond.static yX7_isType ∈ aTB := aTB_at 291 (by decide +kernel) rfl
theorem gX7_84 : aLk RX7 84 yX4_hasOrNone := Or.inr ⟨"PropertyTests", aNT_at 234 (by decide +kernel) rfl⟩
theorem iyX4_hasOrNone : Cond.instanceMethod yX4_hasOrNone ∈ aTB := aTB_at 295 (by decide +kernel) rfl
theorem gX7_87 : aLk RX7 87 yX4_has := Or.inr ⟨"PropertyTests", aNT_at 238 (by decide +kernel) rfl⟩
theorem gX7_90 : aLk RX7 90 yX1_setTypes := Or.inr ⟨"PropertyTests", aNT_at 239 (by decide +kernel) rfl⟩
theorem iyX1_setTypes : Cond.instanceMethod yX1_setTypes ∈ aTB := aTB_at 300 (by decide +kernel) rfl
theorem gX7_94 : aLk RX7 94 yX1_setTerms := Or.inr ⟨"PropertyTests", aNT_at 243 (by decide +kernel) rfl⟩
theorem iyX1_setTerms : Cond.instanceMethod yX1_setTerms ∈ aTB := aTB_at 304 (by decide +kernel) rfl
theorem gL_23 : aLk RL 23 yX7_run := Or.inl (aTB_at 306 (by decide +kernel) rfl)
theorem iyX7_run : Cond.instanceMethod yX7_run ∈ aTB := aTB_at 307 (by decide +kernel) rfl
theorem eyX7_run : Cond.selects RX7 yX7_run yX7_run ∈ aTB := aTB_at 308 (by decide +kernel) rfl
theorem gX7_98 : aLk RX7 98 yX7_isProperty := Or.inl (aTB_at 310 (by decide +kernel) rfl)
theorem iyX7_isProperty : Cond.instanceMethod yX7_isProperty ∈ aTB := aTB_at 312 (by decide +kernel) rfl
theorem gX7_104 : aLk RX7 104 yX7_forgetLatest := Or.inl (aTB_at 314 (by decide +kernel) rfl)
theorem iyX7_forgetLatest : Cond.instanceMethod yX7_forgetLatest ∈ aTB := aTB_at 316 (by decide +kernel) rfl
theorem gX7_161 : aLk RX7 161 yX3_clear := Or.inr ⟨"PropertyTests", aNT_at 259 (by decide +kernel) rfl⟩
theorem iyX3_clear : Cond.instanceMethod yX3_clear ∈ aTB := aTB_at 320 (by decide +kernel) rfl
theorem gX7_111 : aLk RX7 111 yX0_into := Or.inr ⟨"PropertyTests", aNT_at 263 (by decide +kernel) rfl⟩
theorem syX0_into : Cond.static yX0_into ∈ aTB := aTB_at 323 (by decide +kernel) rfl
theorem gX0_20 : aLk RX0 20 yX0_hash := Or.inl (aTB_at 325 (by decide +kernel) rfl)
theorem syX0_hash : Cond.static yX0_hash ∈ aTB := aTB_at 326 (by decide +kernel) rfl
theorem qX0_9 : Cond.constant RX0 9 (-1640531527) ∈ aTB := aTB_at 328 (by decide +kernel) rfl
theorem qX0_10 : Cond.constant RX0 10 (-2048144789) ∈ aTB := aTB_at 329 (by decide +kernel) rfl
theorem qX0_11 : Cond.constant RX0 11 (-1028477387) ∈ aTB := aTB_at 330 (by decide +kernel) rfl
theorem gX0_23 : aLk RX0 23 yX0_between := Or.inl (aTB_at 331 (by decide +kernel) rfl)
theorem syX0_between : Cond.static yX0_between ∈ aTB := aTB_at 332 (by decide +kernel) rfl
theorem gX0_12 : aLk RX0 12 yJ9_floorMod_7cf53 := Or.inl (aTB_at 334 (by decide +kernel) rfl)
theorem syJ9_floorMod_7cf53 : Cond.static yJ9_floorMod_7cf53 ∈ aTB := aTB_at 335 (by decide +kernel) rfl
theorem gX0_26 : aLk RX0 26 yX5_setWhole := Or.inr ⟨"PropertyTests", aNT_at 278 (by decide +kernel) rfl⟩
theorem iyX5_setWhole : Cond.instanceMethod yX5_setWhole ∈ aTB := aTB_at 339 (by decide +kernel) rfl
theorem gX0_32 : aLk RX0 32 yX5_setRow := Or.inr ⟨"PropertyTests", aNT_at 282 (by decide +kernel) rfl⟩
theorem iyX5_setRow : Cond.instanceMethod yX5_setRow ∈ aTB := aTB_at 343 (by decide +kernel) rfl
theorem gX0_43 : aLk RX0 43 yX5_setNothing := Or.inr ⟨"PropertyTests", aNT_at 286 (by decide +kernel) rfl⟩
theorem iyX5_setNothing : Cond.instanceMethod yX5_setNothing ∈ aTB := aTB_at 347 (by decide +kernel) rfl
theorem gX7_117 : aLk RX7 117 yX7_tryCase := Or.inl (aTB_at 349 (by decide +kernel) rfl)
theorem iyX7_tryCase : Cond.instanceMethod yX7_tryCase ∈ aTB := aTB_at 351 (by decide +kernel) rfl
theorem gX7_144 : aLk RX7 144 yX6_outcome := Or.inr ⟨"PropertyTests", aNT_at 294 (by decide +kernel) rfl⟩
theorem iyX6_outcome : Cond.instanceMethod yX6_outcome ∈ aTB := aTB_at 355 (by decide +kernel) rfl
theorem gX6_41 : aLk RX6 41 yX6_work := Or.inl (aTB_at 357 (by decide +kernel) rfl)
theorem iyX6_work : Cond.instanceMethod yX6_work ∈ aTB := aTB_at 359 (by decide +kernel) rfl
theorem tX6_70 : Cond.fieldLink RX6 70 (aSn 0).1 (aSn 0).2 "[I" ∈ aTB ∨ ∃ host, Cond.fieldLinkNest RX6 70 (aSn 0).1 (aSn 0).2 "[I" host ∈ aNT := Or.inr ⟨"PropertyTests", aNT_at 302 (by decide +kernel) rfl⟩
theorem gX6_45 : aLk RX6 45 yX6_asWhole := Or.inl (aTB_at 362 (by decide +kernel) rfl)
theorem iyX6_asWhole : Cond.instanceMethod yX6_asWhole ∈ aTB := aTB_at 364 (by decide +kernel) rfl
theorem gX6_62 : aLk RX6 62 yX6_lookAt := Or.inl (aTB_at 366 (by decide +kernel) rfl)
theorem syX6_lookAt : Cond.static yX6_lookAt ∈ aTB := aTB_at 367 (by decide +kernel) rfl
theorem gX6_76 : aLk RX6 76 yX6_workChosen := Or.inl (aTB_at 369 (by decide +kernel) rfl)
theorem iyX6_workChosen : Cond.instanceMethod yX6_workChosen ∈ aTB := aTB_at 371 (by decide +kernel) rfl
theorem gX6_94 : aLk RX6 94 yX6_setTruth := Or.inl (aTB_at 373 (by decide +kernel) rfl)
theorem syX6_setTruth : Cond.static yX6_setTruth ∈ aTB := aTB_at 374 (by decide +kernel) rfl
theorem gX6_117 : aLk RX6 117 yX5_setWhole := Or.inr ⟨"PropertyTests", aNT_at 317 (by decide +kernel) rfl⟩
theorem gX6_86 : aLk RX6 86 yX6_lookAtAll := Or.inl (aTB_at 377 (by decide +kernel) rfl)
theorem syX6_lookAtAll : Cond.static yX6_lookAtAll ∈ aTB := aTB_at 378 (by decide +kernel) rfl
theorem tX6_98 : Cond.fieldLink RX6 98 (aSn 1).1 (aSn 1).2 "[I" ∈ aTB ∨ ∃ host, Cond.fieldLinkNest RX6 98 (aSn 1).1 (aSn 1).2 "[I" host ∈ aNT := Or.inl (aTB_at 380 (by decide +kernel) rfl)
theorem tX6_101 : Cond.fieldLink RX6 101 (aSn 2).1 (aSn 2).2 "[I" ∈ aTB ∨ ∃ host, Cond.fieldLinkNest RX6 101 (aSn 2).1 (aSn 2).2 "[I" host ∈ aNT := Or.inl (aTB_at 382 (by decide +kernel) rfl)
theorem tX6_107 : Cond.fieldLink RX6 107 (aSn 3).1 (aSn 3).2 "[I" ∈ aTB ∨ ∃ host, Cond.fieldLinkNest RX6 107 (aSn 3).1 (aSn 3).2 "[I" host ∈ aNT := Or.inl (aTB_at 384 (by decide +kernel) rfl)
theorem gX6_90 : aLk RX6 90 yX6_comeTo := Or.inl (aTB_at 386 (by decide +kernel) rfl)
theorem iyX6_comeTo : Cond.instanceMethod yX6_comeTo ∈ aTB := aTB_at 388 (by decide +kernel) rfl
theorem gX6_113 : aLk RX6 113 yX5_copy := Or.inr ⟨"PropertyTests", aNT_at 331 (by decide +kernel) rfl⟩
theorem iyX5_copy : Cond.instanceMethod yX5_copy ∈ aTB := aTB_at 392 (by decide +kernel) rfl
theorem gX6_121 : aLk RX6 121 yX5_setNothing := Or.inr ⟨"PropertyTests", aNT_at 335 (by decide +kernel) rfl⟩
theorem gX6_124 : aLk RX6 124 yX6_areLike := Or.inl (aTB_at 395 (by decide +kernel) rfl)
theorem syX6_areLike : Cond.static yX6_areLike ∈ aTB := aTB_at 396 (by decide +kernel) rfl
theorem gX6_128 : aLk RX6 128 yX6_setAt := Or.inl (aTB_at 398 (by decide +kernel) rfl)
theorem syX6_setAt : Cond.static yX6_setAt ∈ aTB := aTB_at 399 (by decide +kernel) rfl
theorem gX6_167 : aLk RX6 167 yX5_hasPlace := Or.inr ⟨"PropertyTests", aNT_at 342 (by decide +kernel) rfl⟩
theorem iyX5_hasPlace : Cond.instanceMethod yX5_hasPlace ∈ aTB := aTB_at 403 (by decide +kernel) rfl
theorem gX6_135 : aLk RX6 135 yX6_setZeros := Or.inl (aTB_at 405 (by decide +kernel) rfl)
theorem syX6_setZeros : Cond.static yX6_setZeros ∈ aTB := aTB_at 406 (by decide +kernel) rfl
theorem gX6_171 : aLk RX6 171 yX5_setRow := Or.inr ⟨"PropertyTests", aNT_at 349 (by decide +kernel) rfl⟩
theorem gX6_138 : aLk RX6 138 yX6_setPut := Or.inl (aTB_at 409 (by decide +kernel) rfl)
theorem syX6_setPut : Cond.static yX6_setPut ∈ aTB := aTB_at 410 (by decide +kernel) rfl
theorem gX6_142 : aLk RX6 142 yX6_setJoined := Or.inl (aTB_at 412 (by decide +kernel) rfl)
theorem syX6_setJoined : Cond.static yX6_setJoined ∈ aTB := aTB_at 413 (by decide +kernel) rfl
theorem gX6_174 : Cond.methodLink RX6 174 arraycopyName ∈ aTB := aTB_at 415 (by decide +kernel) rfl
theorem sarraycopyName : Cond.static arraycopyName ∈ aTB := aTB_at 416 (by decide +kernel) rfl
theorem narraycopyName : Cond.native arraycopyName ∈ aTB := aTB_at 417 (by decide +kernel) rfl
theorem gX6_146 : aLk RX6 146 yX6_setPart := Or.inl (aTB_at 418 (by decide +kernel) rfl)
theorem syX6_setPart : Cond.static yX6_setPart ∈ aTB := aTB_at 419 (by decide +kernel) rfl
theorem gX6_149 : aLk RX6 149 yX6_setSorted := Or.inl (aTB_at 421 (by decide +kernel) rfl)
theorem syX6_setSorted : Cond.static yX6_setSorted ∈ aTB := aTB_at 422 (by decide +kernel) rfl
theorem gX6_153 : aLk RX6 153 yX6_setTurned := Or.inl (aTB_at 424 (by decide +kernel) rfl)
theorem syX6_setTurned : Cond.static yX6_setTurned ∈ aTB := aTB_at 425 (by decide +kernel) rfl
theorem gX6_156 : aLk RX6 156 yX6_sum := Or.inl (aTB_at 427 (by decide +kernel) rfl)
theorem syX6_sum : Cond.static yX6_sum ∈ aTB := aTB_at 428 (by decide +kernel) rfl
theorem gX6_160 : aLk RX6 160 yX6_setOfWholes := Or.inl (aTB_at 430 (by decide +kernel) rfl)
theorem syX6_setOfWholes : Cond.static yX6_setOfWholes ∈ aTB := aTB_at 431 (by decide +kernel) rfl
theorem gX7_164 : aLk RX7 164 yX3_countCase := Or.inr ⟨"PropertyTests", aNT_at 374 (by decide +kernel) rfl⟩
theorem iyX3_countCase : Cond.instanceMethod yX3_countCase ∈ aTB := aTB_at 435 (by decide +kernel) rfl
theorem gX7_170 : aLk RX7 170 yX6_labelled := Or.inr ⟨"PropertyTests", aNT_at 378 (by decide +kernel) rfl⟩
theorem iyX6_labelled : Cond.instanceMethod yX6_labelled ∈ aTB := aTB_at 439 (by decide +kernel) rfl
theorem gX7_140 : aLk RX7 140 yX7_copyAll := Or.inl (aTB_at 441 (by decide +kernel) rfl)
theorem syX7_copyAll : Cond.static yX7_copyAll ∈ aTB := aTB_at 442 (by decide +kernel) rfl
theorem gX7_157 : aLk RX7 157 yX5_copy := Or.inr ⟨"PropertyTests", aNT_at 385 (by decide +kernel) rfl⟩
theorem gX7_121 : aLk RX7 121 yX7_makeSmaller := Or.inl (aTB_at 445 (by decide +kernel) rfl)
theorem iyX7_makeSmaller : Cond.instanceMethod yX7_makeSmaller ∈ aTB := aTB_at 447 (by decide +kernel) rfl
theorem gX7_173 : aLk RX7 173 yX7_takeCandidate := Or.inl (aTB_at 449 (by decide +kernel) rfl)
theorem iyX7_takeCandidate : Cond.instanceMethod yX7_takeCandidate ∈ aTB := aTB_at 451 (by decide +kernel) rfl
theorem gX7_188 : aLk RX7 188 yX5_candidateCount := Or.inr ⟨"PropertyTests", aNT_at 394 (by decide +kernel) rfl⟩
theorem iyX5_candidateCount : Cond.instanceMethod yX5_candidateCount ∈ aTB := aTB_at 455 (by decide +kernel) rfl
theorem gX7_192 : aLk RX7 192 yX5_becomeCandidate := Or.inr ⟨"PropertyTests", aNT_at 398 (by decide +kernel) rfl⟩
theorem iyX5_becomeCandidate : Cond.instanceMethod yX5_becomeCandidate ∈ aTB := aTB_at 459 (by decide +kernel) rfl
theorem gX5_26 : aLk RX5 26 yX5_nearerToZero := Or.inl (aTB_at 461 (by decide +kernel) rfl)
theorem syX5_nearerToZero : Cond.static yX5_nearerToZero ∈ aTB := aTB_at 462 (by decide +kernel) rfl
theorem gX5_30 : aLk RX5 30 yX5_dropPlace := Or.inl (aTB_at 464 (by decide +kernel) rfl)
theorem iyX5_dropPlace : Cond.instanceMethod yX5_dropPlace ∈ aTB := aTB_at 466 (by decide +kernel) rfl
theorem gX5_34 : aLk RX5 34 yX5_shrinkAnInt := Or.inl (aTB_at 468 (by decide +kernel) rfl)
theorem iyX5_shrinkAnInt : Cond.instanceMethod yX5_shrinkAnInt ∈ aTB := aTB_at 470 (by decide +kernel) rfl
theorem gL_28 : aLk RL 28 yX7_small := Or.inl (aTB_at 472 (by decide +kernel) rfl)
theorem iyX7_small : Cond.instanceMethod yX7_small ∈ aTB := aTB_at 473 (by decide +kernel) rfl
theorem eyX7_small : Cond.selects RX7 yX7_small yX7_small ∈ aTB := aTB_at 474 (by decide +kernel) rfl
theorem gX7_127 : aLk RX7 127 yX7_isSmall := Or.inl (aTB_at 476 (by decide +kernel) rfl)
theorem syX7_isSmall : Cond.static yX7_isSmall ∈ aTB := aTB_at 477 (by decide +kernel) rfl
theorem gX7_130 : aLk RX7 130 yX2_countFor := Or.inr ⟨"PropertyTests", aNT_at 420 (by decide +kernel) rfl⟩
theorem syX2_countFor : Cond.static yX2_countFor ∈ aTB := aTB_at 480 (by decide +kernel) rfl
theorem gX2_15 : aLk RX2 15 yX2_count := Or.inl (aTB_at 482 (by decide +kernel) rfl)
theorem syX2_count : Cond.static yX2_count ∈ aTB := aTB_at 483 (by decide +kernel) rfl
theorem gX2_9 : aLk RX2 9 yX2_wholes := Or.inl (aTB_at 485 (by decide +kernel) rfl)
theorem syX2_wholes : Cond.static yX2_wholes ∈ aTB := aTB_at 486 (by decide +kernel) rfl
theorem gX7_136 : aLk RX7 136 yX2_fill := Or.inr ⟨"PropertyTests", aNT_at 429 (by decide +kernel) rfl⟩
theorem syX2_fill : Cond.static yX2_fill ∈ aTB := aTB_at 489 (by decide +kernel) rfl
theorem gX2_19 : aLk RX2 19 yX2_into := Or.inl (aTB_at 491 (by decide +kernel) rfl)
theorem syX2_into : Cond.static yX2_into ∈ aTB := aTB_at 492 (by decide +kernel) rfl
theorem gX2_23 : aLk RX2 23 yX2_whole := Or.inl (aTB_at 494 (by decide +kernel) rfl)
theorem syX2_whole : Cond.static yX2_whole ∈ aTB := aTB_at 495 (by decide +kernel) rfl
theorem gX2_26 : aLk RX2 26 yX5_setWhole := Or.inr ⟨"PropertyTests", aNT_at 438 (by decide +kernel) rfl⟩
theorem gX2_32 : aLk RX2 32 yX2_rowInto := Or.inl (aTB_at 498 (by decide +kernel) rfl)
theorem syX2_rowInto : Cond.static yX2_rowInto ∈ aTB := aTB_at 499 (by decide +kernel) rfl
theorem gX2_39 : aLk RX2 39 yX5_setRow := Or.inr ⟨"PropertyTests", aNT_at 442 (by decide +kernel) rfl⟩
theorem gX2_36 : aLk RX2 36 yX5_setNothing := Or.inr ⟨"PropertyTests", aNT_at 443 (by decide +kernel) rfl⟩
theorem gL_33 : aLk RL 33 yX7_many := Or.inl (aTB_at 503 (by decide +kernel) rfl)
theorem iyX7_many : Cond.instanceMethod yX7_many ∈ aTB := aTB_at 504 (by decide +kernel) rfl
theorem eyX7_many : Cond.selects RX7 yX7_many yX7_many ∈ aTB := aTB_at 505 (by decide +kernel) rfl
theorem gL_37 : aLk RL 37 yX7_again := Or.inl (aTB_at 507 (by decide +kernel) rfl)
theorem iyX7_again : Cond.instanceMethod yX7_again ∈ aTB := aTB_at 508 (by decide +kernel) rfl
theorem eyX7_again : Cond.selects RX7 yX7_again yX7_again ∈ aTB := aTB_at 509 (by decide +kernel) rfl
theorem gL_42 : aLk RL 42 yX7_counter := Or.inl (aTB_at 511 (by decide +kernel) rfl)
theorem iyX7_counter : Cond.instanceMethod yX7_counter ∈ aTB := aTB_at 512 (by decide +kernel) rfl
theorem eyX7_counter : Cond.selects RX7 yX7_counter yX7_counter ∈ aTB := aTB_at 513 (by decide +kernel) rfl
theorem qX7_148 : Cond.constant RX7 148 (-2147483648) ∈ aTB := aTB_at 515 (by decide +kernel) rfl
theorem gX7_149 : aLk RX7 149 yX5_read := Or.inr ⟨"PropertyTests", aNT_at 457 (by decide +kernel) rfl⟩
theorem iyX5_read : Cond.instanceMethod yX5_read ∈ aTB := aTB_at 518 (by decide +kernel) rfl
theorem qX5_25 : Cond.constant RX5 25 (-2147483648) ∈ aTB := aTB_at 520 (by decide +kernel) rfl
theorem gL_46 : aLk RL 46 yX7_drawn := Or.inl (aTB_at 521 (by decide +kernel) rfl)
theorem iyX7_drawn : Cond.instanceMethod yX7_drawn ∈ aTB := aTB_at 522 (by decide +kernel) rfl
theorem eyX7_drawn : Cond.selects RX7 yX7_drawn yX7_drawn ∈ aTB := aTB_at 523 (by decide +kernel) rfl
theorem gL_50 : aLk RL 50 yX7_told := Or.inl (aTB_at 525 (by decide +kernel) rfl)
theorem iyX7_told : Cond.instanceMethod yX7_told ∈ aTB := aTB_at 526 (by decide +kernel) rfl
theorem eyX7_told : Cond.selects RX7 yX7_told yX7_told ∈ aTB := aTB_at 527 (by decide +kernel) rfl
theorem gX7_153 : aLk RX7 153 yX3_read := Or.inr ⟨"PropertyTests", aNT_at 470 (by decide +kernel) rfl⟩
theorem iyX3_read : Cond.instanceMethod yX3_read ∈ aTB := aTB_at 531 (by decide +kernel) rfl
theorem gL_55 : aLk RL 55 yX7_label := Or.inl (aTB_at 533 (by decide +kernel) rfl)
theorem iyX7_label : Cond.instanceMethod yX7_label ∈ aTB := aTB_at 534 (by decide +kernel) rfl
theorem eyX7_label : Cond.selects RX7 yX7_label yX7_label ∈ aTB := aTB_at 535 (by decide +kernel) rfl
theorem gL_12 : aLk RL 12 yX8_init := Or.inl (aTB_at 539 (by decide +kernel) rfl)
theorem iyX8_init : Cond.instanceMethod yX8_init ∈ aTB := aTB_at 540 (by decide +kernel) rfl
theorem gX8_1 : Cond.methodLink RX8 1 objectInit ∈ aTB := aTB_at 542 (by decide +kernel) rfl
theorem fX8_92 : aFd RX8 92 6 0 := ⟨RX8, TX8, 45, rfl, by decide, uX8, Or.inl (aTB_at 543 (by decide +kernel) rfl)⟩
theorem pX8_92 : aFp RX8 92 6 0 false (.int) := ⟨RX8, TX8, 45, tyX8, rfl, by decide, uX8, tyX8_ok, nmX8, rfl, by decide +kernel, Or.inl ⟨aTB_at 543 (by decide +kernel) rfl, fun h => by cases h⟩⟩
theorem fX8_7 : aFd RX8 7 6 1 := ⟨RX8, TX8, 45, rfl, by decide, uX8, Or.inl (aTB_at 544 (by decide +kernel) rfl)⟩
theorem pX8_7 : aFp RX8 7 6 1 true (.array .int) := ⟨RX8, TX8, 45, tyX8, rfl, by decide, uX8, tyX8_ok, nmX8, rfl, by decide +kernel, Or.inl ⟨aTB_at 544 (by decide +kernel) rfl, fun _ => rfl⟩⟩
theorem fX8_13 : aFd RX8 13 6 2 := ⟨RX8, TX8, 45, rfl, by decide, uX8, Or.inl (aTB_at 545 (by decide +kernel) rfl)⟩
theorem pX8_13 : aFp RX8 13 6 2 true (.array .int) := ⟨RX8, TX8, 45, tyX8, rfl, by decide, uX8, tyX8_ok, nmX8, rfl, by decide +kernel, Or.inl ⟨aTB_at 545 (by decide +kernel) rfl, fun _ => rfl⟩⟩
theorem fX8_16 : aFd RX8 16 6 3 := ⟨RX8, TX8, 45, rfl, by decide, uX8, Or.inl (aTB_at 546 (by decide +kernel) rfl)⟩
theorem pX8_16 : aFp RX8 16 6 3 true (.array .int) := ⟨RX8, TX8, 45, tyX8, rfl, by decide, uX8, tyX8_ok, nmX8, rfl, by decide +kernel, Or.inl ⟨aTB_at 546 (by decide +kernel) rfl, fun _ => rfl⟩⟩
theorem fX8_19 : aFd RX8 19 6 4 := ⟨RX8, TX8, 45, rfl, by decide, uX8, Or.inl (aTB_at 547 (by decide +kernel) rfl)⟩
theorem pX8_19 : aFp RX8 19 6 4 true (.array .int) := ⟨RX8, TX8, 45, tyX8, rfl, by decide, uX8, tyX8_ok, nmX8, rfl, by decide +kernel, Or.inl ⟨aTB_at 547 (by decide +kernel) rfl, fun _ => rfl⟩⟩
theorem fX8_22 : aFd RX8 22 6 5 := ⟨RX8, TX8, 45, rfl, by decide, uX8, Or.inl (aTB_at 548 (by decide +kernel) rfl)⟩
theorem pX8_22 : aFp RX8 22 6 5 true (.array .int) := ⟨RX8, TX8, 45, tyX8, rfl, by decide, uX8, tyX8_ok, nmX8, rfl, by decide +kernel, Or.inl ⟨aTB_at 548 (by decide +kernel) rfl, fun _ => rfl⟩⟩
theorem fX8_25 : aFd RX8 25 6 6 := ⟨RX8, TX8, 45, rfl, by decide, uX8, Or.inl (aTB_at 549 (by decide +kernel) rfl)⟩
theorem pX8_25 : aFp RX8 25 6 6 true (.array .int) := ⟨RX8, TX8, 45, tyX8, rfl, by decide, uX8, tyX8_ok, nmX8, rfl, by decide +kernel, Or.inl ⟨aTB_at 549 (by decide +kernel) rfl, fun _ => rfl⟩⟩
theorem fX8_28 : aFd RX8 28 6 7 := ⟨RX8, TX8, 45, rfl, by decide, uX8, Or.inl (aTB_at 550 (by decide +kernel) rfl)⟩
theorem pX8_28 : aFp RX8 28 6 7 true (.array .int) := ⟨RX8, TX8, 45, tyX8, rfl, by decide, uX8, tyX8_ok, nmX8, rfl, by decide +kernel, Or.inl ⟨aTB_at 550 (by decide +kernel) rfl, fun _ => rfl⟩⟩
theorem fX8_31 : aFd RX8 31 6 8 := ⟨RX8, TX8, 45, rfl, by decide, uX8, Or.inl (aTB_at 551 (by decide +kernel) rfl)⟩
theorem pX8_31 : aFp RX8 31 6 8 true (.array .int) := ⟨RX8, TX8, 45, tyX8, rfl, by decide, uX8, tyX8_ok, nmX8, rfl, by decide +kernel, Or.inl ⟨aTB_at 551 (by decide +kernel) rfl, fun _ => rfl⟩⟩
theorem fX8_107 : aFd RX8 107 6 9 := ⟨RX8, TX8, 45, rfl, by decide, uX8, Or.inl (aTB_at 552 (by decide +kernel) rfl)⟩
theorem pX8_107 : aFp RX8 107 6 9 false (.int) := ⟨RX8, TX8, 45, tyX8, rfl, by decide, uX8, tyX8_ok, nmX8, rfl, by decide +kernel, Or.inl ⟨aTB_at 552 (by decide +kernel) rfl, fun h => by cases h⟩⟩
theorem fX8_34 : aFd RX8 34 6 10 := ⟨RX8, TX8, 45, rfl, by decide, uX8, Or.inl (aTB_at 553 (by decide +kernel) rfl)⟩
theorem pX8_34 : aFp RX8 34 6 10 true (.array .int) := ⟨RX8, TX8, 45, tyX8, rfl, by decide, uX8, tyX8_ok, nmX8, rfl, by decide +kernel, Or.inl ⟨aTB_at 553 (by decide +kernel) rfl, fun _ => rfl⟩⟩
theorem fX8_37 : aFd RX8 37 6 11 := ⟨RX8, TX8, 45, rfl, by decide, uX8, Or.inl (aTB_at 554 (by decide +kernel) rfl)⟩
theorem pX8_37 : aFp RX8 37 6 11 true (.array .int) := ⟨RX8, TX8, 45, tyX8, rfl, by decide, uX8, tyX8_ok, nmX8, rfl, by decide +kernel, Or.inl ⟨aTB_at 554 (by decide +kernel) rfl, fun _ => rfl⟩⟩
theorem fX8_40 : aFd RX8 40 6 12 := ⟨RX8, TX8, 45, rfl, by decide, uX8, Or.inl (aTB_at 555 (by decide +kernel) rfl)⟩
theorem pX8_40 : aFp RX8 40 6 12 true (.array .int) := ⟨RX8, TX8, 45, tyX8, rfl, by decide, uX8, tyX8_ok, nmX8, rfl, by decide +kernel, Or.inl ⟨aTB_at 555 (by decide +kernel) rfl, fun _ => rfl⟩⟩
theorem fX8_43 : aFd RX8 43 6 13 := ⟨RX8, TX8, 45, rfl, by decide, uX8, Or.inl (aTB_at 556 (by decide +kernel) rfl)⟩
theorem pX8_43 : aFp RX8 43 6 13 true (.array .int) := ⟨RX8, TX8, 45, tyX8, rfl, by decide, uX8, tyX8_ok, nmX8, rfl, by decide +kernel, Or.inl ⟨aTB_at 556 (by decide +kernel) rfl, fun _ => rfl⟩⟩
theorem fX8_46 : aFd RX8 46 6 14 := ⟨RX8, TX8, 45, rfl, by decide, uX8, Or.inl (aTB_at 557 (by decide +kernel) rfl)⟩
theorem pX8_46 : aFp RX8 46 6 14 true (.array .int) := ⟨RX8, TX8, 45, tyX8, rfl, by decide, uX8, tyX8_ok, nmX8, rfl, by decide +kernel, Or.inl ⟨aTB_at 557 (by decide +kernel) rfl, fun _ => rfl⟩⟩
theorem fX8_113 : aFd RX8 113 6 15 := ⟨RX8, TX8, 45, rfl, by decide, uX8, Or.inl (aTB_at 558 (by decide +kernel) rfl)⟩
theorem pX8_113 : aFp RX8 113 6 15 false (.int) := ⟨RX8, TX8, 45, tyX8, rfl, by decide, uX8, tyX8_ok, nmX8, rfl, by decide +kernel, Or.inl ⟨aTB_at 558 (by decide +kernel) rfl, fun h => by cases h⟩⟩
theorem fX8_49 : aFd RX8 49 6 16 := ⟨RX8, TX8, 45, rfl, by decide, uX8, Or.inl (aTB_at 559 (by decide +kernel) rfl)⟩
theorem pX8_49 : aFp RX8 49 6 16 true (.array .int) := ⟨RX8, TX8, 45, tyX8, rfl, by decide, uX8, tyX8_ok, nmX8, rfl, by decide +kernel, Or.inl ⟨aTB_at 559 (by decide +kernel) rfl, fun _ => rfl⟩⟩
theorem fX8_128 : aFd RX8 128 6 17 := ⟨RX8, TX8, 45, rfl, by decide, uX8, Or.inl (aTB_at 560 (by decide +kernel) rfl)⟩
theorem pX8_128 : aFp RX8 128 6 17 false (.int) := ⟨RX8, TX8, 45, tyX8, rfl, by decide, uX8, tyX8_ok, nmX8, rfl, by decide +kernel, Or.inl ⟨aTB_at 560 (by decide +kernel) rfl, fun h => by cases h⟩⟩
theorem fX8_131 : aFd RX8 131 6 18 := ⟨RX8, TX8, 45, rfl, by decide, uX8, Or.inl (aTB_at 561 (by decide +kernel) rfl)⟩
theorem pX8_131 : aFp RX8 131 6 18 false (.int) := ⟨RX8, TX8, 45, tyX8, rfl, by decide, uX8, tyX8_ok, nmX8, rfl, by decide +kernel, Or.inl ⟨aTB_at 561 (by decide +kernel) rfl, fun h => by cases h⟩⟩
theorem fX8_134 : aFd RX8 134 6 19 := ⟨RX8, TX8, 45, rfl, by decide, uX8, Or.inl (aTB_at 562 (by decide +kernel) rfl)⟩
theorem pX8_134 : aFp RX8 134 6 19 false (.int) := ⟨RX8, TX8, 45, tyX8, rfl, by decide, uX8, tyX8_ok, nmX8, rfl, by decide +kernel, Or.inl ⟨aTB_at 562 (by decide +kernel) rfl, fun h => by cases h⟩⟩
theorem fX8_110 : aFd RX8 110 6 20 := ⟨RX8, TX8, 45, rfl, by decide, uX8, Or.inl (aTB_at 563 (by decide +kernel) rfl)⟩
theorem pX8_110 : aFp RX8 110 6 20 false (.int) := ⟨RX8, TX8, 45, tyX8, rfl, by decide, uX8, tyX8_ok, nmX8, rfl, by decide +kernel, Or.inl ⟨aTB_at 563 (by decide +kernel) rfl, fun h => by cases h⟩⟩
theorem fX8_52 : aFd RX8 52 6 21 := ⟨RX8, TX8, 45, rfl, by decide, uX8, Or.inl (aTB_at 564 (by decide +kernel) rfl)⟩
theorem pX8_52 : aFp RX8 52 6 21 true (.array .int) := ⟨RX8, TX8, 45, tyX8, rfl, by decide, uX8, tyX8_ok, nmX8, rfl, by decide +kernel, Or.inl ⟨aTB_at 564 (by decide +kernel) rfl, fun _ => rfl⟩⟩
theorem fX8_144 : aFd RX8 144 6 22 := ⟨RX8, TX8, 45, rfl, by decide, uX8, Or.inl (aTB_at 565 (by decide +kernel) rfl)⟩
theorem pX8_144 : aFp RX8 144 6 22 false (.int) := ⟨RX8, TX8, 45, tyX8, rfl, by decide, uX8, tyX8_ok, nmX8, rfl, by decide +kernel, Or.inl ⟨aTB_at 565 (by decide +kernel) rfl, fun h => by cases h⟩⟩
theorem fX8_175 : aFd RX8 175 6 23 := ⟨RX8, TX8, 45, rfl, by decide, uX8, Or.inl (aTB_at 566 (by decide +kernel) rfl)⟩
theorem pX8_175 : aFp RX8 175 6 23 false (.int) := ⟨RX8, TX8, 45, tyX8, rfl, by decide, uX8, tyX8_ok, nmX8, rfl, by decide +kernel, Or.inl ⟨aTB_at 566 (by decide +kernel) rfl, fun h => by cases h⟩⟩
theorem fX8_55 : aFd RX8 55 6 24 := ⟨RX8, TX8, 45, rfl, by decide, uX8, Or.inl (aTB_at 567 (by decide +kernel) rfl)⟩
theorem pX8_55 : aFp RX8 55 6 24 true (.array .int) := ⟨RX8, TX8, 45, tyX8, rfl, by decide, uX8, tyX8_ok, nmX8, rfl, by decide +kernel, Or.inl ⟨aTB_at 567 (by decide +kernel) rfl, fun _ => rfl⟩⟩
theorem fX8_58 : aFd RX8 58 6 25 := ⟨RX8, TX8, 45, rfl, by decide, uX8, Or.inl (aTB_at 568 (by decide +kernel) rfl)⟩
theorem pX8_58 : aFp RX8 58 6 25 true (.array .int) := ⟨RX8, TX8, 45, tyX8, rfl, by decide, uX8, tyX8_ok, nmX8, rfl, by decide +kernel, Or.inl ⟨aTB_at 568 (by decide +kernel) rfl, fun _ => rfl⟩⟩
theorem fX8_61 : aFd RX8 61 6 26 := ⟨RX8, TX8, 45, rfl, by decide, uX8, Or.inl (aTB_at 569 (by decide +kernel) rfl)⟩
theorem pX8_61 : aFp RX8 61 6 26 true (.array .int) := ⟨RX8, TX8, 45, tyX8, rfl, by decide, uX8, tyX8_ok, nmX8, rfl, by decide +kernel, Or.inl ⟨aTB_at 569 (by decide +kernel) rfl, fun _ => rfl⟩⟩
theorem fX8_64 : aFd RX8 64 6 27 := ⟨RX8, TX8, 45, rfl, by decide, uX8, Or.inl (aTB_at 570 (by decide +kernel) rfl)⟩
theorem pX8_64 : aFp RX8 64 6 27 true (.array .int) := ⟨RX8, TX8, 45, tyX8, rfl, by decide, uX8, tyX8_ok, nmX8, rfl, by decide +kernel, Or.inl ⟨aTB_at 570 (by decide +kernel) rfl, fun _ => rfl⟩⟩
theorem fX8_67 : aFd RX8 67 6 28 := ⟨RX8, TX8, 45, rfl, by decide, uX8, Or.inl (aTB_at 571 (by decide +kernel) rfl)⟩
theorem pX8_67 : aFp RX8 67 6 28 true (.array .int) := ⟨RX8, TX8, 45, tyX8, rfl, by decide, uX8, tyX8_ok, nmX8, rfl, by decide +kernel, Or.inl ⟨aTB_at 571 (by decide +kernel) rfl, fun _ => rfl⟩⟩
theorem fX8_178 : aFd RX8 178 6 29 := ⟨RX8, TX8, 45, rfl, by decide, uX8, Or.inl (aTB_at 572 (by decide +kernel) rfl)⟩
theorem pX8_178 : aFp RX8 178 6 29 false (.int) := ⟨RX8, TX8, 45, tyX8, rfl, by decide, uX8, tyX8_ok, nmX8, rfl, by decide +kernel, Or.inl ⟨aTB_at 572 (by decide +kernel) rfl, fun h => by cases h⟩⟩
theorem fX8_70 : aFd RX8 70 6 30 := ⟨RX8, TX8, 45, rfl, by decide, uX8, Or.inl (aTB_at 573 (by decide +kernel) rfl)⟩
theorem pX8_70 : aFp RX8 70 6 30 true (.array .int) := ⟨RX8, TX8, 45, tyX8, rfl, by decide, uX8, tyX8_ok, nmX8, rfl, by decide +kernel, Or.inl ⟨aTB_at 573 (by decide +kernel) rfl, fun _ => rfl⟩⟩
theorem fX8_196 : aFd RX8 196 6 31 := ⟨RX8, TX8, 45, rfl, by decide, uX8, Or.inl (aTB_at 574 (by decide +kernel) rfl)⟩
theorem pX8_196 : aFp RX8 196 6 31 false (.int) := ⟨RX8, TX8, 45, tyX8, rfl, by decide, uX8, tyX8_ok, nmX8, rfl, by decide +kernel, Or.inl ⟨aTB_at 574 (by decide +kernel) rfl, fun h => by cases h⟩⟩
theorem fX8_73 : aFd RX8 73 6 32 := ⟨RX8, TX8, 45, rfl, by decide, uX8, Or.inl (aTB_at 575 (by decide +kernel) rfl)⟩
theorem pX8_73 : aFp RX8 73 6 32 true (.array .int) := ⟨RX8, TX8, 45, tyX8, rfl, by decide, uX8, tyX8_ok, nmX8, rfl, by decide +kernel, Or.inl ⟨aTB_at 575 (by decide +kernel) rfl, fun _ => rfl⟩⟩
theorem fX8_203 : aFd RX8 203 6 33 := ⟨RX8, TX8, 45, rfl, by decide, uX8, Or.inl (aTB_at 576 (by decide +kernel) rfl)⟩
theorem pX8_203 : aFp RX8 203 6 33 false (.int) := ⟨RX8, TX8, 45, tyX8, rfl, by decide, uX8, tyX8_ok, nmX8, rfl, by decide +kernel, Or.inl ⟨aTB_at 576 (by decide +kernel) rfl, fun h => by cases h⟩⟩
theorem fX8_206 : aFd RX8 206 6 34 := ⟨RX8, TX8, 45, rfl, by decide, uX8, Or.inl (aTB_at 577 (by decide +kernel) rfl)⟩
theorem pX8_206 : aFp RX8 206 6 34 false (.int) := ⟨RX8, TX8, 45, tyX8, rfl, by decide, uX8, tyX8_ok, nmX8, rfl, by decide +kernel, Or.inl ⟨aTB_at 577 (by decide +kernel) rfl, fun h => by cases h⟩⟩
theorem fX8_209 : aFd RX8 209 6 35 := ⟨RX8, TX8, 45, rfl, by decide, uX8, Or.inl (aTB_at 578 (by decide +kernel) rfl)⟩
theorem pX8_209 : aFp RX8 209 6 35 false (.int) := ⟨RX8, TX8, 45, tyX8, rfl, by decide, uX8, tyX8_ok, nmX8, rfl, by decide +kernel, Or.inl ⟨aTB_at 578 (by decide +kernel) rfl, fun h => by cases h⟩⟩
theorem fX8_212 : aFd RX8 212 6 36 := ⟨RX8, TX8, 45, rfl, by decide, uX8, Or.inl (aTB_at 579 (by decide +kernel) rfl)⟩
theorem pX8_212 : aFp RX8 212 6 36 false (.int) := ⟨RX8, TX8, 45, tyX8, rfl, by decide, uX8, tyX8_ok, nmX8, rfl, by decide +kernel, Or.inl ⟨aTB_at 579 (by decide +kernel) rfl, fun h => by cases h⟩⟩
theorem fX8_89 : aFd RX8 89 6 37 := ⟨RX8, TX8, 45, rfl, by decide, uX8, Or.inl (aTB_at 580 (by decide +kernel) rfl)⟩
theorem pX8_89 : aFp RX8 89 6 37 false (.int) := ⟨RX8, TX8, 45, tyX8, rfl, by decide, uX8, tyX8_ok, nmX8, rfl, by decide +kernel, Or.inl ⟨aTB_at 580 (by decide +kernel) rfl, fun h => by cases h⟩⟩
theorem fX8_215 : aFd RX8 215 6 38 := ⟨RX8, TX8, 45, rfl, by decide, uX8, Or.inl (aTB_at 581 (by decide +kernel) rfl)⟩
theorem pX8_215 : aFp RX8 215 6 38 false (.int) := ⟨RX8, TX8, 45, tyX8, rfl, by decide, uX8, tyX8_ok, nmX8, rfl, by decide +kernel, Or.inl ⟨aTB_at 581 (by decide +kernel) rfl, fun h => by cases h⟩⟩
theorem fX8_218 : aFd RX8 218 6 39 := ⟨RX8, TX8, 45, rfl, by decide, uX8, Or.inl (aTB_at 582 (by decide +kernel) rfl)⟩
theorem pX8_218 : aFp RX8 218 6 39 false (.int) := ⟨RX8, TX8, 45, tyX8, rfl, by decide, uX8, tyX8_ok, nmX8, rfl, by decide +kernel, Or.inl ⟨aTB_at 582 (by decide +kernel) rfl, fun h => by cases h⟩⟩
theorem fX8_221 : aFd RX8 221 6 40 := ⟨RX8, TX8, 45, rfl, by decide, uX8, Or.inl (aTB_at 583 (by decide +kernel) rfl)⟩
theorem pX8_221 : aFp RX8 221 6 40 false (.int) := ⟨RX8, TX8, 45, tyX8, rfl, by decide, uX8, tyX8_ok, nmX8, rfl, by decide +kernel, Or.inl ⟨aTB_at 583 (by decide +kernel) rfl, fun h => by cases h⟩⟩
theorem fX8_76 : aFd RX8 76 6 41 := ⟨RX8, TX8, 45, rfl, by decide, uX8, Or.inl (aTB_at 584 (by decide +kernel) rfl)⟩
theorem pX8_76 : aFp RX8 76 6 41 false (.int) := ⟨RX8, TX8, 45, tyX8, rfl, by decide, uX8, tyX8_ok, nmX8, rfl, by decide +kernel, Or.inl ⟨aTB_at 584 (by decide +kernel) rfl, fun h => by cases h⟩⟩
theorem fX8_80 : aFd RX8 80 6 42 := ⟨RX8, TX8, 45, rfl, by decide, uX8, Or.inl (aTB_at 585 (by decide +kernel) rfl)⟩
theorem pX8_80 : aFp RX8 80 6 42 true (.array .int) := ⟨RX8, TX8, 45, tyX8, rfl, by decide, uX8, tyX8_ok, nmX8, rfl, by decide +kernel, Or.inl ⟨aTB_at 585 (by decide +kernel) rfl, fun _ => rfl⟩⟩
theorem fX8_83 : aFd RX8 83 6 43 := ⟨RX8, TX8, 45, rfl, by decide, uX8, Or.inl (aTB_at 586 (by decide +kernel) rfl)⟩
theorem pX8_83 : aFp RX8 83 6 43 true (.array .int) := ⟨RX8, TX8, 45, tyX8, rfl, by decide, uX8, tyX8_ok, nmX8, rfl, by decide +kernel, Or.inl ⟨aTB_at 586 (by decide +kernel) rfl, fun _ => rfl⟩⟩
theorem fX8_86 : aFd RX8 86 6 44 := ⟨RX8, TX8, 45, rfl, by decide, uX8, Or.inl (aTB_at 587 (by decide +kernel) rfl)⟩
theorem pX8_86 : aFp RX8 86 6 44 true (.array .int) := ⟨RX8, TX8, 45, tyX8, rfl, by decide, uX8, tyX8_ok, nmX8, rfl, by decide +kernel, Or.inl ⟨aTB_at 587 (by decide +kernel) rfl, fun _ => rfl⟩⟩
theorem gL_17 : aLk RL 17 yX8_term := Or.inl (aTB_at 679 (by decide +kernel) rfl)
theorem iyX8_term : Cond.instanceMethod yX8_term ∈ aTB := aTB_at 680 (by decide +kernel) rfl
theorem eyX8_term : Cond.selects RX8 yX8_term yX8_term ∈ aTB := aTB_at 681 (by decide +kernel) rfl
theorem gX8_95 : aLk RX8 95 yX8_in := Or.inl (aTB_at 683 (by decide +kernel) rfl)
theorem syX8_in : Cond.static yX8_in ∈ aTB := aTB_at 684 (by decide +kernel) rfl
theorem gX8_99 : aLk RX8 99 yX8_parts := Or.inl (aTB_at 686 (by decide +kernel) rfl)
theorem syX8_parts : Cond.static yX8_parts ∈ aTB := aTB_at 687 (by decide +kernel) rfl
theorem gX8_103 : aLk RX8 103 yX8_isTerm := Or.inl (aTB_at 689 (by decide +kernel) rfl)
theorem iyX8_isTerm : Cond.instanceMethod yX8_isTerm ∈ aTB := aTB_at 691 (by decide +kernel) rfl
theorem gL_22 : aLk RL 22 yX8_property := Or.inl (aTB_at 693 (by decide +kernel) rfl)
theorem iyX8_property : Cond.instanceMethod yX8_property ∈ aTB := aTB_at 694 (by decide +kernel) rfl
theorem eyX8_property : Cond.selects RX8 yX8_property yX8_property ∈ aTB := aTB_at 695 (by decide +kernel) rfl
theorem gL_49 : aLk RL 49 yX8_drawn := Or.inl (aTB_at 697 (by decide +kernel) rfl)
theorem iyX8_drawn : Cond.instanceMethod yX8_drawn ∈ aTB := aTB_at 698 (by decide +kernel) rfl
theorem eyX8_drawn : Cond.selects RX8 yX8_drawn yX8_drawn ∈ aTB := aTB_at 699 (by decide +kernel) rfl
theorem qX8_199 : Cond.constant RX8 199 (-2147483648) ∈ aTB := aTB_at 701 (by decide +kernel) rfl
theorem gX8_200 : aLk RX8 200 yX8_draw := Or.inl (aTB_at 702 (by decide +kernel) rfl)
theorem iyX8_draw : Cond.instanceMethod yX8_draw ∈ aTB := aTB_at 704 (by decide +kernel) rfl
theorem gX8_190 : aLk RX8 190 yX8_hash := Or.inl (aTB_at 706 (by decide +kernel) rfl)
theorem syX8_hash : Cond.static yX8_hash ∈ aTB := aTB_at 707 (by decide +kernel) rfl
theorem qX8_187 : Cond.constant RX8 187 (-1640531527) ∈ aTB := aTB_at 709 (by decide +kernel) rfl
theorem qX8_188 : Cond.constant RX8 188 (-2048144789) ∈ aTB := aTB_at 710 (by decide +kernel) rfl
theorem qX8_189 : Cond.constant RX8 189 (-1028477387) ∈ aTB := aTB_at 711 (by decide +kernel) rfl
theorem gX8_193 : aLk RX8 193 yX8_modulo := Or.inl (aTB_at 712 (by decide +kernel) rfl)
theorem syX8_modulo : Cond.static yX8_modulo ∈ aTB := aTB_at 713 (by decide +kernel) rfl
theorem gL_27 : aLk RL 27 yX8_run := Or.inl (aTB_at 715 (by decide +kernel) rfl)
theorem iyX8_run : Cond.instanceMethod yX8_run ∈ aTB := aTB_at 716 (by decide +kernel) rfl
theorem eyX8_run : Cond.selects RX8 yX8_run yX8_run ∈ aTB := aTB_at 717 (by decide +kernel) rfl
theorem gX8_231 : aLk RX8 231 yX8_isProperty := Or.inl (aTB_at 719 (by decide +kernel) rfl)
theorem iyX8_isProperty : Cond.instanceMethod yX8_isProperty ∈ aTB := aTB_at 721 (by decide +kernel) rfl
theorem gX8_234 : aLk RX8 234 yX8_anew := Or.inl (aTB_at 723 (by decide +kernel) rfl)
theorem iyX8_anew : Cond.instanceMethod yX8_anew ∈ aTB := aTB_at 725 (by decide +kernel) rfl
theorem gX8_237 : aLk RX8 237 yX8_isFailed := Or.inl (aTB_at 727 (by decide +kernel) rfl)
theorem iyX8_isFailed : Cond.instanceMethod yX8_isFailed ∈ aTB := aTB_at 729 (by decide +kernel) rfl
theorem gX8_224 : aLk RX8 224 yX8_outcome := Or.inl (aTB_at 731 (by decide +kernel) rfl)
theorem iyX8_outcome : Cond.instanceMethod yX8_outcome ∈ aTB := aTB_at 733 (by decide +kernel) rfl
theorem gX8_181 : aLk RX8 181 yX8_work := Or.inl (aTB_at 735 (by decide +kernel) rfl)
theorem iyX8_work : Cond.instanceMethod yX8_work ∈ aTB := aTB_at 737 (by decide +kernel) rfl
theorem gX8_116 : aLk RX8 116 yX8_begin := Or.inl (aTB_at 739 (by decide +kernel) rfl)
theorem iyX8_begin : Cond.instanceMethod yX8_begin ∈ aTB := aTB_at 741 (by decide +kernel) rfl
theorem gX8_120 : aLk RX8 120 yX8_nextPart := Or.inl (aTB_at 743 (by decide +kernel) rfl)
theorem iyX8_nextPart : Cond.instanceMethod yX8_nextPart ∈ aTB := aTB_at 745 (by decide +kernel) rfl
theorem gX8_137 : aLk RX8 137 yX8_nextOfChoice := Or.inl (aTB_at 747 (by decide +kernel) rfl)
theorem iyX8_nextOfChoice : Cond.instanceMethod yX8_nextOfChoice ∈ aTB := aTB_at 749 (by decide +kernel) rfl
theorem gX8_141 : aLk RX8 141 yX8_wrong := Or.inl (aTB_at 751 (by decide +kernel) rfl)
theorem iyX8_wrong : Cond.instanceMethod yX8_wrong ∈ aTB := aTB_at 753 (by decide +kernel) rfl
theorem gX8_124 : aLk RX8 124 yX8_end := Or.inl (aTB_at 755 (by decide +kernel) rfl)
theorem iyX8_end : Cond.instanceMethod yX8_end ∈ aTB := aTB_at 757 (by decide +kernel) rfl
theorem gX8_147 : aLk RX8 147 yX8_input := Or.inl (aTB_at 759 (by decide +kernel) rfl)
theorem iyX8_input : Cond.instanceMethod yX8_input ∈ aTB := aTB_at 761 (by decide +kernel) rfl
theorem gX8_149 : aLk RX8 149 yX8_whole := Or.inl (aTB_at 763 (by decide +kernel) rfl)
theorem iyX8_whole : Cond.instanceMethod yX8_whole ∈ aTB := aTB_at 765 (by decide +kernel) rfl
theorem gX8_152 : aLk RX8 152 yX8_numbers := Or.inl (aTB_at 767 (by decide +kernel) rfl)
theorem iyX8_numbers : Cond.instanceMethod yX8_numbers ∈ aTB := aTB_at 769 (by decide +kernel) rfl
theorem gX8_155 : aLk RX8 155 yX8_like := Or.inl (aTB_at 771 (by decide +kernel) rfl)
theorem iyX8_like : Cond.instanceMethod yX8_like ∈ aTB := aTB_at 773 (by decide +kernel) rfl
theorem gX8_158 : aLk RX8 158 yX8_both := Or.inl (aTB_at 775 (by decide +kernel) rfl)
theorem iyX8_both : Cond.instanceMethod yX8_both ∈ aTB := aTB_at 777 (by decide +kernel) rfl
theorem gX8_161 : aLk RX8 161 yX8_rows := Or.inl (aTB_at 779 (by decide +kernel) rfl)
theorem iyX8_rows : Cond.instanceMethod yX8_rows ∈ aTB := aTB_at 781 (by decide +kernel) rfl
theorem gX8_164 : aLk RX8 164 yX8_refused := Or.inl (aTB_at 783 (by decide +kernel) rfl)
theorem syX8_refused : Cond.static yX8_refused ∈ aTB := aTB_at 784 (by decide +kernel) rfl
theorem gX8_168 : aLk RX8 168 yX8_rowOf := Or.inl (aTB_at 786 (by decide +kernel) rfl)
theorem iyX8_rowOf : Cond.instanceMethod yX8_rowOf ∈ aTB := aTB_at 788 (by decide +kernel) rfl
theorem gX8_172 : aLk RX8 172 yX8_row := Or.inl (aTB_at 790 (by decide +kernel) rfl)
theorem iyX8_row : Cond.instanceMethod yX8_row ∈ aTB := aTB_at 792 (by decide +kernel) rfl
theorem gX8_184 : aLk RX8 184 yX8_ended := Or.inl (aTB_at 794 (by decide +kernel) rfl)
theorem iyX8_ended : Cond.instanceMethod yX8_ended ∈ aTB := aTB_at 796 (by decide +kernel) rfl
theorem gX8_228 : aLk RX8 228 yX8_keep := Or.inl (aTB_at 798 (by decide +kernel) rfl)
theorem iyX8_keep : Cond.instanceMethod yX8_keep ∈ aTB := aTB_at 800 (by decide +kernel) rfl
theorem gX8_240 : aLk RX8 240 yX8_smaller := Or.inl (aTB_at 802 (by decide +kernel) rfl)
theorem iyX8_smaller : Cond.instanceMethod yX8_smaller ∈ aTB := aTB_at 804 (by decide +kernel) rfl
theorem gX8_243 : aLk RX8 243 yX8_candidate := Or.inl (aTB_at 806 (by decide +kernel) rfl)
theorem iyX8_candidate : Cond.instanceMethod yX8_candidate ∈ aTB := aTB_at 808 (by decide +kernel) rfl
theorem gX8_246 : aLk RX8 246 yX8_takeCounter := Or.inl (aTB_at 810 (by decide +kernel) rfl)
theorem iyX8_takeCounter : Cond.instanceMethod yX8_takeCounter ∈ aTB := aTB_at 812 (by decide +kernel) rfl
theorem gX8_249 : aLk RX8 249 yX8_less := Or.inl (aTB_at 814 (by decide +kernel) rfl)
theorem syX8_less : Cond.static yX8_less ∈ aTB := aTB_at 815 (by decide +kernel) rfl
theorem gX8_252 : aLk RX8 252 yX8_without := Or.inl (aTB_at 817 (by decide +kernel) rfl)
theorem iyX8_without : Cond.instanceMethod yX8_without ∈ aTB := aTB_at 819 (by decide +kernel) rfl
theorem gL_36 : aLk RL 36 yX8_many := Or.inl (aTB_at 821 (by decide +kernel) rfl)
theorem iyX8_many : Cond.instanceMethod yX8_many ∈ aTB := aTB_at 822 (by decide +kernel) rfl
theorem eyX8_many : Cond.selects RX8 yX8_many yX8_many ∈ aTB := aTB_at 823 (by decide +kernel) rfl
theorem gX8_261 : aLk RX8 261 yX8_all := Or.inl (aTB_at 825 (by decide +kernel) rfl)
theorem iyX8_all : Cond.instanceMethod yX8_all ∈ aTB := aTB_at 827 (by decide +kernel) rfl
theorem gX8_258 : aLk RX8 258 yX8_sort := Or.inl (aTB_at 829 (by decide +kernel) rfl)
theorem syX8_sort : Cond.static yX8_sort ∈ aTB := aTB_at 830 (by decide +kernel) rfl
theorem gX8_255 : aLk RX8 255 yX8_power := Or.inl (aTB_at 832 (by decide +kernel) rfl)
theorem syX8_power : Cond.static yX8_power ∈ aTB := aTB_at 833 (by decide +kernel) rfl
theorem gL_32 : aLk RL 32 yX8_small := Or.inl (aTB_at 835 (by decide +kernel) rfl)
theorem iyX8_small : Cond.instanceMethod yX8_small ∈ aTB := aTB_at 836 (by decide +kernel) rfl
theorem eyX8_small : Cond.selects RX8 yX8_small yX8_small ∈ aTB := aTB_at 837 (by decide +kernel) rfl
theorem gX8_267 : aLk RX8 267 yX8_takeSmall := Or.inl (aTB_at 839 (by decide +kernel) rfl)
theorem iyX8_takeSmall : Cond.instanceMethod yX8_takeSmall ∈ aTB := aTB_at 841 (by decide +kernel) rfl
theorem gX8_264 : aLk RX8 264 yX8_ranked := Or.inl (aTB_at 843 (by decide +kernel) rfl)
theorem syX8_ranked : Cond.static yX8_ranked ∈ aTB := aTB_at 844 (by decide +kernel) rfl
theorem gL_41 : aLk RL 41 yX8_again := Or.inl (aTB_at 846 (by decide +kernel) rfl)
theorem iyX8_again : Cond.instanceMethod yX8_again ∈ aTB := aTB_at 847 (by decide +kernel) rfl
theorem eyX8_again : Cond.selects RX8 yX8_again yX8_again ∈ aTB := aTB_at 848 (by decide +kernel) rfl
theorem gL_45 : aLk RL 45 yX8_counter := Or.inl (aTB_at 850 (by decide +kernel) rfl)
theorem iyX8_counter : Cond.instanceMethod yX8_counter ∈ aTB := aTB_at 851 (by decide +kernel) rfl
theorem eyX8_counter : Cond.selects RX8 yX8_counter yX8_counter ∈ aTB := aTB_at 852 (by decide +kernel) rfl
theorem gL_54 : aLk RL 54 yX8_told := Or.inl (aTB_at 854 (by decide +kernel) rfl)
theorem iyX8_told : Cond.instanceMethod yX8_told ∈ aTB := aTB_at 855 (by decide +kernel) rfl
theorem eyX8_told : Cond.selects RX8 yX8_told yX8_told ∈ aTB := aTB_at 856 (by decide +kernel) rfl
theorem gL_58 : aLk RL 58 yX8_label := Or.inl (aTB_at 858 (by decide +kernel) rfl)
theorem iyX8_label : Cond.instanceMethod yX8_label ∈ aTB := aTB_at 859 (by decide +kernel) rfl
theorem eyX8_label : Cond.selects RX8 yX8_label yX8_label ∈ aTB := aTB_at 860 (by decide +kernel) rfl
theorem lL_7 : Cond.classLink RL 7 RX7 ∈ aTB := aTB_at 71 (by decide +kernel) rfl
theorem wL_7 : aNwk RL 7 5 9 [some none, some none, some none, some none, some none, some none, some none, none, none] := ⟨RX7, TX7, tyX7, rfl, uX7, tyX7_ok, lL_7, aTB_at 72 (by decide +kernel) rfl, aTB_at 60 (by decide +kernel) rfl, fun j hj => by
  rcases (show j = 0 ∨ j = 1 ∨ j = 2 ∨ j = 3 ∨ j = 4 ∨ j = 5 ∨ j = 6 ∨ j = 7 ∨ j = 8 by omega) with rfl | rfl | rfl | rfl | rfl | rfl | rfl | rfl | rfl
  · exact Or.inr ⟨rfl, rfl⟩
  · exact Or.inr ⟨rfl, rfl⟩
  · exact Or.inr ⟨rfl, rfl⟩
  · exact Or.inr ⟨rfl, rfl⟩
  · exact Or.inr ⟨rfl, rfl⟩
  · exact Or.inr ⟨rfl, rfl⟩
  · exact Or.inr ⟨rfl, rfl⟩
  · exact Or.inl ⟨rfl, rfl⟩
  · exact Or.inl ⟨rfl, rfl⟩
⟩
theorem lX7_7 : Cond.classLink RX7 7 RX6 ∈ aTB := aTB_at 79 (by decide +kernel) rfl
theorem wX7_7 : aNwk RX7 7 4 5 [some none, some none, some none, none, none] := ⟨RX6, TX6, tyX6, rfl, uX6, tyX6_ok, lX7_7, aTB_at 80 (by decide +kernel) rfl, aTB_at 61 (by decide +kernel) rfl, fun j hj => by
  rcases (show j = 0 ∨ j = 1 ∨ j = 2 ∨ j = 3 ∨ j = 4 by omega) with rfl | rfl | rfl | rfl | rfl
  · exact Or.inr ⟨rfl, rfl⟩
  · exact Or.inr ⟨rfl, rfl⟩
  · exact Or.inr ⟨rfl, rfl⟩
  · exact Or.inl ⟨rfl, rfl⟩
  · exact Or.inl ⟨rfl, rfl⟩
⟩
theorem lX6_9 : Cond.classLink RX6 9 RX4 ∈ aTB := aTB_at 85 (by decide +kernel) rfl
theorem wX6_9 : aNwk RX6 9 2 6 [some none, some none, some none, some none, some none, none] := ⟨RX4, TX4, tyX4, rfl, uX4, tyX4_ok, lX6_9, aTB_at 86 (by decide +kernel) rfl, aTB_at 62 (by decide +kernel) rfl, fun j hj => by
  rcases (show j = 0 ∨ j = 1 ∨ j = 2 ∨ j = 3 ∨ j = 4 ∨ j = 5 by omega) with rfl | rfl | rfl | rfl | rfl | rfl
  · exact Or.inr ⟨rfl, rfl⟩
  · exact Or.inr ⟨rfl, rfl⟩
  · exact Or.inr ⟨rfl, rfl⟩
  · exact Or.inr ⟨rfl, rfl⟩
  · exact Or.inr ⟨rfl, rfl⟩
  · exact Or.inl ⟨rfl, rfl⟩
⟩
theorem lX7_35 : Cond.classLink RX7 35 RX5 ∈ aTB := aTB_at 120 (by decide +kernel) rfl
theorem wX7_35 : aNwk RX7 35 3 4 [none, none, none, some none] := ⟨RX5, TX5, tyX5, rfl, uX5, tyX5_ok, lX7_35, aTB_at 122 (by decide +kernel) rfl, aTB_at 63 (by decide +kernel) rfl, fun j hj => by
  rcases (show j = 0 ∨ j = 1 ∨ j = 2 ∨ j = 3 by omega) with rfl | rfl | rfl | rfl
  · exact Or.inl ⟨rfl, rfl⟩
  · exact Or.inl ⟨rfl, rfl⟩
  · exact Or.inl ⟨rfl, rfl⟩
  · exact Or.inr ⟨rfl, rfl⟩
⟩
theorem lX7_42 : Cond.classLink RX7 42 RX1 ∈ aTB := aTB_at 167 (by decide +kernel) rfl
theorem wX7_42 : aNwk RX7 42 0 5 [some none, none, none, none, none] := ⟨RX1, TX1, tyX1, rfl, uX1, tyX1_ok, lX7_42, aTB_at 169 (by decide +kernel) rfl, aTB_at 64 (by decide +kernel) rfl, fun j hj => by
  rcases (show j = 0 ∨ j = 1 ∨ j = 2 ∨ j = 3 ∨ j = 4 by omega) with rfl | rfl | rfl | rfl | rfl
  · exact Or.inr ⟨rfl, rfl⟩
  · exact Or.inl ⟨rfl, rfl⟩
  · exact Or.inl ⟨rfl, rfl⟩
  · exact Or.inl ⟨rfl, rfl⟩
  · exact Or.inl ⟨rfl, rfl⟩
⟩
theorem lX7_49 : Cond.classLink RX7 49 RX3 ∈ aTB := aTB_at 196 (by decide +kernel) rfl
theorem wX7_49 : aNwk RX7 49 1 9 [some none, none, none, none, none, none, none, none, none] := ⟨RX3, TX3, tyX3, rfl, uX3, tyX3_ok, lX7_49, aTB_at 197 (by decide +kernel) rfl, aTB_at 65 (by decide +kernel) rfl, fun j hj => by
  rcases (show j = 0 ∨ j = 1 ∨ j = 2 ∨ j = 3 ∨ j = 4 ∨ j = 5 ∨ j = 6 ∨ j = 7 ∨ j = 8 by omega) with rfl | rfl | rfl | rfl | rfl | rfl | rfl | rfl | rfl
  · exact Or.inr ⟨rfl, rfl⟩
  · exact Or.inl ⟨rfl, rfl⟩
  · exact Or.inl ⟨rfl, rfl⟩
  · exact Or.inl ⟨rfl, rfl⟩
  · exact Or.inl ⟨rfl, rfl⟩
  · exact Or.inl ⟨rfl, rfl⟩
  · exact Or.inl ⟨rfl, rfl⟩
  · exact Or.inl ⟨rfl, rfl⟩
  · exact Or.inl ⟨rfl, rfl⟩
⟩
theorem lL_10 : Cond.classLink RL 10 RX8 ∈ aTB := aTB_at 537 (by decide +kernel) rfl
theorem wL_10 : aNwk RL 10 6 45 [none, some none, some none, some none, some none, some none, some none, some none, some none, none, some none, some none, some none, some none, some none, none, some none, none, none, none, none, some none, none, none, some none, some none, some none, some none, some none, none, some none, none, some none, none, none, none, none, none, none, none, none, none, some none, some none, some none] := ⟨RX8, TX8, tyX8, rfl, uX8, tyX8_ok, lL_10, aTB_at 538 (by decide +kernel) rfl, aTB_at 66 (by decide +kernel) rfl, fun j hj => by
  rcases (show j = 0 ∨ j = 1 ∨ j = 2 ∨ j = 3 ∨ j = 4 ∨ j = 5 ∨ j = 6 ∨ j = 7 ∨ j = 8 ∨ j = 9 ∨ j = 10 ∨ j = 11 ∨ j = 12 ∨ j = 13 ∨ j = 14 ∨ j = 15 ∨ j = 16 ∨ j = 17 ∨ j = 18 ∨ j = 19 ∨ j = 20 ∨ j = 21 ∨ j = 22 ∨ j = 23 ∨ j = 24 ∨ j = 25 ∨ j = 26 ∨ j = 27 ∨ j = 28 ∨ j = 29 ∨ j = 30 ∨ j = 31 ∨ j = 32 ∨ j = 33 ∨ j = 34 ∨ j = 35 ∨ j = 36 ∨ j = 37 ∨ j = 38 ∨ j = 39 ∨ j = 40 ∨ j = 41 ∨ j = 42 ∨ j = 43 ∨ j = 44 by omega) with rfl | rfl | rfl | rfl | rfl | rfl | rfl | rfl | rfl | rfl | rfl | rfl | rfl | rfl | rfl | rfl | rfl | rfl | rfl | rfl | rfl | rfl | rfl | rfl | rfl | rfl | rfl | rfl | rfl | rfl | rfl | rfl | rfl | rfl | rfl | rfl | rfl | rfl | rfl | rfl | rfl | rfl | rfl | rfl | rfl
  · exact Or.inl ⟨rfl, rfl⟩
  · exact Or.inr ⟨rfl, rfl⟩
  · exact Or.inr ⟨rfl, rfl⟩
  · exact Or.inr ⟨rfl, rfl⟩
  · exact Or.inr ⟨rfl, rfl⟩
  · exact Or.inr ⟨rfl, rfl⟩
  · exact Or.inr ⟨rfl, rfl⟩
  · exact Or.inr ⟨rfl, rfl⟩
  · exact Or.inr ⟨rfl, rfl⟩
  · exact Or.inl ⟨rfl, rfl⟩
  · exact Or.inr ⟨rfl, rfl⟩
  · exact Or.inr ⟨rfl, rfl⟩
  · exact Or.inr ⟨rfl, rfl⟩
  · exact Or.inr ⟨rfl, rfl⟩
  · exact Or.inr ⟨rfl, rfl⟩
  · exact Or.inl ⟨rfl, rfl⟩
  · exact Or.inr ⟨rfl, rfl⟩
  · exact Or.inl ⟨rfl, rfl⟩
  · exact Or.inl ⟨rfl, rfl⟩
  · exact Or.inl ⟨rfl, rfl⟩
  · exact Or.inl ⟨rfl, rfl⟩
  · exact Or.inr ⟨rfl, rfl⟩
  · exact Or.inl ⟨rfl, rfl⟩
  · exact Or.inl ⟨rfl, rfl⟩
  · exact Or.inr ⟨rfl, rfl⟩
  · exact Or.inr ⟨rfl, rfl⟩
  · exact Or.inr ⟨rfl, rfl⟩
  · exact Or.inr ⟨rfl, rfl⟩
  · exact Or.inr ⟨rfl, rfl⟩
  · exact Or.inl ⟨rfl, rfl⟩
  · exact Or.inr ⟨rfl, rfl⟩
  · exact Or.inl ⟨rfl, rfl⟩
  · exact Or.inr ⟨rfl, rfl⟩
  · exact Or.inl ⟨rfl, rfl⟩
  · exact Or.inl ⟨rfl, rfl⟩
  · exact Or.inl ⟨rfl, rfl⟩
  · exact Or.inl ⟨rfl, rfl⟩
  · exact Or.inl ⟨rfl, rfl⟩
  · exact Or.inl ⟨rfl, rfl⟩
  · exact Or.inl ⟨rfl, rfl⟩
  · exact Or.inl ⟨rfl, rfl⟩
  · exact Or.inl ⟨rfl, rfl⟩
  · exact Or.inr ⟨rfl, rfl⟩
  · exact Or.inr ⟨rfl, rfl⟩
  · exact Or.inr ⟨rfl, rfl⟩
⟩
theorem eyX4_allows : Cond.selects RX4 yX4_allows yX4_allows ∈ aTB := aTB_at 0 (by decide +kernel) rfl
theorem eyX4_hasParts : Cond.selects RX4 yX4_hasParts yX4_hasParts ∈ aTB := aTB_at 1 (by decide +kernel) rfl
theorem eyX4_has : Cond.selects RX4 yX4_has yX4_has ∈ aTB := aTB_at 2 (by decide +kernel) rfl
theorem eyX4_add : Cond.selects RX4 yX4_add yX4_add ∈ aTB := aTB_at 3 (by decide +kernel) rfl
theorem eyX4_hasOrNone : Cond.selects RX4 yX4_hasOrNone yX4_hasOrNone ∈ aTB := aTB_at 4 (by decide +kernel) rfl
theorem eyX1_setTypes : Cond.selects RX1 yX1_setTypes yX1_setTypes ∈ aTB := aTB_at 5 (by decide +kernel) rfl
theorem eyX1_setTerms : Cond.selects RX1 yX1_setTerms yX1_setTerms ∈ aTB := aTB_at 6 (by decide +kernel) rfl
theorem eyX7_isProperty : Cond.selects RX7 yX7_isProperty yX7_isProperty ∈ aTB := aTB_at 7 (by decide +kernel) rfl
theorem eyX7_forgetLatest : Cond.selects RX7 yX7_forgetLatest yX7_forgetLatest ∈ aTB := aTB_at 8 (by decide +kernel) rfl
theorem eyX3_clear : Cond.selects RX3 yX3_clear yX3_clear ∈ aTB := aTB_at 9 (by decide +kernel) rfl
theorem eyX5_setWhole : Cond.selects RX5 yX5_setWhole yX5_setWhole ∈ aTB := aTB_at 10 (by decide +kernel) rfl
theorem eyX5_setRow : Cond.selects RX5 yX5_setRow yX5_setRow ∈ aTB := aTB_at 11 (by decide +kernel) rfl
theorem eyX5_setNothing : Cond.selects RX5 yX5_setNothing yX5_setNothing ∈ aTB := aTB_at 12 (by decide +kernel) rfl
theorem eyX7_tryCase : Cond.selects RX7 yX7_tryCase yX7_tryCase ∈ aTB := aTB_at 13 (by decide +kernel) rfl
theorem eyX6_outcome : Cond.selects RX6 yX6_outcome yX6_outcome ∈ aTB := aTB_at 14 (by decide +kernel) rfl
theorem eyX6_work : Cond.selects RX6 yX6_work yX6_work ∈ aTB := aTB_at 15 (by decide +kernel) rfl
theorem eyX6_asWhole : Cond.selects RX6 yX6_asWhole yX6_asWhole ∈ aTB := aTB_at 16 (by decide +kernel) rfl
theorem eyX6_workChosen : Cond.selects RX6 yX6_workChosen yX6_workChosen ∈ aTB := aTB_at 17 (by decide +kernel) rfl
theorem eyX6_comeTo : Cond.selects RX6 yX6_comeTo yX6_comeTo ∈ aTB := aTB_at 18 (by decide +kernel) rfl
theorem eyX5_copy : Cond.selects RX5 yX5_copy yX5_copy ∈ aTB := aTB_at 19 (by decide +kernel) rfl
theorem eyX5_hasPlace : Cond.selects RX5 yX5_hasPlace yX5_hasPlace ∈ aTB := aTB_at 20 (by decide +kernel) rfl
theorem eyX3_countCase : Cond.selects RX3 yX3_countCase yX3_countCase ∈ aTB := aTB_at 21 (by decide +kernel) rfl
theorem eyX6_labelled : Cond.selects RX6 yX6_labelled yX6_labelled ∈ aTB := aTB_at 22 (by decide +kernel) rfl
theorem eyX7_makeSmaller : Cond.selects RX7 yX7_makeSmaller yX7_makeSmaller ∈ aTB := aTB_at 23 (by decide +kernel) rfl
theorem eyX7_takeCandidate : Cond.selects RX7 yX7_takeCandidate yX7_takeCandidate ∈ aTB := aTB_at 24 (by decide +kernel) rfl
theorem eyX5_candidateCount : Cond.selects RX5 yX5_candidateCount yX5_candidateCount ∈ aTB := aTB_at 25 (by decide +kernel) rfl
theorem eyX5_becomeCandidate : Cond.selects RX5 yX5_becomeCandidate yX5_becomeCandidate ∈ aTB := aTB_at 26 (by decide +kernel) rfl
theorem eyX5_dropPlace : Cond.selects RX5 yX5_dropPlace yX5_dropPlace ∈ aTB := aTB_at 27 (by decide +kernel) rfl
theorem eyX5_shrinkAnInt : Cond.selects RX5 yX5_shrinkAnInt yX5_shrinkAnInt ∈ aTB := aTB_at 28 (by decide +kernel) rfl
theorem eyX5_read : Cond.selects RX5 yX5_read yX5_read ∈ aTB := aTB_at 29 (by decide +kernel) rfl
theorem eyX3_read : Cond.selects RX3 yX3_read yX3_read ∈ aTB := aTB_at 30 (by decide +kernel) rfl
theorem eyX8_isTerm : Cond.selects RX8 yX8_isTerm yX8_isTerm ∈ aTB := aTB_at 31 (by decide +kernel) rfl
theorem eyX8_draw : Cond.selects RX8 yX8_draw yX8_draw ∈ aTB := aTB_at 32 (by decide +kernel) rfl
theorem eyX8_isProperty : Cond.selects RX8 yX8_isProperty yX8_isProperty ∈ aTB := aTB_at 33 (by decide +kernel) rfl
theorem eyX8_anew : Cond.selects RX8 yX8_anew yX8_anew ∈ aTB := aTB_at 34 (by decide +kernel) rfl
theorem eyX8_isFailed : Cond.selects RX8 yX8_isFailed yX8_isFailed ∈ aTB := aTB_at 35 (by decide +kernel) rfl
theorem eyX8_outcome : Cond.selects RX8 yX8_outcome yX8_outcome ∈ aTB := aTB_at 36 (by decide +kernel) rfl
theorem eyX8_work : Cond.selects RX8 yX8_work yX8_work ∈ aTB := aTB_at 37 (by decide +kernel) rfl
theorem eyX8_begin : Cond.selects RX8 yX8_begin yX8_begin ∈ aTB := aTB_at 38 (by decide +kernel) rfl
theorem eyX8_nextPart : Cond.selects RX8 yX8_nextPart yX8_nextPart ∈ aTB := aTB_at 39 (by decide +kernel) rfl
theorem eyX8_nextOfChoice : Cond.selects RX8 yX8_nextOfChoice yX8_nextOfChoice ∈ aTB := aTB_at 40 (by decide +kernel) rfl
theorem eyX8_wrong : Cond.selects RX8 yX8_wrong yX8_wrong ∈ aTB := aTB_at 41 (by decide +kernel) rfl
theorem eyX8_end : Cond.selects RX8 yX8_end yX8_end ∈ aTB := aTB_at 42 (by decide +kernel) rfl
theorem eyX8_input : Cond.selects RX8 yX8_input yX8_input ∈ aTB := aTB_at 43 (by decide +kernel) rfl
theorem eyX8_whole : Cond.selects RX8 yX8_whole yX8_whole ∈ aTB := aTB_at 44 (by decide +kernel) rfl
theorem eyX8_numbers : Cond.selects RX8 yX8_numbers yX8_numbers ∈ aTB := aTB_at 45 (by decide +kernel) rfl
theorem eyX8_like : Cond.selects RX8 yX8_like yX8_like ∈ aTB := aTB_at 46 (by decide +kernel) rfl
theorem eyX8_both : Cond.selects RX8 yX8_both yX8_both ∈ aTB := aTB_at 47 (by decide +kernel) rfl
theorem eyX8_rows : Cond.selects RX8 yX8_rows yX8_rows ∈ aTB := aTB_at 48 (by decide +kernel) rfl
theorem eyX8_rowOf : Cond.selects RX8 yX8_rowOf yX8_rowOf ∈ aTB := aTB_at 49 (by decide +kernel) rfl
theorem eyX8_row : Cond.selects RX8 yX8_row yX8_row ∈ aTB := aTB_at 50 (by decide +kernel) rfl
theorem eyX8_ended : Cond.selects RX8 yX8_ended yX8_ended ∈ aTB := aTB_at 51 (by decide +kernel) rfl
theorem eyX8_keep : Cond.selects RX8 yX8_keep yX8_keep ∈ aTB := aTB_at 52 (by decide +kernel) rfl
theorem eyX8_smaller : Cond.selects RX8 yX8_smaller yX8_smaller ∈ aTB := aTB_at 53 (by decide +kernel) rfl
theorem eyX8_candidate : Cond.selects RX8 yX8_candidate yX8_candidate ∈ aTB := aTB_at 54 (by decide +kernel) rfl
theorem eyX8_takeCounter : Cond.selects RX8 yX8_takeCounter yX8_takeCounter ∈ aTB := aTB_at 55 (by decide +kernel) rfl
theorem eyX8_without : Cond.selects RX8 yX8_without yX8_without ∈ aTB := aTB_at 56 (by decide +kernel) rfl
theorem eyX8_all : Cond.selects RX8 yX8_all yX8_all ∈ aTB := aTB_at 57 (by decide +kernel) rfl
theorem eyX8_takeSmall : Cond.selects RX8 yX8_takeSmall yX8_takeSmall ∈ aTB := aTB_at 58 (by decide +kernel) rfl
end
section
section AWN
variable {l : Launch} {K : aK} {Y : aY} {d pc n : Nat} {L : List Value} {E : aE} {M : aM} {Q : Option Value → aE → aM → Prop}
theorem aw_s0 {Z : aY} {idx d1 : Nat} {L0 rest : List Value} (hd : decode Y.2.1 pc = .ok (.invokestatic idx, 3)) (hok : aMd Z 0) (hlk : aLk Y.1.cls idx Z.1) (hstt : Cond.static Z.1 ∈ aTB)  (hle : 0 ≤ Z.2.2.1) (hL : [] ++ List.replicate (Z.2.2.1 - 0) .null = L0) (hn : pc + 3 = n) (hd1 : d1 + 1 ≤ d) (hrest : (rest.map fun v => v.category).sum ≤ 8)
    (kk : aw l K Z d1 0 0 0 L0 [] E M (fun v E' M' => aw l K Y d 0 0 n L (aPush v rest) E' M' Q)) : aw l K Y d 0 0 pc L (rest) E M Q := by
  subst hn
  exact aw_scall (As := []) hd hok hlk hstt rfl (fun v hv => absurd hv List.not_mem_nil) hle hL hd1 hrest kk
theorem aw_v0 {Z : aY} {idx d1 b ci : Nat} {q : vw_C} {fs : List aF} {L0 rest : List Value} (hd : decode Y.2.1 pc = .ok (.invokevirtual idx, 3)) (hok : aMd Z 0) (hlk : aLk Y.1.cls idx Z.1) (hinst : Cond.instanceMethod Z.1 ∈ aTB) (hsel : Cond.selects Z.1.cls Z.1 Z.1 ∈ aTB) (hcl : vwCl[ci]? = some q) (hq : q.1 = Z.1.cls) (hE : E[b]? = some (.inl (ci, fs)))  (hle : 0 + 1 ≤ Z.2.2.1) (hL : .ref b :: [] ++ List.replicate (Z.2.2.1 - (0 + 1)) .null = L0) (hn : pc + 3 = n) (hd1 : d1 + 1 ≤ d) (hrest : (rest.map fun v => v.category).sum ≤ 8)
    (kk : aw l K Z d1 0 0 0 L0 [] E M (fun v E' M' => aw l K Y d 0 0 n L (aPush v rest) E' M' Q)) : aw l K Y d 0 0 pc L (.ref b :: rest) E M Q := by
  subst hn
  exact aw_vcall (As := []) hd hok hlk hinst hsel hcl hq hE rfl (fun v hv => absurd hv List.not_mem_nil) hle hL hd1 hrest kk
theorem aw_s1 {Z : aY} {idx d1 : Nat} {a0 : Value} {L0 rest : List Value} (hd : decode Y.2.1 pc = .ok (.invokestatic idx, 3)) (hok : aMd Z 1) (hlk : aLk Y.1.cls idx Z.1) (hstt : Cond.static Z.1 ∈ aTB) (h0 : a0.category = 1) (hle : 1 ≤ Z.2.2.1) (hL : [a0] ++ List.replicate (Z.2.2.1 - 1) .null = L0) (hn : pc + 3 = n) (hd1 : d1 + 1 ≤ d) (hrest : (rest.map fun v => v.category).sum ≤ 8)
    (kk : aw l K Z d1 0 0 0 L0 [] E M (fun v E' M' => aw l K Y d 0 0 n L (aPush v rest) E' M' Q)) : aw l K Y d 0 0 pc L (a0 :: rest) E M Q := by
  subst hn
  exact aw_scall (As := [a0]) hd hok hlk hstt rfl (fun v hv => by
    rw [List.mem_singleton.mp hv]; exact h0) hle hL hd1 hrest kk
theorem aw_v1 {Z : aY} {idx d1 b ci : Nat} {q : vw_C} {fs : List aF} {a0 : Value} {L0 rest : List Value} (hd : decode Y.2.1 pc = .ok (.invokevirtual idx, 3)) (hok : aMd Z 1) (hlk : aLk Y.1.cls idx Z.1) (hinst : Cond.instanceMethod Z.1 ∈ aTB) (hsel : Cond.selects Z.1.cls Z.1 Z.1 ∈ aTB) (hcl : vwCl[ci]? = some q) (hq : q.1 = Z.1.cls) (hE : E[b]? = some (.inl (ci, fs))) (h0 : a0.category = 1) (hle : 1 + 1 ≤ Z.2.2.1) (hL : .ref b :: [a0] ++ List.replicate (Z.2.2.1 - (1 + 1)) .null = L0) (hn : pc + 3 = n) (hd1 : d1 + 1 ≤ d) (hrest : (rest.map fun v => v.category).sum ≤ 8)
    (kk : aw l K Z d1 0 0 0 L0 [] E M (fun v E' M' => aw l K Y d 0 0 n L (aPush v rest) E' M' Q)) : aw l K Y d 0 0 pc L (a0 :: .ref b :: rest) E M Q := by
  subst hn
  exact aw_vcall (As := [a0]) hd hok hlk hinst hsel hcl hq hE rfl (fun v hv => by
    rw [List.mem_singleton.mp hv]; exact h0) hle hL hd1 hrest kk
theorem aw_s2 {Z : aY} {idx d1 : Nat} {a0 a1 : Value} {L0 rest : List Value} (hd : decode Y.2.1 pc = .ok (.invokestatic idx, 3)) (hok : aMd Z 2) (hlk : aLk Y.1.cls idx Z.1) (hstt : Cond.static Z.1 ∈ aTB) (h0 : a0.category = 1) (h1 : a1.category = 1) (hle : 2 ≤ Z.2.2.1) (hL : [a0, a1] ++ List.replicate (Z.2.2.1 - 2) .null = L0) (hn : pc + 3 = n) (hd1 : d1 + 1 ≤ d) (hrest : (rest.map fun v => v.category).sum ≤ 8)
    (kk : aw l K Z d1 0 0 0 L0 [] E M (fun v E' M' => aw l K Y d 0 0 n L (aPush v rest) E' M' Q)) : aw l K Y d 0 0 pc L (a1 :: a0 :: rest) E M Q := by
  subst hn
  exact aw_scall (As := [a0, a1]) hd hok hlk hstt rfl (fun v hv => by
    simp only [List.mem_cons, List.not_mem_nil, or_false] at hv
    rcases hv with rfl | rfl <;> assumption) hle hL hd1 hrest kk
theorem aw_v2 {Z : aY} {idx d1 b ci : Nat} {q : vw_C} {fs : List aF} {a0 a1 : Value} {L0 rest : List Value} (hd : decode Y.2.1 pc = .ok (.invokevirtual idx, 3)) (hok : aMd Z 2) (hlk : aLk Y.1.cls idx Z.1) (hinst : Cond.instanceMethod Z.1 ∈ aTB) (hsel : Cond.selects Z.1.cls Z.1 Z.1 ∈ aTB) (hcl : vwCl[ci]? = some q) (hq : q.1 = Z.1.cls) (hE : E[b]? = some (.inl (ci, fs))) (h0 : a0.category = 1) (h1 : a1.category = 1) (hle : 2 + 1 ≤ Z.2.2.1) (hL : .ref b :: [a0, a1] ++ List.replicate (Z.2.2.1 - (2 + 1)) .null = L0) (hn : pc + 3 = n) (hd1 : d1 + 1 ≤ d) (hrest : (rest.map fun v => v.category).sum ≤ 8)
    (kk : aw l K Z d1 0 0 0 L0 [] E M (fun v E' M' => aw l K Y d 0 0 n L (aPush v rest) E' M' Q)) : aw l K Y d 0 0 pc L (a1 :: a0 :: .ref b :: rest) E M Q := by
  subst hn
  exact aw_vcall (As := [a0, a1]) hd hok hlk hinst hsel hcl hq hE rfl (fun v hv => by
    simp only [List.mem_cons, List.not_mem_nil, or_false] at hv
    rcases hv with rfl | rfl <;> assumption) hle hL hd1 hrest kk
theorem aw_s3 {Z : aY} {idx d1 : Nat} {a0 a1 a2 : Value} {L0 rest : List Value} (hd : decode Y.2.1 pc = .ok (.invokestatic idx, 3)) (hok : aMd Z 3) (hlk : aLk Y.1.cls idx Z.1) (hstt : Cond.static Z.1 ∈ aTB) (h0 : a0.category = 1) (h1 : a1.category = 1) (h2 : a2.category = 1) (hle : 3 ≤ Z.2.2.1) (hL : [a0, a1, a2] ++ List.replicate (Z.2.2.1 - 3) .null = L0) (hn : pc + 3 = n) (hd1 : d1 + 1 ≤ d) (hrest : (rest.map fun v => v.category).sum ≤ 8)
    (kk : aw l K Z d1 0 0 0 L0 [] E M (fun v E' M' => aw l K Y d 0 0 n L (aPush v rest) E' M' Q)) : aw l K Y d 0 0 pc L (a2 :: a1 :: a0 :: rest) E M Q := by
  subst hn
  exact aw_scall (As := [a0, a1, a2]) hd hok hlk hstt rfl (fun v hv => by
    simp only [List.mem_cons, List.not_mem_nil, or_false] at hv
    rcases hv with rfl | rfl | rfl <;> assumption) hle hL hd1 hrest kk
theorem aw_v3 {Z : aY} {idx d1 b ci : Nat} {q : vw_C} {fs : List aF} {a0 a1 a2 : Value} {L0 rest : List Value} (hd : decode Y.2.1 pc = .ok (.invokevirtual idx, 3)) (hok : aMd Z 3) (hlk : aLk Y.1.cls idx Z.1) (hinst : Cond.instanceMethod Z.1 ∈ aTB) (hsel : Cond.selects Z.1.cls Z.1 Z.1 ∈ aTB) (hcl : vwCl[ci]? = some q) (hq : q.1 = Z.1.cls) (hE : E[b]? = some (.inl (ci, fs))) (h0 : a0.category = 1) (h1 : a1.category = 1) (h2 : a2.category = 1) (hle : 3 + 1 ≤ Z.2.2.1) (hL : .ref b :: [a0, a1, a2] ++ List.replicate (Z.2.2.1 - (3 + 1)) .null = L0) (hn : pc + 3 = n) (hd1 : d1 + 1 ≤ d) (hrest : (rest.map fun v => v.category).sum ≤ 8)
    (kk : aw l K Z d1 0 0 0 L0 [] E M (fun v E' M' => aw l K Y d 0 0 n L (aPush v rest) E' M' Q)) : aw l K Y d 0 0 pc L (a2 :: a1 :: a0 :: .ref b :: rest) E M Q := by
  subst hn
  exact aw_vcall (As := [a0, a1, a2]) hd hok hlk hinst hsel hcl hq hE rfl (fun v hv => by
    simp only [List.mem_cons, List.not_mem_nil, or_false] at hv
    rcases hv with rfl | rfl | rfl <;> assumption) hle hL hd1 hrest kk
theorem aw_s4 {Z : aY} {idx d1 : Nat} {a0 a1 a2 a3 : Value} {L0 rest : List Value} (hd : decode Y.2.1 pc = .ok (.invokestatic idx, 3)) (hok : aMd Z 4) (hlk : aLk Y.1.cls idx Z.1) (hstt : Cond.static Z.1 ∈ aTB) (h0 : a0.category = 1) (h1 : a1.category = 1) (h2 : a2.category = 1) (h3 : a3.category = 1) (hle : 4 ≤ Z.2.2.1) (hL : [a0, a1, a2, a3] ++ List.replicate (Z.2.2.1 - 4) .null = L0) (hn : pc + 3 = n) (hd1 : d1 + 1 ≤ d) (hrest : (rest.map fun v => v.category).sum ≤ 8)
    (kk : aw l K Z d1 0 0 0 L0 [] E M (fun v E' M' => aw l K Y d 0 0 n L (aPush v rest) E' M' Q)) : aw l K Y d 0 0 pc L (a3 :: a2 :: a1 :: a0 :: rest) E M Q := by
  subst hn
  exact aw_scall (As := [a0, a1, a2, a3]) hd hok hlk hstt rfl (fun v hv => by
    simp only [List.mem_cons, List.not_mem_nil, or_false] at hv
    rcases hv with rfl | rfl | rfl | rfl <;> assumption) hle hL hd1 hrest kk
theorem aw_v4 {Z : aY} {idx d1 b ci : Nat} {q : vw_C} {fs : List aF} {a0 a1 a2 a3 : Value} {L0 rest : List Value} (hd : decode Y.2.1 pc = .ok (.invokevirtual idx, 3)) (hok : aMd Z 4) (hlk : aLk Y.1.cls idx Z.1) (hinst : Cond.instanceMethod Z.1 ∈ aTB) (hsel : Cond.selects Z.1.cls Z.1 Z.1 ∈ aTB) (hcl : vwCl[ci]? = some q) (hq : q.1 = Z.1.cls) (hE : E[b]? = some (.inl (ci, fs))) (h0 : a0.category = 1) (h1 : a1.category = 1) (h2 : a2.category = 1) (h3 : a3.category = 1) (hle : 4 + 1 ≤ Z.2.2.1) (hL : .ref b :: [a0, a1, a2, a3] ++ List.replicate (Z.2.2.1 - (4 + 1)) .null = L0) (hn : pc + 3 = n) (hd1 : d1 + 1 ≤ d) (hrest : (rest.map fun v => v.category).sum ≤ 8)
    (kk : aw l K Z d1 0 0 0 L0 [] E M (fun v E' M' => aw l K Y d 0 0 n L (aPush v rest) E' M' Q)) : aw l K Y d 0 0 pc L (a3 :: a2 :: a1 :: a0 :: .ref b :: rest) E M Q := by
  subst hn
  exact aw_vcall (As := [a0, a1, a2, a3]) hd hok hlk hinst hsel hcl hq hE rfl (fun v hv => by
    simp only [List.mem_cons, List.not_mem_nil, or_false] at hv
    rcases hv with rfl | rfl | rfl | rfl <;> assumption) hle hL hd1 hrest kk
theorem aw_s5 {Z : aY} {idx d1 : Nat} {a0 a1 a2 a3 a4 : Value} {L0 rest : List Value} (hd : decode Y.2.1 pc = .ok (.invokestatic idx, 3)) (hok : aMd Z 5) (hlk : aLk Y.1.cls idx Z.1) (hstt : Cond.static Z.1 ∈ aTB) (h0 : a0.category = 1) (h1 : a1.category = 1) (h2 : a2.category = 1) (h3 : a3.category = 1) (h4 : a4.category = 1) (hle : 5 ≤ Z.2.2.1) (hL : [a0, a1, a2, a3, a4] ++ List.replicate (Z.2.2.1 - 5) .null = L0) (hn : pc + 3 = n) (hd1 : d1 + 1 ≤ d) (hrest : (rest.map fun v => v.category).sum ≤ 8)
    (kk : aw l K Z d1 0 0 0 L0 [] E M (fun v E' M' => aw l K Y d 0 0 n L (aPush v rest) E' M' Q)) : aw l K Y d 0 0 pc L (a4 :: a3 :: a2 :: a1 :: a0 :: rest) E M Q := by
  subst hn
  exact aw_scall (As := [a0, a1, a2, a3, a4]) hd hok hlk hstt rfl (fun v hv => by
    simp only [List.mem_cons, List.not_mem_nil, or_false] at hv
    rcases hv with rfl | rfl | rfl | rfl | rfl <;> assumption) hle hL hd1 hrest kk
theorem aw_v5 {Z : aY} {idx d1 b ci : Nat} {q : vw_C} {fs : List aF} {a0 a1 a2 a3 a4 : Value} {L0 rest : List Value} (hd : decode Y.2.1 pc = .ok (.invokevirtual idx, 3)) (hok : aMd Z 5) (hlk : aLk Y.1.cls idx Z.1) (hinst : Cond.instanceMethod Z.1 ∈ aTB) (hsel : Cond.selects Z.1.cls Z.1 Z.1 ∈ aTB) (hcl : vwCl[ci]? = some q) (hq : q.1 = Z.1.cls) (hE : E[b]? = some (.inl (ci, fs))) (h0 : a0.category = 1) (h1 : a1.category = 1) (h2 : a2.category = 1) (h3 : a3.category = 1) (h4 : a4.category = 1) (hle : 5 + 1 ≤ Z.2.2.1) (hL : .ref b :: [a0, a1, a2, a3, a4] ++ List.replicate (Z.2.2.1 - (5 + 1)) .null = L0) (hn : pc + 3 = n) (hd1 : d1 + 1 ≤ d) (hrest : (rest.map fun v => v.category).sum ≤ 8)
    (kk : aw l K Z d1 0 0 0 L0 [] E M (fun v E' M' => aw l K Y d 0 0 n L (aPush v rest) E' M' Q)) : aw l K Y d 0 0 pc L (a4 :: a3 :: a2 :: a1 :: a0 :: .ref b :: rest) E M Q := by
  subst hn
  exact aw_vcall (As := [a0, a1, a2, a3, a4]) hd hok hlk hinst hsel hcl hq hE rfl (fun v hv => by
    simp only [List.mem_cons, List.not_mem_nil, or_false] at hv
    rcases hv with rfl | rfl | rfl | rfl | rfl <;> assumption) hle hL hd1 hrest kk
theorem aw_s6 {Z : aY} {idx d1 : Nat} {a0 a1 a2 a3 a4 a5 : Value} {L0 rest : List Value} (hd : decode Y.2.1 pc = .ok (.invokestatic idx, 3)) (hok : aMd Z 6) (hlk : aLk Y.1.cls idx Z.1) (hstt : Cond.static Z.1 ∈ aTB) (h0 : a0.category = 1) (h1 : a1.category = 1) (h2 : a2.category = 1) (h3 : a3.category = 1) (h4 : a4.category = 1) (h5 : a5.category = 1) (hle : 6 ≤ Z.2.2.1) (hL : [a0, a1, a2, a3, a4, a5] ++ List.replicate (Z.2.2.1 - 6) .null = L0) (hn : pc + 3 = n) (hd1 : d1 + 1 ≤ d) (hrest : (rest.map fun v => v.category).sum ≤ 8)
    (kk : aw l K Z d1 0 0 0 L0 [] E M (fun v E' M' => aw l K Y d 0 0 n L (aPush v rest) E' M' Q)) : aw l K Y d 0 0 pc L (a5 :: a4 :: a3 :: a2 :: a1 :: a0 :: rest) E M Q := by
  subst hn
  exact aw_scall (As := [a0, a1, a2, a3, a4, a5]) hd hok hlk hstt rfl (fun v hv => by
    simp only [List.mem_cons, List.not_mem_nil, or_false] at hv
    rcases hv with rfl | rfl | rfl | rfl | rfl | rfl <;> assumption) hle hL hd1 hrest kk
theorem aw_v6 {Z : aY} {idx d1 b ci : Nat} {q : vw_C} {fs : List aF} {a0 a1 a2 a3 a4 a5 : Value} {L0 rest : List Value} (hd : decode Y.2.1 pc = .ok (.invokevirtual idx, 3)) (hok : aMd Z 6) (hlk : aLk Y.1.cls idx Z.1) (hinst : Cond.instanceMethod Z.1 ∈ aTB) (hsel : Cond.selects Z.1.cls Z.1 Z.1 ∈ aTB) (hcl : vwCl[ci]? = some q) (hq : q.1 = Z.1.cls) (hE : E[b]? = some (.inl (ci, fs))) (h0 : a0.category = 1) (h1 : a1.category = 1) (h2 : a2.category = 1) (h3 : a3.category = 1) (h4 : a4.category = 1) (h5 : a5.category = 1) (hle : 6 + 1 ≤ Z.2.2.1) (hL : .ref b :: [a0, a1, a2, a3, a4, a5] ++ List.replicate (Z.2.2.1 - (6 + 1)) .null = L0) (hn : pc + 3 = n) (hd1 : d1 + 1 ≤ d) (hrest : (rest.map fun v => v.category).sum ≤ 8)
    (kk : aw l K Z d1 0 0 0 L0 [] E M (fun v E' M' => aw l K Y d 0 0 n L (aPush v rest) E' M' Q)) : aw l K Y d 0 0 pc L (a5 :: a4 :: a3 :: a2 :: a1 :: a0 :: .ref b :: rest) E M Q := by
  subst hn
  exact aw_vcall (As := [a0, a1, a2, a3, a4, a5]) hd hok hlk hinst hsel hcl hq hE rfl (fun v hv => by
    simp only [List.mem_cons, List.not_mem_nil, or_false] at hv
    rcases hv with rfl | rfl | rfl | rfl | rfl | rfl <;> assumption) hle hL hd1 hrest kk
theorem aw_s7 {Z : aY} {idx d1 : Nat} {a0 a1 a2 a3 a4 a5 a6 : Value} {L0 rest : List Value} (hd : decode Y.2.1 pc = .ok (.invokestatic idx, 3)) (hok : aMd Z 7) (hlk : aLk Y.1.cls idx Z.1) (hstt : Cond.static Z.1 ∈ aTB) (h0 : a0.category = 1) (h1 : a1.category = 1) (h2 : a2.category = 1) (h3 : a3.category = 1) (h4 : a4.category = 1) (h5 : a5.category = 1) (h6 : a6.category = 1) (hle : 7 ≤ Z.2.2.1) (hL : [a0, a1, a2, a3, a4, a5, a6] ++ List.replicate (Z.2.2.1 - 7) .null = L0) (hn : pc + 3 = n) (hd1 : d1 + 1 ≤ d) (hrest : (rest.map fun v => v.category).sum ≤ 8)
    (kk : aw l K Z d1 0 0 0 L0 [] E M (fun v E' M' => aw l K Y d 0 0 n L (aPush v rest) E' M' Q)) : aw l K Y d 0 0 pc L (a6 :: a5 :: a4 :: a3 :: a2 :: a1 :: a0 :: rest) E M Q := by
  subst hn
  exact aw_scall (As := [a0, a1, a2, a3, a4, a5, a6]) hd hok hlk hstt rfl (fun v hv => by
    simp only [List.mem_cons, List.not_mem_nil, or_false] at hv
    rcases hv with rfl | rfl | rfl | rfl | rfl | rfl | rfl <;> assumption) hle hL hd1 hrest kk
theorem aw_v7 {Z : aY} {idx d1 b ci : Nat} {q : vw_C} {fs : List aF} {a0 a1 a2 a3 a4 a5 a6 : Value} {L0 rest : List Value} (hd : decode Y.2.1 pc = .ok (.invokevirtual idx, 3)) (hok : aMd Z 7) (hlk : aLk Y.1.cls idx Z.1) (hinst : Cond.instanceMethod Z.1 ∈ aTB) (hsel : Cond.selects Z.1.cls Z.1 Z.1 ∈ aTB) (hcl : vwCl[ci]? = some q) (hq : q.1 = Z.1.cls) (hE : E[b]? = some (.inl (ci, fs))) (h0 : a0.category = 1) (h1 : a1.category = 1) (h2 : a2.category = 1) (h3 : a3.category = 1) (h4 : a4.category = 1) (h5 : a5.category = 1) (h6 : a6.category = 1) (hle : 7 + 1 ≤ Z.2.2.1) (hL : .ref b :: [a0, a1, a2, a3, a4, a5, a6] ++ List.replicate (Z.2.2.1 - (7 + 1)) .null = L0) (hn : pc + 3 = n) (hd1 : d1 + 1 ≤ d) (hrest : (rest.map fun v => v.category).sum ≤ 8)
    (kk : aw l K Z d1 0 0 0 L0 [] E M (fun v E' M' => aw l K Y d 0 0 n L (aPush v rest) E' M' Q)) : aw l K Y d 0 0 pc L (a6 :: a5 :: a4 :: a3 :: a2 :: a1 :: a0 :: .ref b :: rest) E M Q := by
  subst hn
  exact aw_vcall (As := [a0, a1, a2, a3, a4, a5, a6]) hd hok hlk hinst hsel hcl hq hE rfl (fun v hv => by
    simp only [List.mem_cons, List.not_mem_nil, or_false] at hv
    rcases hv with rfl | rfl | rfl | rfl | rfl | rfl | rfl <;> assumption) hle hL hd1 hrest kk
theorem aw_incp {kc ks : Nat} {st : List Value} {i : Nat} {x : Int32} {L' : List Value} (hd : decode Y.2.1 pc = .ok (.iinc i 1, 3)) (hx : L[i]? = some (.int x)) (hL : L.set i (.int (x + 1)) = L') (hn : pc + 3 = n) (k : aw l K Y d kc ks n L' st E M Q) : aw l K Y d kc ks pc L st E M Q := aw_iinc hd hx rfl hL hn k
theorem aw_incm {kc ks : Nat} {st : List Value} {i : Nat} {x : Int32} {L' : List Value} (hd : decode Y.2.1 pc = .ok (.iinc i (-1), 3)) (hx : L[i]? = some (.int x)) (hL : L.set i (.int (x + -1)) = L') (hn : pc + 3 = n) (k : aw l K Y d kc ks n L' st E M Q) : aw l K Y d kc ks pc L st E M Q := aw_iinc hd hx rfl hL hn k
end AWN
end
section
/-! the cells behind the two constructors: the class 0 to 163, the reference 164 to 189 -/
def EE : aE := [.inl (5, [some (some 1), some (some 2), some (some 8), some (some 136), some (some 143), some (some 145), some (some 162), none, none]),
  .inl (4, [some (some 2), some (some 8), some (some 15), none, none]),
  .inl (2, [some (some 3), some (some 4), some (some 5), some (some 6), some (some 7), none]),
  .inr (.inl 60),
  .inr (.inl 60),
  .inr (.inl 60),
  .inr (.inl 60),
  .inr (.inl 60),
  .inr (.inr (0, [some 9, some 11, some 13])),
  .inl (3, [none, none, none, some (some 10)]),
  .inr (.inl 16),
  .inl (3, [none, none, none, some (some 12)]),
  .inr (.inl 16),
  .inl (3, [none, none, none, some (some 14)]),
  .inr (.inl 16),
  .inr (.inr (0, [some 16, some 18, some 20, some 22, some 24, some 26, some 28, some 30, some 32, some 34, some 36, some 38, some 40, some 42, some 44, some 46, some 48, some 50, some 52, some 54, some 56, some 58, some 60, some 62, some 64, some 66, some 68, some 70, some 72, some 74, some 76, some 78, some 80, some 82, some 84, some 86, some 88, some 90, some 92, some 94, some 96, some 98, some 100, some 102, some 104, some 106, some 108, some 110, some 112, some 114, some 116, some 118, some 120, some 122, some 124, some 126, some 128, some 130, some 132, some 134])),
  .inl (3, [none, none, none, some (some 17)]),
  .inr (.inl 16),
  .inl (3, [none, none, none, some (some 19)]),
  .inr (.inl 16),
  .inl (3, [none, none, none, some (some 21)]),
  .inr (.inl 16),
  .inl (3, [none, none, none, some (some 23)]),
  .inr (.inl 16),
  .inl (3, [none, none, none, some (some 25)]),
  .inr (.inl 16),
  .inl (3, [none, none, none, some (some 27)]),
  .inr (.inl 16),
  .inl (3, [none, none, none, some (some 29)]),
  .inr (.inl 16),
  .inl (3, [none, none, none, some (some 31)]),
  .inr (.inl 16),
  .inl (3, [none, none, none, some (some 33)]),
  .inr (.inl 16),
  .inl (3, [none, none, none, some (some 35)]),
  .inr (.inl 16),
  .inl (3, [none, none, none, some (some 37)]),
  .inr (.inl 16),
  .inl (3, [none, none, none, some (some 39)]),
  .inr (.inl 16),
  .inl (3, [none, none, none, some (some 41)]),
  .inr (.inl 16),
  .inl (3, [none, none, none, some (some 43)]),
  .inr (.inl 16),
  .inl (3, [none, none, none, some (some 45)]),
  .inr (.inl 16),
  .inl (3, [none, none, none, some (some 47)]),
  .inr (.inl 16),
  .inl (3, [none, none, none, some (some 49)]),
  .inr (.inl 16),
  .inl (3, [none, none, none, some (some 51)]),
  .inr (.inl 16),
  .inl (3, [none, none, none, some (some 53)]),
  .inr (.inl 16),
  .inl (3, [none, none, none, some (some 55)]),
  .inr (.inl 16),
  .inl (3, [none, none, none, some (some 57)]),
  .inr (.inl 16),
  .inl (3, [none, none, none, some (some 59)]),
  .inr (.inl 16),
  .inl (3, [none, none, none, some (some 61)]),
  .inr (.inl 16),
  .inl (3, [none, none, none, some (some 63)]),
  .inr (.inl 16),
  .inl (3, [none, none, none, some (some 65)]),
  .inr (.inl 16),
  .inl (3, [none, none, none, some (some 67)]),
  .inr (.inl 16),
  .inl (3, [none, none, none, some (some 69)]),
  .inr (.inl 16),
  .inl (3, [none, none, none, some (some 71)]),
  .inr (.inl 16),
  .inl (3, [none, none, none, some (some 73)]),
  .inr (.inl 16),
  .inl (3, [none, none, none, some (some 75)]),
  .inr (.inl 16),
  .inl (3, [none, none, none, some (some 77)]),
  .inr (.inl 16),
  .inl (3, [none, none, none, some (some 79)]),
  .inr (.inl 16),
  .inl (3, [none, none, none, some (some 81)]),
  .inr (.inl 16),
  .inl (3, [none, none, none, some (some 83)]),
  .inr (.inl 16),
  .inl (3, [none, none, none, some (some 85)]),
  .inr (.inl 16),
  .inl (3, [none, none, none, some (some 87)]),
  .inr (.inl 16),
  .inl (3, [none, none, none, some (some 89)]),
  .inr (.inl 16),
  .inl (3, [none, none, none, some (some 91)]),
  .inr (.inl 16),
  .inl (3, [none, none, none, some (some 93)]),
  .inr (.inl 16),
  .inl (3, [none, none, none, some (some 95)]),
  .inr (.inl 16),
  .inl (3, [none, none, none, some (some 97)]),
  .inr (.inl 16),
  .inl (3, [none, none, none, some (some 99)]),
  .inr (.inl 16),
  .inl (3, [none, none, none, some (some 101)]),
  .inr (.inl 16),
  .inl (3, [none, none, none, some (some 103)]),
  .inr (.inl 16),
  .inl (3, [none, none, none, some (some 105)]),
  .inr (.inl 16),
  .inl (3, [none, none, none, some (some 107)]),
  .inr (.inl 16),
  .inl (3, [none, none, none, some (some 109)]),
  .inr (.inl 16),
  .inl (3, [none, none, none, some (some 111)]),
  .inr (.inl 16),
  .inl (3, [none, none, none, some (some 113)]),
  .inr (.inl 16),
  .inl (3, [none, none, none, some (some 115)]),
  .inr (.inl 16),
  .inl (3, [none, none, none, some (some 117)]),
  .inr (.inl 16),
  .inl (3, [none, none, none, some (some 119)]),
  .inr (.inl 16),
  .inl (3, [none, none, none, some (some 121)]),
  .inr (.inl 16),
  .inl (3, [none, none, none, some (some 123)]),
  .inr (.inl 16),
  .inl (3, [none, none, none, some (some 125)]),
  .inr (.inl 16),
  .inl (3, [none, none, none, some (some 127)]),
  .inr (.inl 16),
  .inl (3, [none, none, none, some (some 129)]),
  .inr (.inl 16),
  .inl (3, [none, none, none, some (some 131)]),
  .inr (.inl 16),
  .inl (3, [none, none, none, some (some 133)]),
  .inr (.inl 16),
  .inl (3, [none, none, none, some (some 135)]),
  .inr (.inl 16),
  .inr (.inr (0, [some 137, some 139, some 141])),
  .inl (3, [none, none, none, some (some 138)]),
  .inr (.inl 16),
  .inl (3, [none, none, none, some (some 140)]),
  .inr (.inl 16),
  .inl (3, [none, none, none, some (some 142)]),
  .inr (.inl 16),
  .inl (3, [none, none, none, some (some 144)]),
  .inr (.inl 16),
  .inr (.inr (1, [some 146, some 148, some 150, some 152, some 154, some 156, some 158, some 160])),
  .inl (0, [some (some 147), none, none, none, none]),
  .inr (.inl 3),
  .inl (0, [some (some 149), none, none, none, none]),
  .inr (.inl 3),
  .inl (0, [some (some 151), none, none, none, none]),
  .inr (.inl 3),
  .inl (0, [some (some 153), none, none, none, none]),
  .inr (.inl 3),
  .inl (0, [some (some 155), none, none, none, none]),
  .inr (.inl 3),
  .inl (0, [some (some 157), none, none, none, none]),
  .inr (.inl 3),
  .inl (0, [some (some 159), none, none, none, none]),
  .inr (.inl 3),
  .inl (0, [some (some 161), none, none, none, none]),
  .inr (.inl 3),
  .inl (1, [some (some 163), none, none, none, none, none, none, none, none]),
  .inr (.inl 9),
  .inl (6, [none, some (some 165), some (some 166), some (some 167), some (some 168), some (some 169), some (some 170), some (some 171), some (some 172), none, some (some 173), some (some 174), some (some 175), some (some 176), some (some 177), none, some (some 178), none, none, none, none, some (some 179), none, none, some (some 180), some (some 181), some (some 182), some (some 183), some (some 184), none, some (some 185), none, some (some 186), none, none, none, none, none, none, none, none, none, some (some 187), some (some 188), some (some 189)]),
  .inr (.inl 60),
  .inr (.inl 60),
  .inr (.inl 60),
  .inr (.inl 60),
  .inr (.inl 60),
  .inr (.inl 3),
  .inr (.inl 3),
  .inr (.inl 48),
  .inr (.inl 61),
  .inr (.inl 61),
  .inr (.inl 183),
  .inr (.inl 183),
  .inr (.inl 183),
  .inr (.inl 1024),
  .inr (.inl 16),
  .inr (.inl 24),
  .inr (.inl 8),
  .inr (.inl 8),
  .inr (.inl 8),
  .inr (.inl 8),
  .inr (.inl 9),
  .inr (.inl 16),
  .inr (.inl 3),
  .inr (.inl 3),
  .inr (.inl 48)]
theorem EE_len : EE.length = 190 := by decide +kernel
theorem E_0 : EE[0]? = some (.inl (5, [some (some 1), some (some 2), some (some 8), some (some 136), some (some 143), some (some 145), some (some 162), none, none])) := rfl
theorem E_1 : EE[1]? = some (.inl (4, [some (some 2), some (some 8), some (some 15), none, none])) := rfl
theorem E_2 : EE[2]? = some (.inl (2, [some (some 3), some (some 4), some (some 5), some (some 6), some (some 7), none])) := rfl
theorem E_3 : EE[3]? = some (.inr (.inl 60)) := rfl
theorem E_4 : EE[4]? = some (.inr (.inl 60)) := rfl
theorem E_5 : EE[5]? = some (.inr (.inl 60)) := rfl
theorem E_6 : EE[6]? = some (.inr (.inl 60)) := rfl
theorem E_7 : EE[7]? = some (.inr (.inl 60)) := rfl
theorem E_8 : EE[8]? = some (.inr (.inr (0, [some 9, some 11, some 13]))) := rfl
theorem E_15 : EE[15]? = some (.inr (.inr (0, [some 16, some 18, some 20, some 22, some 24, some 26, some 28, some 30, some 32, some 34, some 36, some 38, some 40, some 42, some 44, some 46, some 48, some 50, some 52, some 54, some 56, some 58, some 60, some 62, some 64, some 66, some 68, some 70, some 72, some 74, some 76, some 78, some 80, some 82, some 84, some 86, some 88, some 90, some 92, some 94, some 96, some 98, some 100, some 102, some 104, some 106, some 108, some 110, some 112, some 114, some 116, some 118, some 120, some 122, some 124, some 126, some 128, some 130, some 132, some 134]))) := rfl
theorem E_136 : EE[136]? = some (.inr (.inr (0, [some 137, some 139, some 141]))) := rfl
theorem E_145 : EE[145]? = some (.inr (.inr (1, [some 146, some 148, some 150, some 152, some 154, some 156, some 158, some 160]))) := rfl
theorem E_162 : EE[162]? = some (.inl (1, [some (some 163), none, none, none, none, none, none, none, none])) := rfl
theorem E_163 : EE[163]? = some (.inr (.inl 9)) := rfl
theorem E_164 : EE[164]? = some (.inl (6, [none, some (some 165), some (some 166), some (some 167), some (some 168), some (some 169), some (some 170), some (some 171), some (some 172), none, some (some 173), some (some 174), some (some 175), some (some 176), some (some 177), none, some (some 178), none, none, none, none, some (some 179), none, none, some (some 180), some (some 181), some (some 182), some (some 183), some (some 184), none, some (some 185), none, some (some 186), none, none, none, none, none, none, none, none, none, some (some 187), some (some 188), some (some 189)])) := rfl
theorem E_165 : EE[165]? = some (.inr (.inl 60)) := rfl
theorem E_166 : EE[166]? = some (.inr (.inl 60)) := rfl
theorem E_167 : EE[167]? = some (.inr (.inl 60)) := rfl
theorem E_168 : EE[168]? = some (.inr (.inl 60)) := rfl
theorem E_169 : EE[169]? = some (.inr (.inl 60)) := rfl
theorem E_170 : EE[170]? = some (.inr (.inl 3)) := rfl
theorem E_171 : EE[171]? = some (.inr (.inl 3)) := rfl
theorem E_172 : EE[172]? = some (.inr (.inl 48)) := rfl
theorem E_173 : EE[173]? = some (.inr (.inl 61)) := rfl
theorem E_174 : EE[174]? = some (.inr (.inl 61)) := rfl
theorem E_175 : EE[175]? = some (.inr (.inl 183)) := rfl
theorem E_176 : EE[176]? = some (.inr (.inl 183)) := rfl
theorem E_177 : EE[177]? = some (.inr (.inl 183)) := rfl
theorem E_178 : EE[178]? = some (.inr (.inl 1024)) := rfl
theorem E_179 : EE[179]? = some (.inr (.inl 16)) := rfl
theorem E_180 : EE[180]? = some (.inr (.inl 24)) := rfl
theorem E_181 : EE[181]? = some (.inr (.inl 8)) := rfl
theorem E_182 : EE[182]? = some (.inr (.inl 8)) := rfl
theorem E_183 : EE[183]? = some (.inr (.inl 8)) := rfl
theorem E_184 : EE[184]? = some (.inr (.inl 8)) := rfl
theorem E_185 : EE[185]? = some (.inr (.inl 9)) := rfl
theorem E_186 : EE[186]? = some (.inr (.inl 16)) := rfl
theorem E_187 : EE[187]? = some (.inr (.inl 3)) := rfl
theorem E_188 : EE[188]? = some (.inr (.inl 3)) := rfl
theorem E_189 : EE[189]? = some (.inr (.inl 48)) := rfl
abbrev iV (a : Nat) : Prop := EE[a]? = some (.inl (3, [none, none, none, some (some (a + 1))])) ∧ EE[a + 1]? = some (.inr (.inl 16))
abbrev iP (a : Nat) : Prop := EE[a]? = some (.inl (0, [some (some (a + 1)), none, none, none, none])) ∧ EE[a + 1]? = some (.inr (.inl 3))
theorem iV_in1 : ∀ i, i < 3 → EE[9 + 2 * i]? = some (.inl (3, [none, none, none, some (some (9 + 2 * i + 1))]))
  | 0, _ => rfl
  | 1, _ => rfl
  | 2, _ => rfl
  | n + 3, h => absurd h (by omega)
theorem iV_in2 : ∀ i, i < 3 → EE[9 + 2 * i + 1]? = some (.inr (.inl 16))
  | 0, _ => rfl
  | 1, _ => rfl
  | 2, _ => rfl
  | n + 3, h => absurd h (by omega)
theorem iV_in : ∀ i, i < 3 → iV (9 + 2 * i) := fun i h => ⟨iV_in1 i h, iV_in2 i h⟩
theorem iV_st1 : ∀ i, i < 60 → EE[16 + 2 * i]? = some (.inl (3, [none, none, none, some (some (16 + 2 * i + 1))]))
  | 0, _ => rfl
  | 1, _ => rfl
  | 2, _ => rfl
  | 3, _ => rfl
  | 4, _ => rfl
  | 5, _ => rfl
  | 6, _ => rfl
  | 7, _ => rfl
  | 8, _ => rfl
  | 9, _ => rfl
  | 10, _ => rfl
  | 11, _ => rfl
  | 12, _ => rfl
  | 13, _ => rfl
  | 14, _ => rfl
  | 15, _ => rfl
  | 16, _ => rfl
  | 17, _ => rfl
  | 18, _ => rfl
  | 19, _ => rfl
  | 20, _ => rfl
  | 21, _ => rfl
  | 22, _ => rfl
  | 23, _ => rfl
  | 24, _ => rfl
  | 25, _ => rfl
  | 26, _ => rfl
  | 27, _ => rfl
  | 28, _ => rfl
  | 29, _ => rfl
  | 30, _ => rfl
  | 31, _ => rfl
  | 32, _ => rfl
  | 33, _ => rfl
  | 34, _ => rfl
  | 35, _ => rfl
  | 36, _ => rfl
  | 37, _ => rfl
  | 38, _ => rfl
  | 39, _ => rfl
  | 40, _ => rfl
  | 41, _ => rfl
  | 42, _ => rfl
  | 43, _ => rfl
  | 44, _ => rfl
  | 45, _ => rfl
  | 46, _ => rfl
  | 47, _ => rfl
  | 48, _ => rfl
  | 49, _ => rfl
  | 50, _ => rfl
  | 51, _ => rfl
  | 52, _ => rfl
  | 53, _ => rfl
  | 54, _ => rfl
  | 55, _ => rfl
  | 56, _ => rfl
  | 57, _ => rfl
  | 58, _ => rfl
  | 59, _ => rfl
  | n + 60, h => absurd h (by omega)
theorem iV_st2 : ∀ i, i < 60 → EE[16 + 2 * i + 1]? = some (.inr (.inl 16))
  | 0, _ => rfl
  | 1, _ => rfl
  | 2, _ => rfl
  | 3, _ => rfl
  | 4, _ => rfl
  | 5, _ => rfl
  | 6, _ => rfl
  | 7, _ => rfl
  | 8, _ => rfl
  | 9, _ => rfl
  | 10, _ => rfl
  | 11, _ => rfl
  | 12, _ => rfl
  | 13, _ => rfl
  | 14, _ => rfl
  | 15, _ => rfl
  | 16, _ => rfl
  | 17, _ => rfl
  | 18, _ => rfl
  | 19, _ => rfl
  | 20, _ => rfl
  | 21, _ => rfl
  | 22, _ => rfl
  | 23, _ => rfl
  | 24, _ => rfl
  | 25, _ => rfl
  | 26, _ => rfl
  | 27, _ => rfl
  | 28, _ => rfl
  | 29, _ => rfl
  | 30, _ => rfl
  | 31, _ => rfl
  | 32, _ => rfl
  | 33, _ => rfl
  | 34, _ => rfl
  | 35, _ => rfl
  | 36, _ => rfl
  | 37, _ => rfl
  | 38, _ => rfl
  | 39, _ => rfl
  | 40, _ => rfl
  | 41, _ => rfl
  | 42, _ => rfl
  | 43, _ => rfl
  | 44, _ => rfl
  | 45, _ => rfl
  | 46, _ => rfl
  | 47, _ => rfl
  | 48, _ => rfl
  | 49, _ => rfl
  | 50, _ => rfl
  | 51, _ => rfl
  | 52, _ => rfl
  | 53, _ => rfl
  | 54, _ => rfl
  | 55, _ => rfl
  | 56, _ => rfl
  | 57, _ => rfl
  | 58, _ => rfl
  | 59, _ => rfl
  | n + 60, h => absurd h (by omega)
theorem iV_st : ∀ i, i < 60 → iV (16 + 2 * i) := fun i h => ⟨iV_st1 i h, iV_st2 i h⟩
theorem iV_sm1 : ∀ i, i < 3 → EE[137 + 2 * i]? = some (.inl (3, [none, none, none, some (some (137 + 2 * i + 1))]))
  | 0, _ => rfl
  | 1, _ => rfl
  | 2, _ => rfl
  | n + 3, h => absurd h (by omega)
theorem iV_sm2 : ∀ i, i < 3 → EE[137 + 2 * i + 1]? = some (.inr (.inl 16))
  | 0, _ => rfl
  | 1, _ => rfl
  | 2, _ => rfl
  | n + 3, h => absurd h (by omega)
theorem iV_sm : ∀ i, i < 3 → iV (137 + 2 * i) := fun i h => ⟨iV_sm1 i h, iV_sm2 i h⟩
theorem iV_sh : iV 143 := ⟨rfl, rfl⟩
theorem iP_at1 : ∀ i, i < 8 → EE[146 + 2 * i]? = some (.inl (0, [some (some (146 + 2 * i + 1)), none, none, none, none]))
  | 0, _ => rfl
  | 1, _ => rfl
  | 2, _ => rfl
  | 3, _ => rfl
  | 4, _ => rfl
  | 5, _ => rfl
  | 6, _ => rfl
  | 7, _ => rfl
  | n + 8, h => absurd h (by omega)
theorem iP_at2 : ∀ i, i < 8 → EE[146 + 2 * i + 1]? = some (.inr (.inl 3))
  | 0, _ => rfl
  | 1, _ => rfl
  | 2, _ => rfl
  | 3, _ => rfl
  | 4, _ => rfl
  | 5, _ => rfl
  | 6, _ => rfl
  | 7, _ => rfl
  | n + 8, h => absurd h (by omega)
theorem iP_at : ∀ i, i < 8 → iP (146 + 2 * i) := fun i h => ⟨iP_at1 i h, iP_at2 i h⟩
def rIn : List (Option Nat) := [some 9, some 11, some 13]
def rSt : List (Option Nat) := (List.range 60).map (fun i => some (16 + 2 * i))
def rSm : List (Option Nat) := [some 137, some 139, some 141]
def rPr : List (Option Nat) := (List.range 8).map (fun i => some (146 + 2 * i))
theorem E_8r : EE[8]? = some (.inr (.inr (0, rIn))) := rfl
theorem E_15r : EE[15]? = some (.inr (.inr (0, rSt))) := by decide +kernel
theorem E_136r : EE[136]? = some (.inr (.inr (0, rSm))) := rfl
theorem E_145r : EE[145]? = some (.inr (.inr (1, rPr))) := by decide +kernel
theorem rIn_at : ∀ i, i < 3 → rIn[i]? = some (some (9 + 2 * i)) := by decide
theorem rSt_at : ∀ i, i < 60 → rSt[i]? = some (some (16 + 2 * i)) := by decide +kernel
theorem rSm_at : ∀ i, i < 3 → rSm[i]? = some (some (137 + 2 * i)) := by decide
theorem rPr_at : ∀ i, i < 8 → rPr[i]? = some (some (146 + 2 * i)) := by decide +kernel
-- what 165
-- partA 166
-- partB 167
-- partC 168
-- number 169
-- inputType 170
-- input 171
-- inputRow 172
-- pile 173
-- phase 174
-- gotKind 175
-- got 176
-- gotRow 177
-- store 178
-- order 179
-- types 180
-- condition 181
-- body 182
-- labelTerm 183
-- expected 184
-- labels 185
-- drawnRow 186
-- counterType 187
-- counter 188
-- counterRow 189
end
section
/-! a value: nothing, a whole, a row -/
abbrev vV : Type := Option (Int32 ⊕ List Int32)
def vAt (M : aM) (a : Nat) : vV → Prop
  | none => M a 0 = -1 ∧ M a 2 = 0
  | some (.inl x) => M a 0 = 0 ∧ M a 1 = x ∧ M a 2 = 0
  | some (.inr r) => M a 0 = 1 ∧ r.length ≤ 16 ∧ M a 2 = nI r.length ∧ ∀ k, k < r.length → M (a + 1) k = r.getD k 0
def same (M M' : aM) (S : Nat → Prop) : Prop := ∀ b, ¬ S b → M' b = M b
theorem vAt_same {M M' : aM} {a : Nat} {v : vV} (h : vAt M a v) (h1 : M' a = M a) (h2 : M' (a + 1) = M (a + 1)) : vAt M' a v := by
  unfold vAt at *
  rcases v with _ | x | r
  · simpa only [h1] using h
  · simpa only [h1] using h
  · simpa only [h1, h2] using h
section VAL
variable {l : Launch} {K : aK} {d : Nat} {M : aM} {Q : Option Value → aE → aM → Prop}
theorem t_setNothing {a : Nat} (hva : iV a) (hQ : ∀ M', vAt M' a none → (∀ b, b ≠ a → M' b = M b) → Q none EE M') : aw l K mX5_setNothing d 0 0 0 [.ref a] [] EE M Q := by
  obtain ⟨hva, hvb⟩ := hva
  refine aw_aload_n (n := 1) dX5_setNothing_0 rfl rfl ?_
  refine aw_iconst (n := 2) (v := -1) dX5_setNothing_1 (by decide) rfl ?_
  refine aw_puti (n := 5) dX5_setNothing_2 pX5_9 (by assumption) rfl rfl ?_
  refine aw_aload_n (n := 6) dX5_setNothing_5 rfl rfl ?_
  refine aw_iconst (n := 7) (v := 0) dX5_setNothing_6 (by decide) rfl ?_
  refine aw_puti (n := 10) dX5_setNothing_7 pX5_18 (by assumption) rfl rfl ?_
  refine aw_vret dX5_setNothing_10 rfl ?_
  refine hQ _ ⟨?_, ?_⟩ (fun b hb => ?_)
  · simp [up2]
  · simp [up2]
  · funext j; simp [up2, hb]
theorem t_setWhole {a : Nat} {x : Int32} (hva : iV a) (hQ : ∀ M', vAt M' a (some (.inl x)) → (∀ b, b ≠ a → M' b = M b) → Q none EE M') : aw l K mX5_setWhole d 0 0 0 [.ref a, .int x] [] EE M Q := by
  obtain ⟨hva, hvb⟩ := hva
  refine aw_aload_n (n := 1) dX5_setWhole_0 rfl rfl ?_
  refine aw_iconst (n := 2) (v := 0) dX5_setWhole_1 (by decide) rfl ?_
  refine aw_puti (n := 5) dX5_setWhole_2 pX5_9 (by assumption) rfl rfl ?_
  refine aw_aload_n (n := 6) dX5_setWhole_5 rfl rfl ?_
  refine aw_iload_n (n := 7) dX5_setWhole_6 rfl rfl ?_
  refine aw_puti (n := 10) dX5_setWhole_7 pX5_15 (by assumption) rfl rfl ?_
  refine aw_aload_n (n := 11) dX5_setWhole_10 rfl rfl ?_
  refine aw_iconst (n := 12) (v := 0) dX5_setWhole_11 (by decide) rfl ?_
  refine aw_puti (n := 15) dX5_setWhole_12 pX5_18 (by assumption) rfl rfl ?_
  refine aw_vret dX5_setWhole_15 rfl ?_
  refine hQ _ ⟨?_, ?_, ?_⟩ (fun b hb => ?_)
  · simp [up2]
  · simp [up2]
  · simp [up2]
  · funext j; simp [up2, hb]
theorem t_setRow {a : Nat} {x : Int32} (hva : iV a) (hQ : ∀ M', M' a 0 = 1 → M' a 2 = x → (∀ b, b ≠ a → M' b = M b) → Q none EE M') : aw l K mX5_setRow d 0 0 0 [.ref a, .int x] [] EE M Q := by
  obtain ⟨hva, hvb⟩ := hva
  refine aw_aload_n (n := 1) dX5_setRow_0 rfl rfl ?_
  refine aw_iconst (n := 2) (v := 1) dX5_setRow_1 (by decide) rfl ?_
  refine aw_puti (n := 5) dX5_setRow_2 pX5_9 (by assumption) rfl rfl ?_
  refine aw_aload_n (n := 6) dX5_setRow_5 rfl rfl ?_
  refine aw_iload_n (n := 7) dX5_setRow_6 rfl rfl ?_
  refine aw_puti (n := 10) dX5_setRow_7 pX5_18 (by assumption) rfl rfl ?_
  refine aw_vret dX5_setRow_10 rfl ?_
  refine hQ _ ?_ ?_ (fun b hb => ?_)
  · simp [up2]
  · simp [up2]
  · funext j; simp [up2, hb]
end VAL
end
section
theorem iV_apart {a b : Nat} (ha : iV a) (hb : iV b) : a + 1 ≠ b ∧ a ≠ b + 1 := by
  obtain ⟨a1, a2⟩ := ha
  obtain ⟨b1, b2⟩ := hb
  refine ⟨fun h => ?_, fun h => ?_⟩
  · rw [h, b1] at a2; cases a2
  · rw [h, b2] at a1; cases a1
theorem vAt_len {M : aM} {b : Nat} {v : vV} (hv : vAt M b v) : ∃ n, n ≤ 16 ∧ M b 2 = nI n := by
  rcases v with _ | x | r
  · exact ⟨0, by decide, hv.2⟩
  · exact ⟨0, by decide, hv.2.2⟩
  · exact ⟨r.length, hv.2.1, hv.2.2.1⟩
theorem vAt_copy {M M' : aM} {a b n : Nat} {v : vV} (hv : vAt M b v) (hn : M b 2 = nI n) (hn16 : n ≤ 16) (h0 : M' a 0 = M b 0) (h1 : M' a 1 = M b 1) (h2 : M' a 2 = nI n) (h3 : ∀ j, j < n → M' (a + 1) j = M (b + 1) j) : vAt M' a v := by
  rcases v with _ | x | r
  · exact ⟨h0.trans hv.1, h2.trans (hn.symm.trans hv.2)⟩
  · exact ⟨h0.trans hv.1, h1.trans hv.2.1, h2.trans (hn.symm.trans hv.2.2)⟩
  · have hl : n = r.length := (nI_eq (by omega) (by have := hv.2.1; omega)).mp (hn.symm.trans hv.2.2.1)
    subst hl
    exact ⟨h0.trans hv.1, hn16, h2, fun k hk => (h3 k hk).trans (hv.2.2.2 k hk)⟩
section VAL
variable {l : Launch} {K : aK} {d : Nat} {M : aM} {Q : Option Value → aE → aM → Prop}
theorem t_copy {a b : Nat} {v : vV} (ha : iV a) (hb : iV b) (hab : a ≠ b) (hv : vAt M b v) (hQ : ∀ M', vAt M' a v → (∀ q, q ≠ a → q ≠ a + 1 → M' q = M q) → Q none EE M') : aw l K mX5_copy d 0 0 0 [.ref a, .ref b, .null] [] EE M Q := by
  obtain ⟨hab1, hab2⟩ := iV_apart ha hb
  obtain ⟨n, hn16, hn⟩ := vAt_len hv
  obtain ⟨hva, hvb⟩ := ha
  obtain ⟨hvc, hvd⟩ := hb
  have loop : ∀ m k Mk, m + k = n → Mk a 2 = nI n → (∀ q, q ≠ a → q ≠ a + 1 → Mk q = M q) → Mk a 0 = M b 0 → Mk a 1 = M b 1 → (∀ j, j < k → Mk (a + 1) j = M (b + 1) j) → aw l K mX5_copy d 0 0 26 [.ref a, .ref b, .int (nI k)] [] EE Mk Q := by
    intro m
    induction m with
    | zero =>
      intro k Mk hk h2 hf h0 h1 h3
      refine aw_iload_n (n := 27) dX5_copy_26 rfl rfl ?_
      refine aw_aload_n (n := 28) dX5_copy_27 rfl rfl ?_
      refine aw_geti (n := 31) dX5_copy_28 fX5_18 (by assumption) rfl rfl ?_
      refine aw_icmp_ge (tg := 52) (n := 34) dX5_copy_31 (by decide) rfl (fun c_31 => ?_) (fun c_31 => by exact absurd (by rw [h2]; exact nI_le (by omega) (by omega)) c_31)
      refine aw_vret dX5_copy_52 rfl ?_
      exact hQ _ (vAt_copy hv hn hn16 h0 h1 h2 (fun j hj => h3 j (by omega))) hf
    | succ m ih =>
      intro k Mk hk h2 hf h0 h1 h3
      have hin : vp_in (nI k) 16 := vp_in_nI (by omega) (by decide)
      have hkk : (nI k).toNatClampNeg = k := nI_clamp (by omega)
      have hM : Mk (b + 1) k = M (b + 1) k := by rw [hf (b + 1) (by omega) (by omega)]
      refine aw_iload_n (n := 27) dX5_copy_26 rfl rfl ?_
      refine aw_aload_n (n := 28) dX5_copy_27 rfl rfl ?_
      refine aw_geti (n := 31) dX5_copy_28 fX5_18 (by assumption) rfl rfl ?_
      refine aw_icmp_ge (tg := 52) (n := 34) dX5_copy_31 (by decide) rfl (fun c_31 => by exact absurd (by rw [h2] at c_31; exact c_31) (nI_ge (by omega) (by omega))) (fun c_31 => ?_)
      refine aw_aload_n (n := 35) dX5_copy_34 rfl rfl ?_
      refine aw_getr (n := 38) dX5_copy_35 fX5_21 (by assumption) rfl rfl ?_
      refine aw_iload_n (n := 39) dX5_copy_38 rfl rfl ?_
      refine aw_aload_n (n := 40) dX5_copy_39 rfl rfl ?_
      refine aw_getr (n := 43) dX5_copy_40 fX5_21 (by assumption) rfl rfl ?_
      refine aw_iload_n (n := 44) dX5_copy_43 rfl rfl ?_
      refine aw_iald (n := 45) dX5_copy_44 (by assumption) (by assumption) rfl ?_
      refine aw_iast (n := 46) dX5_copy_45 (by assumption) (by assumption) rfl ?_
      refine aw_incp (n := 49) (L' := [_, _, _]) dX5_copy_46 rfl rfl rfl ?_
      refine aw_goto (n := 26) dX5_copy_49 (by decide) ?_
      rw [nI_1, hkk, hM]
      refine ih (k + 1) _ (by omega) ?_ ?_ ?_ ?_ ?_
      · rw [up2_a _ _ (by omega)]; exact h2
      · intro q q1 q2; rw [up2_ra _ _ q2]; exact hf q q1 q2
      · rw [up2_a _ _ (by omega)]; exact h0
      · rw [up2_a _ _ (by omega)]; exact h1
      · intro j hj
        by_cases hjk : j = k
        · subst hjk; rw [up2_s]
        · rw [up2_k _ _ hjk]; exact h3 j (by omega)
  refine aw_aload_n (n := 1) dX5_copy_0 rfl rfl ?_
  refine aw_aload_n (n := 2) dX5_copy_1 rfl rfl ?_
  refine aw_geti (n := 5) dX5_copy_2 fX5_9 (by assumption) rfl rfl ?_
  refine aw_puti (n := 8) dX5_copy_5 pX5_9 (by assumption) rfl rfl ?_
  refine aw_aload_n (n := 9) dX5_copy_8 rfl rfl ?_
  refine aw_aload_n (n := 10) dX5_copy_9 rfl rfl ?_
  refine aw_geti (n := 13) dX5_copy_10 fX5_15 (by assumption) rfl rfl ?_
  refine aw_puti (n := 16) dX5_copy_13 pX5_15 (by assumption) rfl rfl ?_
  refine aw_aload_n (n := 17) dX5_copy_16 rfl rfl ?_
  refine aw_aload_n (n := 18) dX5_copy_17 rfl rfl ?_
  refine aw_geti (n := 21) dX5_copy_18 fX5_18 (by assumption) rfl rfl ?_
  refine aw_puti (n := 24) dX5_copy_21 pX5_18 (by assumption) rfl rfl ?_
  refine aw_iconst (n := 25) (v := 0) dX5_copy_24 (by decide) rfl ?_
  refine aw_istore_n (n := 26) (L' := [_, _, _]) dX5_copy_25 (Nat.le_of_ble_eq_true rfl) rfl rfl ?_
  refine loop n 0 _ (by omega) ?_ ?_ ?_ ?_ ?_
  · simp [up2, hn, Ne.symm hab]
  · intro q q1 q2; funext j; simp [up2, q1]
  · simp [up2]
  · simp [up2, Ne.symm hab]
  · intro j hj; omega
def rd (v : vV) (k : Int32) : Int32 := match v with
  | none => -2147483648
  | some (.inl x) => if k = -1 then x else -2147483648
  | some (.inr r) => if k < -1 ∨ nI r.length ≤ k then -2147483648 else if k = -1 then nI r.length else r.getD k.toNatClampNeg 0
theorem vp_lt {k : Int32} {n : Nat} (hn : n < 2 ^ 31) (h0 : ¬ k < 0) (h1 : ¬ nI n ≤ k) : ∃ j, j < n ∧ k = nI j := by
  rcases pk_ix k hn with h | h | h
  · exact absurd h h0
  · exact absurd h h1
  · exact h
theorem ti_m1 : (-1 : Int32).toInt = -1 := by decide
theorem ti_0 : (0 : Int32).toInt = 0 := by decide
theorem m1_lt {k : Int32} (h : ¬ k < -1) (h2 : ¬ k = -1) : ¬ k < 0 := by
  simp only [Int32.lt_iff_toInt_lt, ← Int32.toInt_inj, ti_m1, ti_0] at *
  omega
theorem i_nlt {x y : Int32} : ¬ x < y ↔ y ≤ x := by
  simp only [Int32.lt_iff_toInt_lt, Int32.le_iff_toInt_le]; omega
theorem i_nle {x y : Int32} : ¬ x ≤ y ↔ y < x := by
  simp only [Int32.lt_iff_toInt_lt, Int32.le_iff_toInt_le]; omega
theorem t_read {a : Nat} {v : vV} {k : Int32} (ha : iV a) (hv : vAt M a v) (hQ : Q (some (.int (rd v k))) EE M) : aw l K mX5_read d 0 0 0 [.ref a, .int k] [] EE M Q := by
  obtain ⟨hva, hvb⟩ := ha
  rcases v with _ | x | r
  · obtain ⟨h0, h2⟩ := hv
    refine aw_aload_n (n := 1) dX5_read_0 rfl rfl ?_
    refine aw_geti (n := 4) dX5_read_1 fX5_9 (by assumption) rfl rfl ?_
    refine aw_if_ne (tg := 22) (n := 7) dX5_read_4 (by decide) rfl (fun c_4 => ?_) (fun c_4 => by exact absurd c_4 (by rw [h0]; decide))
    refine aw_aload_n (n := 23) dX5_read_22 rfl rfl ?_
    refine aw_geti (n := 26) dX5_read_23 fX5_9 (by assumption) rfl rfl ?_
    refine aw_iconst (n := 27) (v := 1) dX5_read_26 (by decide) rfl ?_
    refine aw_icmp_ne (tg := 43) (n := 30) dX5_read_27 (by decide) rfl (fun c_27 => ?_) (fun c_27 => by exact absurd c_27 (by rw [h0]; decide))
    refine aw_ldc (n := 45) dX5_read_43 qX5_25 rfl ?_
    refine aw_iret dX5_read_45 rfl ?_
    exact hQ
  · obtain ⟨h0, h1, h2⟩ := hv
    refine aw_aload_n (n := 1) dX5_read_0 rfl rfl ?_
    refine aw_geti (n := 4) dX5_read_1 fX5_9 (by assumption) rfl rfl ?_
    refine aw_if_ne (tg := 22) (n := 7) dX5_read_4 (by decide) rfl (fun c_4 => by exact absurd h0 c_4) (fun c_4 => ?_)
    refine aw_iload_n (n := 8) dX5_read_7 rfl rfl ?_
    refine aw_iconst (n := 9) (v := -1) dX5_read_8 (by decide) rfl ?_
    refine aw_icmp_ne (tg := 19) (n := 12) dX5_read_9 (by decide) rfl (fun c_9 => ?_) (fun c_9 => ?_)
    · refine aw_ldc (n := 21) dX5_read_19 qX5_25 rfl ?_
      refine aw_iret dX5_read_21 rfl ?_
      first | (rw [h1]; simpa [rd, c_9] using hQ) | simpa [rd, c_9] using hQ
    · refine aw_aload_n (n := 13) dX5_read_12 rfl rfl ?_
      refine aw_geti (n := 16) dX5_read_13 fX5_15 (by assumption) rfl rfl ?_
      refine aw_goto (n := 21) dX5_read_16 (by decide) ?_
      refine aw_iret dX5_read_21 rfl ?_
      first | (rw [h1]; simpa [rd, c_9] using hQ) | simpa [rd, c_9] using hQ
  · obtain ⟨h0, h16, h2, h3⟩ := hv
    refine aw_aload_n (n := 1) dX5_read_0 rfl rfl ?_
    refine aw_geti (n := 4) dX5_read_1 fX5_9 (by assumption) rfl rfl ?_
    refine aw_if_ne (tg := 22) (n := 7) dX5_read_4 (by decide) rfl (fun c_4 => ?_) (fun c_4 => by exact absurd c_4 (by rw [h0]; decide))
    refine aw_aload_n (n := 23) dX5_read_22 rfl rfl ?_
    refine aw_geti (n := 26) dX5_read_23 fX5_9 (by assumption) rfl rfl ?_
    refine aw_iconst (n := 27) (v := 1) dX5_read_26 (by decide) rfl ?_
    refine aw_icmp_ne (tg := 43) (n := 30) dX5_read_27 (by decide) rfl (fun c_27 => by exact absurd h0 c_27) (fun c_27 => ?_)
    refine aw_iload_n (n := 31) dX5_read_30 rfl rfl ?_
    refine aw_iconst (n := 32) (v := -1) dX5_read_31 (by decide) rfl ?_
    refine aw_icmp_lt (tg := 43) (n := 35) dX5_read_32 (by decide) rfl (fun c_32 => ?_) (fun c_32 => ?_)
    · refine aw_ldc (n := 45) dX5_read_43 qX5_25 rfl ?_
      refine aw_iret dX5_read_45 rfl ?_
      first
        | exact (show rd (some (.inr r)) k = -2147483648 from if_pos (Or.inl c_32)) ▸ hQ
        | exact (show rd (some (.inr r)) k = -2147483648 from if_pos (Or.inr (by rw [← h2]; exact i_nlt.mp c_40))) ▸ hQ
    · refine aw_iload_n (n := 36) dX5_read_35 rfl rfl ?_
      refine aw_aload_n (n := 37) dX5_read_36 rfl rfl ?_
      refine aw_geti (n := 40) dX5_read_37 fX5_18 (by assumption) rfl rfl ?_
      refine aw_icmp_lt (tg := 46) (n := 43) dX5_read_40 (by decide) rfl (fun c_40 => ?_) (fun c_40 => ?_)
      · rw [h2] at c_40
        have c40 : ¬ nI r.length ≤ k := by rw [i_nle]; exact c_40
        have hrd : rd (some (.inr r)) k = if k = -1 then nI r.length else r.getD k.toNatClampNeg 0 := by unfold rd; exact if_neg (fun q => q.elim c_32 c40)
        rw [hrd] at hQ
        refine aw_iload_n (n := 47) dX5_read_46 rfl rfl ?_
        refine aw_iconst (n := 48) (v := -1) dX5_read_47 (by decide) rfl ?_
        refine aw_icmp_ne (tg := 58) (n := 51) dX5_read_48 (by decide) rfl (fun c_48 => ?_) (fun c_48 => ?_)
        · obtain ⟨j, hj, rfl⟩ := vp_lt (n := r.length) (by omega) (m1_lt c_32 c_48) c40
          have hin : vp_in (nI j) 16 := vp_in_nI (by omega) (by decide)
          rw [if_neg c_48, nI_clamp (by omega)] at hQ
          refine aw_aload_n (n := 59) dX5_read_58 rfl rfl ?_
          refine aw_getr (n := 62) dX5_read_59 fX5_21 (by assumption) rfl rfl ?_
          refine aw_iload_n (n := 63) dX5_read_62 rfl rfl ?_
          refine aw_iald (n := 64) dX5_read_63 (by assumption) (by assumption) rfl ?_
          refine aw_iret dX5_read_64 rfl ?_
          first
            | (rw [if_pos c_48] at hQ; rw [h2]; exact hQ)
            | (rw [nI_clamp (by omega), h3 j hj]; exact hQ)
        · refine aw_aload_n (n := 52) dX5_read_51 rfl rfl ?_
          refine aw_geti (n := 55) dX5_read_52 fX5_18 (by assumption) rfl rfl ?_
          refine aw_goto (n := 64) dX5_read_55 (by decide) ?_
          refine aw_iret dX5_read_64 rfl ?_
          first
            | (rw [if_pos c_48] at hQ; rw [h2]; exact hQ)
            | (rw [nI_clamp (by omega), h3 j hj]; exact hQ)
      · refine aw_ldc (n := 45) dX5_read_43 qX5_25 rfl ?_
        refine aw_iret dX5_read_45 rfl ?_
        first
          | exact (show rd (some (.inr r)) k = -2147483648 from if_pos (Or.inl c_32)) ▸ hQ
          | exact (show rd (some (.inr r)) k = -2147483648 from if_pos (Or.inr (by rw [← h2]; exact i_nlt.mp c_40))) ▸ hQ
def near (x : Int32) (w : Nat) : Int32 := if w = 0 then 0 else if w = 1 then x / 2 else if 0 < x then x - 1 else x + 1
theorem t_near {x : Int32} {w : Nat} (hw : w < 3) (hQ : Q (some (.int (near x w))) EE M) : aw l K mX5_nearerToZero d 0 0 0 [.int x, .int (nI w)] [] EE M Q := by
  rcases (show w = 0 ∨ w = 1 ∨ w = 2 by omega) with rfl | rfl | rfl
  · refine aw_iload_n (n := 1) dX5_nearerToZero_0 rfl rfl ?_
    refine aw_lsw (n := 28) dX5_nearerToZero_1 (by decide) (off := 27) (by decide) (by decide) ?_
    refine aw_iconst (n := 29) (v := 0) dX5_nearerToZero_28 (by decide) rfl ?_
    refine aw_iret dX5_nearerToZero_29 rfl ?_
    exact hQ
  · refine aw_iload_n (n := 1) dX5_nearerToZero_0 rfl rfl ?_
    refine aw_lsw (n := 30) dX5_nearerToZero_1 (by decide) (off := 29) (by decide) (by decide) ?_
    refine aw_iload_n (n := 31) dX5_nearerToZero_30 rfl rfl ?_
    refine aw_iconst (n := 32) (v := 2) dX5_nearerToZero_31 (by decide) rfl ?_
    refine aw_idiv (n := 33) dX5_nearerToZero_32 (by first | assumption | decide) rfl ?_
    refine aw_iret dX5_nearerToZero_33 rfl ?_
    exact hQ
  · refine aw_iload_n (n := 1) dX5_nearerToZero_0 rfl rfl ?_
    refine aw_lsw (n := 34) dX5_nearerToZero_1 (by decide) (off := 33) (by decide) (by decide) ?_
    refine aw_iload_n (n := 35) dX5_nearerToZero_34 rfl rfl ?_
    refine aw_if_le (tg := 44) (n := 38) dX5_nearerToZero_35 (by decide) rfl (fun c_35 => ?_) (fun c_35 => ?_)
    · refine aw_iload_n (n := 45) dX5_nearerToZero_44 rfl rfl ?_
      refine aw_iconst (n := 46) (v := 1) dX5_nearerToZero_45 (by decide) rfl ?_
      refine aw_iadd (n := 47) dX5_nearerToZero_46 rfl ?_
      refine aw_iret dX5_nearerToZero_47 rfl ?_
      first
        | exact (show near x 2 = x - 1 from if_pos (i_nle.mp c_35)) ▸ hQ
        | exact (show near x 2 = x + 1 from if_neg (i_nlt.mpr c_35)) ▸ hQ
    · refine aw_iload_n (n := 39) dX5_nearerToZero_38 rfl rfl ?_
      refine aw_iconst (n := 40) (v := 1) dX5_nearerToZero_39 (by decide) rfl ?_
      refine aw_isub (n := 41) dX5_nearerToZero_40 rfl ?_
      refine aw_goto (n := 47) dX5_nearerToZero_41 (by decide) ?_
      refine aw_iret dX5_nearerToZero_47 rfl ?_
      first
        | exact (show near x 2 = x - 1 from if_pos (i_nle.mp c_35)) ▸ hQ
        | exact (show near x 2 = x + 1 from if_neg (i_nlt.mpr c_35)) ▸ hQ
/-- three for each int that is not 0 -/
def nz : List Int32 → Nat
  | [] => 0
  | x :: r => (if x = 0 then 0 else 3) + nz r
def shr : List Int32 → Nat → List Int32
  | [], _ => []
  | x :: r, j => if x = 0 then x :: shr r j else if j < 3 then near x j :: r else x :: shr r (j - 3)
/-- how many candidates a value has; the candidate of a number -/
def cc : vV → Nat
  | none => 0
  | some (.inl x) => if x = 0 then 0 else 3
  | some (.inr r) => r.length + nz r
def bc (v : vV) (j : Nat) : vV := match v with
  | none => none
  | some (.inl x) => some (.inl (near x j))
  | some (.inr r) => if j < r.length then some (.inr (r.eraseIdx j)) else some (.inr (shr r (j - r.length)))
theorem nz_step (r : List Int32) : ∀ k, k < r.length → nz (r.take (k + 1)) = nz (r.take k) + (if r.getD k 0 = 0 then 0 else 3) := by
  induction r with
  | nil => intro k hk; simp at hk
  | cons x r ih =>
    intro k hk
    cases k with
    | zero => simp [nz]
    | succ k =>
      have h := ih k (by simpa using hk)
      simp only [List.take_succ_cons, nz, h, List.getD_cons_succ]
      omega
theorem nz_le (r : List Int32) : nz r ≤ 3 * r.length := by
  induction r with
  | nil => simp [nz]
  | cons x r ih => simp only [nz, List.length_cons]; split <;> omega
theorem getD_set (r : List Int32) (k j : Nat) (y : Int32) (hk : k < r.length) : (r.set k y).getD j 0 = if j = k then y else r.getD j 0 := by
  simp only [List.getD_eq_getElem?_getD, List.getElem?_set]
  by_cases h : k = j
  · subst h; simp [hk]
  · rw [if_neg h, if_neg (fun q => h q.symm)]
theorem getD_erase (r : List Int32) (g j : Nat) : (r.eraseIdx g).getD j 0 = if j < g then r.getD j 0 else r.getD (j + 1) 0 := by
  simp only [List.getD_eq_getElem?_getD, List.getElem?_eraseIdx]
  split <;> rfl
theorem drop_cons (r : List Int32) (k : Nat) (hk : k < r.length) : r.drop k = r.getD k 0 :: r.drop (k + 1) := by
  rw [List.drop_eq_getElem_cons hk, List.getD_eq_getElem?_getD, List.getElem?_eq_getElem hk]; rfl
theorem take_snoc (r : List Int32) (k : Nat) (hk : k < r.length) : r.take (k + 1) = r.take k ++ [r.getD k 0] := by
  rw [List.take_add_one, List.getD_eq_getElem?_getD, List.getElem?_eq_getElem hk]; rfl
theorem nI_m3 {n : Nat} (h : 3 ≤ n) : nI n + -3 = nI (n - 3) := by
  have h1 := pk_sub h
  rw [Int32.sub_eq_add_neg] at h1
  exact h1
theorem t_cc {a : Nat} {v : vV} (ha : iV a) (hv : vAt M a v) (hQ : Q (some (.int (nI (cc v)))) EE M) : aw l K mX5_candidateCount d 0 0 0 [.ref a, .null, .null] [] EE M Q := by
  obtain ⟨hva, hvb⟩ := ha
  rcases v with _ | x | r
  · obtain ⟨h0, h2⟩ := hv
    refine aw_aload_n (n := 1) dX5_candidateCount_0 rfl rfl ?_
    refine aw_geti (n := 4) dX5_candidateCount_1 fX5_9 (by assumption) rfl rfl ?_
    refine aw_iconst (n := 5) (v := -1) dX5_candidateCount_4 (by decide) rfl ?_
    refine aw_icmp_ne (tg := 10) (n := 8) dX5_candidateCount_5 (by decide) rfl (fun c_5 => by exact absurd h0 c_5) (fun c_5 => ?_)
    refine aw_iconst (n := 9) (v := 0) dX5_candidateCount_8 (by decide) rfl ?_
    refine aw_iret dX5_candidateCount_9 rfl ?_
    exact hQ
  · obtain ⟨h0, h1, h2⟩ := hv
    refine aw_aload_n (n := 1) dX5_candidateCount_0 rfl rfl ?_
    refine aw_geti (n := 4) dX5_candidateCount_1 fX5_9 (by assumption) rfl rfl ?_
    refine aw_iconst (n := 5) (v := -1) dX5_candidateCount_4 (by decide) rfl ?_
    refine aw_icmp_ne (tg := 10) (n := 8) dX5_candidateCount_5 (by decide) rfl (fun c_5 => ?_) (fun c_5 => by exact absurd c_5 (by rw [h0]; decide))
    refine aw_aload_n (n := 11) dX5_candidateCount_10 rfl rfl ?_
    refine aw_geti (n := 14) dX5_candidateCount_11 fX5_9 (by assumption) rfl rfl ?_
    refine aw_if_ne (tg := 30) (n := 17) dX5_candidateCount_14 (by decide) rfl (fun c_14 => by exact absurd h0 c_14) (fun c_14 => ?_)
    refine aw_aload_n (n := 18) dX5_candidateCount_17 rfl rfl ?_
    refine aw_geti (n := 21) dX5_candidateCount_18 fX5_15 (by assumption) rfl rfl ?_
    refine aw_if_ne (tg := 28) (n := 24) dX5_candidateCount_21 (by decide) rfl (fun c_21 => ?_) (fun c_21 => ?_)
    · refine aw_iconst (n := 29) (v := 3) dX5_candidateCount_28 (by decide) rfl ?_
      refine aw_iret dX5_candidateCount_29 rfl ?_
      rw [h1] at c_21
      first
        | (have hcc : cc (some (.inl x)) = 3 := if_neg c_21
           rw [hcc] at hQ; exact hQ)
        | (have hcc : cc (some (.inl x)) = 0 := if_pos c_21
           rw [hcc] at hQ; exact hQ)
    · refine aw_iconst (n := 25) (v := 0) dX5_candidateCount_24 (by decide) rfl ?_
      refine aw_goto (n := 29) dX5_candidateCount_25 (by decide) ?_
      refine aw_iret dX5_candidateCount_29 rfl ?_
      rw [h1] at c_21
      first
        | (have hcc : cc (some (.inl x)) = 3 := if_neg c_21
           rw [hcc] at hQ; exact hQ)
        | (have hcc : cc (some (.inl x)) = 0 := if_pos c_21
           rw [hcc] at hQ; exact hQ)
  · obtain ⟨h0, h16, h2, h3⟩ := hv
    have loop : ∀ m k cnt, m + k = r.length → cnt = nI (r.length + nz (r.take k)) → aw l K mX5_candidateCount d 0 0 37 [.ref a, .int cnt, .int (nI k)] [] EE M Q := by
      intro m
      induction m with
      | zero =>
        intro k cnt hk hc
        refine aw_iload_n (n := 38) dX5_candidateCount_37 rfl rfl ?_
        refine aw_aload_n (n := 39) dX5_candidateCount_38 rfl rfl ?_
        refine aw_geti (n := 42) dX5_candidateCount_39 fX5_18 (by assumption) rfl rfl ?_
        refine aw_icmp_ge (tg := 68) (n := 45) dX5_candidateCount_42 (by decide) rfl (fun c_42 => ?_) (fun c_42 => by exact absurd (by rw [h2]; exact nI_le (by omega) (by omega)) c_42)
        refine aw_iload_n (n := 69) dX5_candidateCount_68 rfl rfl ?_
        refine aw_iret dX5_candidateCount_69 rfl ?_
        rw [hc, List.take_of_length_le (by omega)]; exact hQ
      | succ m ih =>
        intro k cnt hk hc
        have hin : vp_in (nI k) 16 := vp_in_nI (by omega) (by decide)
        have hkk : (nI k).toNatClampNeg = k := nI_clamp (by omega)
        have hx : M (a + 1) k = r.getD k 0 := h3 k (by omega)
        have hst := nz_step r k (by omega)
        refine aw_iload_n (n := 38) dX5_candidateCount_37 rfl rfl ?_
        refine aw_aload_n (n := 39) dX5_candidateCount_38 rfl rfl ?_
        refine aw_geti (n := 42) dX5_candidateCount_39 fX5_18 (by assumption) rfl rfl ?_
        refine aw_icmp_ge (tg := 68) (n := 45) dX5_candidateCount_42 (by decide) rfl (fun c_42 => by exact absurd (by rw [h2] at c_42; exact c_42) (nI_ge (by omega) (by omega))) (fun c_42 => ?_)
        refine aw_iload_n (n := 46) dX5_candidateCount_45 rfl rfl ?_
        refine aw_aload_n (n := 47) dX5_candidateCount_46 rfl rfl ?_
        refine aw_getr (n := 50) dX5_candidateCount_47 fX5_21 (by assumption) rfl rfl ?_
        refine aw_iload_n (n := 51) dX5_candidateCount_50 rfl rfl ?_
        refine aw_iald (n := 52) dX5_candidateCount_51 (by assumption) (by assumption) rfl ?_
        refine aw_if_ne (tg := 59) (n := 55) dX5_candidateCount_52 (by decide) rfl (fun c_52 => ?_) (fun c_52 => ?_)
        · refine aw_iconst (n := 60) (v := 3) dX5_candidateCount_59 (by decide) rfl ?_
          refine aw_iadd (n := 61) dX5_candidateCount_60 rfl ?_
          refine aw_istore_n (n := 62) (L' := [_, _, _]) dX5_candidateCount_61 (Nat.le_of_ble_eq_true rfl) rfl rfl ?_
          refine aw_incp (n := 65) (L' := [_, _, _]) dX5_candidateCount_62 rfl rfl rfl ?_
          refine aw_goto (n := 37) dX5_candidateCount_65 (by decide) ?_
          rw [hkk, hx] at c_52
          rw [nI_1]
          refine ih (k + 1) _ (by omega) ?_
          rw [hst, hc]
          first
            | (rw [if_pos c_52, Nat.add_zero]; exact Int32.add_zero _)
            | (rw [if_neg c_52, ← Nat.add_assoc]; exact nI_add _ 3)
        · refine aw_iconst (n := 56) (v := 0) dX5_candidateCount_55 (by decide) rfl ?_
          refine aw_goto (n := 60) dX5_candidateCount_56 (by decide) ?_
          refine aw_iadd (n := 61) dX5_candidateCount_60 rfl ?_
          refine aw_istore_n (n := 62) (L' := [_, _, _]) dX5_candidateCount_61 (Nat.le_of_ble_eq_true rfl) rfl rfl ?_
          refine aw_incp (n := 65) (L' := [_, _, _]) dX5_candidateCount_62 rfl rfl rfl ?_
          refine aw_goto (n := 37) dX5_candidateCount_65 (by decide) ?_
          rw [hkk, hx] at c_52
          rw [nI_1]
          refine ih (k + 1) _ (by omega) ?_
          rw [hst, hc]
          first
            | (rw [if_pos c_52, Nat.add_zero]; exact Int32.add_zero _)
            | (rw [if_neg c_52, ← Nat.add_assoc]; exact nI_add _ 3)
    refine aw_aload_n (n := 1) dX5_candidateCount_0 rfl rfl ?_
    refine aw_geti (n := 4) dX5_candidateCount_1 fX5_9 (by assumption) rfl rfl ?_
    refine aw_iconst (n := 5) (v := -1) dX5_candidateCount_4 (by decide) rfl ?_
    refine aw_icmp_ne (tg := 10) (n := 8) dX5_candidateCount_5 (by decide) rfl (fun c_5 => ?_) (fun c_5 => by exact absurd c_5 (by rw [h0]; decide))
    refine aw_aload_n (n := 11) dX5_candidateCount_10 rfl rfl ?_
    refine aw_geti (n := 14) dX5_candidateCount_11 fX5_9 (by assumption) rfl rfl ?_
    refine aw_if_ne (tg := 30) (n := 17) dX5_candidateCount_14 (by decide) rfl (fun c_14 => ?_) (fun c_14 => by exact absurd c_14 (by rw [h0]; decide))
    refine aw_aload_n (n := 31) dX5_candidateCount_30 rfl rfl ?_
    refine aw_geti (n := 34) dX5_candidateCount_31 fX5_18 (by assumption) rfl rfl ?_
    refine aw_istore_n (n := 35) (L' := [_, _, _]) dX5_candidateCount_34 (Nat.le_of_ble_eq_true rfl) rfl rfl ?_
    refine aw_iconst (n := 36) (v := 0) dX5_candidateCount_35 (by decide) rfl ?_
    refine aw_istore_n (n := 37) (L' := [_, _, _]) dX5_candidateCount_36 (Nat.le_of_ble_eq_true rfl) rfl rfl ?_
    exact loop r.length 0 _ (by omega) (by rw [h2]; simp [nz])
theorem t_drop {a g : Nat} {r : List Int32} (ha : iV a) (hv : vAt M a (some (.inr r))) (hg : g < r.length) (hQ : ∀ M', vAt M' a (some (.inr (r.eraseIdx g))) → (∀ q, q ≠ a → q ≠ a + 1 → M' q = M q) → Q none EE M') : aw l K mX5_dropPlace d 0 0 0 [.ref a, .int (nI g), .null] [] EE M Q := by
  obtain ⟨hva, hvb⟩ := ha
  obtain ⟨h0, h16, h2, h3⟩ := hv
  have hsub : nI r.length - 1 = nI (r.length - 1) := by
    have := pk_sub (a := r.length) (b := 1) (by omega)
    exact this
  have loop : ∀ m k Mk, m + k + 1 = r.length → g ≤ k → (∀ q, q ≠ a + 1 → Mk q = M q) → (∀ j, j < r.length → Mk (a + 1) j = if j < g then r.getD j 0 else if j < k then r.getD (j + 1) 0 else r.getD j 0) → aw l K mX5_dropPlace d 0 0 2 [.ref a, .int (nI g), .int (nI k)] [] EE Mk Q := by
    intro m
    induction m with
    | zero =>
      intro k Mk hk hgk hf h4
      have h2k : Mk a 2 = nI r.length := by rw [hf a (by omega)]; exact h2
      refine aw_iload_n (n := 3) dX5_dropPlace_2 rfl rfl ?_
      refine aw_aload_n (n := 4) dX5_dropPlace_3 rfl rfl ?_
      refine aw_geti (n := 7) dX5_dropPlace_4 fX5_18 (by assumption) rfl rfl ?_
      refine aw_iconst (n := 8) (v := 1) dX5_dropPlace_7 (by decide) rfl ?_
      refine aw_isub (n := 9) dX5_dropPlace_8 rfl ?_
      refine aw_icmp_ge (tg := 32) (n := 12) dX5_dropPlace_9 (by decide) rfl (fun c_9 => ?_) (fun c_9 => by exact absurd (by rw [h2k, hsub]; exact nI_le (by omega) (by omega)) c_9)
      refine aw_aload_n (n := 33) dX5_dropPlace_32 rfl rfl ?_
      refine aw_dup (n := 34) dX5_dropPlace_33 rfl rfl ?_
      refine aw_geti (n := 37) dX5_dropPlace_34 fX5_18 (by assumption) rfl rfl ?_
      refine aw_iconst (n := 38) (v := 1) dX5_dropPlace_37 (by decide) rfl ?_
      refine aw_isub (n := 39) dX5_dropPlace_38 rfl ?_
      refine aw_puti (n := 42) dX5_dropPlace_39 pX5_18 (by assumption) rfl rfl ?_
      refine aw_vret dX5_dropPlace_42 rfl ?_
      refine hQ _ ⟨?_, ?_, ?_, ?_⟩ (fun q q1 q2 => ?_)
      · rw [up2_k _ _ (by decide), hf a (by omega)]; exact h0
      · rw [List.length_eraseIdx]; split <;> omega
      · rw [up2_s, h2k, hsub, List.length_eraseIdx, if_pos hg]
      · intro j hj
        rw [List.length_eraseIdx, if_pos hg] at hj
        rw [up2_a _ _ (by omega), h4 j (by omega), getD_erase, if_pos (show j < k by omega)]
      · rw [up2_ra _ _ q1, hf q q2]
    | succ m ih =>
      intro k Mk hk hgk hf h4
      have h2k : Mk a 2 = nI r.length := by rw [hf a (by omega)]; exact h2
      have hin : vp_in (nI k) 16 := vp_in_nI (by omega) (by decide)
      have hin1 : vp_in (nI k + 1) 16 := by rw [nI_1]; exact vp_in_nI (by omega) (by decide)
      have hkk : (nI k).toNatClampNeg = k := nI_clamp (by omega)
      have hk1 : (nI k + 1).toNatClampNeg = k + 1 := by rw [nI_1]; exact nI_clamp (by omega)
      refine aw_iload_n (n := 3) dX5_dropPlace_2 rfl rfl ?_
      refine aw_aload_n (n := 4) dX5_dropPlace_3 rfl rfl ?_
      refine aw_geti (n := 7) dX5_dropPlace_4 fX5_18 (by assumption) rfl rfl ?_
      refine aw_iconst (n := 8) (v := 1) dX5_dropPlace_7 (by decide) rfl ?_
      refine aw_isub (n := 9) dX5_dropPlace_8 rfl ?_
      refine aw_icmp_ge (tg := 32) (n := 12) dX5_dropPlace_9 (by decide) rfl (fun c_9 => by exact absurd (by rw [h2k, hsub] at c_9; exact c_9) (nI_ge (by omega) (by omega))) (fun c_9 => ?_)
      refine aw_aload_n (n := 13) dX5_dropPlace_12 rfl rfl ?_
      refine aw_getr (n := 16) dX5_dropPlace_13 fX5_21 (by assumption) rfl rfl ?_
      refine aw_iload_n (n := 17) dX5_dropPlace_16 rfl rfl ?_
      refine aw_aload_n (n := 18) dX5_dropPlace_17 rfl rfl ?_
      refine aw_getr (n := 21) dX5_dropPlace_18 fX5_21 (by assumption) rfl rfl ?_
      refine aw_iload_n (n := 22) dX5_dropPlace_21 rfl rfl ?_
      refine aw_iconst (n := 23) (v := 1) dX5_dropPlace_22 (by decide) rfl ?_
      refine aw_iadd (n := 24) dX5_dropPlace_23 rfl ?_
      refine aw_iald (n := 25) dX5_dropPlace_24 (by assumption) (by assumption) rfl ?_
      refine aw_iast (n := 26) dX5_dropPlace_25 (by assumption) (by assumption) rfl ?_
      refine aw_incp (n := 29) (L' := [_, _, _]) dX5_dropPlace_26 rfl rfl rfl ?_
      refine aw_goto (n := 2) dX5_dropPlace_29 (by decide) ?_
      rw [hkk, hk1, nI_1]
      refine ih (k + 1) _ (by omega) (by omega) (fun q hq => by rw [up2_ra _ _ hq, hf q hq]) (fun j hj => ?_)
      by_cases hjk : j = k
      · subst hjk
        rw [up2_s, h4 (j + 1) (by omega), if_neg (by omega), if_neg (by omega), if_neg (by omega), if_pos (by omega)]
      · rw [up2_k _ _ hjk, h4 j hj]
        by_cases h5 : j < g
        · rw [if_pos h5, if_pos h5]
        · rw [if_neg h5, if_neg h5]
          by_cases h6 : j < k
          · rw [if_pos h6, if_pos (by omega)]
          · rw [if_neg h6, if_neg (by omega)]
  refine aw_iload_n (n := 1) dX5_dropPlace_0 rfl rfl ?_
  refine aw_istore_n (n := 2) (L' := [_, _, _]) dX5_dropPlace_1 (Nat.le_of_ble_eq_true rfl) rfl rfl ?_
  refine loop (r.length - 1 - g) g _ (by omega) (Nat.le_refl _) (fun _ _ => rfl) (fun j hj => ?_)
  rw [h3 j hj]
  by_cases h5 : j < g
  · rw [if_pos h5]
  · rw [if_neg h5, if_neg h5]
theorem t_shr {a j : Nat} {r : List Int32} (hd : 2 ≤ d) (ha : iV a) (hv : vAt M a (some (.inr r))) (hj : j < nz r) (hQ : ∀ M', vAt M' a (some (.inr (shr r j))) → (∀ q, q ≠ a → q ≠ a + 1 → M' q = M q) → Q none EE M') : aw l K mX5_shrinkAnInt d 0 0 0 [.ref a, .int (nI j), .null, .null] [] EE M Q := by
  obtain ⟨hva, hvb⟩ := ha
  obtain ⟨h0, h16, h2, h3⟩ := hv
  have loop : ∀ m k lf x1, m + k = r.length → shr r j = r.take k ++ shr (r.drop k) lf → lf < nz (r.drop k) → aw l K mX5_shrinkAnInt d 0 0 4 [.ref a, x1, .int (nI lf), .int (nI k)] [] EE M Q := by
    intro m
    induction m with
    | zero =>
      intro k lf x1 hk h4 h5
      rw [List.drop_of_length_le (by omega)] at h5
      simp [nz] at h5
    | succ m ih =>
      intro k lf x1 hk h4 h5
      have hin : vp_in (nI k) 16 := vp_in_nI (by omega) (by decide)
      have hkk : (nI k).toNatClampNeg = k := nI_clamp (by omega)
      have hx : M (a + 1) k = r.getD k 0 := h3 k (by omega)
      have hnz := nz_le r
      have hlf : lf < 48 := by
        have := nz_le (r.drop k)
        rw [List.length_drop] at this
        omega
      rw [drop_cons r k (by omega)] at h4 h5
      simp only [shr] at h4
      simp only [nz] at h5
      refine aw_iload_n (n := 5) dX5_shrinkAnInt_4 rfl rfl ?_
      refine aw_aload_n (n := 6) dX5_shrinkAnInt_5 rfl rfl ?_
      refine aw_geti (n := 9) dX5_shrinkAnInt_6 fX5_18 (by assumption) rfl rfl ?_
      refine aw_icmp_ge (tg := 52) (n := 12) dX5_shrinkAnInt_9 (by decide) rfl (fun c_9 => by exact absurd (by rw [h2] at c_9; exact c_9) (nI_ge (by omega) (by omega))) (fun c_9 => ?_)
      refine aw_aload_n (n := 13) dX5_shrinkAnInt_12 rfl rfl ?_
      refine aw_getr (n := 16) dX5_shrinkAnInt_13 fX5_21 (by assumption) rfl rfl ?_
      refine aw_iload_n (n := 17) dX5_shrinkAnInt_16 rfl rfl ?_
      refine aw_iald (n := 18) dX5_shrinkAnInt_17 (by assumption) (by assumption) rfl ?_
      rw [hkk, hx]
      refine aw_if_eq (tg := 46) (n := 21) dX5_shrinkAnInt_18 (by decide) rfl (fun c_18 => ?_) (fun c_18 => ?_)
      · refine aw_incp (n := 49) (L' := [_, _, _, _]) dX5_shrinkAnInt_46 rfl rfl rfl ?_
        refine aw_goto (n := 4) dX5_shrinkAnInt_49 (by decide) ?_
        rw [nI_1]
        first
          | (rw [if_pos c_18] at h4 h5
             refine ih (k + 1) lf _ (by omega) ?_ (by omega)
             rw [h4, take_snoc r k (by omega), List.append_assoc]
             rfl)
          | (have hl3 : ¬ lf < 3 := fun q => absurd c_23 (by rw [i_nle]; exact (nI_ltI (b := 3) (by omega) (by omega)).mpr q)
             rw [if_neg c_18] at h4 h5
             rw [if_neg hl3] at h4
             rw [nI_m3 (by omega)]
             refine ih (k + 1) (lf - 3) _ (by omega) ?_ (by omega)
             rw [h4, take_snoc r k (by omega), List.append_assoc]
             rfl)
      · refine aw_iload_n (n := 22) dX5_shrinkAnInt_21 rfl rfl ?_
        refine aw_iconst (n := 23) (v := 3) dX5_shrinkAnInt_22 (by decide) rfl ?_
        refine aw_icmp_ge (tg := 43) (n := 26) dX5_shrinkAnInt_23 (by decide) rfl (fun c_23 => ?_) (fun c_23 => ?_)
        · refine aw_iinc (n := 46) (v := _ + (-3)) (L' := [_, _, _, _]) dX5_shrinkAnInt_43 rfl rfl rfl rfl ?_
          refine aw_incp (n := 49) (L' := [_, _, _, _]) dX5_shrinkAnInt_46 rfl rfl rfl ?_
          refine aw_goto (n := 4) dX5_shrinkAnInt_49 (by decide) ?_
          rw [nI_1]
          first
            | (rw [if_pos c_18] at h4 h5
               refine ih (k + 1) lf _ (by omega) ?_ (by omega)
               rw [h4, take_snoc r k (by omega), List.append_assoc]
               rfl)
            | (have hl3 : ¬ lf < 3 := fun q => absurd c_23 (by rw [i_nle]; exact (nI_ltI (b := 3) (by omega) (by omega)).mpr q)
               rw [if_neg c_18] at h4 h5
               rw [if_neg hl3] at h4
               rw [nI_m3 (by omega)]
               refine ih (k + 1) (lf - 3) _ (by omega) ?_ (by omega)
               rw [h4, take_snoc r k (by omega), List.append_assoc]
               rfl)
        · refine aw_aload_n (n := 27) dX5_shrinkAnInt_26 rfl rfl ?_
          refine aw_getr (n := 30) dX5_shrinkAnInt_27 fX5_21 (by assumption) rfl rfl ?_
          refine aw_iload_n (n := 31) dX5_shrinkAnInt_30 rfl rfl ?_
          refine aw_aload_n (n := 32) dX5_shrinkAnInt_31 rfl rfl ?_
          refine aw_getr (n := 35) dX5_shrinkAnInt_32 fX5_21 (by assumption) rfl rfl ?_
          refine aw_iload_n (n := 36) dX5_shrinkAnInt_35 rfl rfl ?_
          refine aw_iald (n := 37) dX5_shrinkAnInt_36 (by assumption) (by assumption) rfl ?_
          refine aw_iload_n (n := 38) dX5_shrinkAnInt_37 rfl rfl ?_
          refine aw_s2 (n := 41) (Z := mX5_nearerToZero) (L0 := [_, _]) dX5_shrinkAnInt_38 kX5_nearerToZero gX5_26 syX5_nearerToZero rfl rfl (Nat.le_of_ble_eq_true rfl) rfl rfl (by omega) (Nat.le_of_ble_eq_true rfl) (t_near (w := lf) (by exact (nI_ltI (by omega) (by omega)).mp (i_nle.mp c_23)) ?_)
          dsimp only [aPush]
          refine aw_iast (n := 42) dX5_shrinkAnInt_41 (by assumption) (by assumption) rfl ?_
          refine aw_vret dX5_shrinkAnInt_42 rfl ?_
          have hl3 : lf < 3 := (nI_ltI (by omega) (by omega)).mp (i_nle.mp c_23)
          rw [if_neg c_18, if_pos hl3] at h4
          rw [hkk, hx]
          have he : shr r j = r.set k (near (r.getD k 0) lf) := by
            rw [h4]
            exact (List.set_eq_take_append_cons_drop.trans (if_pos (by omega))).symm
          refine hQ _ ⟨?_, ?_, ?_, fun i hi => ?_⟩ (fun q q1 q2 => up2_ra _ _ q2)
          · rw [up2_a _ _ (by omega)]; exact h0
          · rw [he, List.length_set]; exact h16
          · rw [up2_a _ _ (by omega), he, List.length_set]; exact h2
          · rw [he, List.length_set] at hi
            rw [he, getD_set _ _ _ _ (by omega)]
            by_cases hik : i = k
            · subst hik; rw [up2_s, if_pos rfl]
            · rw [up2_k _ _ hik, if_neg hik]; exact h3 i hi
  refine aw_iload_n (n := 1) dX5_shrinkAnInt_0 rfl rfl ?_
  refine aw_istore_n (n := 2) (L' := [_, _, _, _]) dX5_shrinkAnInt_1 (Nat.le_of_ble_eq_true rfl) rfl rfl ?_
  refine aw_iconst (n := 3) (v := 0) dX5_shrinkAnInt_2 (by decide) rfl ?_
  refine aw_istore_n (n := 4) (L' := [_, _, _, _]) dX5_shrinkAnInt_3 (Nat.le_of_ble_eq_true rfl) rfl rfl ?_
  exact loop r.length 0 j _ (by omega) (by simp) (by simpa using hj)
theorem t_bc {a j : Nat} {v : vV} (hd : 4 ≤ d) (ha : iV a) (hv : vAt M a v) (hj : j < cc v) (hQ : ∀ M', vAt M' a (bc v j) → (∀ q, q ≠ a → q ≠ a + 1 → M' q = M q) → Q none EE M') : aw l K mX5_becomeCandidate d 0 0 0 [.ref a, .int (nI j)] [] EE M Q := by
  have ha' := ha
  obtain ⟨hva, hvb⟩ := ha
  rcases v with _ | x | r
  · simp [cc] at hj
  · obtain ⟨h0, h1, h2⟩ := hv
    have hj3 : j < 3 := by simp only [cc] at hj; split at hj <;> omega
    refine aw_aload_n (n := 1) dX5_becomeCandidate_0 rfl rfl ?_
    refine aw_geti (n := 4) dX5_becomeCandidate_1 fX5_9 (by assumption) rfl rfl ?_
    refine aw_if_ne (tg := 22) (n := 7) dX5_becomeCandidate_4 (by decide) rfl (fun c_4 => by exact absurd h0 c_4) (fun c_4 => ?_)
    refine aw_aload_n (n := 8) dX5_becomeCandidate_7 rfl rfl ?_
    refine aw_aload_n (n := 9) dX5_becomeCandidate_8 rfl rfl ?_
    refine aw_geti (n := 12) dX5_becomeCandidate_9 fX5_15 (by assumption) rfl rfl ?_
    refine aw_iload_n (n := 13) dX5_becomeCandidate_12 rfl rfl ?_
    refine aw_s2 (n := 16) (Z := mX5_nearerToZero) (L0 := [_, _]) dX5_becomeCandidate_13 kX5_nearerToZero gX5_26 syX5_nearerToZero rfl rfl (Nat.le_of_ble_eq_true rfl) rfl rfl (by omega) (Nat.le_of_ble_eq_true rfl) (t_near (w := j) hj3 ?_)
    dsimp only [aPush]
    refine aw_puti (n := 19) dX5_becomeCandidate_16 pX5_15 (by assumption) rfl rfl ?_
    refine aw_goto (n := 48) dX5_becomeCandidate_19 (by decide) ?_
    refine aw_vret dX5_becomeCandidate_48 rfl ?_
    refine hQ _ ⟨?_, ?_, ?_⟩ (fun q q1 q2 => up2_ra _ _ q1)
    · rw [up2_k _ _ (by decide)]; exact h0
    · rw [up2_s, h1]
    · rw [up2_k _ _ (by decide)]; exact h2
  · have hv' := hv
    obtain ⟨h0, h16, h2, h3⟩ := hv
    have hnz := nz_le r
    have hj' : j < r.length + nz r := hj
    refine aw_aload_n (n := 1) dX5_becomeCandidate_0 rfl rfl ?_
    refine aw_geti (n := 4) dX5_becomeCandidate_1 fX5_9 (by assumption) rfl rfl ?_
    refine aw_if_ne (tg := 22) (n := 7) dX5_becomeCandidate_4 (by decide) rfl (fun c_4 => ?_) (fun c_4 => by exact absurd c_4 (by rw [h0]; decide))
    refine aw_iload_n (n := 23) dX5_becomeCandidate_22 rfl rfl ?_
    refine aw_aload_n (n := 24) dX5_becomeCandidate_23 rfl rfl ?_
    refine aw_geti (n := 27) dX5_becomeCandidate_24 fX5_18 (by assumption) rfl rfl ?_
    rw [h2]
    refine aw_icmp_ge (tg := 38) (n := 30) dX5_becomeCandidate_27 (by decide) rfl (fun c_27 => ?_) (fun c_27 => ?_)
    · refine aw_aload_n (n := 39) dX5_becomeCandidate_38 rfl rfl ?_
      refine aw_iload_n (n := 40) dX5_becomeCandidate_39 rfl rfl ?_
      refine aw_aload_n (n := 41) dX5_becomeCandidate_40 rfl rfl ?_
      refine aw_geti (n := 44) dX5_becomeCandidate_41 fX5_18 (by assumption) rfl rfl ?_
      rw [h2]
      refine aw_isub (n := 45) dX5_becomeCandidate_44 rfl ?_
      rw [pk_sub ((nI_leI (by omega) (by omega)).mp c_27)]
      refine aw_v1 (n := 48) (Z := mX5_shrinkAnInt) (ci := 3) (L0 := [_, _, .null, .null]) dX5_becomeCandidate_45 kX5_shrinkAnInt gX5_34 iyX5_shrinkAnInt eyX5_shrinkAnInt rfl rfl (by assumption) rfl (Nat.le_of_ble_eq_true rfl) rfl rfl (by omega) (Nat.le_of_ble_eq_true rfl) (t_shr (by omega) ha' hv' (by have := (nI_leI (by omega) (by omega)).mp c_27; omega) (fun M' h5 h6 => ?_))
      dsimp only [aPush]
      refine aw_vret dX5_becomeCandidate_48 rfl ?_
      first
        | exact hQ _ ((show bc (some (.inr r)) j = some (.inr (r.eraseIdx j)) from if_pos ((nI_ltI (by omega) (by omega)).mp (i_nle.mp c_27))) ▸ h5) h6
        | exact hQ _ ((show bc (some (.inr r)) j = some (.inr (shr r (j - r.length))) from if_neg (by have := (nI_leI (by omega) (by omega)).mp c_27; omega)) ▸ h5) h6
    · refine aw_aload_n (n := 31) dX5_becomeCandidate_30 rfl rfl ?_
      refine aw_iload_n (n := 32) dX5_becomeCandidate_31 rfl rfl ?_
      refine aw_v1 (n := 35) (Z := mX5_dropPlace) (ci := 3) (L0 := [_, _, .null]) dX5_becomeCandidate_32 kX5_dropPlace gX5_30 iyX5_dropPlace eyX5_dropPlace rfl rfl (by assumption) rfl (Nat.le_of_ble_eq_true rfl) rfl rfl (by omega) (Nat.le_of_ble_eq_true rfl) (t_drop ha' hv' ((nI_ltI (by omega) (by omega)).mp (i_nle.mp c_27)) (fun M' h5 h6 => ?_))
      dsimp only [aPush]
      refine aw_goto (n := 48) dX5_becomeCandidate_35 (by decide) ?_
      refine aw_vret dX5_becomeCandidate_48 rfl ?_
      first
        | exact hQ _ ((show bc (some (.inr r)) j = some (.inr (r.eraseIdx j)) from if_pos ((nI_ltI (by omega) (by omega)).mp (i_nle.mp c_27))) ▸ h5) h6
        | exact hQ _ ((show bc (some (.inr r)) j = some (.inr (shr r (j - r.length))) from if_neg (by have := (nI_leI (by omega) (by omega)).mp c_27; omega)) ▸ h5) h6
end VAL
end
section
/-! what the document says, as functions: terms, their work, a try -/
abbrev tm : Type := Nat → Nat → Int32
def pts (w : Nat) : Nat := ([0, 0, 0, 2, 2, 2, 2, 2, 2, 2, 2, 1, 1, 3, 2, 3, 1, 1, 1, 3, 2] : List Nat).getD w 0
def isNo (x : Int32) (n : Nat) : Prop := ∃ j, j < n ∧ x = nI j
def wfT (cnt : Nat) (T : tm) : Prop := ∀ t, t < cnt → ∃ w, w ≤ 20 ∧ T 0 t = nI w ∧ (1 ≤ pts w → isNo (T 1 t) t) ∧ (2 ≤ pts w → isNo (T 2 t) t) ∧ (3 ≤ pts w → isNo (T 3 t) t) ∧ (w = 0 → isNo (T 4 t) 3)
def bW (v : vV) (f : Int32 → Nat ⊕ vV) : Nat ⊕ vV := match v with
  | none => .inl 1
  | some (.inl x) => f x
  | some (.inr _) => .inl 4
def bR (v : vV) (f : List Int32 → Nat ⊕ vV) : Nat ⊕ vV := match v with
  | none => .inl 1
  | some (.inl _) => .inl 4
  | some (.inr r) => f r
def tru (b : Bool) : Nat ⊕ vV := .inr (some (.inl (if b then 1 else 0)))
def opB (w : Nat) (x y : Int32) : Nat ⊕ vV := if w = 3 then .inr (some (.inl (x + y))) else if w = 4 then .inr (some (.inl (x - y))) else if w = 5 then .inr (some (.inl (x * y))) else if w = 6 then (if y = 0 then .inl 5 else .inr (some (.inl (x / y)))) else if w = 7 then (if y = 0 then .inl 5 else .inr (some (.inl (x - x / y * y)))) else tru (decide (x < y))
def opL (a b : vV) : Nat ⊕ vV := match a, b with
  | none, _ => .inl 1
  | some _, none => .inl 1
  | some (.inl x), some (.inl y) => tru (decide (x = y))
  | some (.inr r), some (.inr s) => tru (decide (r = s))
  | some (.inl _), some (.inr _) => .inl 4
  | some (.inr _), some (.inl _) => .inl 4
def sh (f : Nat → Int32) (x : Int32) : Nat → (Nat → Int32)
  | 0 => fun j => if j = 0 then x else f j
  | p + 1 => if x < f p then sh (fun j => if j = p + 1 then f p else f j) x p else fun j => if j = p + 1 then x else f j
def srt (f : Nat → Int32) : Nat → (Nat → Int32)
  | 0 => f
  | k + 1 => sh (srt f k) (srt f k (k + 1)) (k + 1)
def fR (r : List Int32) : Nat → Int32 := fun j => r.getD j 0
def lR (n : Nat) (f : Nat → Int32) : List Int32 := (List.range n).map f
def sumR (r : List Int32) : Int32 := r.foldl (fun s x => s + x) 0
def op (w : Nat) (n : Int32) (inp : Nat → vV) (a b c : vV) : Nat ⊕ vV :=
  if w = 0 then .inr (inp n.toNatClampNeg)
  else if w = 1 then .inr (some (.inl n))
  else if w = 2 then .inr none
  else if w < 9 then bW a fun x => bW b fun y => opB w x y
  else if w = 9 then opL a b
  else if w = 10 then bR a fun r => bW b fun i => if i < 0 ∨ nI r.length ≤ i then .inl 2 else .inr (some (.inl (r.getD i.toNatClampNeg 0)))
  else if w = 11 then bR a fun r => .inr (some (.inl (nI r.length)))
  else if w = 12 then bW a fun x => if x < 0 then .inl 3 else if 16 < x then .inl 6 else .inr (some (.inr (List.replicate x.toNatClampNeg 0)))
  else if w = 13 then bR a fun r => bW b fun i => bW c fun x => if i < 0 ∨ nI r.length ≤ i then .inl 2 else .inr (some (.inr (r.set i.toNatClampNeg x)))
  else if w = 14 then bR a fun r => bR b fun s => if 16 < r.length + s.length then .inl 6 else .inr (some (.inr (r ++ s)))
  else if w = 15 then bR a fun r => bW b fun i => bW c fun k => if k < 0 then .inl 3 else if 16 < k then .inl 6 else if i < 0 ∨ nI r.length - k < i then .inl 2 else .inr (some (.inr ((r.drop i.toNatClampNeg).take k.toNatClampNeg)))
  else if w = 16 then bR a fun r => .inr (some (.inr (lR r.length (srt (fR r) (r.length - 1)))))
  else if w = 17 then bR a fun r => .inr (some (.inr r.reverse))
  else bR a fun r => .inr (some (.inl (sumR r)))
abbrev rE : Type := Nat × (Nat ⊕ vV)
def eB (p : rE) (f : Nat → vV → rE) : rE := match p with
  | (r, .inl k) => (r, .inl k)
  | (r, .inr v) => f r v
def eW (r : Nat) (v : vV) (f : Int32 → rE) : rE := match v with
  | none => (r, .inl 1)
  | some (.inl x) => f x
  | some (.inr _) => (r, .inl 4)
/-- the work of a term with r steps left: what is left, and a throw or a value -/
def ev (T : tm) (inp : Nat → vV) : Nat → Nat → Nat → rE
  | 0, r, _ => (r, .inl 7)
  | _ + 1, 0, _ => (0, .inl 7)
  | n + 1, r + 1, t =>
    if (T 0 t).toNatClampNeg = 19 then eB (ev T inp n r (T 1 t).toNatClampNeg) fun r1 v => eW r1 v fun x => if x = 0 then ev T inp n r1 (T 3 t).toNatClampNeg else ev T inp n r1 (T 2 t).toNatClampNeg
    else if (T 0 t).toNatClampNeg = 20 then eB (ev T inp n r (T 1 t).toNatClampNeg) fun r1 v => eW r1 v fun x => if x = 0 then (r1, .inr (some (.inl 0))) else eB (ev T inp n r1 (T 2 t).toNatClampNeg) fun r2 v2 => eW r2 v2 fun y => (r2, .inr (some (.inl (if y = 0 then 0 else 1))))
    else if pts (T 0 t).toNatClampNeg = 0 then (r, op (T 0 t).toNatClampNeg (T 4 t) inp none none none)
    else eB (ev T inp n r (T 1 t).toNatClampNeg) fun r1 a =>
      if pts (T 0 t).toNatClampNeg = 1 then (r1, op (T 0 t).toNatClampNeg (T 4 t) inp a none none)
      else eB (ev T inp n r1 (T 2 t).toNatClampNeg) fun r2 b =>
        if pts (T 0 t).toNatClampNeg = 2 then (r2, op (T 0 t).toNatClampNeg (T 4 t) inp a b none)
        else eB (ev T inp n r2 (T 3 t).toNatClampNeg) fun r3 c => (r3, op (T 0 t).toNatClampNeg (T 4 t) inp a b c)
theorem ev_le (T : tm) (inp : Nat → vV) : ∀ n r t, (ev T inp n r t).1 ≤ r := by
  intro n
  induction n with
  | zero => intro r t; exact Nat.le_refl _
  | succ n ih =>
    intro r t
    cases r with
    | zero => exact Nat.le_refl _
    | succ r =>
      have eBle : ∀ (p : rE) (f : Nat → vV → rE) (m : Nat), p.1 ≤ m → (∀ r1 v, r1 ≤ m → (f r1 v).1 ≤ m) → (eB p f).1 ≤ m := by
        intro p f m h1 h2
        rcases p with ⟨r1, k | v⟩
        · exact h1
        · exact h2 r1 v h1
      have eWle : ∀ (r1 : Nat) (v : vV) (f : Int32 → rE) (m : Nat), r1 ≤ m → (∀ x, (f x).1 ≤ m) → (eW r1 v f).1 ≤ m := by
        intro r1 v f m h1 h2
        rcases v with _ | x | s
        · exact h1
        · exact h2 x
        · exact h1
      unfold ev
      split
      · refine eBle _ _ _ (Nat.le_succ_of_le (ih _ _)) (fun r1 v h1 => eWle _ _ _ _ h1 (fun x => ?_))
        split
        · exact Nat.le_trans (ih _ _) h1
        · exact Nat.le_trans (ih _ _) h1
      · split
        · refine eBle _ _ _ (Nat.le_succ_of_le (ih _ _)) (fun r1 v h1 => eWle _ _ _ _ h1 (fun x => ?_))
          split
          · exact h1
          · refine eBle _ _ _ (Nat.le_trans (ih _ _) h1) (fun r2 v2 h2 => eWle _ _ _ _ h2 (fun y => h2))
        · split
          · exact Nat.le_succ _
          · refine eBle _ _ _ (Nat.le_succ_of_le (ih _ _)) (fun r1 v h1 => ?_)
            split
            · exact h1
            · refine eBle _ _ _ (Nat.le_trans (ih _ _) h1) (fun r2 v2 h2 => ?_)
              split
              · exact h2
              · refine eBle _ _ _ (Nat.le_trans (ih _ _) h2) (fun r3 v3 h3 => h3)
/-- rows stay short -/
def okV : vV → Prop
  | some (.inr r) => r.length ≤ 16
  | _ => True
end
section
theorem getD_app (r s : List Int32) (j : Nat) : (r ++ s).getD j 0 = if j < r.length then r.getD j 0 else s.getD (j - r.length) 0 := by
  simp only [List.getD_eq_getElem?_getD, List.getElem?_append]
  split <;> rfl
theorem getD_rev (r : List Int32) (j : Nat) (h : j < r.length) : r.reverse.getD j 0 = r.getD (r.length - 1 - j) 0 := by
  simp only [List.getD_eq_getElem?_getD, List.getElem?_reverse h]
theorem getD_dt (r : List Int32) (b c j : Nat) (h : j < c) : ((r.drop b).take c).getD j 0 = r.getD (b + j) 0 := by
  simp only [List.getD_eq_getElem?_getD, List.getElem?_take, List.getElem?_drop, if_pos h]
theorem len_lR (n : Nat) (f : Nat → Int32) : (lR n f).length = n := by unfold lR; rw [List.length_map, List.length_range]
theorem getD_lR (n : Nat) (f : Nat → Int32) (j : Nat) (h : j < n) : (lR n f).getD j 0 = f j := by
  unfold lR
  simp [List.getD_eq_getElem?_getD, h]
theorem getD_rep (n j : Nat) : (List.replicate n (0 : Int32)).getD j 0 = 0 := by
  simp only [List.getD_eq_getElem?_getD, List.getElem?_replicate]
  split <;> rfl
theorem ext_getD {r s : List Int32} (hl : r.length = s.length) (h : ∀ j, j < r.length → r.getD j 0 = s.getD j 0) : r = s := by
  apply List.ext_getElem hl
  intro i h1 h2
  have := h i h1
  simpa [List.getD_eq_getElem?_getD, h1, h2] using this
/-- an index of a row -/
theorem ix_in {i : Int32} {n : Nat} (hn : n ≤ 16) (h : ¬ (i < 0 ∨ nI n ≤ i)) : ∃ j, j < n ∧ i = nI j := vp_lt (by omega) (fun q => h (Or.inl q)) (fun q => h (Or.inr q))
section OPS
variable {l : Launch} {K : aK} {d : Nat} {M : aM} {Q : Option Value → aE → aM → Prop}
theorem t_truth {a : Nat} {x : Int32} (hd : 1 ≤ d) (ha : iV a) (hQ : ∀ M', vAt M' a (some (.inl (if x = 0 then 0 else 1))) → (∀ b, b ≠ a → M' b = M b) → Q none EE M') : aw l K mX6_setTruth d 0 0 0 [.ref a, .int x] [] EE M Q := by
  have ha' := ha
  obtain ⟨hva, hvb⟩ := ha
  refine aw_aload_n (n := 1) dX6_setTruth_0 rfl rfl ?_
  refine aw_iload_n (n := 2) dX6_setTruth_1 rfl rfl ?_
  refine aw_if_eq (tg := 9) (n := 5) dX6_setTruth_2 (by decide) rfl (fun c_2 => ?_) (fun c_2 => ?_)
  · refine aw_iconst (n := 10) (v := 0) dX6_setTruth_9 (by decide) rfl ?_
    refine aw_v1 (n := 13) (Z := mX5_setWhole) (ci := 3) (L0 := [_, _]) dX6_setTruth_10 kX5_setWhole gX6_117 iyX5_setWhole eyX5_setWhole rfl rfl (by assumption) rfl (Nat.le_of_ble_eq_true rfl) rfl rfl (by omega) (Nat.le_of_ble_eq_true rfl) (t_setWhole ha' (fun M' h1 h2 => ?_))
    dsimp only [aPush]
    refine aw_vret dX6_setTruth_13 rfl ?_
    first
      | exact hQ _ (by rw [if_pos c_2]; exact h1) h2
      | exact hQ _ (by rw [if_neg c_2]; exact h1) h2
  · refine aw_iconst (n := 6) (v := 1) dX6_setTruth_5 (by decide) rfl ?_
    refine aw_goto (n := 10) dX6_setTruth_6 (by decide) ?_
    refine aw_v1 (n := 13) (Z := mX5_setWhole) (ci := 3) (L0 := [_, _]) dX6_setTruth_10 kX5_setWhole gX6_117 iyX5_setWhole eyX5_setWhole rfl rfl (by assumption) rfl (Nat.le_of_ble_eq_true rfl) rfl rfl (by omega) (Nat.le_of_ble_eq_true rfl) (t_setWhole ha' (fun M' h1 h2 => ?_))
    dsimp only [aPush]
    refine aw_vret dX6_setTruth_13 rfl ?_
    first
      | exact hQ _ (by rw [if_pos c_2]; exact h1) h2
      | exact hQ _ (by rw [if_neg c_2]; exact h1) h2
theorem t_like {a b : Nat} {va vb : vV} {bl : Bool} (ha : iV a) (hb : iV b) (h1 : vAt M a va) (h2 : vAt M b vb) (ho : opL va vb = tru bl) (hQ : Q (some (.int (if bl then 1 else 0))) EE M) : aw l K mX6_areLike d 0 0 0 [.ref a, .ref b, .null] [] EE M Q := by
  obtain ⟨hva, hvb⟩ := ha
  obtain ⟨hvc, hvd⟩ := hb
  rcases va with _ | x | r
  · simp [opL, tru] at ho
  · rcases vb with _ | y | s
    · simp [opL, tru] at ho
    · obtain ⟨a0, a1, a2⟩ := h1
      obtain ⟨b0, b1, b2⟩ := h2
      have hbl : (if bl then (1 : Int32) else 0) = if x = y then 1 else 0 := by
        simp only [opL, tru, Sum.inr.injEq, Option.some.injEq, Sum.inl.injEq, decide_eq_true_eq] at ho
        exact ho.symm
      rw [hbl] at hQ
      refine aw_aload_n (n := 1) dX6_areLike_0 rfl rfl ?_
      refine aw_geti (n := 4) dX6_areLike_1 fX6_104 (by assumption) rfl rfl ?_
      refine aw_if_ne (tg := 24) (n := 7) dX6_areLike_4 (by decide) rfl (fun c_4 => by exact absurd a0 c_4) (fun c_4 => ?_)
      refine aw_aload_n (n := 8) dX6_areLike_7 rfl rfl ?_
      refine aw_geti (n := 11) dX6_areLike_8 fX6_48 (by assumption) rfl rfl ?_
      refine aw_aload_n (n := 12) dX6_areLike_11 rfl rfl ?_
      refine aw_geti (n := 15) dX6_areLike_12 fX6_48 (by assumption) rfl rfl ?_
      rw [a1, b1]
      refine aw_icmp_ne (tg := 22) (n := 18) dX6_areLike_15 (by decide) rfl (fun c_15 => ?_) (fun c_15 => ?_)
      · refine aw_iconst (n := 23) (v := 0) dX6_areLike_22 (by decide) rfl ?_
        refine aw_zret dX6_areLike_23 rfl (by first | exact Or.inl rfl | exact Or.inr rfl | assumption) ?_
        first
          | (rw [if_neg c_15] at hQ; exact hQ)
          | (rw [if_pos c_15] at hQ; exact hQ)
      · refine aw_iconst (n := 19) (v := 1) dX6_areLike_18 (by decide) rfl ?_
        refine aw_goto (n := 23) dX6_areLike_19 (by decide) ?_
        refine aw_zret dX6_areLike_23 rfl (by first | exact Or.inl rfl | exact Or.inr rfl | assumption) ?_
        first
          | (rw [if_neg c_15] at hQ; exact hQ)
          | (rw [if_pos c_15] at hQ; exact hQ)
    · simp [opL, tru] at ho
  · rcases vb with _ | y | s
    · simp [opL, tru] at ho
    · simp [opL, tru] at ho
    · obtain ⟨a0, a16, a2, a3⟩ := h1
      obtain ⟨b0, b16, b2, b3⟩ := h2
      have hbl : (if bl then (1 : Int32) else 0) = if r = s then 1 else 0 := by
        simp only [opL, tru, Sum.inr.injEq, Option.some.injEq, Sum.inl.injEq, decide_eq_true_eq] at ho
        exact ho.symm
      rw [hbl] at hQ
      have loop : ∀ m k, m + k = r.length → r.length = s.length → (∀ j, j < k → r.getD j 0 = s.getD j 0) → aw l K mX6_areLike d 0 0 39 [.ref a, .ref b, .int (nI k)] [] EE M Q := by
        intro m
        induction m with
        | zero =>
          intro k hk hl h4
          refine aw_iload_n (n := 40) dX6_areLike_39 rfl rfl ?_
          refine aw_aload_n (n := 41) dX6_areLike_40 rfl rfl ?_
          refine aw_geti (n := 44) dX6_areLike_41 fX6_132 (by assumption) rfl rfl ?_
          refine aw_icmp_ge (tg := 70) (n := 47) dX6_areLike_44 (by decide) rfl (fun c_44 => ?_) (fun c_44 => by exact absurd (by rw [a2]; exact nI_le (by omega) (by omega)) c_44)
          refine aw_iconst (n := 71) (v := 1) dX6_areLike_70 (by decide) rfl ?_
          refine aw_zret dX6_areLike_71 rfl (by first | exact Or.inl rfl | exact Or.inr rfl | assumption) ?_
          rw [if_pos (ext_getD hl (fun j hj => h4 j (by omega)))] at hQ; exact hQ
        | succ m ih =>
          intro k hk hl h4
          have hin : vp_in (nI k) 16 := vp_in_nI (by omega) (by decide)
          have hkk : (nI k).toNatClampNeg = k := nI_clamp (by omega)
          refine aw_iload_n (n := 40) dX6_areLike_39 rfl rfl ?_
          refine aw_aload_n (n := 41) dX6_areLike_40 rfl rfl ?_
          refine aw_geti (n := 44) dX6_areLike_41 fX6_132 (by assumption) rfl rfl ?_
          refine aw_icmp_ge (tg := 70) (n := 47) dX6_areLike_44 (by decide) rfl (fun c_44 => by exact absurd (by rw [a2] at c_44; exact c_44) (nI_ge (by omega) (by omega))) (fun c_44 => ?_)
          refine aw_aload_n (n := 48) dX6_areLike_47 rfl rfl ?_
          refine aw_getr (n := 51) dX6_areLike_48 fX6_164 (by assumption) rfl rfl ?_
          refine aw_iload_n (n := 52) dX6_areLike_51 rfl rfl ?_
          refine aw_iald (n := 53) dX6_areLike_52 (by assumption) (by assumption) rfl ?_
          refine aw_aload_n (n := 54) dX6_areLike_53 rfl rfl ?_
          refine aw_getr (n := 57) dX6_areLike_54 fX6_164 (by assumption) rfl rfl ?_
          refine aw_iload_n (n := 58) dX6_areLike_57 rfl rfl ?_
          refine aw_iald (n := 59) dX6_areLike_58 (by assumption) (by assumption) rfl ?_
          rw [hkk, a3 k (by omega), b3 k (by omega)]
          refine aw_icmp_eq (tg := 64) (n := 62) dX6_areLike_59 (by decide) rfl (fun c_59 => ?_) (fun c_59 => ?_)
          · refine aw_incp (n := 67) (L' := [_, _, _]) dX6_areLike_64 rfl rfl rfl ?_
            refine aw_goto (n := 39) dX6_areLike_67 (by decide) ?_
            rw [nI_1]
            refine ih (k + 1) (by omega) hl (fun j hj => ?_)
            by_cases hjk : j = k
            · subst hjk; exact c_59
            · exact h4 j (by omega)
          · refine aw_iconst (n := 63) (v := 0) dX6_areLike_62 (by decide) rfl ?_
            refine aw_zret dX6_areLike_63 rfl (by first | exact Or.inl rfl | exact Or.inr rfl | assumption) ?_
            rw [if_neg (fun q => c_59 (by rw [q]))] at hQ; exact hQ
      refine aw_aload_n (n := 1) dX6_areLike_0 rfl rfl ?_
      refine aw_geti (n := 4) dX6_areLike_1 fX6_104 (by assumption) rfl rfl ?_
      refine aw_if_ne (tg := 24) (n := 7) dX6_areLike_4 (by decide) rfl (fun c_4 => ?_) (fun c_4 => by exact absurd c_4 (by rw [a0]; decide))
      refine aw_aload_n (n := 25) dX6_areLike_24 rfl rfl ?_
      refine aw_geti (n := 28) dX6_areLike_25 fX6_132 (by assumption) rfl rfl ?_
      refine aw_aload_n (n := 29) dX6_areLike_28 rfl rfl ?_
      refine aw_geti (n := 32) dX6_areLike_29 fX6_132 (by assumption) rfl rfl ?_
      rw [a2, b2]
      refine aw_icmp_eq (tg := 37) (n := 35) dX6_areLike_32 (by decide) rfl (fun c_32 => ?_) (fun c_32 => ?_)
      · refine aw_iconst (n := 38) (v := 0) dX6_areLike_37 (by decide) rfl ?_
        refine aw_istore_n (n := 39) (L' := [_, _, _]) dX6_areLike_38 (Nat.le_of_ble_eq_true rfl) rfl rfl ?_
        exact loop r.length 0 (by omega) ((nI_eq (by omega) (by omega)).mp c_32) (fun j hj => by omega)
      · refine aw_iconst (n := 36) (v := 0) dX6_areLike_35 (by decide) rfl ?_
        refine aw_zret dX6_areLike_36 rfl (by first | exact Or.inl rfl | exact Or.inr rfl | assumption) ?_
        rw [if_neg (fun q => c_32 (by rw [q]))] at hQ; exact hQ
theorem t_setAt {a b : Nat} {r : List Int32} {i : Int32} (hd : 2 ≤ d) (ha : iV a) (hb : iV b) (hv : vAt M b (some (.inr r))) (h1 : i < 0 ∨ nI r.length ≤ i → Q (some (.int 2)) EE M) (h2 : ¬ (i < 0 ∨ nI r.length ≤ i) → ∀ M', vAt M' a (some (.inl (r.getD i.toNatClampNeg 0))) → (∀ q, q ≠ a → q ≠ a + 1 → M' q = M q) → Q (some (.int 0)) EE M') : aw l K mX6_setAt d 0 0 0 [.ref a, .ref b, .int i] [] EE M Q := by
  have ha' := ha
  obtain ⟨hva, hvb⟩ := ha
  obtain ⟨hvc, hvd⟩ := hb
  obtain ⟨b0, b16, b2, b3⟩ := hv
  refine aw_aload_n (n := 1) dX6_setAt_0 rfl rfl ?_
  refine aw_iload_n (n := 2) dX6_setAt_1 rfl rfl ?_
  refine aw_v1 (n := 5) (Z := mX5_hasPlace) (ci := 3) (L0 := [_, _]) dX6_setAt_2 kX5_hasPlace gX6_167 iyX5_hasPlace eyX5_hasPlace rfl rfl (by assumption) rfl (Nat.le_of_ble_eq_true rfl) rfl rfl (by omega) (Nat.le_of_ble_eq_true rfl) ?_
  refine aw_iload_n (n := 1) dX5_hasPlace_0 rfl rfl ?_
  refine aw_if_lt (tg := 16) (n := 4) dX5_hasPlace_1 (by decide) rfl (fun c_1 => ?_) (fun c_1 => ?_)
  · refine aw_iconst (n := 17) (v := 0) dX5_hasPlace_16 (by decide) rfl ?_
    refine aw_zret dX5_hasPlace_17 rfl (by first | exact Or.inl rfl | exact Or.inr rfl | assumption) ?_
    dsimp only [aPush]
    refine aw_if_ne (tg := 10) (n := 8) dX6_setAt_5 (by decide) rfl (fun c_5 => by first | exact absurd rfl c_5 | exact absurd c_5 (by decide)) (fun _ => ?_)
    refine aw_iconst (n := 9) (v := 2) dX6_setAt_8 (by decide) rfl ?_
    refine aw_iret dX6_setAt_9 rfl ?_
    first | exact h1 (Or.inl c_1) | exact h1 (Or.inr c_9)
  · refine aw_iload_n (n := 5) dX5_hasPlace_4 rfl rfl ?_
    refine aw_aload_n (n := 6) dX5_hasPlace_5 rfl rfl ?_
    refine aw_geti (n := 9) dX5_hasPlace_6 fX5_18 (by assumption) rfl rfl ?_
    rw [b2]
    refine aw_icmp_ge (tg := 16) (n := 12) dX5_hasPlace_9 (by decide) rfl (fun c_9 => ?_) (fun c_9 => ?_)
    · refine aw_iconst (n := 17) (v := 0) dX5_hasPlace_16 (by decide) rfl ?_
      refine aw_zret dX5_hasPlace_17 rfl (by first | exact Or.inl rfl | exact Or.inr rfl | assumption) ?_
      dsimp only [aPush]
      refine aw_if_ne (tg := 10) (n := 8) dX6_setAt_5 (by decide) rfl (fun c_5 => by first | exact absurd rfl c_5 | exact absurd c_5 (by decide)) (fun _ => ?_)
      refine aw_iconst (n := 9) (v := 2) dX6_setAt_8 (by decide) rfl ?_
      refine aw_iret dX6_setAt_9 rfl ?_
      first | exact h1 (Or.inl c_1) | exact h1 (Or.inr c_9)
    · refine aw_iconst (n := 13) (v := 1) dX5_hasPlace_12 (by decide) rfl ?_
      refine aw_goto (n := 17) dX5_hasPlace_13 (by decide) ?_
      refine aw_zret dX5_hasPlace_17 rfl (by first | exact Or.inl rfl | exact Or.inr rfl | assumption) ?_
      dsimp only [aPush]
      refine aw_if_ne (tg := 10) (n := 8) dX6_setAt_5 (by decide) rfl (fun _ => ?_) (fun c_5 => by first | exact absurd rfl c_5 | exact absurd c_5 (by decide))
      have hn : ¬ (i < 0 ∨ nI r.length ≤ i) := fun q => q.elim c_1 c_9
      obtain ⟨j, hj, rfl⟩ := ix_in b16 hn
      have hin : vp_in (nI j) 16 := vp_in_nI (by omega) (by decide)
      have hjj : (nI j).toNatClampNeg = j := nI_clamp (by omega)
      refine aw_aload_n (n := 11) dX6_setAt_10 rfl rfl ?_
      refine aw_aload_n (n := 12) dX6_setAt_11 rfl rfl ?_
      refine aw_getr (n := 15) dX6_setAt_12 fX6_164 (by assumption) rfl rfl ?_
      refine aw_iload_n (n := 16) dX6_setAt_15 rfl rfl ?_
      refine aw_iald (n := 17) dX6_setAt_16 (by assumption) (by assumption) rfl ?_
      rw [hjj, b3 j hj]
      refine aw_v1 (n := 20) (Z := mX5_setWhole) (ci := 3) (L0 := [_, _]) dX6_setAt_17 kX5_setWhole gX6_117 iyX5_setWhole eyX5_setWhole rfl rfl (by assumption) rfl (Nat.le_of_ble_eq_true rfl) rfl rfl (by omega) (Nat.le_of_ble_eq_true rfl) (t_setWhole ha' (fun M' h5 h6 => ?_))
      dsimp only [aPush]
      refine aw_iconst (n := 21) (v := 0) dX6_setAt_20 (by decide) rfl ?_
      refine aw_iret dX6_setAt_21 rfl ?_
      exact h2 hn _ (by rw [hjj]; exact h5) (fun q q1 q2 => h6 q q1)
theorem t_setZeros {a : Nat} {x : Int32} (hd : 1 ≤ d) (ha : iV a) (h1 : x < 0 → Q (some (.int 3)) EE M) (h2 : ¬ x < 0 → 16 < x → Q (some (.int 6)) EE M) (h3 : ¬ x < 0 → ¬ 16 < x → ∀ M', vAt M' a (some (.inr (List.replicate x.toNatClampNeg 0))) → (∀ q, q ≠ a → q ≠ a + 1 → M' q = M q) → Q (some (.int 0)) EE M') : aw l K mX6_setZeros d 0 0 0 [.ref a, .int x, .null] [] EE M Q := by
  have ha' := ha
  obtain ⟨hva, hvb⟩ := ha
  by_cases hx0 : x < 0
  · refine aw_iload_n (n := 1) dX6_setZeros_0 rfl rfl ?_
    refine aw_if_ge (tg := 6) (n := 4) dX6_setZeros_1 (by decide) rfl (fun c_1 => by exact absurd hx0 (i_nlt.mpr c_1)) (fun c_1 => ?_)
    refine aw_iconst (n := 5) (v := 3) dX6_setZeros_4 (by decide) rfl ?_
    refine aw_iret dX6_setZeros_5 rfl ?_
    exact h1 hx0
  by_cases hx16 : 16 < x
  · refine aw_iload_n (n := 1) dX6_setZeros_0 rfl rfl ?_
    refine aw_if_ge (tg := 6) (n := 4) dX6_setZeros_1 (by decide) rfl (fun c_1 => ?_) (fun c_1 => by exact absurd (i_nlt.mp hx0) c_1)
    refine aw_iload_n (n := 7) dX6_setZeros_6 rfl rfl ?_
    refine aw_bipush (n := 9) (v := 16) dX6_setZeros_7 (by decide) rfl ?_
    refine aw_icmp_le (tg := 15) (n := 12) dX6_setZeros_9 (by decide) rfl (fun c_9 => by exact absurd hx16 (i_nlt.mpr c_9)) (fun c_9 => ?_)
    refine aw_bipush (n := 14) (v := 6) dX6_setZeros_12 (by decide) rfl ?_
    refine aw_iret dX6_setZeros_14 rfl ?_
    exact h2 hx0 hx16
  obtain ⟨n, hn, rfl⟩ := nI_of2 (M := 16) (n := 16) (by decide) hx0 (i_nlt.mp hx16)
  have hnn : (nI n).toNatClampNeg = n := nI_clamp (by omega)
  have h4 := h3 hx0 hx16
  rw [hnn] at h4
  have loop : ∀ m k Mk, m + k = n → Mk a 0 = 1 → Mk a 2 = nI n → (∀ q, q ≠ a → q ≠ a + 1 → Mk q = M q) → (∀ j, j < k → Mk (a + 1) j = 0) → aw l K mX6_setZeros d 0 0 22 [.ref a, .int (nI n), .int (nI k)] [] EE Mk Q := by
    intro m
    induction m with
    | zero =>
      intro k Mk hk g0 g2 hf h5
      refine aw_iload_n (n := 23) dX6_setZeros_22 rfl rfl ?_
      refine aw_iload_n (n := 24) dX6_setZeros_23 rfl rfl ?_
      refine aw_icmp_ge (tg := 40) (n := 27) dX6_setZeros_24 (by decide) rfl (fun c_24 => ?_) (fun c_24 => by exact absurd (nI_le (by omega) (by omega)) c_24)
      refine aw_iconst (n := 41) (v := 0) dX6_setZeros_40 (by decide) rfl ?_
      refine aw_iret dX6_setZeros_41 rfl ?_
      refine h4 _ ⟨g0, by rw [List.length_replicate]; exact hn, by rw [List.length_replicate]; exact g2, fun j hj => ?_⟩ hf
      rw [List.length_replicate] at hj
      rw [getD_rep]; exact h5 j (by omega)
    | succ m ih =>
      intro k Mk hk g0 g2 hf h5
      have hin : vp_in (nI k) 16 := vp_in_nI (by omega) (by decide)
      have hkk : (nI k).toNatClampNeg = k := nI_clamp (by omega)
      refine aw_iload_n (n := 23) dX6_setZeros_22 rfl rfl ?_
      refine aw_iload_n (n := 24) dX6_setZeros_23 rfl rfl ?_
      refine aw_icmp_ge (tg := 40) (n := 27) dX6_setZeros_24 (by decide) rfl (fun c_24 => by exact absurd c_24 (nI_ge (by omega) (by omega))) (fun c_24 => ?_)
      refine aw_aload_n (n := 28) dX6_setZeros_27 rfl rfl ?_
      refine aw_getr (n := 31) dX6_setZeros_28 fX6_164 (by assumption) rfl rfl ?_
      refine aw_iload_n (n := 32) dX6_setZeros_31 rfl rfl ?_
      refine aw_iconst (n := 33) (v := 0) dX6_setZeros_32 (by decide) rfl ?_
      refine aw_iast (n := 34) dX6_setZeros_33 (by assumption) (by assumption) rfl ?_
      refine aw_incp (n := 37) (L' := [_, _, _]) dX6_setZeros_34 rfl rfl rfl ?_
      refine aw_goto (n := 22) dX6_setZeros_37 (by decide) ?_
      rw [nI_1, hkk]
      refine ih (k + 1) _ (by omega) ?_ ?_ (fun q q1 q2 => ?_) (fun j hj => ?_)
      · rw [up2_a _ _ (by omega)]; exact g0
      · rw [up2_a _ _ (by omega)]; exact g2
      · rw [up2_ra _ _ q2]; exact hf q q1 q2
      · by_cases hjk : j = k
        · subst hjk; rw [up2_s]
        · rw [up2_k _ _ hjk]; exact h5 j (by omega)
  refine aw_iload_n (n := 1) dX6_setZeros_0 rfl rfl ?_
  refine aw_if_ge (tg := 6) (n := 4) dX6_setZeros_1 (by decide) rfl (fun c_1 => ?_) (fun c_1 => by exact absurd (i_nlt.mp hx0) c_1)
  refine aw_iload_n (n := 7) dX6_setZeros_6 rfl rfl ?_
  refine aw_bipush (n := 9) (v := 16) dX6_setZeros_7 (by decide) rfl ?_
  refine aw_icmp_le (tg := 15) (n := 12) dX6_setZeros_9 (by decide) rfl (fun c_9 => ?_) (fun c_9 => by exact absurd (i_nlt.mp hx16) c_9)
  refine aw_aload_n (n := 16) dX6_setZeros_15 rfl rfl ?_
  refine aw_iload_n (n := 17) dX6_setZeros_16 rfl rfl ?_
  refine aw_v1 (n := 20) (Z := mX5_setRow) (ci := 3) (L0 := [_, _]) dX6_setZeros_17 kX5_setRow gX6_171 iyX5_setRow eyX5_setRow rfl rfl (by assumption) rfl (Nat.le_of_ble_eq_true rfl) rfl rfl (by omega) (Nat.le_of_ble_eq_true rfl) (t_setRow ha' (fun M' g0 g2 g3 => ?_))
  dsimp only [aPush]
  refine aw_iconst (n := 21) (v := 0) dX6_setZeros_20 (by decide) rfl ?_
  refine aw_istore_n (n := 22) (L' := [_, _, _]) dX6_setZeros_21 (Nat.le_of_ble_eq_true rfl) rfl rfl ?_
  exact loop n 0 _ (by omega) g0 g2 (fun q q1 q2 => g3 q q1) (fun j hj => by omega)
theorem t_setPut {a b : Nat} {r : List Int32} {i x : Int32} (hd : 2 ≤ d) (ha : iV a) (hb : iV b) (hab : a ≠ b) (hv : vAt M b (some (.inr r))) (h1 : i < 0 ∨ nI r.length ≤ i → Q (some (.int 2)) EE M) (h2 : ¬ (i < 0 ∨ nI r.length ≤ i) → ∀ M', vAt M' a (some (.inr (r.set i.toNatClampNeg x))) → (∀ q, q ≠ a → q ≠ a + 1 → M' q = M q) → Q (some (.int 0)) EE M') : aw l K mX6_setPut d 0 0 0 [.ref a, .ref b, .int i, .int x] [] EE M Q := by
  have ha' := ha
  have hb' := hb
  have hv' := hv
  obtain ⟨hva, hvb⟩ := ha
  obtain ⟨hvc, hvd⟩ := hb
  obtain ⟨b0, b16, b2, b3⟩ := hv
  refine aw_aload_n (n := 1) dX6_setPut_0 rfl rfl ?_
  refine aw_iload_n (n := 2) dX6_setPut_1 rfl rfl ?_
  refine aw_v1 (n := 5) (Z := mX5_hasPlace) (ci := 3) (L0 := [_, _]) dX6_setPut_2 kX5_hasPlace gX6_167 iyX5_hasPlace eyX5_hasPlace rfl rfl (by assumption) rfl (Nat.le_of_ble_eq_true rfl) rfl rfl (by omega) (Nat.le_of_ble_eq_true rfl) ?_
  refine aw_iload_n (n := 1) dX5_hasPlace_0 rfl rfl ?_
  refine aw_if_lt (tg := 16) (n := 4) dX5_hasPlace_1 (by decide) rfl (fun c_1 => ?_) (fun c_1 => ?_)
  · refine aw_iconst (n := 17) (v := 0) dX5_hasPlace_16 (by decide) rfl ?_
    refine aw_zret dX5_hasPlace_17 rfl (by first | exact Or.inl rfl | exact Or.inr rfl | assumption) ?_
    dsimp only [aPush]
    refine aw_if_ne (tg := 10) (n := 8) dX6_setPut_5 (by decide) rfl (fun c_5 => by first | exact absurd rfl c_5 | exact absurd c_5 (by decide)) (fun _ => ?_)
    refine aw_iconst (n := 9) (v := 2) dX6_setPut_8 (by decide) rfl ?_
    refine aw_iret dX6_setPut_9 rfl ?_
    first | exact h1 (Or.inl c_1) | exact h1 (Or.inr c_9)
  · refine aw_iload_n (n := 5) dX5_hasPlace_4 rfl rfl ?_
    refine aw_aload_n (n := 6) dX5_hasPlace_5 rfl rfl ?_
    refine aw_geti (n := 9) dX5_hasPlace_6 fX5_18 (by assumption) rfl rfl ?_
    rw [b2]
    refine aw_icmp_ge (tg := 16) (n := 12) dX5_hasPlace_9 (by decide) rfl (fun c_9 => ?_) (fun c_9 => ?_)
    · refine aw_iconst (n := 17) (v := 0) dX5_hasPlace_16 (by decide) rfl ?_
      refine aw_zret dX5_hasPlace_17 rfl (by first | exact Or.inl rfl | exact Or.inr rfl | assumption) ?_
      dsimp only [aPush]
      refine aw_if_ne (tg := 10) (n := 8) dX6_setPut_5 (by decide) rfl (fun c_5 => by first | exact absurd rfl c_5 | exact absurd c_5 (by decide)) (fun _ => ?_)
      refine aw_iconst (n := 9) (v := 2) dX6_setPut_8 (by decide) rfl ?_
      refine aw_iret dX6_setPut_9 rfl ?_
      first | exact h1 (Or.inl c_1) | exact h1 (Or.inr c_9)
    · refine aw_iconst (n := 13) (v := 1) dX5_hasPlace_12 (by decide) rfl ?_
      refine aw_goto (n := 17) dX5_hasPlace_13 (by decide) ?_
      refine aw_zret dX5_hasPlace_17 rfl (by first | exact Or.inl rfl | exact Or.inr rfl | assumption) ?_
      dsimp only [aPush]
      refine aw_if_ne (tg := 10) (n := 8) dX6_setPut_5 (by decide) rfl (fun _ => ?_) (fun c_5 => by first | exact absurd rfl c_5 | exact absurd c_5 (by decide))
      have hn : ¬ (i < 0 ∨ nI r.length ≤ i) := fun q => q.elim c_1 c_9
      obtain ⟨j, hj, rfl⟩ := ix_in b16 hn
      have hin : vp_in (nI j) 16 := vp_in_nI (by omega) (by decide)
      have hjj : (nI j).toNatClampNeg = j := nI_clamp (by omega)
      refine aw_aload_n (n := 11) dX6_setPut_10 rfl rfl ?_
      refine aw_aload_n (n := 12) dX6_setPut_11 rfl rfl ?_
      refine aw_v1 (n := 15) (Z := mX5_copy) (ci := 3) (L0 := [_, _, .null]) dX6_setPut_12 kX5_copy gX6_113 iyX5_copy eyX5_copy rfl rfl (by assumption) rfl (Nat.le_of_ble_eq_true rfl) rfl rfl (by omega) (Nat.le_of_ble_eq_true rfl) (t_copy ha' hb' hab hv' (fun M' h5 h6 => ?_))
      dsimp only [aPush]
      refine aw_aload_n (n := 16) dX6_setPut_15 rfl rfl ?_
      refine aw_getr (n := 19) dX6_setPut_16 fX6_164 (by assumption) rfl rfl ?_
      refine aw_iload_n (n := 20) dX6_setPut_19 rfl rfl ?_
      refine aw_iload_n (n := 21) dX6_setPut_20 rfl rfl ?_
      refine aw_iast (n := 22) dX6_setPut_21 (by assumption) (by assumption) rfl ?_
      refine aw_iconst (n := 23) (v := 0) dX6_setPut_22 (by decide) rfl ?_
      refine aw_iret dX6_setPut_23 rfl ?_
      rw [hjj]
      refine h2 hn _ ?_ (fun q q1 q2 => by rw [up2_ra _ _ q2]; exact h6 q q1 q2)
      rw [hjj]
      obtain ⟨g0, g16, g2, g3⟩ := h5
      refine ⟨?_, ?_, ?_, fun k hk => ?_⟩
      · rw [up2_a _ _ (by omega)]; exact g0
      · rw [List.length_set]; exact g16
      · rw [up2_a _ _ (by omega), List.length_set]; exact g2
      · rw [List.length_set] at hk
        rw [getD_set _ _ _ _ hj]
        by_cases hkj : k = j
        · subst hkj; rw [up2_s, if_pos rfl]
        · rw [up2_k _ _ hkj, if_neg hkj]; exact g3 k hk
end OPS
end
section
theorem sumR_take (r : List Int32) (k : Nat) (hk : k < r.length) : sumR (r.take (k + 1)) = sumR (r.take k) + r.getD k 0 := by
  unfold sumR
  rw [take_snoc r k hk, List.foldl_append]; rfl
section OPS2
variable {l : Launch} {K : aK} {d : Nat} {M : aM} {Q : Option Value → aE → aM → Prop}
theorem t_sum {b : Nat} {r : List Int32} (hb : iV b) (hv : vAt M b (some (.inr r))) (hQ : Q (some (.int (sumR r))) EE M) : aw l K mX6_sum d 0 0 0 [.ref b, .null, .null] [] EE M Q := by
  obtain ⟨hvc, hvd⟩ := hb
  obtain ⟨b0, b16, b2, b3⟩ := hv
  have loop : ∀ m k sm, m + k = r.length → sm = sumR (r.take k) → aw l K mX6_sum d 0 0 4 [.ref b, .int sm, .int (nI k)] [] EE M Q := by
    intro m
    induction m with
    | zero =>
      intro k sm hk hs
      refine aw_iload_n (n := 5) dX6_sum_4 rfl rfl ?_
      refine aw_aload_n (n := 6) dX6_sum_5 rfl rfl ?_
      refine aw_geti (n := 9) dX6_sum_6 fX6_132 (by assumption) rfl rfl ?_
      refine aw_icmp_ge (tg := 27) (n := 12) dX6_sum_9 (by decide) rfl (fun c_9 => ?_) (fun c_9 => by exact absurd (by rw [b2]; exact nI_le (by omega) (by omega)) c_9)
      refine aw_iload_n (n := 28) dX6_sum_27 rfl rfl ?_
      refine aw_iret dX6_sum_28 rfl ?_
      rw [hs, List.take_of_length_le (by omega)]; exact hQ
    | succ m ih =>
      intro k sm hk hs
      have hin : vp_in (nI k) 16 := vp_in_nI (by omega) (by decide)
      have hkk : (nI k).toNatClampNeg = k := nI_clamp (by omega)
      refine aw_iload_n (n := 5) dX6_sum_4 rfl rfl ?_
      refine aw_aload_n (n := 6) dX6_sum_5 rfl rfl ?_
      refine aw_geti (n := 9) dX6_sum_6 fX6_132 (by assumption) rfl rfl ?_
      refine aw_icmp_ge (tg := 27) (n := 12) dX6_sum_9 (by decide) rfl (fun c_9 => by exact absurd (by rw [b2] at c_9; exact c_9) (nI_ge (by omega) (by omega))) (fun c_9 => ?_)
      refine aw_iload_n (n := 13) dX6_sum_12 rfl rfl ?_
      refine aw_aload_n (n := 14) dX6_sum_13 rfl rfl ?_
      refine aw_getr (n := 17) dX6_sum_14 fX6_164 (by assumption) rfl rfl ?_
      refine aw_iload_n (n := 18) dX6_sum_17 rfl rfl ?_
      refine aw_iald (n := 19) dX6_sum_18 (by assumption) (by assumption) rfl ?_
      refine aw_iadd (n := 20) dX6_sum_19 rfl ?_
      refine aw_istore_n (n := 21) (L' := [_, _, _]) dX6_sum_20 (Nat.le_of_ble_eq_true rfl) rfl rfl ?_
      refine aw_incp (n := 24) (L' := [_, _, _]) dX6_sum_21 rfl rfl rfl ?_
      refine aw_goto (n := 4) dX6_sum_24 (by decide) ?_
      rw [nI_1, hkk, b3 k (by omega)]
      exact ih (k + 1) _ (by omega) (by rw [hs, sumR_take r k (by omega)])
  refine aw_iconst (n := 1) (v := 0) dX6_sum_0 (by decide) rfl ?_
  refine aw_istore_n (n := 2) (L' := [_, _, _]) dX6_sum_1 (Nat.le_of_ble_eq_true rfl) rfl rfl ?_
  refine aw_iconst (n := 3) (v := 0) dX6_sum_2 (by decide) rfl ?_
  refine aw_istore_n (n := 4) (L' := [_, _, _]) dX6_sum_3 (Nat.le_of_ble_eq_true rfl) rfl rfl ?_
  exact loop r.length 0 _ (by omega) rfl
theorem t_setTurned {a b : Nat} {r : List Int32} (hd : 1 ≤ d) (ha : iV a) (hb : iV b) (hab : a ≠ b) (hv : vAt M b (some (.inr r))) (hQ : ∀ M', vAt M' a (some (.inr r.reverse)) → (∀ q, q ≠ a → q ≠ a + 1 → M' q = M q) → Q none EE M') : aw l K mX6_setTurned d 0 0 0 [.ref a, .ref b, .null] [] EE M Q := by
  obtain ⟨hab1, hab2⟩ := iV_apart ha hb
  have ha' := ha
  obtain ⟨hva, hvb⟩ := ha
  obtain ⟨hvc, hvd⟩ := hb
  obtain ⟨b0, b16, b2, b3⟩ := hv
  have loop : ∀ m k Mk, m + k = r.length → Mk a 0 = 1 → Mk a 2 = nI r.length → (∀ q, q ≠ a → q ≠ a + 1 → Mk q = M q) → (∀ j, j < k → Mk (a + 1) j = r.getD (r.length - 1 - j) 0) → aw l K mX6_setTurned d 0 0 10 [.ref a, .ref b, .int (nI k)] [] EE Mk Q := by
    intro m
    induction m with
    | zero =>
      intro k Mk hk g0 g2 hf h5
      have e2 : Mk b 2 = nI r.length := by rw [hf b (Ne.symm hab) (Ne.symm hab1)]; exact b2
      refine aw_iload_n (n := 11) dX6_setTurned_10 rfl rfl ?_
      refine aw_aload_n (n := 12) dX6_setTurned_11 rfl rfl ?_
      refine aw_geti (n := 15) dX6_setTurned_12 fX6_132 (by assumption) rfl rfl ?_
      refine aw_icmp_ge (tg := 43) (n := 18) dX6_setTurned_15 (by decide) rfl (fun c_15 => ?_) (fun c_15 => by exact absurd (by rw [e2]; exact nI_le (by omega) (by omega)) c_15)
      refine aw_vret dX6_setTurned_43 rfl ?_
      refine hQ _ ⟨g0, by rw [List.length_reverse]; exact b16, by rw [List.length_reverse]; exact g2, fun j hj => ?_⟩ hf
      rw [List.length_reverse] at hj
      rw [getD_rev _ _ hj]; exact h5 j (by omega)
    | succ m ih =>
      intro k Mk hk g0 g2 hf h5
      have e2 : Mk b 2 = nI r.length := by rw [hf b (Ne.symm hab) (Ne.symm hab1)]; exact b2
      have hin : vp_in (nI k) 16 := vp_in_nI (by omega) (by decide)
      have hkk : (nI k).toNatClampNeg = k := nI_clamp (by omega)
      have e3 : nI r.length - 1 - nI k = nI (r.length - 1 - k) := by
        have h6 := pk_sub (a := r.length) (b := 1) (by omega)
        have h7 := pk_sub (a := r.length - 1) (b := k) (by omega)
        rw [← h6] at h7
        exact h7
      have hin2 : vp_in (nI (r.length - 1 - k)) 16 := vp_in_nI (by omega) (by decide)
      have hk2 : (nI (r.length - 1 - k)).toNatClampNeg = r.length - 1 - k := nI_clamp (by omega)
      refine aw_iload_n (n := 11) dX6_setTurned_10 rfl rfl ?_
      refine aw_aload_n (n := 12) dX6_setTurned_11 rfl rfl ?_
      refine aw_geti (n := 15) dX6_setTurned_12 fX6_132 (by assumption) rfl rfl ?_
      refine aw_icmp_ge (tg := 43) (n := 18) dX6_setTurned_15 (by decide) rfl (fun c_15 => by exact absurd (by rw [e2] at c_15; exact c_15) (nI_ge (by omega) (by omega))) (fun c_15 => ?_)
      refine aw_aload_n (n := 19) dX6_setTurned_18 rfl rfl ?_
      refine aw_getr (n := 22) dX6_setTurned_19 fX6_164 (by assumption) rfl rfl ?_
      refine aw_iload_n (n := 23) dX6_setTurned_22 rfl rfl ?_
      refine aw_aload_n (n := 24) dX6_setTurned_23 rfl rfl ?_
      refine aw_getr (n := 27) dX6_setTurned_24 fX6_164 (by assumption) rfl rfl ?_
      refine aw_aload_n (n := 28) dX6_setTurned_27 rfl rfl ?_
      refine aw_geti (n := 31) dX6_setTurned_28 fX6_132 (by assumption) rfl rfl ?_
      refine aw_iconst (n := 32) (v := 1) dX6_setTurned_31 (by decide) rfl ?_
      refine aw_isub (n := 33) dX6_setTurned_32 rfl ?_
      refine aw_iload_n (n := 34) dX6_setTurned_33 rfl rfl ?_
      refine aw_isub (n := 35) dX6_setTurned_34 rfl ?_
      rw [e2, e3]
      refine aw_iald (n := 36) dX6_setTurned_35 (by assumption) (by assumption) rfl ?_
      refine aw_iast (n := 37) dX6_setTurned_36 (by assumption) (by assumption) rfl ?_
      refine aw_incp (n := 40) (L' := [_, _, _]) dX6_setTurned_37 rfl rfl rfl ?_
      refine aw_goto (n := 10) dX6_setTurned_40 (by decide) ?_
      rw [nI_1, hkk, hk2, hf (b + 1) (by omega) (by omega), b3 _ (by omega)]
      refine ih (k + 1) _ (by omega) ?_ ?_ (fun q q1 q2 => ?_) (fun j hj => ?_)
      · rw [up2_a _ _ (by omega)]; exact g0
      · rw [up2_a _ _ (by omega)]; exact g2
      · rw [up2_ra _ _ q2]; exact hf q q1 q2
      · by_cases hjk : j = k
        · subst hjk; rw [up2_s]
        · rw [up2_k _ _ hjk]; exact h5 j (by omega)
  refine aw_aload_n (n := 1) dX6_setTurned_0 rfl rfl ?_
  refine aw_aload_n (n := 2) dX6_setTurned_1 rfl rfl ?_
  refine aw_geti (n := 5) dX6_setTurned_2 fX6_132 (by assumption) rfl rfl ?_
  rw [b2]
  refine aw_v1 (n := 8) (Z := mX5_setRow) (ci := 3) (L0 := [_, _]) dX6_setTurned_5 kX5_setRow gX6_171 iyX5_setRow eyX5_setRow rfl rfl (by assumption) rfl (Nat.le_of_ble_eq_true rfl) rfl rfl (by omega) (Nat.le_of_ble_eq_true rfl) (t_setRow ha' (fun M' g0 g2 g3 => ?_))
  dsimp only [aPush]
  refine aw_iconst (n := 9) (v := 0) dX6_setTurned_8 (by decide) rfl ?_
  refine aw_istore_n (n := 10) (L' := [_, _, _]) dX6_setTurned_9 (Nat.le_of_ble_eq_true rfl) rfl rfl ?_
  exact loop r.length 0 _ (by omega) g0 g2 (fun q q1 q2 => g3 q q1) (fun j hj => by omega)
theorem t_setJoined {a b c : Nat} {r s : List Int32} (hd : 1 ≤ d) (ha : iV a) (hb : iV b) (hc : iV c) (hab : a ≠ b) (hac : a ≠ c) (hv : vAt M b (some (.inr r))) (hw : vAt M c (some (.inr s))) (h1 : 16 < r.length + s.length → Q (some (.int 6)) EE M) (h2 : ¬ 16 < r.length + s.length → ∀ M', vAt M' a (some (.inr (r ++ s))) → (∀ q, q ≠ a → q ≠ a + 1 → M' q = M q) → Q (some (.int 0)) EE M') : aw l K mX6_setJoined d 0 0 0 [.ref a, .ref b, .ref c] [] EE M Q := by
  obtain ⟨hab1, hab2⟩ := iV_apart ha hb
  obtain ⟨hac1, hac2⟩ := iV_apart ha hc
  have ha' := ha
  obtain ⟨hva, hvb⟩ := ha
  obtain ⟨hvc, hvd⟩ := hb
  obtain ⟨hve, hvf⟩ := hc
  obtain ⟨b0, b16, b2, b3⟩ := hv
  obtain ⟨c0, c16, c2, c3⟩ := hw
  have hr : (nI r.length).toNatClampNeg = r.length := nI_clamp (by omega)
  have hs : (nI s.length).toNatClampNeg = s.length := nI_clamp (by omega)
  have h00 : (0 : Int32).toNatClampNeg = 0 := by decide
  refine aw_aload_n (n := 1) dX6_setJoined_0 rfl rfl ?_
  refine aw_geti (n := 4) dX6_setJoined_1 fX6_132 (by assumption) rfl rfl ?_
  refine aw_aload_n (n := 5) dX6_setJoined_4 rfl rfl ?_
  refine aw_geti (n := 8) dX6_setJoined_5 fX6_132 (by assumption) rfl rfl ?_
  rw [b2, c2]
  refine aw_iadd (n := 9) dX6_setJoined_8 rfl ?_
  rw [nI_add]
  refine aw_bipush (n := 11) (v := 16) dX6_setJoined_9 (by decide) rfl ?_
  refine aw_icmp_le (tg := 17) (n := 14) dX6_setJoined_11 (by decide) rfl (fun c_11 => ?_) (fun c_11 => ?_)
  · have hle : ¬ 16 < r.length + s.length := fun q => absurd c_11 (by rw [i_nle]; exact (nI_ltI (a := 16) (by omega) (by omega)).mpr q)
    refine aw_aload_n (n := 18) dX6_setJoined_17 rfl rfl ?_
    refine aw_aload_n (n := 19) dX6_setJoined_18 rfl rfl ?_
    refine aw_geti (n := 22) dX6_setJoined_19 fX6_132 (by assumption) rfl rfl ?_
    refine aw_aload_n (n := 23) dX6_setJoined_22 rfl rfl ?_
    refine aw_geti (n := 26) dX6_setJoined_23 fX6_132 (by assumption) rfl rfl ?_
    rw [b2, c2]
    refine aw_iadd (n := 27) dX6_setJoined_26 rfl ?_
    rw [nI_add]
    refine aw_v1 (n := 30) (Z := mX5_setRow) (ci := 3) (L0 := [_, _]) dX6_setJoined_27 kX5_setRow gX6_171 iyX5_setRow eyX5_setRow rfl rfl (by assumption) rfl (Nat.le_of_ble_eq_true rfl) rfl rfl (by omega) (Nat.le_of_ble_eq_true rfl) (t_setRow ha' (fun M1 g0 g2 g3 => ?_))
    dsimp only [aPush]
    have e2 : M1 b 2 = nI r.length := by rw [g3 b (Ne.symm hab)]; exact b2
    have e3 : M1 c 2 = nI s.length := by rw [g3 c (Ne.symm hac)]; exact c2
    refine aw_aload_n (n := 31) dX6_setJoined_30 rfl rfl ?_
    refine aw_getr (n := 34) dX6_setJoined_31 fX6_164 (by assumption) rfl rfl ?_
    refine aw_iconst (n := 35) (v := 0) dX6_setJoined_34 (by decide) rfl ?_
    refine aw_aload_n (n := 36) dX6_setJoined_35 rfl rfl ?_
    refine aw_getr (n := 39) dX6_setJoined_36 fX6_164 (by assumption) rfl rfl ?_
    refine aw_iconst (n := 40) (v := 0) dX6_setJoined_39 (by decide) rfl ?_
    refine aw_aload_n (n := 41) dX6_setJoined_40 rfl rfl ?_
    refine aw_geti (n := 44) dX6_setJoined_41 fX6_132 (by assumption) rfl rfl ?_
    rw [e2]
    refine aw_copy (n := 47) dX6_setJoined_44 gX6_174 narraycopyName sarraycopyName z_java_lang_System (by assumption) (by assumption) (by decide) (by decide) (nI_pos (by omega)) (by rw [h00, hr]; omega) (by rw [h00, hr]; omega) (Nat.le_of_ble_eq_true rfl) (by omega) rfl ?_
    rw [h00, hr]
    have hne2 : aCpy M1 (b + 1) (a + 1) 0 0 r.length b 2 = nI r.length := by unfold aCpy; rw [if_neg (fun q => hab2 (by omega))]; exact e2
    have hne3 : aCpy M1 (b + 1) (a + 1) 0 0 r.length c 2 = nI s.length := by unfold aCpy; rw [if_neg (fun q => hac2 (by omega))]; exact e3
    refine aw_aload_n (n := 48) dX6_setJoined_47 rfl rfl ?_
    refine aw_getr (n := 51) dX6_setJoined_48 fX6_164 (by assumption) rfl rfl ?_
    refine aw_iconst (n := 52) (v := 0) dX6_setJoined_51 (by decide) rfl ?_
    refine aw_aload_n (n := 53) dX6_setJoined_52 rfl rfl ?_
    refine aw_getr (n := 56) dX6_setJoined_53 fX6_164 (by assumption) rfl rfl ?_
    refine aw_aload_n (n := 57) dX6_setJoined_56 rfl rfl ?_
    refine aw_geti (n := 60) dX6_setJoined_57 fX6_132 (by assumption) rfl rfl ?_
    refine aw_aload_n (n := 61) dX6_setJoined_60 rfl rfl ?_
    refine aw_geti (n := 64) dX6_setJoined_61 fX6_132 (by assumption) rfl rfl ?_
    rw [hne2, hne3]
    refine aw_copy (n := 67) dX6_setJoined_64 gX6_174 narraycopyName sarraycopyName z_java_lang_System (by assumption) (by assumption) (by decide) (nI_pos (by omega)) (nI_pos (by omega)) (by rw [h00, hs]; omega) (by rw [hr, hs]; omega) (Nat.le_of_ble_eq_true rfl) (by omega) rfl ?_
    rw [h00, hr, hs]
    refine aw_iconst (n := 68) (v := 0) dX6_setJoined_67 (by decide) rfl ?_
    refine aw_iret dX6_setJoined_68 rfl ?_
    refine h2 hle _ ⟨?_, ?_, ?_, fun j hj => ?_⟩ (fun q q1 q2 => ?_)
    · unfold aCpy; rw [if_neg (by omega), if_neg (by omega)]; exact g0
    · rw [List.length_append]; omega
    · unfold aCpy; rw [if_neg (by omega), if_neg (by omega), List.length_append]; exact g2
    · rw [List.length_append] at hj
      rw [getD_app]
      unfold aCpy
      by_cases hjr : j < r.length
      · rw [if_neg (by omega), if_pos (by omega), if_pos hjr, g3 (b + 1) (by omega)]
        rw [show 0 + (j - 0) = j by omega]; exact b3 j hjr
      · rw [if_pos (by omega), if_neg (by omega), if_neg hjr, g3 (c + 1) (by omega)]
        rw [show 0 + (j - r.length) = j - r.length by omega]; exact c3 _ (by omega)
    · funext j
      unfold aCpy
      rw [if_neg (fun z => q2 z.1), if_neg (fun z => q2 z.1), g3 q q1]
  · refine aw_bipush (n := 16) (v := 6) dX6_setJoined_14 (by decide) rfl ?_
    refine aw_iret dX6_setJoined_16 rfl ?_
    exact h1 ((nI_ltI (a := 16) (by omega) (by omega)).mp (i_nle.mp c_11))
theorem t_setPart {a b : Nat} {r : List Int32} {i k : Int32} (hd : 1 ≤ d) (ha : iV a) (hb : iV b) (hab : a ≠ b) (hv : vAt M b (some (.inr r))) (h1 : k < 0 → Q (some (.int 3)) EE M) (h2 : ¬ k < 0 → 16 < k → Q (some (.int 6)) EE M) (h3 : ¬ k < 0 → ¬ 16 < k → (i < 0 ∨ nI r.length - k < i) → Q (some (.int 2)) EE M) (h4 : ¬ k < 0 → ¬ 16 < k → ¬ (i < 0 ∨ nI r.length - k < i) → ∀ M', vAt M' a (some (.inr ((r.drop i.toNatClampNeg).take k.toNatClampNeg))) → (∀ q, q ≠ a → q ≠ a + 1 → M' q = M q) → Q (some (.int 0)) EE M') : aw l K mX6_setPart d 0 0 0 [.ref a, .ref b, .int i, .int k] [] EE M Q := by
  obtain ⟨hab1, hab2⟩ := iV_apart ha hb
  have ha' := ha
  obtain ⟨hva, hvb⟩ := ha
  obtain ⟨hvc, hvd⟩ := hb
  obtain ⟨b0, b16, b2, b3⟩ := hv
  have h00 : (0 : Int32).toNatClampNeg = 0 := by decide
  by_cases hx0 : k < 0
  · refine aw_iload_n (n := 1) dX6_setPart_0 rfl rfl ?_
    refine aw_if_ge (tg := 6) (n := 4) dX6_setPart_1 (by decide) rfl (fun c_1 => by exact absurd hx0 (i_nlt.mpr c_1)) (fun c_1 => ?_)
    refine aw_iconst (n := 5) (v := 3) dX6_setPart_4 (by decide) rfl ?_
    refine aw_iret dX6_setPart_5 rfl ?_
    exact h1 hx0
  by_cases hx16 : 16 < k
  · refine aw_iload_n (n := 1) dX6_setPart_0 rfl rfl ?_
    refine aw_if_ge (tg := 6) (n := 4) dX6_setPart_1 (by decide) rfl (fun c_1 => ?_) (fun c_1 => by exact absurd (i_nlt.mp hx0) c_1)
    refine aw_iload_n (n := 7) dX6_setPart_6 rfl rfl ?_
    refine aw_bipush (n := 9) (v := 16) dX6_setPart_7 (by decide) rfl ?_
    refine aw_icmp_le (tg := 15) (n := 12) dX6_setPart_9 (by decide) rfl (fun c_9 => by exact absurd hx16 (i_nlt.mpr c_9)) (fun c_9 => ?_)
    refine aw_bipush (n := 14) (v := 6) dX6_setPart_12 (by decide) rfl ?_
    refine aw_iret dX6_setPart_14 rfl ?_
    exact h2 hx0 hx16
  obtain ⟨n, hn, rfl⟩ := nI_of2 (M := 16) (n := 16) (by decide) hx0 (i_nlt.mp hx16)
  have hnn : (nI n).toNatClampNeg = n := nI_clamp (by omega)
  by_cases hi : i < 0 ∨ nI r.length - nI n < i
  · have h5 := h3 hx0 hx16 hi
    refine aw_iload_n (n := 1) dX6_setPart_0 rfl rfl ?_
    refine aw_if_ge (tg := 6) (n := 4) dX6_setPart_1 (by decide) rfl (fun c_1 => ?_) (fun c_1 => by exact absurd (i_nlt.mp hx0) c_1)
    refine aw_iload_n (n := 7) dX6_setPart_6 rfl rfl ?_
    refine aw_bipush (n := 9) (v := 16) dX6_setPart_7 (by decide) rfl ?_
    refine aw_icmp_le (tg := 15) (n := 12) dX6_setPart_9 (by decide) rfl (fun c_9 => ?_) (fun c_9 => by exact absurd (i_nlt.mp hx16) c_9)
    refine aw_iload_n (n := 16) dX6_setPart_15 rfl rfl ?_
    refine aw_if_lt (tg := 29) (n := 19) dX6_setPart_16 (by decide) rfl (fun c_16 => ?_) (fun c_16 => ?_)
    · refine aw_iconst (n := 30) (v := 2) dX6_setPart_29 (by decide) rfl ?_
      refine aw_iret dX6_setPart_30 rfl ?_
      exact h5
    · refine aw_iload_n (n := 20) dX6_setPart_19 rfl rfl ?_
      refine aw_aload_n (n := 21) dX6_setPart_20 rfl rfl ?_
      refine aw_geti (n := 24) dX6_setPart_21 fX6_132 (by assumption) rfl rfl ?_
      refine aw_iload_n (n := 25) dX6_setPart_24 rfl rfl ?_
      refine aw_isub (n := 26) dX6_setPart_25 rfl ?_
      rw [b2]
      refine aw_icmp_le (tg := 31) (n := 29) dX6_setPart_26 (by decide) rfl (fun c_26 => by exact (hi.elim c_16 (i_nlt.mpr c_26)).elim) (fun c_26 => ?_)
      refine aw_iconst (n := 30) (v := 2) dX6_setPart_29 (by decide) rfl ?_
      refine aw_iret dX6_setPart_30 rfl ?_
      exact h5
  have h5 := h4 hx0 hx16 hi
  have hi0 : ¬ i < 0 := fun q => hi (Or.inl q)
  have hi1 : ¬ nI r.length - nI n < i := fun q => hi (Or.inr q)
  have hle : n ≤ r.length ∧ ∃ j, j ≤ r.length - n ∧ i = nI j := by
    obtain ⟨j, hj, rfl⟩ := nI_of hi0
    by_cases hnr : n ≤ r.length
    · rw [pk_sub hnr] at hi1
      refine ⟨hnr, j, ?_, rfl⟩
      by_cases h9 : j < 2 ^ 30
      · exact Nat.not_lt.mp fun q => hi1 ((nI_ltI (by omega) (by omega)).mpr q)
      · exact absurd (nI_lt (a := r.length - n) (b := j) (by omega) hj) hi1
    · exact absurd (by
        have h8 : nI r.length - nI n < 0 := pk_sneg (by omega) (by omega)
        simp only [Int32.lt_iff_toInt_lt, ti_0] at h8 hi0 ⊢
        omega) hi1
  obtain ⟨hnr, j, hj, rfl⟩ := hle
  have hjj : (nI j).toNatClampNeg = j := nI_clamp (by omega)
  rw [hnn, hjj] at h5
  refine aw_iload_n (n := 1) dX6_setPart_0 rfl rfl ?_
  refine aw_if_ge (tg := 6) (n := 4) dX6_setPart_1 (by decide) rfl (fun c_1 => ?_) (fun c_1 => by exact absurd (i_nlt.mp hx0) c_1)
  refine aw_iload_n (n := 7) dX6_setPart_6 rfl rfl ?_
  refine aw_bipush (n := 9) (v := 16) dX6_setPart_7 (by decide) rfl ?_
  refine aw_icmp_le (tg := 15) (n := 12) dX6_setPart_9 (by decide) rfl (fun c_9 => ?_) (fun c_9 => by exact absurd (i_nlt.mp hx16) c_9)
  refine aw_iload_n (n := 16) dX6_setPart_15 rfl rfl ?_
  refine aw_if_lt (tg := 29) (n := 19) dX6_setPart_16 (by decide) rfl (fun c_16 => by exact absurd c_16 hi0) (fun c_16 => ?_)
  refine aw_iload_n (n := 20) dX6_setPart_19 rfl rfl ?_
  refine aw_aload_n (n := 21) dX6_setPart_20 rfl rfl ?_
  refine aw_geti (n := 24) dX6_setPart_21 fX6_132 (by assumption) rfl rfl ?_
  refine aw_iload_n (n := 25) dX6_setPart_24 rfl rfl ?_
  refine aw_isub (n := 26) dX6_setPart_25 rfl ?_
  rw [b2]
  refine aw_icmp_le (tg := 31) (n := 29) dX6_setPart_26 (by decide) rfl (fun c_26 => ?_) (fun c_26 => by exact absurd (i_nlt.mp hi1) c_26)
  refine aw_aload_n (n := 32) dX6_setPart_31 rfl rfl ?_
  refine aw_iload_n (n := 33) dX6_setPart_32 rfl rfl ?_
  refine aw_v1 (n := 36) (Z := mX5_setRow) (ci := 3) (L0 := [_, _]) dX6_setPart_33 kX5_setRow gX6_171 iyX5_setRow eyX5_setRow rfl rfl (by assumption) rfl (Nat.le_of_ble_eq_true rfl) rfl rfl (by omega) (Nat.le_of_ble_eq_true rfl) (t_setRow ha' (fun M1 g0 g2 g3 => ?_))
  dsimp only [aPush]
  refine aw_aload_n (n := 37) dX6_setPart_36 rfl rfl ?_
  refine aw_getr (n := 40) dX6_setPart_37 fX6_164 (by assumption) rfl rfl ?_
  refine aw_iload_n (n := 41) dX6_setPart_40 rfl rfl ?_
  refine aw_aload_n (n := 42) dX6_setPart_41 rfl rfl ?_
  refine aw_getr (n := 45) dX6_setPart_42 fX6_164 (by assumption) rfl rfl ?_
  refine aw_iconst (n := 46) (v := 0) dX6_setPart_45 (by decide) rfl ?_
  refine aw_iload_n (n := 47) dX6_setPart_46 rfl rfl ?_
  refine aw_copy (n := 50) dX6_setPart_47 gX6_174 narraycopyName sarraycopyName z_java_lang_System (by assumption) (by assumption) hi0 (by decide) hx0 (by rw [hjj, hnn]; omega) (by rw [h00, hnn]; omega) (Nat.le_of_ble_eq_true rfl) (by omega) rfl ?_
  rw [h00, hjj, hnn]
  refine aw_iconst (n := 51) (v := 0) dX6_setPart_50 (by decide) rfl ?_
  refine aw_iret dX6_setPart_51 rfl ?_
  refine h5 _ ⟨?_, ?_, ?_, fun q hq => ?_⟩ (fun q q1 q2 => ?_)
  · unfold aCpy; rw [if_neg (by omega)]; exact g0
  · rw [List.length_take, List.length_drop]; omega
  · unfold aCpy; rw [if_neg (by omega), List.length_take, List.length_drop, show min n (r.length - j) = n by omega]; exact g2
  · rw [List.length_take, List.length_drop] at hq
    rw [getD_dt _ _ _ _ (by omega)]
    unfold aCpy
    rw [if_pos (by omega), g3 (b + 1) (by omega), show j + (q - 0) = j + q by omega]
    exact b3 _ (by omega)
  · funext z
    unfold aCpy
    rw [if_neg (fun z => q2 z.1), g3 q q1]
theorem t_setSorted {a b : Nat} {r : List Int32} (hd : 1 ≤ d) (ha : iV a) (hb : iV b) (hab : a ≠ b) (hv : vAt M b (some (.inr r))) (hQ : ∀ M', vAt M' a (some (.inr (lR r.length (srt (fR r) (r.length - 1))))) → (∀ q, q ≠ a → q ≠ a + 1 → M' q = M q) → Q none EE M') : aw l K mX6_setSorted d 0 0 0 [.ref a, .ref b, .null, .null, .null] [] EE M Q := by
  have ha' := ha
  obtain ⟨hva, hvb⟩ := ha
  have b16 : r.length ≤ 16 := hv.2.1
  have inner : ∀ p f Mk (x3 : Value) (e : Nat) (x : Int32), p < r.length → Mk a 0 = 1 → Mk a 2 = nI r.length → (∀ q, q ≠ a → q ≠ a + 1 → Mk q = M q) → (∀ j, j < r.length → Mk (a + 1) j = f j) → (∀ M' x4, M' a 0 = 1 → M' a 2 = nI r.length → (∀ q, q ≠ a → q ≠ a + 1 → M' q = M q) → (∀ j, j < r.length → M' (a + 1) j = sh f x p j) → aw l K mX6_setSorted d 0 0 7 [.ref a, .ref b, .int (nI (e + 1)), .int x, x4] [] EE M' Q) → aw l K mX6_setSorted d 0 0 25 [.ref a, .ref b, .int (nI e), .int x, .int (nI p)] [] EE Mk Q := by
    intro p
    induction p with
    | zero =>
      intro f Mk x3 e x hp g0 g2 hf h5 hk
      have hin : vp_in (nI 0) 16 := vp_in_nI (by decide) (by decide)
      have h00 : (nI 0).toNatClampNeg = 0 := by decide
      refine aw_iload (n := 27) dX6_setSorted_25 rfl rfl ?_
      refine aw_if_le (tg := 65) (n := 30) dX6_setSorted_27 (by decide) rfl (fun c_27 => ?_) (fun c_27 => by exact absurd (by decide) c_27)
      refine aw_aload_n (n := 66) dX6_setSorted_65 rfl rfl ?_
      refine aw_getr (n := 69) dX6_setSorted_66 fX6_164 (by assumption) rfl rfl ?_
      refine aw_iload (n := 71) dX6_setSorted_69 rfl rfl ?_
      refine aw_iload_n (n := 72) dX6_setSorted_71 rfl rfl ?_
      refine aw_iast (n := 73) dX6_setSorted_72 (by assumption) (by assumption) rfl ?_
      refine aw_incp (n := 76) (L' := [_, _, _, _, _]) dX6_setSorted_73 rfl rfl rfl ?_
      refine aw_goto (n := 7) dX6_setSorted_76 (by decide) ?_
      rw [nI_1, h00]
      refine hk _ _ ?_ ?_ (fun q q1 q2 => ?_) (fun j hj => ?_)
      · rw [up2_a _ _ (by omega)]; exact g0
      · rw [up2_a _ _ (by omega)]; exact g2
      · rw [up2_ra _ _ q2]; exact hf q q1 q2
      · show up2 Mk (a + 1) 0 x (a + 1) j = if j = 0 then x else f j
        by_cases hj0 : j = 0
        · subst hj0; rw [up2_s, if_pos rfl]
        · rw [up2_k _ _ hj0, if_neg hj0]; exact h5 j hj
    | succ p ih =>
      intro f Mk x3 e x hp g0 g2 hf h5 hk
      have hin : vp_in (nI (p + 1)) 16 := vp_in_nI (by omega) (by decide)
      have hin2 : vp_in (nI (p + 1) - 1) 16 := by rw [nI_pred]; exact vp_in_nI (by omega) (by decide)
      have hpp : (nI (p + 1)).toNatClampNeg = p + 1 := nI_clamp (by omega)
      have hp1 : (nI (p + 1) - 1).toNatClampNeg = p := by rw [nI_pred]; exact nI_clamp (by omega)
      refine aw_iload (n := 27) dX6_setSorted_25 rfl rfl ?_
      refine aw_if_le (tg := 65) (n := 30) dX6_setSorted_27 (by decide) rfl (fun c_27 => by exact absurd c_27 (nI_nle (by omega) (by omega))) (fun c_27 => ?_)
      refine aw_aload_n (n := 31) dX6_setSorted_30 rfl rfl ?_
      refine aw_getr (n := 34) dX6_setSorted_31 fX6_164 (by assumption) rfl rfl ?_
      refine aw_iload (n := 36) dX6_setSorted_34 rfl rfl ?_
      refine aw_iconst (n := 37) (v := 1) dX6_setSorted_36 (by decide) rfl ?_
      refine aw_isub (n := 38) dX6_setSorted_37 rfl ?_
      refine aw_iald (n := 39) dX6_setSorted_38 (by assumption) (by assumption) rfl ?_
      rw [hp1, h5 p (by omega)]
      refine aw_iload_n (n := 40) dX6_setSorted_39 rfl rfl ?_
      refine aw_icmp_le (tg := 65) (n := 43) dX6_setSorted_40 (by decide) rfl (fun c_40 => ?_) (fun c_40 => ?_)
      · refine aw_aload_n (n := 66) dX6_setSorted_65 rfl rfl ?_
        refine aw_getr (n := 69) dX6_setSorted_66 fX6_164 (by assumption) rfl rfl ?_
        refine aw_iload (n := 71) dX6_setSorted_69 rfl rfl ?_
        refine aw_iload_n (n := 72) dX6_setSorted_71 rfl rfl ?_
        refine aw_iast (n := 73) dX6_setSorted_72 (by assumption) (by assumption) rfl ?_
        refine aw_incp (n := 76) (L' := [_, _, _, _, _]) dX6_setSorted_73 rfl rfl rfl ?_
        refine aw_goto (n := 7) dX6_setSorted_76 (by decide) ?_
        rw [nI_1, hpp]
        have hnx : ¬ x < f p := i_nlt.mpr c_40
        refine hk _ _ ?_ ?_ (fun q q1 q2 => ?_) (fun j hj => ?_)
        · rw [up2_a _ _ (by omega)]; exact g0
        · rw [up2_a _ _ (by omega)]; exact g2
        · rw [up2_ra _ _ q2]; exact hf q q1 q2
        · rw [show sh f x (p + 1) = fun j => if j = p + 1 then x else f j from if_neg hnx]
          by_cases hj0 : j = p + 1
          · subst hj0; rw [up2_s]; exact (if_pos rfl).symm
          · rw [up2_k _ _ hj0]; exact (h5 j hj).trans (if_neg hj0).symm
      · refine aw_aload_n (n := 44) dX6_setSorted_43 rfl rfl ?_
        refine aw_getr (n := 47) dX6_setSorted_44 fX6_164 (by assumption) rfl rfl ?_
        refine aw_iload (n := 49) dX6_setSorted_47 rfl rfl ?_
        refine aw_aload_n (n := 50) dX6_setSorted_49 rfl rfl ?_
        refine aw_getr (n := 53) dX6_setSorted_50 fX6_164 (by assumption) rfl rfl ?_
        refine aw_iload (n := 55) dX6_setSorted_53 rfl rfl ?_
        refine aw_iconst (n := 56) (v := 1) dX6_setSorted_55 (by decide) rfl ?_
        refine aw_isub (n := 57) dX6_setSorted_56 rfl ?_
        refine aw_iald (n := 58) dX6_setSorted_57 (by assumption) (by assumption) rfl ?_
        refine aw_iast (n := 59) dX6_setSorted_58 (by assumption) (by assumption) rfl ?_
        refine aw_incm (n := 62) (L' := [_, _, _, _, _]) dX6_setSorted_59 rfl rfl rfl ?_
        refine aw_goto (n := 25) dX6_setSorted_62 (by decide) ?_
        rw [hpp, hp1, pk_m1]
        have hx : x < f p := i_nle.mp c_40
        refine ih (fun j => if j = p + 1 then f p else f j) _ x3 e x (by omega) ?_ ?_ (fun q q1 q2 => ?_) (fun j hj => ?_) ?_
        · rw [up2_a _ _ (by omega)]; exact g0
        · rw [up2_a _ _ (by omega)]; exact g2
        · rw [up2_ra _ _ q2]; exact hf q q1 q2
        · by_cases hj0 : j = p + 1
          · subst hj0; rw [up2_s, if_pos rfl, h5 p (by omega)]
          · rw [up2_k _ _ hj0, if_neg hj0]; exact h5 j hj
        · intro M' x4 k0 k2 kf k5
          refine hk M' x4 k0 k2 kf (fun j hj => ?_)
          rw [show sh f x (p + 1) = sh (fun j => if j = p + 1 then f p else f j) x p from if_pos hx]
          exact k5 j hj
  have loop : ∀ m k Mk x3 x4, m + k + 1 = r.length ∨ (m = 0 ∧ k = 0 ∧ r.length = 0) → Mk a 0 = 1 → Mk a 2 = nI r.length → (∀ q, q ≠ a → q ≠ a + 1 → Mk q = M q) → (∀ j, j < r.length → Mk (a + 1) j = srt (fR r) k j) → aw l K mX6_setSorted d 0 0 7 [.ref a, .ref b, .int (nI (k + 1)), x3, x4] [] EE Mk Q := by
    intro m
    induction m with
    | zero =>
      intro k Mk x3 x4 hk g0 g2 hf h5
      refine aw_iload_n (n := 8) dX6_setSorted_7 rfl rfl ?_
      refine aw_aload_n (n := 9) dX6_setSorted_8 rfl rfl ?_
      refine aw_geti (n := 12) dX6_setSorted_9 fX6_132 (by assumption) rfl rfl ?_
      refine aw_icmp_ge (tg := 79) (n := 15) dX6_setSorted_12 (by decide) rfl (fun c_12 => ?_) (fun c_12 => by exact absurd (by rw [g2]; exact nI_le (by omega) (by omega)) c_12)
      refine aw_vret dX6_setSorted_79 rfl ?_
      refine hQ _ ⟨g0, by rw [len_lR]; exact b16, by rw [len_lR]; exact g2, fun j hj => ?_⟩ hf
      rw [len_lR] at hj
      rw [getD_lR _ _ _ hj, show r.length - 1 = k by omega]; exact h5 j hj
    | succ m ih =>
      intro k Mk x3 x4 hk g0 g2 hf h5
      have hkl : k + 1 < r.length := by omega
      have hin : vp_in (nI (k + 1)) 16 := vp_in_nI (by omega) (by decide)
      have hkk : (nI (k + 1)).toNatClampNeg = k + 1 := nI_clamp (by omega)
      refine aw_iload_n (n := 8) dX6_setSorted_7 rfl rfl ?_
      refine aw_aload_n (n := 9) dX6_setSorted_8 rfl rfl ?_
      refine aw_geti (n := 12) dX6_setSorted_9 fX6_132 (by assumption) rfl rfl ?_
      refine aw_icmp_ge (tg := 79) (n := 15) dX6_setSorted_12 (by decide) rfl (fun c_12 => by exact absurd (by rw [g2] at c_12; exact c_12) (nI_ge (by omega) (by omega))) (fun c_12 => ?_)
      refine aw_aload_n (n := 16) dX6_setSorted_15 rfl rfl ?_
      refine aw_getr (n := 19) dX6_setSorted_16 fX6_164 (by assumption) rfl rfl ?_
      refine aw_iload_n (n := 20) dX6_setSorted_19 rfl rfl ?_
      refine aw_iald (n := 21) dX6_setSorted_20 (by assumption) (by assumption) rfl ?_
      refine aw_istore_n (n := 22) (L' := [_, _, _, _, _]) dX6_setSorted_21 (Nat.le_of_ble_eq_true rfl) rfl rfl ?_
      refine aw_iload_n (n := 23) dX6_setSorted_22 rfl rfl ?_
      refine aw_istore (n := 25) (L' := [_, _, _, _, _]) dX6_setSorted_23 (Nat.le_of_ble_eq_true rfl) rfl rfl ?_
      rw [hkk, h5 _ hkl]
      refine inner (k + 1) (srt (fR r) k) Mk x3 (k + 1) _ hkl g0 g2 hf h5 (fun M' x4 k0 k2 kf k5 => ?_)
      exact ih (k + 1) M' _ _ (by omega) k0 k2 kf k5
  refine aw_aload_n (n := 1) dX6_setSorted_0 rfl rfl ?_
  refine aw_aload_n (n := 2) dX6_setSorted_1 rfl rfl ?_
  refine aw_v1 (n := 5) (Z := mX5_copy) (ci := 3) (L0 := [_, _, .null]) dX6_setSorted_2 kX5_copy gX6_113 iyX5_copy eyX5_copy rfl rfl (by assumption) rfl (Nat.le_of_ble_eq_true rfl) rfl rfl (by omega) (Nat.le_of_ble_eq_true rfl) (t_copy ha' hb hab hv (fun M' h5 h6 => ?_))
  dsimp only [aPush]
  refine aw_iconst (n := 6) (v := 1) dX6_setSorted_5 (by decide) rfl ?_
  refine aw_istore_n (n := 7) (L' := [_, _, _, _, _]) dX6_setSorted_6 (Nat.le_of_ble_eq_true rfl) rfl rfl ?_
  exact loop (r.length - 1) 0 _ _ _ (by omega) h5.1 h5.2.2.1 h6 (fun j hj => h5.2.2.2 j hj)
theorem t_ofWholes {a w : Nat} {x y : Int32} (hd : 2 ≤ d) (ha : iV a) (hw : 3 ≤ w ∧ w ≤ 8) (h1 : ∀ k, opB w x y = .inl k → Q (some (.int (nI k))) EE M) (h2 : ∀ v, opB w x y = .inr v → ∀ M', vAt M' a v → (∀ q, q ≠ a → q ≠ a + 1 → M' q = M q) → Q (some (.int 0)) EE M') : aw l K mX6_setOfWholes d 0 0 0 [.ref a, .int (nI w), .int x, .int y] [] EE M Q := by
  have ha' := ha
  obtain ⟨hva, hvb⟩ := ha
  rcases (show w = 3 ∨ w = 4 ∨ w = 5 ∨ w = 6 ∨ w = 7 ∨ w = 8 by omega) with rfl | rfl | rfl | rfl | rfl | rfl
  · refine aw_iload_n (n := 1) dX6_setOfWholes_0 rfl rfl ?_
    refine aw_bipush (n := 3) (v := 6) dX6_setOfWholes_1 (by decide) rfl ?_
    refine aw_icmp_eq (tg := 12) (n := 6) dX6_setOfWholes_3 (by decide) rfl (fun c_3 => by exact absurd c_3 (by decide)) (fun c_3 => ?_)
    refine aw_iload_n (n := 7) dX6_setOfWholes_6 rfl rfl ?_
    refine aw_bipush (n := 9) (v := 7) dX6_setOfWholes_7 (by decide) rfl ?_
    refine aw_icmp_ne (tg := 18) (n := 12) dX6_setOfWholes_9 (by decide) rfl (fun c_9 => ?_) (fun c_9 => by exact absurd c_9 (by decide))
    refine aw_iload_n (n := 19) dX6_setOfWholes_18 rfl rfl ?_
    refine aw_tswIn (n := 52) (off := 33) dX6_setOfWholes_19 (by decide) (by decide) (by decide) (by decide) ?_
    refine aw_aload_n (n := 53) dX6_setOfWholes_52 rfl rfl ?_
    refine aw_iload_n (n := 54) dX6_setOfWholes_53 rfl rfl ?_
    refine aw_iload_n (n := 55) dX6_setOfWholes_54 rfl rfl ?_
    refine aw_iadd (n := 56) dX6_setOfWholes_55 rfl ?_
    refine aw_v1 (n := 59) (Z := mX5_setWhole) (ci := 3) (L0 := [_, _]) dX6_setOfWholes_56 kX5_setWhole gX6_117 iyX5_setWhole eyX5_setWhole rfl rfl (by assumption) rfl (Nat.le_of_ble_eq_true rfl) rfl rfl (by omega) (Nat.le_of_ble_eq_true rfl) (t_setWhole ha' (fun M' h5 h6 => ?_))
    dsimp only [aPush]
    refine aw_goto (n := 116) dX6_setOfWholes_59 (by decide) ?_
    refine aw_iconst (n := 117) (v := 0) dX6_setOfWholes_116 (by decide) rfl ?_
    refine aw_iret dX6_setOfWholes_117 rfl ?_
    exact h2 _ rfl _ h5 (fun q q1 q2 => h6 q q1)
  · refine aw_iload_n (n := 1) dX6_setOfWholes_0 rfl rfl ?_
    refine aw_bipush (n := 3) (v := 6) dX6_setOfWholes_1 (by decide) rfl ?_
    refine aw_icmp_eq (tg := 12) (n := 6) dX6_setOfWholes_3 (by decide) rfl (fun c_3 => by exact absurd c_3 (by decide)) (fun c_3 => ?_)
    refine aw_iload_n (n := 7) dX6_setOfWholes_6 rfl rfl ?_
    refine aw_bipush (n := 9) (v := 7) dX6_setOfWholes_7 (by decide) rfl ?_
    refine aw_icmp_ne (tg := 18) (n := 12) dX6_setOfWholes_9 (by decide) rfl (fun c_9 => ?_) (fun c_9 => by exact absurd c_9 (by decide))
    refine aw_iload_n (n := 19) dX6_setOfWholes_18 rfl rfl ?_
    refine aw_tswIn (n := 62) (off := 43) dX6_setOfWholes_19 (by decide) (by decide) (by decide) (by decide) ?_
    refine aw_aload_n (n := 63) dX6_setOfWholes_62 rfl rfl ?_
    refine aw_iload_n (n := 64) dX6_setOfWholes_63 rfl rfl ?_
    refine aw_iload_n (n := 65) dX6_setOfWholes_64 rfl rfl ?_
    refine aw_isub (n := 66) dX6_setOfWholes_65 rfl ?_
    refine aw_v1 (n := 69) (Z := mX5_setWhole) (ci := 3) (L0 := [_, _]) dX6_setOfWholes_66 kX5_setWhole gX6_117 iyX5_setWhole eyX5_setWhole rfl rfl (by assumption) rfl (Nat.le_of_ble_eq_true rfl) rfl rfl (by omega) (Nat.le_of_ble_eq_true rfl) (t_setWhole ha' (fun M' h5 h6 => ?_))
    dsimp only [aPush]
    refine aw_goto (n := 116) dX6_setOfWholes_69 (by decide) ?_
    refine aw_iconst (n := 117) (v := 0) dX6_setOfWholes_116 (by decide) rfl ?_
    refine aw_iret dX6_setOfWholes_117 rfl ?_
    exact h2 _ rfl _ h5 (fun q q1 q2 => h6 q q1)
  · refine aw_iload_n (n := 1) dX6_setOfWholes_0 rfl rfl ?_
    refine aw_bipush (n := 3) (v := 6) dX6_setOfWholes_1 (by decide) rfl ?_
    refine aw_icmp_eq (tg := 12) (n := 6) dX6_setOfWholes_3 (by decide) rfl (fun c_3 => by exact absurd c_3 (by decide)) (fun c_3 => ?_)
    refine aw_iload_n (n := 7) dX6_setOfWholes_6 rfl rfl ?_
    refine aw_bipush (n := 9) (v := 7) dX6_setOfWholes_7 (by decide) rfl ?_
    refine aw_icmp_ne (tg := 18) (n := 12) dX6_setOfWholes_9 (by decide) rfl (fun c_9 => ?_) (fun c_9 => by exact absurd c_9 (by decide))
    refine aw_iload_n (n := 19) dX6_setOfWholes_18 rfl rfl ?_
    refine aw_tswIn (n := 72) (off := 53) dX6_setOfWholes_19 (by decide) (by decide) (by decide) (by decide) ?_
    refine aw_aload_n (n := 73) dX6_setOfWholes_72 rfl rfl ?_
    refine aw_iload_n (n := 74) dX6_setOfWholes_73 rfl rfl ?_
    refine aw_iload_n (n := 75) dX6_setOfWholes_74 rfl rfl ?_
    refine aw_imul (n := 76) dX6_setOfWholes_75 rfl ?_
    refine aw_v1 (n := 79) (Z := mX5_setWhole) (ci := 3) (L0 := [_, _]) dX6_setOfWholes_76 kX5_setWhole gX6_117 iyX5_setWhole eyX5_setWhole rfl rfl (by assumption) rfl (Nat.le_of_ble_eq_true rfl) rfl rfl (by omega) (Nat.le_of_ble_eq_true rfl) (t_setWhole ha' (fun M' h5 h6 => ?_))
    dsimp only [aPush]
    refine aw_goto (n := 116) dX6_setOfWholes_79 (by decide) ?_
    refine aw_iconst (n := 117) (v := 0) dX6_setOfWholes_116 (by decide) rfl ?_
    refine aw_iret dX6_setOfWholes_117 rfl ?_
    exact h2 _ rfl _ h5 (fun q q1 q2 => h6 q q1)
  · by_cases hy : y = 0
    · refine aw_iload_n (n := 1) dX6_setOfWholes_0 rfl rfl ?_
      refine aw_bipush (n := 3) (v := 6) dX6_setOfWholes_1 (by decide) rfl ?_
      refine aw_icmp_eq (tg := 12) (n := 6) dX6_setOfWholes_3 (by decide) rfl (fun c_3 => ?_) (fun c_3 => by exact absurd (by decide) c_3)
      refine aw_iload_n (n := 13) dX6_setOfWholes_12 rfl rfl ?_
      refine aw_if_ne (tg := 18) (n := 16) dX6_setOfWholes_13 (by decide) rfl (fun c_13 => by exact absurd hy c_13) (fun c_13 => ?_)
      refine aw_iconst (n := 17) (v := 5) dX6_setOfWholes_16 (by decide) rfl ?_
      refine aw_iret dX6_setOfWholes_17 rfl ?_
      exact h1 5 (if_pos hy)
    · refine aw_iload_n (n := 1) dX6_setOfWholes_0 rfl rfl ?_
      refine aw_bipush (n := 3) (v := 6) dX6_setOfWholes_1 (by decide) rfl ?_
      refine aw_icmp_eq (tg := 12) (n := 6) dX6_setOfWholes_3 (by decide) rfl (fun c_3 => ?_) (fun c_3 => by exact absurd (by decide) c_3)
      refine aw_iload_n (n := 13) dX6_setOfWholes_12 rfl rfl ?_
      refine aw_if_ne (tg := 18) (n := 16) dX6_setOfWholes_13 (by decide) rfl (fun c_13 => ?_) (fun c_13 => by exact absurd c_13 hy)
      refine aw_iload_n (n := 19) dX6_setOfWholes_18 rfl rfl ?_
      refine aw_tswIn (n := 82) (off := 63) dX6_setOfWholes_19 (by decide) (by decide) (by decide) (by decide) ?_
      refine aw_aload_n (n := 83) dX6_setOfWholes_82 rfl rfl ?_
      refine aw_iload_n (n := 84) dX6_setOfWholes_83 rfl rfl ?_
      refine aw_iload_n (n := 85) dX6_setOfWholes_84 rfl rfl ?_
      refine aw_idiv (n := 86) dX6_setOfWholes_85 (by first | assumption | decide) rfl ?_
      refine aw_v1 (n := 89) (Z := mX5_setWhole) (ci := 3) (L0 := [_, _]) dX6_setOfWholes_86 kX5_setWhole gX6_117 iyX5_setWhole eyX5_setWhole rfl rfl (by assumption) rfl (Nat.le_of_ble_eq_true rfl) rfl rfl (by omega) (Nat.le_of_ble_eq_true rfl) (t_setWhole ha' (fun M' h5 h6 => ?_))
      dsimp only [aPush]
      refine aw_goto (n := 116) dX6_setOfWholes_89 (by decide) ?_
      refine aw_iconst (n := 117) (v := 0) dX6_setOfWholes_116 (by decide) rfl ?_
      refine aw_iret dX6_setOfWholes_117 rfl ?_
      exact h2 _ (if_neg hy) _ h5 (fun q q1 q2 => h6 q q1)
  · by_cases hy : y = 0
    · refine aw_iload_n (n := 1) dX6_setOfWholes_0 rfl rfl ?_
      refine aw_bipush (n := 3) (v := 6) dX6_setOfWholes_1 (by decide) rfl ?_
      refine aw_icmp_eq (tg := 12) (n := 6) dX6_setOfWholes_3 (by decide) rfl (fun c_3 => by exact absurd c_3 (by decide)) (fun c_3 => ?_)
      refine aw_iload_n (n := 7) dX6_setOfWholes_6 rfl rfl ?_
      refine aw_bipush (n := 9) (v := 7) dX6_setOfWholes_7 (by decide) rfl ?_
      refine aw_icmp_ne (tg := 18) (n := 12) dX6_setOfWholes_9 (by decide) rfl (fun c_9 => by exact absurd (by decide) c_9) (fun c_9 => ?_)
      refine aw_iload_n (n := 13) dX6_setOfWholes_12 rfl rfl ?_
      refine aw_if_ne (tg := 18) (n := 16) dX6_setOfWholes_13 (by decide) rfl (fun c_13 => by exact absurd hy c_13) (fun c_13 => ?_)
      refine aw_iconst (n := 17) (v := 5) dX6_setOfWholes_16 (by decide) rfl ?_
      refine aw_iret dX6_setOfWholes_17 rfl ?_
      exact h1 5 (if_pos hy)
    · refine aw_iload_n (n := 1) dX6_setOfWholes_0 rfl rfl ?_
      refine aw_bipush (n := 3) (v := 6) dX6_setOfWholes_1 (by decide) rfl ?_
      refine aw_icmp_eq (tg := 12) (n := 6) dX6_setOfWholes_3 (by decide) rfl (fun c_3 => by exact absurd c_3 (by decide)) (fun c_3 => ?_)
      refine aw_iload_n (n := 7) dX6_setOfWholes_6 rfl rfl ?_
      refine aw_bipush (n := 9) (v := 7) dX6_setOfWholes_7 (by decide) rfl ?_
      refine aw_icmp_ne (tg := 18) (n := 12) dX6_setOfWholes_9 (by decide) rfl (fun c_9 => by exact absurd (by decide) c_9) (fun c_9 => ?_)
      refine aw_iload_n (n := 13) dX6_setOfWholes_12 rfl rfl ?_
      refine aw_if_ne (tg := 18) (n := 16) dX6_setOfWholes_13 (by decide) rfl (fun c_13 => ?_) (fun c_13 => by exact absurd c_13 hy)
      refine aw_iload_n (n := 19) dX6_setOfWholes_18 rfl rfl ?_
      refine aw_tswIn (n := 92) (off := 73) dX6_setOfWholes_19 (by decide) (by decide) (by decide) (by decide) ?_
      refine aw_aload_n (n := 93) dX6_setOfWholes_92 rfl rfl ?_
      refine aw_iload_n (n := 94) dX6_setOfWholes_93 rfl rfl ?_
      refine aw_iload_n (n := 95) dX6_setOfWholes_94 rfl rfl ?_
      refine aw_irem (n := 96) dX6_setOfWholes_95 (by first | assumption | decide) rfl ?_
      refine aw_v1 (n := 99) (Z := mX5_setWhole) (ci := 3) (L0 := [_, _]) dX6_setOfWholes_96 kX5_setWhole gX6_117 iyX5_setWhole eyX5_setWhole rfl rfl (by assumption) rfl (Nat.le_of_ble_eq_true rfl) rfl rfl (by omega) (Nat.le_of_ble_eq_true rfl) (t_setWhole ha' (fun M' h5 h6 => ?_))
      dsimp only [aPush]
      refine aw_goto (n := 116) dX6_setOfWholes_99 (by decide) ?_
      refine aw_iconst (n := 117) (v := 0) dX6_setOfWholes_116 (by decide) rfl ?_
      refine aw_iret dX6_setOfWholes_117 rfl ?_
      exact h2 _ (if_neg hy) _ h5 (fun q q1 q2 => h6 q q1)
  · refine aw_iload_n (n := 1) dX6_setOfWholes_0 rfl rfl ?_
    refine aw_bipush (n := 3) (v := 6) dX6_setOfWholes_1 (by decide) rfl ?_
    refine aw_icmp_eq (tg := 12) (n := 6) dX6_setOfWholes_3 (by decide) rfl (fun c_3 => by exact absurd c_3 (by decide)) (fun c_3 => ?_)
    refine aw_iload_n (n := 7) dX6_setOfWholes_6 rfl rfl ?_
    refine aw_bipush (n := 9) (v := 7) dX6_setOfWholes_7 (by decide) rfl ?_
    refine aw_icmp_ne (tg := 18) (n := 12) dX6_setOfWholes_9 (by decide) rfl (fun c_9 => ?_) (fun c_9 => by exact absurd c_9 (by decide))
    refine aw_iload_n (n := 19) dX6_setOfWholes_18 rfl rfl ?_
    refine aw_tswOut (n := 102) dX6_setOfWholes_19 (by decide) (by decide) ?_
    refine aw_aload_n (n := 103) dX6_setOfWholes_102 rfl rfl ?_
    refine aw_iload_n (n := 104) dX6_setOfWholes_103 rfl rfl ?_
    refine aw_iload_n (n := 105) dX6_setOfWholes_104 rfl rfl ?_
    refine aw_icmp_ge (tg := 112) (n := 108) dX6_setOfWholes_105 (by decide) rfl (fun c_105 => ?_) (fun c_105 => ?_)
    · refine aw_iconst (n := 113) (v := 0) dX6_setOfWholes_112 (by decide) rfl ?_
      refine aw_s2 (n := 116) (Z := mX6_setTruth) (L0 := [_, _]) dX6_setOfWholes_113 kX6_setTruth gX6_94 syX6_setTruth rfl rfl (Nat.le_of_ble_eq_true rfl) rfl rfl (by omega) (Nat.le_of_ble_eq_true rfl) (t_truth (by omega) ha' (fun M' h5 h6 => ?_))
      dsimp only [aPush]
      refine aw_iconst (n := 117) (v := 0) dX6_setOfWholes_116 (by decide) rfl ?_
      refine aw_iret dX6_setOfWholes_117 rfl ?_
      first
        | exact h2 (some (.inl 0)) (show tru (decide (x < y)) = _ by rw [show decide (x < y) = false from decide_eq_false (i_nlt.mpr c_105)]; rfl) _ h5 (fun q q1 q2 => h6 q q1)
        | exact h2 (some (.inl 1)) (show tru (decide (x < y)) = _ by rw [show decide (x < y) = true from decide_eq_true (i_nle.mp c_105)]; rfl) _ h5 (fun q q1 q2 => h6 q q1)
    · refine aw_iconst (n := 109) (v := 1) dX6_setOfWholes_108 (by decide) rfl ?_
      refine aw_goto (n := 113) dX6_setOfWholes_109 (by decide) ?_
      refine aw_s2 (n := 116) (Z := mX6_setTruth) (L0 := [_, _]) dX6_setOfWholes_113 kX6_setTruth gX6_94 syX6_setTruth rfl rfl (Nat.le_of_ble_eq_true rfl) rfl rfl (by omega) (Nat.le_of_ble_eq_true rfl) (t_truth (by omega) ha' (fun M' h5 h6 => ?_))
      dsimp only [aPush]
      refine aw_iconst (n := 117) (v := 0) dX6_setOfWholes_116 (by decide) rfl ?_
      refine aw_iret dX6_setOfWholes_117 rfl ?_
      first
        | exact h2 (some (.inl 0)) (show tru (decide (x < y)) = _ by rw [show decide (x < y) = false from decide_eq_false (i_nlt.mpr c_105)]; rfl) _ h5 (fun q q1 q2 => h6 q q1)
        | exact h2 (some (.inl 1)) (show tru (decide (x < y)) = _ by rw [show decide (x < y) = true from decide_eq_true (i_nle.mp c_105)]; rfl) _ h5 (fun q q1 q2 => h6 q q1)
end OPS2
end
section
def nA (w : Nat) : Nat := ([4, 4, 4, 0, 0, 0, 0, 0, 0, 2, 1, 1, 0, 1, 1, 1, 1, 1, 1, 0, 0] : List Nat).getD w 4
def nB (w : Nat) : Nat := ([4, 4, 4, 0, 0, 0, 0, 0, 0, 3, 0, 4, 4, 0, 1, 0, 4, 4, 4, 4, 0] : List Nat).getD w 4
def nC (w : Nat) : Nat := ([4, 4, 4, 4, 4, 4, 4, 4, 4, 4, 4, 4, 4, 0, 4, 0, 4, 4, 4, 4, 4] : List Nat).getD w 4
def lk0 (need : Nat) : vV → Nat
  | none => 1
  | some (.inl _) => if need = 2 ∨ need = 0 then 0 else 4
  | some (.inr _) => if need = 2 ∨ need = 1 then 0 else 4
def lk (need : Nat) (v : vV) : Nat := if need = 4 then 0 else lk0 need v
def kd : vV → Nat
  | some (.inr _) => 1
  | _ => 0
def lkA (w : Nat) (a b c : vV) : Nat := if lk (nA w) a ≠ 0 then lk (nA w) a else if lk (if nB w = 3 then kd a else nB w) b ≠ 0 then lk (if nB w = 3 then kd a else nB w) b else lk (nC w) c
theorem tab0 : ∀ w, w ≤ 20 → aTab 0 w = nI (pts w) := by decide +kernel
theorem tab1 : ∀ w, w ≤ 20 → aTab 1 w = nI (nA w) := by decide +kernel
theorem tab2 : ∀ w, w ≤ 20 → aTab 2 w = nI (nB w) := by decide +kernel
theorem tab3 : ∀ w, w ≤ 20 → aTab 3 w = nI (nC w) := by decide +kernel
theorem nA_lt : ∀ w, w ≤ 20 → nA w < 5 ∧ nB w < 5 ∧ nC w < 5 ∧ (nB w = 3 → w = 9) ∧ (nA w ≠ 3 ∧ nC w ≠ 3) := by decide +kernel
theorem lk_lt (n : Nat) (v : vV) : lk n v < 5 := by
  unfold lk
  split
  · decide
  · rcases v with _ | x | r
    · exact (by decide : 1 < 5)
    · show (if n = 2 ∨ n = 0 then 0 else 4) < 5; split <;> decide
    · show (if n = 2 ∨ n = 1 then 0 else 4) < 5; split <;> decide
theorem i4 {n m : Nat} (hn : n < 5) (hm : m < 5) : nI n = nI m ↔ n = m := nI_eq (by omega) (by omega)
section COME
variable {l : Launch} {K : aK} {d : Nat} {M : aM} {Q : Option Value → aE → aM → Prop}
theorem t_lookAt {a need : Nat} {v : vV} (hn : need < 5) (hn3 : need ≠ 3) (ha : iV a) (hv : need ≠ 4 → vAt M a v) (hQ : Q (some (.int (nI (lk need v)))) EE M) : aw l K mX6_lookAt d 0 0 0 [.ref a, .int (nI need)] [] EE M Q := by
  obtain ⟨hva, hvb⟩ := ha
  by_cases h4 : need = 4
  · subst h4
    refine aw_iload_n (n := 1) dX6_lookAt_0 rfl rfl ?_
    refine aw_iconst (n := 2) (v := 4) dX6_lookAt_1 (by decide) rfl ?_
    refine aw_icmp_ne (tg := 7) (n := 5) dX6_lookAt_2 (by decide) rfl (fun c_2 => by exact absurd rfl c_2) (fun c_2 => ?_)
    refine aw_iconst (n := 6) (v := 0) dX6_lookAt_5 (by decide) rfl ?_
    refine aw_iret dX6_lookAt_6 rfl ?_
    exact hQ
  have hv := hv h4
  have hlk : lk need v = lk0 need v := if_neg h4
  rw [hlk] at hQ
  rcases v with _ | x | r
  · obtain ⟨h0, h2⟩ := hv
    refine aw_iload_n (n := 1) dX6_lookAt_0 rfl rfl ?_
    refine aw_iconst (n := 2) (v := 4) dX6_lookAt_1 (by decide) rfl ?_
    refine aw_icmp_ne (tg := 7) (n := 5) dX6_lookAt_2 (by decide) rfl (fun c_2 => ?_) (fun c_2 => by exact absurd ((i4 hn (by decide)).mp c_2) h4)
    refine aw_aload_n (n := 8) dX6_lookAt_7 rfl rfl ?_
    refine aw_geti (n := 11) dX6_lookAt_8 fX6_104 (by assumption) rfl rfl ?_
    refine aw_iconst (n := 12) (v := -1) dX6_lookAt_11 (by decide) rfl ?_
    refine aw_icmp_ne (tg := 17) (n := 15) dX6_lookAt_12 (by decide) rfl (fun c_12 => by exact absurd h0 c_12) (fun c_12 => ?_)
    refine aw_iconst (n := 16) (v := 1) dX6_lookAt_15 (by decide) rfl ?_
    refine aw_iret dX6_lookAt_16 rfl ?_
    exact hQ
  · obtain ⟨h0, h1, h2⟩ := hv
    refine aw_iload_n (n := 1) dX6_lookAt_0 rfl rfl ?_
    refine aw_iconst (n := 2) (v := 4) dX6_lookAt_1 (by decide) rfl ?_
    refine aw_icmp_ne (tg := 7) (n := 5) dX6_lookAt_2 (by decide) rfl (fun c_2 => ?_) (fun c_2 => by exact absurd ((i4 hn (by decide)).mp c_2) h4)
    refine aw_aload_n (n := 8) dX6_lookAt_7 rfl rfl ?_
    refine aw_geti (n := 11) dX6_lookAt_8 fX6_104 (by assumption) rfl rfl ?_
    refine aw_iconst (n := 12) (v := -1) dX6_lookAt_11 (by decide) rfl ?_
    refine aw_icmp_ne (tg := 17) (n := 15) dX6_lookAt_12 (by decide) rfl (fun c_12 => ?_) (fun c_12 => by exact absurd c_12 (by rw [h0]; decide))
    refine aw_iload_n (n := 18) dX6_lookAt_17 rfl rfl ?_
    refine aw_iconst (n := 19) (v := 2) dX6_lookAt_18 (by decide) rfl ?_
    refine aw_icmp_eq (tg := 30) (n := 22) dX6_lookAt_19 (by decide) rfl (fun c_19 => ?_) (fun c_19 => ?_)
    · refine aw_iconst (n := 31) (v := 0) dX6_lookAt_30 (by decide) rfl ?_
      refine aw_goto (n := 35) dX6_lookAt_31 (by decide) ?_
      refine aw_iret dX6_lookAt_35 rfl ?_
      first
        | (have e := (i4 hn (by decide)).mp c_19
           rw [show lk0 need (some (.inl x)) = 0 from if_pos (Or.inl e)] at hQ; exact hQ)
        | (have e : need ≠ 0 := fun q => c_27 (by rw [q]; rfl)
           rw [show lk0 need (some (.inl x)) = 4 from if_neg (fun q => q.elim (fun q => c_19 (by rw [q]; rfl)) e)] at hQ; exact hQ)
        | (have e := (i4 (n := 0) (by decide) hn).mp c_27
           rw [show lk0 need (some (.inl x)) = 0 from if_pos (Or.inr e.symm)] at hQ; exact hQ)
    · refine aw_aload_n (n := 23) dX6_lookAt_22 rfl rfl ?_
      refine aw_geti (n := 26) dX6_lookAt_23 fX6_104 (by assumption) rfl rfl ?_
      rw [h0]
      refine aw_iload_n (n := 27) dX6_lookAt_26 rfl rfl ?_
      refine aw_icmp_ne (tg := 34) (n := 30) dX6_lookAt_27 (by decide) rfl (fun c_27 => ?_) (fun c_27 => ?_)
      · refine aw_iconst (n := 35) (v := 4) dX6_lookAt_34 (by decide) rfl ?_
        refine aw_iret dX6_lookAt_35 rfl ?_
        first
          | (have e := (i4 hn (by decide)).mp c_19
             rw [show lk0 need (some (.inl x)) = 0 from if_pos (Or.inl e)] at hQ; exact hQ)
          | (have e : need ≠ 0 := fun q => c_27 (by rw [q]; rfl)
             rw [show lk0 need (some (.inl x)) = 4 from if_neg (fun q => q.elim (fun q => c_19 (by rw [q]; rfl)) e)] at hQ; exact hQ)
          | (have e := (i4 (n := 0) (by decide) hn).mp c_27
             rw [show lk0 need (some (.inl x)) = 0 from if_pos (Or.inr e.symm)] at hQ; exact hQ)
      · refine aw_iconst (n := 31) (v := 0) dX6_lookAt_30 (by decide) rfl ?_
        refine aw_goto (n := 35) dX6_lookAt_31 (by decide) ?_
        refine aw_iret dX6_lookAt_35 rfl ?_
        first
          | (have e := (i4 hn (by decide)).mp c_19
             rw [show lk0 need (some (.inl x)) = 0 from if_pos (Or.inl e)] at hQ; exact hQ)
          | (have e : need ≠ 0 := fun q => c_27 (by rw [q]; rfl)
             rw [show lk0 need (some (.inl x)) = 4 from if_neg (fun q => q.elim (fun q => c_19 (by rw [q]; rfl)) e)] at hQ; exact hQ)
          | (have e := (i4 (n := 0) (by decide) hn).mp c_27
             rw [show lk0 need (some (.inl x)) = 0 from if_pos (Or.inr e.symm)] at hQ; exact hQ)
  · obtain ⟨h0, h16, h2, h3⟩ := hv
    refine aw_iload_n (n := 1) dX6_lookAt_0 rfl rfl ?_
    refine aw_iconst (n := 2) (v := 4) dX6_lookAt_1 (by decide) rfl ?_
    refine aw_icmp_ne (tg := 7) (n := 5) dX6_lookAt_2 (by decide) rfl (fun c_2 => ?_) (fun c_2 => by exact absurd ((i4 hn (by decide)).mp c_2) h4)
    refine aw_aload_n (n := 8) dX6_lookAt_7 rfl rfl ?_
    refine aw_geti (n := 11) dX6_lookAt_8 fX6_104 (by assumption) rfl rfl ?_
    refine aw_iconst (n := 12) (v := -1) dX6_lookAt_11 (by decide) rfl ?_
    refine aw_icmp_ne (tg := 17) (n := 15) dX6_lookAt_12 (by decide) rfl (fun c_12 => ?_) (fun c_12 => by exact absurd c_12 (by rw [h0]; decide))
    refine aw_iload_n (n := 18) dX6_lookAt_17 rfl rfl ?_
    refine aw_iconst (n := 19) (v := 2) dX6_lookAt_18 (by decide) rfl ?_
    refine aw_icmp_eq (tg := 30) (n := 22) dX6_lookAt_19 (by decide) rfl (fun c_19 => ?_) (fun c_19 => ?_)
    · refine aw_iconst (n := 31) (v := 0) dX6_lookAt_30 (by decide) rfl ?_
      refine aw_goto (n := 35) dX6_lookAt_31 (by decide) ?_
      refine aw_iret dX6_lookAt_35 rfl ?_
      first
        | (have e := (i4 hn (by decide)).mp c_19
           rw [show lk0 need (some (.inr r)) = 0 from if_pos (Or.inl e)] at hQ; exact hQ)
        | (have e : need ≠ 1 := fun q => c_27 (by rw [q]; rfl)
           rw [show lk0 need (some (.inr r)) = 4 from if_neg (fun q => q.elim (fun q => c_19 (by rw [q]; rfl)) e)] at hQ; exact hQ)
        | (have e := (i4 (n := 1) (by decide) hn).mp c_27
           rw [show lk0 need (some (.inr r)) = 0 from if_pos (Or.inr e.symm)] at hQ; exact hQ)
    · refine aw_aload_n (n := 23) dX6_lookAt_22 rfl rfl ?_
      refine aw_geti (n := 26) dX6_lookAt_23 fX6_104 (by assumption) rfl rfl ?_
      rw [h0]
      refine aw_iload_n (n := 27) dX6_lookAt_26 rfl rfl ?_
      refine aw_icmp_ne (tg := 34) (n := 30) dX6_lookAt_27 (by decide) rfl (fun c_27 => ?_) (fun c_27 => ?_)
      · refine aw_iconst (n := 35) (v := 4) dX6_lookAt_34 (by decide) rfl ?_
        refine aw_iret dX6_lookAt_35 rfl ?_
        first
          | (have e := (i4 hn (by decide)).mp c_19
             rw [show lk0 need (some (.inr r)) = 0 from if_pos (Or.inl e)] at hQ; exact hQ)
          | (have e : need ≠ 1 := fun q => c_27 (by rw [q]; rfl)
             rw [show lk0 need (some (.inr r)) = 4 from if_neg (fun q => q.elim (fun q => c_19 (by rw [q]; rfl)) e)] at hQ; exact hQ)
          | (have e := (i4 (n := 1) (by decide) hn).mp c_27
             rw [show lk0 need (some (.inr r)) = 0 from if_pos (Or.inr e.symm)] at hQ; exact hQ)
      · refine aw_iconst (n := 31) (v := 0) dX6_lookAt_30 (by decide) rfl ?_
        refine aw_goto (n := 35) dX6_lookAt_31 (by decide) ?_
        refine aw_iret dX6_lookAt_35 rfl ?_
        first
          | (have e := (i4 hn (by decide)).mp c_19
             rw [show lk0 need (some (.inr r)) = 0 from if_pos (Or.inl e)] at hQ; exact hQ)
          | (have e : need ≠ 1 := fun q => c_27 (by rw [q]; rfl)
             rw [show lk0 need (some (.inr r)) = 4 from if_neg (fun q => q.elim (fun q => c_19 (by rw [q]; rfl)) e)] at hQ; exact hQ)
          | (have e := (i4 (n := 1) (by decide) hn).mp c_27
             rw [show lk0 need (some (.inr r)) = 0 from if_pos (Or.inr e.symm)] at hQ; exact hQ)
theorem t_lookAll {a b c w : Nat} {va vb vc : vV} (hd : 1 ≤ d) (hw : w ≤ 20) (ha : iV a) (hb : iV b) (hc : iV c) (hva : nA w ≠ 4 → vAt M a va) (hvb : nB w ≠ 4 → vAt M b vb) (hvc : nC w ≠ 4 → vAt M c vc) (hQ : Q (some (.int (nI (lkA w va vb vc)))) EE M) : aw l K mX6_lookAtAll d 0 0 0 [.int (nI w), .ref a, .ref b, .ref c, .null] [] EE M Q := by
  have ha' := ha
  obtain ⟨hxa, hxb⟩ := ha
  obtain ⟨q1, q2, q3, q4, q5, q6⟩ := nA_lt w hw
  have hin : vp_in (nI w) 21 := vp_in_nI (by omega) (by decide)
  have hww : (nI w).toNatClampNeg = w := nI_clamp (by omega)
  have l1 := lk_lt (nA w) va
  have l2 := lk_lt (if nB w = 3 then kd va else nB w) vb
  have l3 := lk_lt (nC w) vc
  have hbneed : (if nB w = 3 then kd va else nB w) < 5 ∧ (if nB w = 3 then kd va else nB w) ≠ 3 := by
    split
    · rcases va with _ | x | r <;> simp [kd]
    · exact ⟨q2, by assumption⟩
  have hbv : (if nB w = 3 then kd va else nB w) ≠ 4 → vAt M b vb := by
    by_cases h : nB w = 3
    · exact fun _ => hvb (by omega)
    · rw [if_neg h]; exact hvb
  refine aw_aload_n (n := 1) dX6_lookAtAll_0 rfl rfl ?_
  refine aw_gets (n := 4) (t := 1) dX6_lookAtAll_1 (by decide) tX6_98 rfl ?_
  refine aw_iload_n (n := 5) dX6_lookAtAll_4 rfl rfl ?_
  refine aw_tld (n := 6) (t := 1) dX6_lookAtAll_5 (by decide) (by assumption) rfl ?_
  rw [hww, tab1 w hw]
  refine aw_s2 (n := 9) (Z := mX6_lookAt) (L0 := [_, _]) dX6_lookAtAll_6 kX6_lookAt gX6_62 syX6_lookAt rfl rfl (Nat.le_of_ble_eq_true rfl) rfl rfl (by omega) (Nat.le_of_ble_eq_true rfl) (t_lookAt q1 q5 ha' hva ?_)
  dsimp only [aPush]
  refine aw_istore (n := 11) (L' := [_, _, _, _, _]) dX6_lookAtAll_9 (Nat.le_of_ble_eq_true rfl) rfl rfl ?_
  refine aw_iload (n := 13) dX6_lookAtAll_11 rfl rfl ?_
  refine aw_if_ne (tg := 43) (n := 16) dX6_lookAtAll_13 (by decide) rfl (fun c_13 => ?_) (fun c_13 => ?_)
  · refine aw_iload (n := 45) dX6_lookAtAll_43 rfl rfl ?_
    refine aw_if_ne (tg := 59) (n := 48) dX6_lookAtAll_45 (by decide) rfl (fun c_45 => ?_) (fun c_45 => ?_)
    · refine aw_iload (n := 61) dX6_lookAtAll_59 rfl rfl ?_
      refine aw_iret dX6_lookAtAll_61 rfl ?_
      first
        | exact absurd c_45 c_13
        | (rw [show lkA w va vb vc = lk (nA w) va from if_pos (fun q => c_13 (by rw [q]; rfl))] at hQ; exact hQ)
        | (have h0 := (i4 l1 (by decide : 0 < 5)).mp c_13
           rw [show lkA w va vb vc = _ from (if_neg (fun q => q h0)).trans (if_pos (fun q => c_45 (by rw [q]; rfl)))] at hQ; exact hQ)
        | (have h0 := (i4 l1 (by decide : 0 < 5)).mp c_13
           have h1 := (i4 l2 (by decide : 0 < 5)).mp c_45
           rw [show lkA w va vb vc = _ from (if_neg (fun q => q h0)).trans (if_neg (fun q => q h1))] at hQ; exact hQ)
    · refine aw_aload_n (n := 49) dX6_lookAtAll_48 rfl rfl ?_
      refine aw_gets (n := 52) (t := 3) dX6_lookAtAll_49 (by decide) tX6_107 rfl ?_
      refine aw_iload_n (n := 53) dX6_lookAtAll_52 rfl rfl ?_
      refine aw_tld (n := 54) (t := 3) dX6_lookAtAll_53 (by decide) (by assumption) rfl ?_
      rw [hww, tab3 w hw]
      refine aw_s2 (n := 57) (Z := mX6_lookAt) (L0 := [_, _]) dX6_lookAtAll_54 kX6_lookAt gX6_62 syX6_lookAt rfl rfl (Nat.le_of_ble_eq_true rfl) rfl rfl (by omega) (Nat.le_of_ble_eq_true rfl) (t_lookAt q3 q6 hc hvc ?_)
      dsimp only [aPush]
      refine aw_istore (n := 59) (L' := [_, _, _, _, _]) dX6_lookAtAll_57 (Nat.le_of_ble_eq_true rfl) rfl rfl ?_
      refine aw_iload (n := 61) dX6_lookAtAll_59 rfl rfl ?_
      refine aw_iret dX6_lookAtAll_61 rfl ?_
      first
        | exact absurd c_45 c_13
        | (rw [show lkA w va vb vc = lk (nA w) va from if_pos (fun q => c_13 (by rw [q]; rfl))] at hQ; exact hQ)
        | (have h0 := (i4 l1 (by decide : 0 < 5)).mp c_13
           rw [show lkA w va vb vc = _ from (if_neg (fun q => q h0)).trans (if_pos (fun q => c_45 (by rw [q]; rfl)))] at hQ; exact hQ)
        | (have h0 := (i4 l1 (by decide : 0 < 5)).mp c_13
           have h1 := (i4 l2 (by decide : 0 < 5)).mp c_45
           rw [show lkA w va vb vc = _ from (if_neg (fun q => q h0)).trans (if_neg (fun q => q h1))] at hQ; exact hQ)
  · refine aw_aload_n (n := 17) dX6_lookAtAll_16 rfl rfl ?_
    refine aw_gets (n := 20) (t := 2) dX6_lookAtAll_17 (by decide) tX6_101 rfl ?_
    refine aw_iload_n (n := 21) dX6_lookAtAll_20 rfl rfl ?_
    refine aw_tld (n := 22) (t := 2) dX6_lookAtAll_21 (by decide) (by assumption) rfl ?_
    rw [hww, tab2 w hw]
    refine aw_iconst (n := 23) (v := 3) dX6_lookAtAll_22 (by decide) rfl ?_
    refine aw_icmp_ne (tg := 33) (n := 26) dX6_lookAtAll_23 (by decide) rfl (fun c_23 => ?_) (fun c_23 => ?_)
    · refine aw_gets (n := 36) (t := 2) dX6_lookAtAll_33 (by decide) tX6_101 rfl ?_
      refine aw_iload_n (n := 37) dX6_lookAtAll_36 rfl rfl ?_
      refine aw_tld (n := 38) (t := 2) dX6_lookAtAll_37 (by decide) (by assumption) rfl ?_
      first
        | (rw [hww, tab2 w hw]
           have h3 : ¬ nB w = 3 := fun q => c_23 (by rw [q]; rfl)
           have e38 : nI (nB w) = nI (if nB w = 3 then kd va else nB w) := by rw [if_neg h3]
           rw [e38])
        | (have h3 : nB w = 3 := (i4 q2 (by decide)).mp c_23
           have hk0 : lk (nA w) va = 0 := (i4 l1 (by decide)).mp c_13
           have hva2 : vAt M a va := hva (by rw [q4 h3]; decide)
           have e38 : M a 0 = nI (if nB w = 3 then kd va else nB w) := by
             rw [if_pos h3]
             rcases va with _ | x | r
             · rw [q4 h3] at hk0; exact absurd hk0 (by decide)
             · exact hva2.1
             · exact hva2.1
           rw [e38])
      refine aw_s2 (n := 41) (Z := mX6_lookAt) (L0 := [_, _]) dX6_lookAtAll_38 kX6_lookAt gX6_62 syX6_lookAt rfl rfl (Nat.le_of_ble_eq_true rfl) rfl rfl (by omega) (Nat.le_of_ble_eq_true rfl) (t_lookAt hbneed.1 hbneed.2 hb hbv ?_)
      dsimp only [aPush]
      refine aw_istore (n := 43) (L' := [_, _, _, _, _]) dX6_lookAtAll_41 (Nat.le_of_ble_eq_true rfl) rfl rfl ?_
      refine aw_iload (n := 45) dX6_lookAtAll_43 rfl rfl ?_
      refine aw_if_ne (tg := 59) (n := 48) dX6_lookAtAll_45 (by decide) rfl (fun c_45 => ?_) (fun c_45 => ?_)
      · refine aw_iload (n := 61) dX6_lookAtAll_59 rfl rfl ?_
        refine aw_iret dX6_lookAtAll_61 rfl ?_
        first
          | exact absurd c_45 c_13
          | (rw [show lkA w va vb vc = lk (nA w) va from if_pos (fun q => c_13 (by rw [q]; rfl))] at hQ; exact hQ)
          | (have h0 := (i4 l1 (by decide : 0 < 5)).mp c_13
             rw [show lkA w va vb vc = _ from (if_neg (fun q => q h0)).trans (if_pos (fun q => c_45 (by rw [q]; rfl)))] at hQ; exact hQ)
          | (have h0 := (i4 l1 (by decide : 0 < 5)).mp c_13
             have h1 := (i4 l2 (by decide : 0 < 5)).mp c_45
             rw [show lkA w va vb vc = _ from (if_neg (fun q => q h0)).trans (if_neg (fun q => q h1))] at hQ; exact hQ)
      · refine aw_aload_n (n := 49) dX6_lookAtAll_48 rfl rfl ?_
        refine aw_gets (n := 52) (t := 3) dX6_lookAtAll_49 (by decide) tX6_107 rfl ?_
        refine aw_iload_n (n := 53) dX6_lookAtAll_52 rfl rfl ?_
        refine aw_tld (n := 54) (t := 3) dX6_lookAtAll_53 (by decide) (by assumption) rfl ?_
        rw [hww, tab3 w hw]
        refine aw_s2 (n := 57) (Z := mX6_lookAt) (L0 := [_, _]) dX6_lookAtAll_54 kX6_lookAt gX6_62 syX6_lookAt rfl rfl (Nat.le_of_ble_eq_true rfl) rfl rfl (by omega) (Nat.le_of_ble_eq_true rfl) (t_lookAt q3 q6 hc hvc ?_)
        dsimp only [aPush]
        refine aw_istore (n := 59) (L' := [_, _, _, _, _]) dX6_lookAtAll_57 (Nat.le_of_ble_eq_true rfl) rfl rfl ?_
        refine aw_iload (n := 61) dX6_lookAtAll_59 rfl rfl ?_
        refine aw_iret dX6_lookAtAll_61 rfl ?_
        first
          | exact absurd c_45 c_13
          | (rw [show lkA w va vb vc = lk (nA w) va from if_pos (fun q => c_13 (by rw [q]; rfl))] at hQ; exact hQ)
          | (have h0 := (i4 l1 (by decide : 0 < 5)).mp c_13
             rw [show lkA w va vb vc = _ from (if_neg (fun q => q h0)).trans (if_pos (fun q => c_45 (by rw [q]; rfl)))] at hQ; exact hQ)
          | (have h0 := (i4 l1 (by decide : 0 < 5)).mp c_13
             have h1 := (i4 l2 (by decide : 0 < 5)).mp c_45
             rw [show lkA w va vb vc = _ from (if_neg (fun q => q h0)).trans (if_neg (fun q => q h1))] at hQ; exact hQ)
    · refine aw_aload_n (n := 27) dX6_lookAtAll_26 rfl rfl ?_
      refine aw_geti (n := 30) dX6_lookAtAll_27 fX6_104 (by assumption) rfl rfl ?_
      refine aw_goto (n := 38) dX6_lookAtAll_30 (by decide) ?_
      first
        | (rw [hww, tab2 w hw]
           have h3 : ¬ nB w = 3 := fun q => c_23 (by rw [q]; rfl)
           have e38 : nI (nB w) = nI (if nB w = 3 then kd va else nB w) := by rw [if_neg h3]
           rw [e38])
        | (have h3 : nB w = 3 := (i4 q2 (by decide)).mp c_23
           have hk0 : lk (nA w) va = 0 := (i4 l1 (by decide)).mp c_13
           have hva2 : vAt M a va := hva (by rw [q4 h3]; decide)
           have e38 : M a 0 = nI (if nB w = 3 then kd va else nB w) := by
             rw [if_pos h3]
             rcases va with _ | x | r
             · rw [q4 h3] at hk0; exact absurd hk0 (by decide)
             · exact hva2.1
             · exact hva2.1
           rw [e38])
      refine aw_s2 (n := 41) (Z := mX6_lookAt) (L0 := [_, _]) dX6_lookAtAll_38 kX6_lookAt gX6_62 syX6_lookAt rfl rfl (Nat.le_of_ble_eq_true rfl) rfl rfl (by omega) (Nat.le_of_ble_eq_true rfl) (t_lookAt hbneed.1 hbneed.2 hb hbv ?_)
      dsimp only [aPush]
      refine aw_istore (n := 43) (L' := [_, _, _, _, _]) dX6_lookAtAll_41 (Nat.le_of_ble_eq_true rfl) rfl rfl ?_
      refine aw_iload (n := 45) dX6_lookAtAll_43 rfl rfl ?_
      refine aw_if_ne (tg := 59) (n := 48) dX6_lookAtAll_45 (by decide) rfl (fun c_45 => ?_) (fun c_45 => ?_)
      · refine aw_iload (n := 61) dX6_lookAtAll_59 rfl rfl ?_
        refine aw_iret dX6_lookAtAll_61 rfl ?_
        first
          | exact absurd c_45 c_13
          | (rw [show lkA w va vb vc = lk (nA w) va from if_pos (fun q => c_13 (by rw [q]; rfl))] at hQ; exact hQ)
          | (have h0 := (i4 l1 (by decide : 0 < 5)).mp c_13
             rw [show lkA w va vb vc = _ from (if_neg (fun q => q h0)).trans (if_pos (fun q => c_45 (by rw [q]; rfl)))] at hQ; exact hQ)
          | (have h0 := (i4 l1 (by decide : 0 < 5)).mp c_13
             have h1 := (i4 l2 (by decide : 0 < 5)).mp c_45
             rw [show lkA w va vb vc = _ from (if_neg (fun q => q h0)).trans (if_neg (fun q => q h1))] at hQ; exact hQ)
      · refine aw_aload_n (n := 49) dX6_lookAtAll_48 rfl rfl ?_
        refine aw_gets (n := 52) (t := 3) dX6_lookAtAll_49 (by decide) tX6_107 rfl ?_
        refine aw_iload_n (n := 53) dX6_lookAtAll_52 rfl rfl ?_
        refine aw_tld (n := 54) (t := 3) dX6_lookAtAll_53 (by decide) (by assumption) rfl ?_
        rw [hww, tab3 w hw]
        refine aw_s2 (n := 57) (Z := mX6_lookAt) (L0 := [_, _]) dX6_lookAtAll_54 kX6_lookAt gX6_62 syX6_lookAt rfl rfl (Nat.le_of_ble_eq_true rfl) rfl rfl (by omega) (Nat.le_of_ble_eq_true rfl) (t_lookAt q3 q6 hc hvc ?_)
        dsimp only [aPush]
        refine aw_istore (n := 59) (L' := [_, _, _, _, _]) dX6_lookAtAll_57 (Nat.le_of_ble_eq_true rfl) rfl rfl ?_
        refine aw_iload (n := 61) dX6_lookAtAll_59 rfl rfl ?_
        refine aw_iret dX6_lookAtAll_61 rfl ?_
        first
          | exact absurd c_45 c_13
          | (rw [show lkA w va vb vc = lk (nA w) va from if_pos (fun q => c_13 (by rw [q]; rfl))] at hQ; exact hQ)
          | (have h0 := (i4 l1 (by decide : 0 < 5)).mp c_13
             rw [show lkA w va vb vc = _ from (if_neg (fun q => q h0)).trans (if_pos (fun q => c_45 (by rw [q]; rfl)))] at hQ; exact hQ)
          | (have h0 := (i4 l1 (by decide : 0 < 5)).mp c_13
             have h1 := (i4 l2 (by decide : 0 < 5)).mp c_45
             rw [show lkA w va vb vc = _ from (if_neg (fun q => q h0)).trans (if_neg (fun q => q h1))] at hQ; exact hQ)
end COME
end
section
theorem op_lk {w : Nat} (hw : w ≤ 18) (n : Int32) (inp : Nat → vV) (a b c : vV) {k : Nat} (h : lkA w a b c = k) (hk : k ≠ 0) : op w n inp a b c = .inl k := by
  subst h
  rcases (show w = 0 ∨ w = 1 ∨ w = 2 ∨ w = 3 ∨ w = 4 ∨ w = 5 ∨ w = 6 ∨ w = 7 ∨ w = 8 ∨ w = 9 ∨ w = 10 ∨ w = 11 ∨ w = 12 ∨ w = 13 ∨ w = 14 ∨ w = 15 ∨ w = 16 ∨ w = 17 ∨ w = 18 by omega) with rfl | rfl | rfl | rfl | rfl | rfl | rfl | rfl | rfl | rfl | rfl | rfl | rfl | rfl | rfl | rfl | rfl | rfl | rfl
  all_goals
    rcases a with _ | x | r <;> rcases b with _ | y | s <;> rcases c with _ | z | u <;> first
      | rfl
      | exact absurd rfl hk
section COME2
variable {l : Launch} {K : aK} {d : Nat} {M : aM} {Q : Option Value → aE → aM → Prop}
theorem t_comeTo {own a b c t w : Nat} {va vb vc : vV} {n : Int32} {inp : Nat → vV} (hd : 4 ≤ d) (hw : w ≤ 18) (ht : t < 60) (hM : M 3 t = nI w) (hN : M 7 t = n) (hn0 : w = 0 → isNo n 3) (hinp : ∀ i, i < 3 → vAt M (9 + 2 * i) (inp i)) (ho : iV own) (hoi : ∀ i, i < 3 → own ≠ 9 + 2 * i) (ha : iV a) (hb : iV b) (hc : iV c)
    (hva : nA w ≠ 4 → vAt M a va ∧ own ≠ a) (hvb : nB w ≠ 4 → vAt M b vb ∧ own ≠ b) (hvc : nC w ≠ 4 → vAt M c vc ∧ own ≠ c) (hlk : lkA w va vb vc = 0)
    (h1 : ∀ k, op w n inp va vb vc = .inl k → Q (some (.int (nI k))) EE M) (h2 : ∀ v, op w n inp va vb vc = .inr v → ∀ M', vAt M' own v → (∀ q, q ≠ own → q ≠ own + 1 → M' q = M q) → Q (some (.int 0)) EE M') : aw l K mX6_comeTo d 0 0 0 [.ref 1, .int (nI t), .ref own, .ref a, .ref b, .ref c, .null] [] EE M Q := by
  have e1 := E_1
  have e2 := E_2
  have e3 := E_3
  have e7 := E_7
  have e8 := E_8r
  have hin : vp_in (nI t) 60 := vp_in_nI ht (by decide)
  have htt : (nI t).toNatClampNeg = t := nI_clamp (by omega)
  have ho' := ho
  have ha' := ha
  have hb' := hb
  have hc' := hc
  obtain ⟨ho1, ho2⟩ := ho
  obtain ⟨ha1, ha2⟩ := ha
  obtain ⟨hb1, hb2⟩ := hb
  obtain ⟨hc1, hc2⟩ := hc
  rcases (show w = 0 ∨ w = 1 ∨ w = 2 ∨ w = 3 ∨ w = 4 ∨ w = 5 ∨ w = 6 ∨ w = 7 ∨ w = 8 ∨ w = 9 ∨ w = 10 ∨ w = 11 ∨ w = 12 ∨ w = 13 ∨ w = 14 ∨ w = 15 ∨ w = 16 ∨ w = 17 ∨ w = 18 by omega) with rfl | rfl | rfl | rfl | rfl | rfl | rfl | rfl | rfl | rfl | rfl | rfl | rfl | rfl | rfl | rfl | rfl | rfl | rfl
  · obtain ⟨i, hi, rfl⟩ := hn0 rfl
    have hii : (nI i).toNatClampNeg = i := nI_clamp (by omega)
    have hin3 : vp_in (nI i) 3 := vp_in_nI hi (by decide)
    refine aw_aload_n (n := 1) dX6_comeTo_0 rfl rfl ?_
    refine aw_getr (n := 4) dX6_comeTo_1 fX6_12 (by assumption) rfl rfl ?_
    refine aw_getr (n := 7) dX6_comeTo_4 fX6_66 (by assumption) rfl rfl ?_
    refine aw_iload_n (n := 8) dX6_comeTo_7 rfl rfl ?_
    refine aw_iald (n := 9) dX6_comeTo_8 (by assumption) (by assumption) rfl ?_
    rw [htt, hM]
    refine aw_istore (n := 11) (L' := [_, _, _, _, _, _, _]) dX6_comeTo_9 (Nat.le_of_ble_eq_true rfl) rfl rfl ?_
    refine aw_iload (n := 13) dX6_comeTo_11 rfl rfl ?_
    refine aw_tswIn (n := 104) (off := 91) dX6_comeTo_13 (by decide) (by decide) (by decide) (by decide) ?_
    refine aw_aload_n (n := 105) dX6_comeTo_104 rfl rfl ?_
    refine aw_aload_n (n := 106) dX6_comeTo_105 rfl rfl ?_
    refine aw_getr (n := 109) dX6_comeTo_106 fX6_22 (by assumption) rfl rfl ?_
    refine aw_aload_n (n := 110) dX6_comeTo_109 rfl rfl ?_
    refine aw_getr (n := 113) dX6_comeTo_110 fX6_12 (by assumption) rfl rfl ?_
    refine aw_getr (n := 116) dX6_comeTo_113 fX6_110 (by assumption) rfl rfl ?_
    refine aw_iload_n (n := 117) dX6_comeTo_116 rfl rfl ?_
    refine aw_iald (n := 118) dX6_comeTo_117 (by assumption) (by assumption) rfl ?_
    rw [htt, hN]
    refine aw_aald (n := 119) dX6_comeTo_118 (by assumption) (by decide) (by assumption) (by rw [hii]; exact rIn_at i hi) rfl ?_
    refine aw_v1 (n := 122) (Z := mX5_copy) (ci := 3) (L0 := [_, _, .null]) dX6_comeTo_119 kX5_copy gX6_113 iyX5_copy eyX5_copy rfl rfl (by assumption) rfl (Nat.le_of_ble_eq_true rfl) rfl rfl (by omega) (Nat.le_of_ble_eq_true rfl) (t_copy ho' (iV_in i hi) (hoi i hi) (hinp i hi) (fun M' h5 h6 => ?_))
    dsimp only [aPush]
    refine aw_iconst (n := 123) (v := 0) dX6_comeTo_122 (by decide) rfl ?_
    refine aw_iret dX6_comeTo_123 rfl ?_
    exact h2 (inp i) (by show Sum.inr (inp (nI i).toNatClampNeg) = _; rw [hii]) _ h5 h6
  · skip
    refine aw_aload_n (n := 1) dX6_comeTo_0 rfl rfl ?_
    refine aw_getr (n := 4) dX6_comeTo_1 fX6_12 (by assumption) rfl rfl ?_
    refine aw_getr (n := 7) dX6_comeTo_4 fX6_66 (by assumption) rfl rfl ?_
    refine aw_iload_n (n := 8) dX6_comeTo_7 rfl rfl ?_
    refine aw_iald (n := 9) dX6_comeTo_8 (by assumption) (by assumption) rfl ?_
    rw [htt, hM]
    refine aw_istore (n := 11) (L' := [_, _, _, _, _, _, _]) dX6_comeTo_9 (Nat.le_of_ble_eq_true rfl) rfl rfl ?_
    refine aw_iload (n := 13) dX6_comeTo_11 rfl rfl ?_
    refine aw_tswIn (n := 124) (off := 111) dX6_comeTo_13 (by decide) (by decide) (by decide) (by decide) ?_
    refine aw_aload_n (n := 125) dX6_comeTo_124 rfl rfl ?_
    refine aw_aload_n (n := 126) dX6_comeTo_125 rfl rfl ?_
    refine aw_getr (n := 129) dX6_comeTo_126 fX6_12 (by assumption) rfl rfl ?_
    refine aw_getr (n := 132) dX6_comeTo_129 fX6_110 (by assumption) rfl rfl ?_
    refine aw_iload_n (n := 133) dX6_comeTo_132 rfl rfl ?_
    refine aw_iald (n := 134) dX6_comeTo_133 (by assumption) (by assumption) rfl ?_
    rw [htt, hN]
    refine aw_v1 (n := 137) (Z := mX5_setWhole) (ci := 3) (L0 := [_, _]) dX6_comeTo_134 kX5_setWhole gX6_117 iyX5_setWhole eyX5_setWhole rfl rfl (by assumption) rfl (Nat.le_of_ble_eq_true rfl) rfl rfl (by omega) (Nat.le_of_ble_eq_true rfl) (t_setWhole ho' (fun M' h5 h6 => ?_))
    dsimp only [aPush]
    refine aw_iconst (n := 138) (v := 0) dX6_comeTo_137 (by decide) rfl ?_
    refine aw_iret dX6_comeTo_138 rfl ?_
    exact h2 _ rfl _ h5 (fun q q1 q2 => h6 q q1)
  · skip
    refine aw_aload_n (n := 1) dX6_comeTo_0 rfl rfl ?_
    refine aw_getr (n := 4) dX6_comeTo_1 fX6_12 (by assumption) rfl rfl ?_
    refine aw_getr (n := 7) dX6_comeTo_4 fX6_66 (by assumption) rfl rfl ?_
    refine aw_iload_n (n := 8) dX6_comeTo_7 rfl rfl ?_
    refine aw_iald (n := 9) dX6_comeTo_8 (by assumption) (by assumption) rfl ?_
    rw [htt, hM]
    refine aw_istore (n := 11) (L' := [_, _, _, _, _, _, _]) dX6_comeTo_9 (Nat.le_of_ble_eq_true rfl) rfl rfl ?_
    refine aw_iload (n := 13) dX6_comeTo_11 rfl rfl ?_
    refine aw_tswIn (n := 139) (off := 126) dX6_comeTo_13 (by decide) (by decide) (by decide) (by decide) ?_
    refine aw_aload_n (n := 140) dX6_comeTo_139 rfl rfl ?_
    refine aw_v0 (n := 143) (Z := mX5_setNothing) (ci := 3) (L0 := [_]) dX6_comeTo_140 kX5_setNothing gX6_121 iyX5_setNothing eyX5_setNothing rfl rfl (by assumption) (Nat.le_of_ble_eq_true rfl) rfl rfl (by omega) (Nat.le_of_ble_eq_true rfl) (t_setNothing ho' (fun M' h5 h6 => ?_))
    dsimp only [aPush]
    refine aw_iconst (n := 144) (v := 0) dX6_comeTo_143 (by decide) rfl ?_
    refine aw_iret dX6_comeTo_144 rfl ?_
    exact h2 _ rfl _ h5 (fun q q1 q2 => h6 q q1)
  · obtain ⟨x, rfl⟩ : ∃ z, va = some (.inl z) := by
      rcases va with _ | z | z
      · exact absurd hlk (by simp [lkA, lk, lk0, nA, nB, nC, kd])
      · exact ⟨z, rfl⟩
      · exact absurd hlk (by simp [lkA, lk, lk0, nA, nB, nC, kd])
    obtain ⟨y, rfl⟩ : ∃ z, vb = some (.inl z) := by
      rcases vb with _ | z | z
      · exact absurd hlk (by simp [lkA, lk, lk0, nA, nB, nC, kd])
      · exact ⟨z, rfl⟩
      · exact absurd hlk (by simp [lkA, lk, lk0, nA, nB, nC, kd])
    obtain ⟨va1, va2⟩ := hva (by decide)
    obtain ⟨vb1, vb2⟩ := hvb (by decide)
    refine aw_aload_n (n := 1) dX6_comeTo_0 rfl rfl ?_
    refine aw_getr (n := 4) dX6_comeTo_1 fX6_12 (by assumption) rfl rfl ?_
    refine aw_getr (n := 7) dX6_comeTo_4 fX6_66 (by assumption) rfl rfl ?_
    refine aw_iload_n (n := 8) dX6_comeTo_7 rfl rfl ?_
    refine aw_iald (n := 9) dX6_comeTo_8 (by assumption) (by assumption) rfl ?_
    rw [htt, hM]
    refine aw_istore (n := 11) (L' := [_, _, _, _, _, _, _]) dX6_comeTo_9 (Nat.le_of_ble_eq_true rfl) rfl rfl ?_
    refine aw_iload (n := 13) dX6_comeTo_11 rfl rfl ?_
    refine aw_tswIn (n := 251) (off := 238) dX6_comeTo_13 (by decide) (by decide) (by decide) (by decide) ?_
    refine aw_aload_n (n := 252) dX6_comeTo_251 rfl rfl ?_
    refine aw_iload (n := 254) dX6_comeTo_252 rfl rfl ?_
    refine aw_aload_n (n := 255) dX6_comeTo_254 rfl rfl ?_
    refine aw_geti (n := 258) dX6_comeTo_255 fX6_48 (by assumption) rfl rfl ?_
    refine aw_aload (n := 260) dX6_comeTo_258 rfl rfl ?_
    refine aw_geti (n := 263) dX6_comeTo_260 fX6_48 (by assumption) rfl rfl ?_
    rw [va1.2.1, vb1.2.1]
    refine aw_s4 (n := 266) (Z := mX6_setOfWholes) (L0 := [_, _, _, _]) dX6_comeTo_263 kX6_setOfWholes gX6_160 syX6_setOfWholes rfl rfl rfl rfl (Nat.le_of_ble_eq_true rfl) rfl rfl (by omega) (Nat.le_of_ble_eq_true rfl) (t_ofWholes (w := 3) (by omega) ho' (by decide) (fun k hk => ?_) (fun v hv M' h5 h6 => ?_))
    · dsimp only [aPush]
      refine aw_iret dX6_comeTo_266 rfl ?_
      first | exact h1 _ hk | exact h2 _ hv _ h5 h6
    · dsimp only [aPush]
      refine aw_iret dX6_comeTo_266 rfl ?_
      first | exact h1 _ hk | exact h2 _ hv _ h5 h6
  · obtain ⟨x, rfl⟩ : ∃ z, va = some (.inl z) := by
      rcases va with _ | z | z
      · exact absurd hlk (by simp [lkA, lk, lk0, nA, nB, nC, kd])
      · exact ⟨z, rfl⟩
      · exact absurd hlk (by simp [lkA, lk, lk0, nA, nB, nC, kd])
    obtain ⟨y, rfl⟩ : ∃ z, vb = some (.inl z) := by
      rcases vb with _ | z | z
      · exact absurd hlk (by simp [lkA, lk, lk0, nA, nB, nC, kd])
      · exact ⟨z, rfl⟩
      · exact absurd hlk (by simp [lkA, lk, lk0, nA, nB, nC, kd])
    obtain ⟨va1, va2⟩ := hva (by decide)
    obtain ⟨vb1, vb2⟩ := hvb (by decide)
    refine aw_aload_n (n := 1) dX6_comeTo_0 rfl rfl ?_
    refine aw_getr (n := 4) dX6_comeTo_1 fX6_12 (by assumption) rfl rfl ?_
    refine aw_getr (n := 7) dX6_comeTo_4 fX6_66 (by assumption) rfl rfl ?_
    refine aw_iload_n (n := 8) dX6_comeTo_7 rfl rfl ?_
    refine aw_iald (n := 9) dX6_comeTo_8 (by assumption) (by assumption) rfl ?_
    rw [htt, hM]
    refine aw_istore (n := 11) (L' := [_, _, _, _, _, _, _]) dX6_comeTo_9 (Nat.le_of_ble_eq_true rfl) rfl rfl ?_
    refine aw_iload (n := 13) dX6_comeTo_11 rfl rfl ?_
    refine aw_tswIn (n := 251) (off := 238) dX6_comeTo_13 (by decide) (by decide) (by decide) (by decide) ?_
    refine aw_aload_n (n := 252) dX6_comeTo_251 rfl rfl ?_
    refine aw_iload (n := 254) dX6_comeTo_252 rfl rfl ?_
    refine aw_aload_n (n := 255) dX6_comeTo_254 rfl rfl ?_
    refine aw_geti (n := 258) dX6_comeTo_255 fX6_48 (by assumption) rfl rfl ?_
    refine aw_aload (n := 260) dX6_comeTo_258 rfl rfl ?_
    refine aw_geti (n := 263) dX6_comeTo_260 fX6_48 (by assumption) rfl rfl ?_
    rw [va1.2.1, vb1.2.1]
    refine aw_s4 (n := 266) (Z := mX6_setOfWholes) (L0 := [_, _, _, _]) dX6_comeTo_263 kX6_setOfWholes gX6_160 syX6_setOfWholes rfl rfl rfl rfl (Nat.le_of_ble_eq_true rfl) rfl rfl (by omega) (Nat.le_of_ble_eq_true rfl) (t_ofWholes (w := 4) (by omega) ho' (by decide) (fun k hk => ?_) (fun v hv M' h5 h6 => ?_))
    · dsimp only [aPush]
      refine aw_iret dX6_comeTo_266 rfl ?_
      first | exact h1 _ hk | exact h2 _ hv _ h5 h6
    · dsimp only [aPush]
      refine aw_iret dX6_comeTo_266 rfl ?_
      first | exact h1 _ hk | exact h2 _ hv _ h5 h6
  · obtain ⟨x, rfl⟩ : ∃ z, va = some (.inl z) := by
      rcases va with _ | z | z
      · exact absurd hlk (by simp [lkA, lk, lk0, nA, nB, nC, kd])
      · exact ⟨z, rfl⟩
      · exact absurd hlk (by simp [lkA, lk, lk0, nA, nB, nC, kd])
    obtain ⟨y, rfl⟩ : ∃ z, vb = some (.inl z) := by
      rcases vb with _ | z | z
      · exact absurd hlk (by simp [lkA, lk, lk0, nA, nB, nC, kd])
      · exact ⟨z, rfl⟩
      · exact absurd hlk (by simp [lkA, lk, lk0, nA, nB, nC, kd])
    obtain ⟨va1, va2⟩ := hva (by decide)
    obtain ⟨vb1, vb2⟩ := hvb (by decide)
    refine aw_aload_n (n := 1) dX6_comeTo_0 rfl rfl ?_
    refine aw_getr (n := 4) dX6_comeTo_1 fX6_12 (by assumption) rfl rfl ?_
    refine aw_getr (n := 7) dX6_comeTo_4 fX6_66 (by assumption) rfl rfl ?_
    refine aw_iload_n (n := 8) dX6_comeTo_7 rfl rfl ?_
    refine aw_iald (n := 9) dX6_comeTo_8 (by assumption) (by assumption) rfl ?_
    rw [htt, hM]
    refine aw_istore (n := 11) (L' := [_, _, _, _, _, _, _]) dX6_comeTo_9 (Nat.le_of_ble_eq_true rfl) rfl rfl ?_
    refine aw_iload (n := 13) dX6_comeTo_11 rfl rfl ?_
    refine aw_tswIn (n := 251) (off := 238) dX6_comeTo_13 (by decide) (by decide) (by decide) (by decide) ?_
    refine aw_aload_n (n := 252) dX6_comeTo_251 rfl rfl ?_
    refine aw_iload (n := 254) dX6_comeTo_252 rfl rfl ?_
    refine aw_aload_n (n := 255) dX6_comeTo_254 rfl rfl ?_
    refine aw_geti (n := 258) dX6_comeTo_255 fX6_48 (by assumption) rfl rfl ?_
    refine aw_aload (n := 260) dX6_comeTo_258 rfl rfl ?_
    refine aw_geti (n := 263) dX6_comeTo_260 fX6_48 (by assumption) rfl rfl ?_
    rw [va1.2.1, vb1.2.1]
    refine aw_s4 (n := 266) (Z := mX6_setOfWholes) (L0 := [_, _, _, _]) dX6_comeTo_263 kX6_setOfWholes gX6_160 syX6_setOfWholes rfl rfl rfl rfl (Nat.le_of_ble_eq_true rfl) rfl rfl (by omega) (Nat.le_of_ble_eq_true rfl) (t_ofWholes (w := 5) (by omega) ho' (by decide) (fun k hk => ?_) (fun v hv M' h5 h6 => ?_))
    · dsimp only [aPush]
      refine aw_iret dX6_comeTo_266 rfl ?_
      first | exact h1 _ hk | exact h2 _ hv _ h5 h6
    · dsimp only [aPush]
      refine aw_iret dX6_comeTo_266 rfl ?_
      first | exact h1 _ hk | exact h2 _ hv _ h5 h6
  · obtain ⟨x, rfl⟩ : ∃ z, va = some (.inl z) := by
      rcases va with _ | z | z
      · exact absurd hlk (by simp [lkA, lk, lk0, nA, nB, nC, kd])
      · exact ⟨z, rfl⟩
      · exact absurd hlk (by simp [lkA, lk, lk0, nA, nB, nC, kd])
    obtain ⟨y, rfl⟩ : ∃ z, vb = some (.inl z) := by
      rcases vb with _ | z | z
      · exact absurd hlk (by simp [lkA, lk, lk0, nA, nB, nC, kd])
      · exact ⟨z, rfl⟩
      · exact absurd hlk (by simp [lkA, lk, lk0, nA, nB, nC, kd])
    obtain ⟨va1, va2⟩ := hva (by decide)
    obtain ⟨vb1, vb2⟩ := hvb (by decide)
    refine aw_aload_n (n := 1) dX6_comeTo_0 rfl rfl ?_
    refine aw_getr (n := 4) dX6_comeTo_1 fX6_12 (by assumption) rfl rfl ?_
    refine aw_getr (n := 7) dX6_comeTo_4 fX6_66 (by assumption) rfl rfl ?_
    refine aw_iload_n (n := 8) dX6_comeTo_7 rfl rfl ?_
    refine aw_iald (n := 9) dX6_comeTo_8 (by assumption) (by assumption) rfl ?_
    rw [htt, hM]
    refine aw_istore (n := 11) (L' := [_, _, _, _, _, _, _]) dX6_comeTo_9 (Nat.le_of_ble_eq_true rfl) rfl rfl ?_
    refine aw_iload (n := 13) dX6_comeTo_11 rfl rfl ?_
    refine aw_tswIn (n := 251) (off := 238) dX6_comeTo_13 (by decide) (by decide) (by decide) (by decide) ?_
    refine aw_aload_n (n := 252) dX6_comeTo_251 rfl rfl ?_
    refine aw_iload (n := 254) dX6_comeTo_252 rfl rfl ?_
    refine aw_aload_n (n := 255) dX6_comeTo_254 rfl rfl ?_
    refine aw_geti (n := 258) dX6_comeTo_255 fX6_48 (by assumption) rfl rfl ?_
    refine aw_aload (n := 260) dX6_comeTo_258 rfl rfl ?_
    refine aw_geti (n := 263) dX6_comeTo_260 fX6_48 (by assumption) rfl rfl ?_
    rw [va1.2.1, vb1.2.1]
    refine aw_s4 (n := 266) (Z := mX6_setOfWholes) (L0 := [_, _, _, _]) dX6_comeTo_263 kX6_setOfWholes gX6_160 syX6_setOfWholes rfl rfl rfl rfl (Nat.le_of_ble_eq_true rfl) rfl rfl (by omega) (Nat.le_of_ble_eq_true rfl) (t_ofWholes (w := 6) (by omega) ho' (by decide) (fun k hk => ?_) (fun v hv M' h5 h6 => ?_))
    · dsimp only [aPush]
      refine aw_iret dX6_comeTo_266 rfl ?_
      first | exact h1 _ hk | exact h2 _ hv _ h5 h6
    · dsimp only [aPush]
      refine aw_iret dX6_comeTo_266 rfl ?_
      first | exact h1 _ hk | exact h2 _ hv _ h5 h6
  · obtain ⟨x, rfl⟩ : ∃ z, va = some (.inl z) := by
      rcases va with _ | z | z
      · exact absurd hlk (by simp [lkA, lk, lk0, nA, nB, nC, kd])
      · exact ⟨z, rfl⟩
      · exact absurd hlk (by simp [lkA, lk, lk0, nA, nB, nC, kd])
    obtain ⟨y, rfl⟩ : ∃ z, vb = some (.inl z) := by
      rcases vb with _ | z | z
      · exact absurd hlk (by simp [lkA, lk, lk0, nA, nB, nC, kd])
      · exact ⟨z, rfl⟩
      · exact absurd hlk (by simp [lkA, lk, lk0, nA, nB, nC, kd])
    obtain ⟨va1, va2⟩ := hva (by decide)
    obtain ⟨vb1, vb2⟩ := hvb (by decide)
    refine aw_aload_n (n := 1) dX6_comeTo_0 rfl rfl ?_
    refine aw_getr (n := 4) dX6_comeTo_1 fX6_12 (by assumption) rfl rfl ?_
    refine aw_getr (n := 7) dX6_comeTo_4 fX6_66 (by assumption) rfl rfl ?_
    refine aw_iload_n (n := 8) dX6_comeTo_7 rfl rfl ?_
    refine aw_iald (n := 9) dX6_comeTo_8 (by assumption) (by assumption) rfl ?_
    rw [htt, hM]
    refine aw_istore (n := 11) (L' := [_, _, _, _, _, _, _]) dX6_comeTo_9 (Nat.le_of_ble_eq_true rfl) rfl rfl ?_
    refine aw_iload (n := 13) dX6_comeTo_11 rfl rfl ?_
    refine aw_tswIn (n := 251) (off := 238) dX6_comeTo_13 (by decide) (by decide) (by decide) (by decide) ?_
    refine aw_aload_n (n := 252) dX6_comeTo_251 rfl rfl ?_
    refine aw_iload (n := 254) dX6_comeTo_252 rfl rfl ?_
    refine aw_aload_n (n := 255) dX6_comeTo_254 rfl rfl ?_
    refine aw_geti (n := 258) dX6_comeTo_255 fX6_48 (by assumption) rfl rfl ?_
    refine aw_aload (n := 260) dX6_comeTo_258 rfl rfl ?_
    refine aw_geti (n := 263) dX6_comeTo_260 fX6_48 (by assumption) rfl rfl ?_
    rw [va1.2.1, vb1.2.1]
    refine aw_s4 (n := 266) (Z := mX6_setOfWholes) (L0 := [_, _, _, _]) dX6_comeTo_263 kX6_setOfWholes gX6_160 syX6_setOfWholes rfl rfl rfl rfl (Nat.le_of_ble_eq_true rfl) rfl rfl (by omega) (Nat.le_of_ble_eq_true rfl) (t_ofWholes (w := 7) (by omega) ho' (by decide) (fun k hk => ?_) (fun v hv M' h5 h6 => ?_))
    · dsimp only [aPush]
      refine aw_iret dX6_comeTo_266 rfl ?_
      first | exact h1 _ hk | exact h2 _ hv _ h5 h6
    · dsimp only [aPush]
      refine aw_iret dX6_comeTo_266 rfl ?_
      first | exact h1 _ hk | exact h2 _ hv _ h5 h6
  · obtain ⟨x, rfl⟩ : ∃ z, va = some (.inl z) := by
      rcases va with _ | z | z
      · exact absurd hlk (by simp [lkA, lk, lk0, nA, nB, nC, kd])
      · exact ⟨z, rfl⟩
      · exact absurd hlk (by simp [lkA, lk, lk0, nA, nB, nC, kd])
    obtain ⟨y, rfl⟩ : ∃ z, vb = some (.inl z) := by
      rcases vb with _ | z | z
      · exact absurd hlk (by simp [lkA, lk, lk0, nA, nB, nC, kd])
      · exact ⟨z, rfl⟩
      · exact absurd hlk (by simp [lkA, lk, lk0, nA, nB, nC, kd])
    obtain ⟨va1, va2⟩ := hva (by decide)
    obtain ⟨vb1, vb2⟩ := hvb (by decide)
    refine aw_aload_n (n := 1) dX6_comeTo_0 rfl rfl ?_
    refine aw_getr (n := 4) dX6_comeTo_1 fX6_12 (by assumption) rfl rfl ?_
    refine aw_getr (n := 7) dX6_comeTo_4 fX6_66 (by assumption) rfl rfl ?_
    refine aw_iload_n (n := 8) dX6_comeTo_7 rfl rfl ?_
    refine aw_iald (n := 9) dX6_comeTo_8 (by assumption) (by assumption) rfl ?_
    rw [htt, hM]
    refine aw_istore (n := 11) (L' := [_, _, _, _, _, _, _]) dX6_comeTo_9 (Nat.le_of_ble_eq_true rfl) rfl rfl ?_
    refine aw_iload (n := 13) dX6_comeTo_11 rfl rfl ?_
    refine aw_tswIn (n := 251) (off := 238) dX6_comeTo_13 (by decide) (by decide) (by decide) (by decide) ?_
    refine aw_aload_n (n := 252) dX6_comeTo_251 rfl rfl ?_
    refine aw_iload (n := 254) dX6_comeTo_252 rfl rfl ?_
    refine aw_aload_n (n := 255) dX6_comeTo_254 rfl rfl ?_
    refine aw_geti (n := 258) dX6_comeTo_255 fX6_48 (by assumption) rfl rfl ?_
    refine aw_aload (n := 260) dX6_comeTo_258 rfl rfl ?_
    refine aw_geti (n := 263) dX6_comeTo_260 fX6_48 (by assumption) rfl rfl ?_
    rw [va1.2.1, vb1.2.1]
    refine aw_s4 (n := 266) (Z := mX6_setOfWholes) (L0 := [_, _, _, _]) dX6_comeTo_263 kX6_setOfWholes gX6_160 syX6_setOfWholes rfl rfl rfl rfl (Nat.le_of_ble_eq_true rfl) rfl rfl (by omega) (Nat.le_of_ble_eq_true rfl) (t_ofWholes (w := 8) (by omega) ho' (by decide) (fun k hk => ?_) (fun v hv M' h5 h6 => ?_))
    · dsimp only [aPush]
      refine aw_iret dX6_comeTo_266 rfl ?_
      first | exact h1 _ hk | exact h2 _ hv _ h5 h6
    · dsimp only [aPush]
      refine aw_iret dX6_comeTo_266 rfl ?_
      first | exact h1 _ hk | exact h2 _ hv _ h5 h6
  · obtain ⟨va1, va2⟩ := hva (by decide)
    obtain ⟨vb1, vb2⟩ := hvb (by decide)
    obtain ⟨bl, hbl⟩ : ∃ bl, opL va vb = tru bl := by
      rcases va with _ | x | r
      · exact absurd hlk (by simp [lkA, lk, lk0, nA, nB, nC, kd])
      · rcases vb with _ | y | s
        · exact absurd hlk (by simp [lkA, lk, lk0, nA, nB, nC, kd])
        · exact ⟨_, rfl⟩
        · exact absurd hlk (by simp [lkA, lk, lk0, nA, nB, nC, kd])
      · rcases vb with _ | y | s
        · exact absurd hlk (by simp [lkA, lk, lk0, nA, nB, nC, kd])
        · exact absurd hlk (by simp [lkA, lk, lk0, nA, nB, nC, kd])
        · exact ⟨_, rfl⟩
    refine aw_aload_n (n := 1) dX6_comeTo_0 rfl rfl ?_
    refine aw_getr (n := 4) dX6_comeTo_1 fX6_12 (by assumption) rfl rfl ?_
    refine aw_getr (n := 7) dX6_comeTo_4 fX6_66 (by assumption) rfl rfl ?_
    refine aw_iload_n (n := 8) dX6_comeTo_7 rfl rfl ?_
    refine aw_iald (n := 9) dX6_comeTo_8 (by assumption) (by assumption) rfl ?_
    rw [htt, hM]
    refine aw_istore (n := 11) (L' := [_, _, _, _, _, _, _]) dX6_comeTo_9 (Nat.le_of_ble_eq_true rfl) rfl rfl ?_
    refine aw_iload (n := 13) dX6_comeTo_11 rfl rfl ?_
    refine aw_tswIn (n := 145) (off := 132) dX6_comeTo_13 (by decide) (by decide) (by decide) (by decide) ?_
    refine aw_aload_n (n := 146) dX6_comeTo_145 rfl rfl ?_
    refine aw_aload_n (n := 147) dX6_comeTo_146 rfl rfl ?_
    refine aw_aload (n := 149) dX6_comeTo_147 rfl rfl ?_
    refine aw_s2 (n := 152) (Z := mX6_areLike) (L0 := [_, _, .null]) dX6_comeTo_149 kX6_areLike gX6_124 syX6_areLike rfl rfl (Nat.le_of_ble_eq_true rfl) rfl rfl (by omega) (Nat.le_of_ble_eq_true rfl) (t_like ha' hb' va1 vb1 hbl ?_)
    dsimp only [aPush]
    refine aw_s2 (n := 155) (Z := mX6_setTruth) (L0 := [_, _]) dX6_comeTo_152 kX6_setTruth gX6_94 syX6_setTruth rfl rfl (Nat.le_of_ble_eq_true rfl) rfl rfl (by omega) (Nat.le_of_ble_eq_true rfl) (t_truth (by omega) ho' (fun M' h5 h6 => ?_))
    dsimp only [aPush]
    refine aw_iconst (n := 156) (v := 0) dX6_comeTo_155 (by decide) rfl ?_
    refine aw_iret dX6_comeTo_156 rfl ?_
    refine h2 _ hbl _ ?_ (fun q q1 q2 => h6 q q1)
    cases bl <;> exact h5
  · obtain ⟨r, rfl⟩ : ∃ z, va = some (.inr z) := by
      rcases va with _ | z | z
      · exact absurd hlk (by simp [lkA, lk, lk0, nA, nB, nC, kd])
      · exact absurd hlk (by simp [lkA, lk, lk0, nA, nB, nC, kd])
      · exact ⟨z, rfl⟩
    obtain ⟨y, rfl⟩ : ∃ z, vb = some (.inl z) := by
      rcases vb with _ | z | z
      · exact absurd hlk (by simp [lkA, lk, lk0, nA, nB, nC, kd])
      · exact ⟨z, rfl⟩
      · exact absurd hlk (by simp [lkA, lk, lk0, nA, nB, nC, kd])
    obtain ⟨va1, va2⟩ := hva (by decide)
    obtain ⟨vb1, vb2⟩ := hvb (by decide)
    refine aw_aload_n (n := 1) dX6_comeTo_0 rfl rfl ?_
    refine aw_getr (n := 4) dX6_comeTo_1 fX6_12 (by assumption) rfl rfl ?_
    refine aw_getr (n := 7) dX6_comeTo_4 fX6_66 (by assumption) rfl rfl ?_
    refine aw_iload_n (n := 8) dX6_comeTo_7 rfl rfl ?_
    refine aw_iald (n := 9) dX6_comeTo_8 (by assumption) (by assumption) rfl ?_
    rw [htt, hM]
    refine aw_istore (n := 11) (L' := [_, _, _, _, _, _, _]) dX6_comeTo_9 (Nat.le_of_ble_eq_true rfl) rfl rfl ?_
    refine aw_iload (n := 13) dX6_comeTo_11 rfl rfl ?_
    refine aw_tswIn (n := 157) (off := 144) dX6_comeTo_13 (by decide) (by decide) (by decide) (by decide) ?_
    refine aw_aload_n (n := 158) dX6_comeTo_157 rfl rfl ?_
    refine aw_aload_n (n := 159) dX6_comeTo_158 rfl rfl ?_
    refine aw_aload (n := 161) dX6_comeTo_159 rfl rfl ?_
    refine aw_geti (n := 164) dX6_comeTo_161 fX6_48 (by assumption) rfl rfl ?_
    rw [vb1.2.1]
    refine aw_s3 (n := 167) (Z := mX6_setAt) (L0 := [_, _, _]) dX6_comeTo_164 kX6_setAt gX6_128 syX6_setAt rfl rfl rfl (Nat.le_of_ble_eq_true rfl) rfl rfl (by omega) (Nat.le_of_ble_eq_true rfl) (t_setAt (by omega) ho' ha' va1 (fun hk => ?_) (fun hk M' h5 h6 => ?_))
    · dsimp only [aPush]
      refine aw_iret dX6_comeTo_167 rfl ?_
      first | exact h1 2 (if_pos hk) | exact h2 _ (if_neg hk) _ h5 h6
    · dsimp only [aPush]
      refine aw_iret dX6_comeTo_167 rfl ?_
      first | exact h1 2 (if_pos hk) | exact h2 _ (if_neg hk) _ h5 h6
  · obtain ⟨r, rfl⟩ : ∃ z, va = some (.inr z) := by
      rcases va with _ | z | z
      · exact absurd hlk (by simp [lkA, lk, lk0, nA, nB, nC, kd])
      · exact absurd hlk (by simp [lkA, lk, lk0, nA, nB, nC, kd])
      · exact ⟨z, rfl⟩
    obtain ⟨va1, va2⟩ := hva (by decide)
    refine aw_aload_n (n := 1) dX6_comeTo_0 rfl rfl ?_
    refine aw_getr (n := 4) dX6_comeTo_1 fX6_12 (by assumption) rfl rfl ?_
    refine aw_getr (n := 7) dX6_comeTo_4 fX6_66 (by assumption) rfl rfl ?_
    refine aw_iload_n (n := 8) dX6_comeTo_7 rfl rfl ?_
    refine aw_iald (n := 9) dX6_comeTo_8 (by assumption) (by assumption) rfl ?_
    rw [htt, hM]
    refine aw_istore (n := 11) (L' := [_, _, _, _, _, _, _]) dX6_comeTo_9 (Nat.le_of_ble_eq_true rfl) rfl rfl ?_
    refine aw_iload (n := 13) dX6_comeTo_11 rfl rfl ?_
    refine aw_tswIn (n := 168) (off := 155) dX6_comeTo_13 (by decide) (by decide) (by decide) (by decide) ?_
    refine aw_aload_n (n := 169) dX6_comeTo_168 rfl rfl ?_
    refine aw_aload_n (n := 170) dX6_comeTo_169 rfl rfl ?_
    refine aw_geti (n := 173) dX6_comeTo_170 fX6_132 (by assumption) rfl rfl ?_
    rw [va1.2.2.1]
    refine aw_v1 (n := 176) (Z := mX5_setWhole) (ci := 3) (L0 := [_, _]) dX6_comeTo_173 kX5_setWhole gX6_117 iyX5_setWhole eyX5_setWhole rfl rfl (by assumption) rfl (Nat.le_of_ble_eq_true rfl) rfl rfl (by omega) (Nat.le_of_ble_eq_true rfl) (t_setWhole ho' (fun M' h5 h6 => ?_))
    dsimp only [aPush]
    refine aw_iconst (n := 177) (v := 0) dX6_comeTo_176 (by decide) rfl ?_
    refine aw_iret dX6_comeTo_177 rfl ?_
    exact h2 _ rfl _ h5 (fun q q1 q2 => h6 q q1)
  · obtain ⟨x, rfl⟩ : ∃ z, va = some (.inl z) := by
      rcases va with _ | z | z
      · exact absurd hlk (by simp [lkA, lk, lk0, nA, nB, nC, kd])
      · exact ⟨z, rfl⟩
      · exact absurd hlk (by simp [lkA, lk, lk0, nA, nB, nC, kd])
    obtain ⟨va1, va2⟩ := hva (by decide)
    refine aw_aload_n (n := 1) dX6_comeTo_0 rfl rfl ?_
    refine aw_getr (n := 4) dX6_comeTo_1 fX6_12 (by assumption) rfl rfl ?_
    refine aw_getr (n := 7) dX6_comeTo_4 fX6_66 (by assumption) rfl rfl ?_
    refine aw_iload_n (n := 8) dX6_comeTo_7 rfl rfl ?_
    refine aw_iald (n := 9) dX6_comeTo_8 (by assumption) (by assumption) rfl ?_
    rw [htt, hM]
    refine aw_istore (n := 11) (L' := [_, _, _, _, _, _, _]) dX6_comeTo_9 (Nat.le_of_ble_eq_true rfl) rfl rfl ?_
    refine aw_iload (n := 13) dX6_comeTo_11 rfl rfl ?_
    refine aw_tswIn (n := 178) (off := 165) dX6_comeTo_13 (by decide) (by decide) (by decide) (by decide) ?_
    refine aw_aload_n (n := 179) dX6_comeTo_178 rfl rfl ?_
    refine aw_aload_n (n := 180) dX6_comeTo_179 rfl rfl ?_
    refine aw_geti (n := 183) dX6_comeTo_180 fX6_48 (by assumption) rfl rfl ?_
    rw [va1.2.1]
    refine aw_s2 (n := 186) (Z := mX6_setZeros) (L0 := [_, _, .null]) dX6_comeTo_183 kX6_setZeros gX6_135 syX6_setZeros rfl rfl (Nat.le_of_ble_eq_true rfl) rfl rfl (by omega) (Nat.le_of_ble_eq_true rfl) (t_setZeros (by omega) ho' (fun g1 => ?_) (fun g1 g2 => ?_) (fun g1 g2 M' h5 h6 => ?_))
    · dsimp only [aPush]
      refine aw_iret dX6_comeTo_186 rfl ?_
      first | exact h2 _ ((if_neg g1).trans (if_neg g2)) _ h5 h6 | exact h1 6 ((if_neg g1).trans (if_pos g2)) | exact h1 3 (if_pos g1)
    · dsimp only [aPush]
      refine aw_iret dX6_comeTo_186 rfl ?_
      first | exact h2 _ ((if_neg g1).trans (if_neg g2)) _ h5 h6 | exact h1 6 ((if_neg g1).trans (if_pos g2)) | exact h1 3 (if_pos g1)
    · dsimp only [aPush]
      refine aw_iret dX6_comeTo_186 rfl ?_
      first | exact h2 _ ((if_neg g1).trans (if_neg g2)) _ h5 h6 | exact h1 6 ((if_neg g1).trans (if_pos g2)) | exact h1 3 (if_pos g1)
  · obtain ⟨r, rfl⟩ : ∃ z, va = some (.inr z) := by
      rcases va with _ | z | z
      · exact absurd hlk (by simp [lkA, lk, lk0, nA, nB, nC, kd])
      · exact absurd hlk (by simp [lkA, lk, lk0, nA, nB, nC, kd])
      · exact ⟨z, rfl⟩
    obtain ⟨y, rfl⟩ : ∃ z, vb = some (.inl z) := by
      rcases vb with _ | z | z
      · exact absurd hlk (by simp [lkA, lk, lk0, nA, nB, nC, kd])
      · exact ⟨z, rfl⟩
      · exact absurd hlk (by simp [lkA, lk, lk0, nA, nB, nC, kd])
    obtain ⟨z, rfl⟩ : ∃ z, vc = some (.inl z) := by
      rcases vc with _ | z | z
      · exact absurd hlk (by simp [lkA, lk, lk0, nA, nB, nC, kd])
      · exact ⟨z, rfl⟩
      · exact absurd hlk (by simp [lkA, lk, lk0, nA, nB, nC, kd])
    obtain ⟨va1, va2⟩ := hva (by decide)
    obtain ⟨vb1, vb2⟩ := hvb (by decide)
    obtain ⟨vc1, vc2⟩ := hvc (by decide)
    refine aw_aload_n (n := 1) dX6_comeTo_0 rfl rfl ?_
    refine aw_getr (n := 4) dX6_comeTo_1 fX6_12 (by assumption) rfl rfl ?_
    refine aw_getr (n := 7) dX6_comeTo_4 fX6_66 (by assumption) rfl rfl ?_
    refine aw_iload_n (n := 8) dX6_comeTo_7 rfl rfl ?_
    refine aw_iald (n := 9) dX6_comeTo_8 (by assumption) (by assumption) rfl ?_
    rw [htt, hM]
    refine aw_istore (n := 11) (L' := [_, _, _, _, _, _, _]) dX6_comeTo_9 (Nat.le_of_ble_eq_true rfl) rfl rfl ?_
    refine aw_iload (n := 13) dX6_comeTo_11 rfl rfl ?_
    refine aw_tswIn (n := 187) (off := 174) dX6_comeTo_13 (by decide) (by decide) (by decide) (by decide) ?_
    refine aw_aload_n (n := 188) dX6_comeTo_187 rfl rfl ?_
    refine aw_aload_n (n := 189) dX6_comeTo_188 rfl rfl ?_
    refine aw_aload (n := 191) dX6_comeTo_189 rfl rfl ?_
    refine aw_geti (n := 194) dX6_comeTo_191 fX6_48 (by assumption) rfl rfl ?_
    refine aw_aload (n := 196) dX6_comeTo_194 rfl rfl ?_
    refine aw_geti (n := 199) dX6_comeTo_196 fX6_48 (by assumption) rfl rfl ?_
    rw [vb1.2.1, vc1.2.1]
    refine aw_s4 (n := 202) (Z := mX6_setPut) (L0 := [_, _, _, _]) dX6_comeTo_199 kX6_setPut gX6_138 syX6_setPut rfl rfl rfl rfl (Nat.le_of_ble_eq_true rfl) rfl rfl (by omega) (Nat.le_of_ble_eq_true rfl) (t_setPut (by omega) ho' ha' va2 va1 (fun hk => ?_) (fun hk M' h5 h6 => ?_))
    · dsimp only [aPush]
      refine aw_iret dX6_comeTo_202 rfl ?_
      first | exact h1 2 (if_pos hk) | exact h2 _ (if_neg hk) _ h5 h6
    · dsimp only [aPush]
      refine aw_iret dX6_comeTo_202 rfl ?_
      first | exact h1 2 (if_pos hk) | exact h2 _ (if_neg hk) _ h5 h6
  · obtain ⟨r, rfl⟩ : ∃ z, va = some (.inr z) := by
      rcases va with _ | z | z
      · exact absurd hlk (by simp [lkA, lk, lk0, nA, nB, nC, kd])
      · exact absurd hlk (by simp [lkA, lk, lk0, nA, nB, nC, kd])
      · exact ⟨z, rfl⟩
    obtain ⟨s, rfl⟩ : ∃ z, vb = some (.inr z) := by
      rcases vb with _ | z | z
      · exact absurd hlk (by simp [lkA, lk, lk0, nA, nB, nC, kd])
      · exact absurd hlk (by simp [lkA, lk, lk0, nA, nB, nC, kd])
      · exact ⟨z, rfl⟩
    obtain ⟨va1, va2⟩ := hva (by decide)
    obtain ⟨vb1, vb2⟩ := hvb (by decide)
    refine aw_aload_n (n := 1) dX6_comeTo_0 rfl rfl ?_
    refine aw_getr (n := 4) dX6_comeTo_1 fX6_12 (by assumption) rfl rfl ?_
    refine aw_getr (n := 7) dX6_comeTo_4 fX6_66 (by assumption) rfl rfl ?_
    refine aw_iload_n (n := 8) dX6_comeTo_7 rfl rfl ?_
    refine aw_iald (n := 9) dX6_comeTo_8 (by assumption) (by assumption) rfl ?_
    rw [htt, hM]
    refine aw_istore (n := 11) (L' := [_, _, _, _, _, _, _]) dX6_comeTo_9 (Nat.le_of_ble_eq_true rfl) rfl rfl ?_
    refine aw_iload (n := 13) dX6_comeTo_11 rfl rfl ?_
    refine aw_tswIn (n := 203) (off := 190) dX6_comeTo_13 (by decide) (by decide) (by decide) (by decide) ?_
    refine aw_aload_n (n := 204) dX6_comeTo_203 rfl rfl ?_
    refine aw_aload_n (n := 205) dX6_comeTo_204 rfl rfl ?_
    refine aw_aload (n := 207) dX6_comeTo_205 rfl rfl ?_
    refine aw_s3 (n := 210) (Z := mX6_setJoined) (L0 := [_, _, _]) dX6_comeTo_207 kX6_setJoined gX6_142 syX6_setJoined rfl rfl rfl (Nat.le_of_ble_eq_true rfl) rfl rfl (by omega) (Nat.le_of_ble_eq_true rfl) (t_setJoined (by omega) ho' ha' hb' va2 vb2 va1 vb1 (fun hk => ?_) (fun hk M' h5 h6 => ?_))
    · dsimp only [aPush]
      refine aw_iret dX6_comeTo_210 rfl ?_
      first | exact h1 6 (if_pos hk) | exact h2 _ (if_neg hk) _ h5 h6
    · dsimp only [aPush]
      refine aw_iret dX6_comeTo_210 rfl ?_
      first | exact h1 6 (if_pos hk) | exact h2 _ (if_neg hk) _ h5 h6
  · obtain ⟨r, rfl⟩ : ∃ z, va = some (.inr z) := by
      rcases va with _ | z | z
      · exact absurd hlk (by simp [lkA, lk, lk0, nA, nB, nC, kd])
      · exact absurd hlk (by simp [lkA, lk, lk0, nA, nB, nC, kd])
      · exact ⟨z, rfl⟩
    obtain ⟨y, rfl⟩ : ∃ z, vb = some (.inl z) := by
      rcases vb with _ | z | z
      · exact absurd hlk (by simp [lkA, lk, lk0, nA, nB, nC, kd])
      · exact ⟨z, rfl⟩
      · exact absurd hlk (by simp [lkA, lk, lk0, nA, nB, nC, kd])
    obtain ⟨z, rfl⟩ : ∃ z, vc = some (.inl z) := by
      rcases vc with _ | z | z
      · exact absurd hlk (by simp [lkA, lk, lk0, nA, nB, nC, kd])
      · exact ⟨z, rfl⟩
      · exact absurd hlk (by simp [lkA, lk, lk0, nA, nB, nC, kd])
    obtain ⟨va1, va2⟩ := hva (by decide)
    obtain ⟨vb1, vb2⟩ := hvb (by decide)
    obtain ⟨vc1, vc2⟩ := hvc (by decide)
    refine aw_aload_n (n := 1) dX6_comeTo_0 rfl rfl ?_
    refine aw_getr (n := 4) dX6_comeTo_1 fX6_12 (by assumption) rfl rfl ?_
    refine aw_getr (n := 7) dX6_comeTo_4 fX6_66 (by assumption) rfl rfl ?_
    refine aw_iload_n (n := 8) dX6_comeTo_7 rfl rfl ?_
    refine aw_iald (n := 9) dX6_comeTo_8 (by assumption) (by assumption) rfl ?_
    rw [htt, hM]
    refine aw_istore (n := 11) (L' := [_, _, _, _, _, _, _]) dX6_comeTo_9 (Nat.le_of_ble_eq_true rfl) rfl rfl ?_
    refine aw_iload (n := 13) dX6_comeTo_11 rfl rfl ?_
    refine aw_tswIn (n := 211) (off := 198) dX6_comeTo_13 (by decide) (by decide) (by decide) (by decide) ?_
    refine aw_aload_n (n := 212) dX6_comeTo_211 rfl rfl ?_
    refine aw_aload_n (n := 213) dX6_comeTo_212 rfl rfl ?_
    refine aw_aload (n := 215) dX6_comeTo_213 rfl rfl ?_
    refine aw_geti (n := 218) dX6_comeTo_215 fX6_48 (by assumption) rfl rfl ?_
    refine aw_aload (n := 220) dX6_comeTo_218 rfl rfl ?_
    refine aw_geti (n := 223) dX6_comeTo_220 fX6_48 (by assumption) rfl rfl ?_
    rw [vb1.2.1, vc1.2.1]
    refine aw_s4 (n := 226) (Z := mX6_setPart) (L0 := [_, _, _, _]) dX6_comeTo_223 kX6_setPart gX6_146 syX6_setPart rfl rfl rfl rfl (Nat.le_of_ble_eq_true rfl) rfl rfl (by omega) (Nat.le_of_ble_eq_true rfl) (t_setPart (by omega) ho' ha' va2 va1 (fun g1 => ?_) (fun g1 g2 => ?_) (fun g1 g2 g3 => ?_) (fun g1 g2 g3 M' h5 h6 => ?_))
    · dsimp only [aPush]
      refine aw_iret dX6_comeTo_226 rfl ?_
      first | exact h2 _ ((if_neg g1).trans ((if_neg g2).trans (if_neg g3))) _ h5 h6 | exact h1 2 ((if_neg g1).trans ((if_neg g2).trans (if_pos g3))) | exact h1 6 ((if_neg g1).trans (if_pos g2)) | exact h1 3 (if_pos g1)
    · dsimp only [aPush]
      refine aw_iret dX6_comeTo_226 rfl ?_
      first | exact h2 _ ((if_neg g1).trans ((if_neg g2).trans (if_neg g3))) _ h5 h6 | exact h1 2 ((if_neg g1).trans ((if_neg g2).trans (if_pos g3))) | exact h1 6 ((if_neg g1).trans (if_pos g2)) | exact h1 3 (if_pos g1)
    · dsimp only [aPush]
      refine aw_iret dX6_comeTo_226 rfl ?_
      first | exact h2 _ ((if_neg g1).trans ((if_neg g2).trans (if_neg g3))) _ h5 h6 | exact h1 2 ((if_neg g1).trans ((if_neg g2).trans (if_pos g3))) | exact h1 6 ((if_neg g1).trans (if_pos g2)) | exact h1 3 (if_pos g1)
    · dsimp only [aPush]
      refine aw_iret dX6_comeTo_226 rfl ?_
      first | exact h2 _ ((if_neg g1).trans ((if_neg g2).trans (if_neg g3))) _ h5 h6 | exact h1 2 ((if_neg g1).trans ((if_neg g2).trans (if_pos g3))) | exact h1 6 ((if_neg g1).trans (if_pos g2)) | exact h1 3 (if_pos g1)
  · obtain ⟨r, rfl⟩ : ∃ z, va = some (.inr z) := by
      rcases va with _ | z | z
      · exact absurd hlk (by simp [lkA, lk, lk0, nA, nB, nC, kd])
      · exact absurd hlk (by simp [lkA, lk, lk0, nA, nB, nC, kd])
      · exact ⟨z, rfl⟩
    obtain ⟨va1, va2⟩ := hva (by decide)
    refine aw_aload_n (n := 1) dX6_comeTo_0 rfl rfl ?_
    refine aw_getr (n := 4) dX6_comeTo_1 fX6_12 (by assumption) rfl rfl ?_
    refine aw_getr (n := 7) dX6_comeTo_4 fX6_66 (by assumption) rfl rfl ?_
    refine aw_iload_n (n := 8) dX6_comeTo_7 rfl rfl ?_
    refine aw_iald (n := 9) dX6_comeTo_8 (by assumption) (by assumption) rfl ?_
    rw [htt, hM]
    refine aw_istore (n := 11) (L' := [_, _, _, _, _, _, _]) dX6_comeTo_9 (Nat.le_of_ble_eq_true rfl) rfl rfl ?_
    refine aw_iload (n := 13) dX6_comeTo_11 rfl rfl ?_
    refine aw_tswIn (n := 227) (off := 214) dX6_comeTo_13 (by decide) (by decide) (by decide) (by decide) ?_
    refine aw_aload_n (n := 228) dX6_comeTo_227 rfl rfl ?_
    refine aw_aload_n (n := 229) dX6_comeTo_228 rfl rfl ?_
    refine aw_s2 (n := 232) (Z := mX6_setSorted) (L0 := [_, _, .null, .null, .null]) dX6_comeTo_229 kX6_setSorted gX6_149 syX6_setSorted rfl rfl (Nat.le_of_ble_eq_true rfl) rfl rfl (by omega) (Nat.le_of_ble_eq_true rfl) (t_setSorted (by omega) ho' ha' va2 va1 (fun M' h5 h6 => ?_))
    dsimp only [aPush]
    refine aw_iconst (n := 233) (v := 0) dX6_comeTo_232 (by decide) rfl ?_
    refine aw_iret dX6_comeTo_233 rfl ?_
    exact h2 _ rfl _ h5 h6
  · obtain ⟨r, rfl⟩ : ∃ z, va = some (.inr z) := by
      rcases va with _ | z | z
      · exact absurd hlk (by simp [lkA, lk, lk0, nA, nB, nC, kd])
      · exact absurd hlk (by simp [lkA, lk, lk0, nA, nB, nC, kd])
      · exact ⟨z, rfl⟩
    obtain ⟨va1, va2⟩ := hva (by decide)
    refine aw_aload_n (n := 1) dX6_comeTo_0 rfl rfl ?_
    refine aw_getr (n := 4) dX6_comeTo_1 fX6_12 (by assumption) rfl rfl ?_
    refine aw_getr (n := 7) dX6_comeTo_4 fX6_66 (by assumption) rfl rfl ?_
    refine aw_iload_n (n := 8) dX6_comeTo_7 rfl rfl ?_
    refine aw_iald (n := 9) dX6_comeTo_8 (by assumption) (by assumption) rfl ?_
    rw [htt, hM]
    refine aw_istore (n := 11) (L' := [_, _, _, _, _, _, _]) dX6_comeTo_9 (Nat.le_of_ble_eq_true rfl) rfl rfl ?_
    refine aw_iload (n := 13) dX6_comeTo_11 rfl rfl ?_
    refine aw_tswIn (n := 234) (off := 221) dX6_comeTo_13 (by decide) (by decide) (by decide) (by decide) ?_
    refine aw_aload_n (n := 235) dX6_comeTo_234 rfl rfl ?_
    refine aw_aload_n (n := 236) dX6_comeTo_235 rfl rfl ?_
    refine aw_s2 (n := 239) (Z := mX6_setTurned) (L0 := [_, _, .null]) dX6_comeTo_236 kX6_setTurned gX6_153 syX6_setTurned rfl rfl (Nat.le_of_ble_eq_true rfl) rfl rfl (by omega) (Nat.le_of_ble_eq_true rfl) (t_setTurned (by omega) ho' ha' va2 va1 (fun M' h5 h6 => ?_))
    dsimp only [aPush]
    refine aw_iconst (n := 240) (v := 0) dX6_comeTo_239 (by decide) rfl ?_
    refine aw_iret dX6_comeTo_240 rfl ?_
    exact h2 _ rfl _ h5 h6
  · obtain ⟨r, rfl⟩ : ∃ z, va = some (.inr z) := by
      rcases va with _ | z | z
      · exact absurd hlk (by simp [lkA, lk, lk0, nA, nB, nC, kd])
      · exact absurd hlk (by simp [lkA, lk, lk0, nA, nB, nC, kd])
      · exact ⟨z, rfl⟩
    obtain ⟨va1, va2⟩ := hva (by decide)
    refine aw_aload_n (n := 1) dX6_comeTo_0 rfl rfl ?_
    refine aw_getr (n := 4) dX6_comeTo_1 fX6_12 (by assumption) rfl rfl ?_
    refine aw_getr (n := 7) dX6_comeTo_4 fX6_66 (by assumption) rfl rfl ?_
    refine aw_iload_n (n := 8) dX6_comeTo_7 rfl rfl ?_
    refine aw_iald (n := 9) dX6_comeTo_8 (by assumption) (by assumption) rfl ?_
    rw [htt, hM]
    refine aw_istore (n := 11) (L' := [_, _, _, _, _, _, _]) dX6_comeTo_9 (Nat.le_of_ble_eq_true rfl) rfl rfl ?_
    refine aw_iload (n := 13) dX6_comeTo_11 rfl rfl ?_
    refine aw_tswIn (n := 241) (off := 228) dX6_comeTo_13 (by decide) (by decide) (by decide) (by decide) ?_
    refine aw_aload_n (n := 242) dX6_comeTo_241 rfl rfl ?_
    refine aw_aload_n (n := 243) dX6_comeTo_242 rfl rfl ?_
    refine aw_s1 (n := 246) (Z := mX6_sum) (L0 := [_, .null, .null]) dX6_comeTo_243 kX6_sum gX6_156 syX6_sum rfl (Nat.le_of_ble_eq_true rfl) rfl rfl (by omega) (Nat.le_of_ble_eq_true rfl) (t_sum ha' va1 ?_)
    dsimp only [aPush]
    refine aw_v1 (n := 249) (Z := mX5_setWhole) (ci := 3) (L0 := [_, _]) dX6_comeTo_246 kX5_setWhole gX6_117 iyX5_setWhole eyX5_setWhole rfl rfl (by assumption) rfl (Nat.le_of_ble_eq_true rfl) rfl rfl (by omega) (Nat.le_of_ble_eq_true rfl) (t_setWhole ho' (fun M' h5 h6 => ?_))
    dsimp only [aPush]
    refine aw_iconst (n := 250) (v := 0) dX6_comeTo_249 (by decide) rfl ?_
    refine aw_iret dX6_comeTo_250 rfl ?_
    exact h2 _ rfl _ h5 (fun q q1 q2 => h6 q q1)
end COME2
end
section
def cT (cnt : Nat) (T : tm) (M : aM) : Prop := ∀ t, t < cnt → M 3 t = T 0 t ∧ M 4 t = T 1 t ∧ M 5 t = T 2 t ∧ M 6 t = T 3 t ∧ M 7 t = T 4 t
def cI (inp : Nat → vV) (M : aM) : Prop := ∀ i, i < 3 → vAt M (9 + 2 * i) (inp i)
/-- only the steps and the values from a place on have changed -/
def fW (p : Nat) (M M' : aM) : Prop := (∀ q, q ≠ 1 → (q < 16 + 2 * p ∨ 136 ≤ q) → M' q = M q) ∧ ∀ j, j ≠ 3 → M' 1 j = M 1 j
theorem fW_trans {p q : Nat} {M M1 M2 : aM} (h1 : fW p M M1) (h2 : fW q M1 M2) (h : p ≤ q) : fW p M M2 :=
  ⟨fun x g1 g2 => (h2.1 x g1 (by omega)).trans (h1.1 x g1 g2), fun j hj => (h2.2 j hj).trans (h1.2 j hj)⟩
theorem fW_T {p cnt : Nat} {T : tm} {M M' : aM} (h : fW p M M') (hT : cT cnt T M) : cT cnt T M' := by
  intro t ht
  rw [h.1 3 (by omega) (by omega), h.1 4 (by omega) (by omega), h.1 5 (by omega) (by omega), h.1 6 (by omega) (by omega), h.1 7 (by omega) (by omega)]
  exact hT t ht
theorem fW_I {p : Nat} {inp : Nat → vV} {M M' : aM} (h : fW p M M') (hI : cI inp M) : cI inp M' := fun i hi => vAt_same (hI i hi) (h.1 _ (by omega) (by omega)) (h.1 _ (by omega) (by omega))
theorem fW_V {p j : Nat} {v : vV} {M M' : aM} (h : fW p M M') (hj : j < p) (hp : p ≤ 60) (hv : vAt M (16 + 2 * j) v) : vAt M' (16 + 2 * j) v := vAt_same hv (h.1 _ (by omega) (by omega)) (h.1 _ (by omega) (by omega))
theorem op_code {w : Nat} {n : Int32} {inp : Nat → vV} {a b c : vV} {k : Nat} (hw : w ≤ 18) (h : op w n inp a b c = .inl k) : 1 ≤ k ∧ k ≤ 7 := by
  have hW : ∀ (v : vV) (f : Int32 → Nat ⊕ vV), (∀ x, f x = .inl k → 1 ≤ k ∧ k ≤ 7) → bW v f = .inl k → 1 ≤ k ∧ k ≤ 7 := by
    intro v f hf h
    rcases v with _ | x | r
    · cases h; decide
    · exact hf x h
    · cases h; decide
  have hR : ∀ (v : vV) (f : List Int32 → Nat ⊕ vV), (∀ x, f x = .inl k → 1 ≤ k ∧ k ≤ 7) → bR v f = .inl k → 1 ≤ k ∧ k ≤ 7 := by
    intro v f hf h
    rcases v with _ | x | r
    · cases h; decide
    · cases h; decide
    · exact hf r h
  have ht : ∀ b, tru b = .inl k → 1 ≤ k ∧ k ≤ 7 := fun b h => by cases h
  have hI : ∀ v : vV, (Sum.inr v : Nat ⊕ vV) = .inl k → 1 ≤ k ∧ k ≤ 7 := fun v h => by cases h
  have hE : ∀ m : Nat, 1 ≤ m ∧ m ≤ 7 → (Sum.inl m : Nat ⊕ vV) = .inl k → 1 ≤ k ∧ k ≤ 7 := fun m hm h => by cases h; exact hm
  have hif : ∀ (c : Prop) [Decidable c] (x y : Nat ⊕ vV), (x = .inl k → 1 ≤ k ∧ k ≤ 7) → (y = .inl k → 1 ≤ k ∧ k ≤ 7) → (if c then x else y) = .inl k → 1 ≤ k ∧ k ≤ 7 := by
    intro c _ x y hx hy h
    by_cases hc : c
    · rw [if_pos hc] at h; exact hx h
    · rw [if_neg hc] at h; exact hy h
  rcases (show w = 0 ∨ w = 1 ∨ w = 2 ∨ w = 3 ∨ w = 4 ∨ w = 5 ∨ w = 6 ∨ w = 7 ∨ w = 8 ∨ w = 9 ∨ w = 10 ∨ w = 11 ∨ w = 12 ∨ w = 13 ∨ w = 14 ∨ w = 15 ∨ w = 16 ∨ w = 17 ∨ w = 18 by omega) with rfl | rfl | rfl | rfl | rfl | rfl | rfl | rfl | rfl | rfl | rfl | rfl | rfl | rfl | rfl | rfl | rfl | rfl | rfl
  · exact hI _ h
  · exact hI _ h
  · exact hI _ h
  · exact hW _ _ (fun x hx => hW _ _ (fun y hy => hI _ hy) hx) h
  · exact hW _ _ (fun x hx => hW _ _ (fun y hy => hI _ hy) hx) h
  · exact hW _ _ (fun x hx => hW _ _ (fun y hy => hI _ hy) hx) h
  · exact hW _ _ (fun x hx => hW _ _ (fun y hy => hif _ _ _ (hE 5 (by decide)) (hI _) hy) hx) h
  · exact hW _ _ (fun x hx => hW _ _ (fun y hy => hif _ _ _ (hE 5 (by decide)) (hI _) hy) hx) h
  · exact hW _ _ (fun x hx => hW _ _ (fun y hy => ht _ hy) hx) h
  · rcases a with _ | x | r <;> rcases b with _ | y | s <;> first | exact hE 1 (by decide) h | exact hE 4 (by decide) h | exact ht _ h
  · exact hR _ _ (fun x hx => hW _ _ (fun y hy => hif _ _ _ (hE 2 (by decide)) (hI _) hy) hx) h
  · exact hR _ _ (fun x hx => hI _ hx) h
  · exact hW _ _ (fun x hx => hif _ _ _ (hE 3 (by decide)) (hif _ _ _ (hE 6 (by decide)) (hI _)) hx) h
  · exact hR _ _ (fun x hx => hW _ _ (fun y hy => hW _ _ (fun z hz => hif _ _ _ (hE 2 (by decide)) (hI _) hz) hy) hx) h
  · exact hR _ _ (fun x hx => hR _ _ (fun y hy => hif _ _ _ (hE 6 (by decide)) (hI _) hy) hx) h
  · exact hR _ _ (fun x hx => hW _ _ (fun y hy => hW _ _ (fun z hz => hif _ _ _ (hE 3 (by decide)) (hif _ _ _ (hE 6 (by decide)) (hif _ _ _ (hE 2 (by decide)) (hI _))) hz) hy) hx) h
  · exact hR _ _ (fun x hx => hI _ hx) h
  · exact hR _ _ (fun x hx => hI _ hx) h
  · exact hR _ _ (fun x hx => hI _ hx) h
theorem ng_lt {k : Nat} (h : 1 ≤ k ∧ k ≤ 7) : ¬ 0 ≤ -(nI k) := by
  obtain ⟨h1, h2⟩ := h
  rcases (show k = 1 ∨ k = 2 ∨ k = 3 ∨ k = 4 ∨ k = 5 ∨ k = 6 ∨ k = 7 by omega) with rfl | rfl | rfl | rfl | rfl | rfl | rfl <;> decide
section WORK
variable {l : Launch} {K : aK} {d : Nat} {M : aM} {Q : Option Value → aE → aM → Prop}
theorem t_asWholeN {x : Int32} (hx : ¬ 0 ≤ x) (hQ : Q (some (.int x)) EE M) : aw l K mX6_asWhole d 0 0 0 [.ref 1, .int x, .null] [] EE M Q := by
  have e1 := E_1
  have e15 := E_15r
  refine aw_iload_n (n := 1) dX6_asWhole_0 rfl rfl ?_
  refine aw_if_ge (tg := 6) (n := 4) dX6_asWhole_1 (by decide) rfl (fun c_1 => by exact absurd c_1 hx) (fun c_1 => ?_)
  refine aw_iload_n (n := 5) dX6_asWhole_4 rfl rfl ?_
  refine aw_iret dX6_asWhole_5 rfl ?_
  exact hQ
theorem t_asWhole {p : Nat} {v : vV} (hd : 1 ≤ d) (hp : p < 60) (hv : vAt M (16 + 2 * p) v) (h1 : lk 0 v ≠ 0 → Q (some (.int (-(nI (lk 0 v))))) EE M) (h2 : ∀ x, v = some (.inl x) → Q (some (.int (nI p))) EE M) : aw l K mX6_asWhole d 0 0 0 [.ref 1, .int (nI p), .null] [] EE M Q := by
  have e1 := E_1
  have e15 := E_15r
  have hin : vp_in (nI p) rSt.length := vp_in_nI (by exact hp) (by decide)
  have hpp : (nI p).toNatClampNeg = p := nI_clamp (by omega)
  have hr : rSt[(nI p).toNatClampNeg]? = some (some (16 + 2 * p)) := by rw [hpp]; exact rSt_at p hp
  have l1 := lk_lt 0 v
  refine aw_iload_n (n := 1) dX6_asWhole_0 rfl rfl ?_
  refine aw_if_ge (tg := 6) (n := 4) dX6_asWhole_1 (by decide) rfl (fun c_1 => ?_) (fun c_1 => by exact absurd (nI_pos' (by omega)) c_1)
  refine aw_aload_n (n := 7) dX6_asWhole_6 rfl rfl ?_
  refine aw_getr (n := 10) dX6_asWhole_7 fX6_26 (by assumption) rfl rfl ?_
  refine aw_iload_n (n := 11) dX6_asWhole_10 rfl rfl ?_
  refine aw_aald (n := 12) dX6_asWhole_11 (by assumption) (by decide) (by assumption) (by assumption) rfl ?_
  refine aw_iconst (n := 13) (v := 0) dX6_asWhole_12 (by decide) rfl ?_
  refine aw_s2 (n := 16) (Z := mX6_lookAt) (L0 := [_, _]) dX6_asWhole_13 kX6_lookAt gX6_62 syX6_lookAt rfl rfl (Nat.le_of_ble_eq_true rfl) rfl rfl (by omega) (Nat.le_of_ble_eq_true rfl) (t_lookAt (need := 0) (by decide) (by decide) (iV_st p hp) (fun _ => hv) ?_)
  dsimp only [aPush]
  refine aw_istore_n (n := 17) (L' := [_, _, _]) dX6_asWhole_16 (Nat.le_of_ble_eq_true rfl) rfl rfl ?_
  refine aw_iload_n (n := 18) dX6_asWhole_17 rfl rfl ?_
  refine aw_if_eq (tg := 26) (n := 21) dX6_asWhole_18 (by decide) rfl (fun c_18 => ?_) (fun c_18 => ?_)
  · refine aw_iload_n (n := 27) dX6_asWhole_26 rfl rfl ?_
    refine aw_iret dX6_asWhole_27 rfl ?_
    first
      | (refine h1 (fun q => c_18 (by rw [q]; rfl)))
      | (have h0 := (i4 l1 (by decide : 0 < 5)).mp c_18
         rcases v with _ | x | r
         · exact absurd h0 (by decide)
         · exact h2 x rfl
         · exact absurd h0 (by simp [lk, lk0]))
  · refine aw_iload_n (n := 22) dX6_asWhole_21 rfl rfl ?_
    refine aw_ineg (n := 23) dX6_asWhole_22 rfl ?_
    refine aw_goto (n := 27) dX6_asWhole_23 (by decide) ?_
    refine aw_iret dX6_asWhole_27 rfl ?_
    first
      | (refine h1 (fun q => c_18 (by rw [q]; rfl)))
      | (have h0 := (i4 l1 (by decide : 0 < 5)).mp c_18
         rcases v with _ | x | r
         · exact absurd h0 (by decide)
         · exact h2 x rfl
         · exact absurd h0 (by simp [lk, lk0]))
/-- the end of the work of a term that is no choice -/
theorem t_tail {own pa pb pc t w : Nat} {va vb vc : vV} {n : Int32} {inp : Nat → vV} {x4 x8 : Value} (hd : 6 ≤ d) (hw : w ≤ 18) (ht : t < 60) (hM : M 3 t = nI w) (hN : M 7 t = n) (hn0 : w = 0 → isNo n 3) (hinp : cI inp M) (ho : own < 60) (ha : pa < 60) (hb : pb < 60) (hc : pc < 60)
    (hva : nA w ≠ 4 → vAt M (16 + 2 * pa) va ∧ own < pa) (hvb : nB w ≠ 4 → vAt M (16 + 2 * pb) vb ∧ own < pb) (hvc : nC w ≠ 4 → vAt M (16 + 2 * pc) vc ∧ own < pc)
    (h1 : ∀ k, op w n inp va vb vc = .inl k → Q (some (.int (-(nI k)))) EE M) (h2 : ∀ v M', op w n inp va vb vc = .inr v → vAt M' (16 + 2 * own) v → (∀ q, q ≠ 16 + 2 * own → q ≠ 16 + 2 * own + 1 → M' q = M q) → Q (some (.int (nI own))) EE M') : aw l K mX6_work d 0 0 167 [.ref 1, .int (nI t), .int (nI own), .int (nI w), x4, .int (nI pa), .int (nI pb), .int (nI pc), x8] [] EE M Q := by
  have e1 := E_1
  have e15 := E_15r
  have hino : vp_in (nI own) rSt.length := vp_in_nI (by exact ho) (by decide)
  have hina : vp_in (nI pa) rSt.length := vp_in_nI (by exact ha) (by decide)
  have hinb : vp_in (nI pb) rSt.length := vp_in_nI (by exact hb) (by decide)
  have hinc : vp_in (nI pc) rSt.length := vp_in_nI (by exact hc) (by decide)
  have hro : rSt[(nI own).toNatClampNeg]? = some (some (16 + 2 * own)) := by rw [nI_clamp (by omega)]; exact rSt_at own ho
  have hra : rSt[(nI pa).toNatClampNeg]? = some (some (16 + 2 * pa)) := by rw [nI_clamp (by omega)]; exact rSt_at pa ha
  have hrb : rSt[(nI pb).toNatClampNeg]? = some (some (16 + 2 * pb)) := by rw [nI_clamp (by omega)]; exact rSt_at pb hb
  have hrc : rSt[(nI pc).toNatClampNeg]? = some (some (16 + 2 * pc)) := by rw [nI_clamp (by omega)]; exact rSt_at pc hc
  have l0 : ∀ p q r : Nat, p < 5 → q < 5 → r < 5 → (if p ≠ 0 then p else if q ≠ 0 then q else r) < 5 := by
    intro p q r h1 h2 h3
    split
    · exact h1
    split
    · exact h2
    · exact h3
  have l1 : lkA w va vb vc < 5 := l0 _ _ _ (lk_lt _ _) (lk_lt _ _) (lk_lt _ _)
  refine aw_iload_n (n := 168) dX6_work_167 rfl rfl ?_
  refine aw_aload_n (n := 169) dX6_work_168 rfl rfl ?_
  refine aw_getr (n := 172) dX6_work_169 fX6_26 (by assumption) rfl rfl ?_
  refine aw_iload (n := 174) dX6_work_172 rfl rfl ?_
  refine aw_aald (n := 175) dX6_work_174 (by assumption) (by decide) (by assumption) (by assumption) rfl ?_
  refine aw_aload_n (n := 176) dX6_work_175 rfl rfl ?_
  refine aw_getr (n := 179) dX6_work_176 fX6_26 (by assumption) rfl rfl ?_
  refine aw_iload (n := 181) dX6_work_179 rfl rfl ?_
  refine aw_aald (n := 182) dX6_work_181 (by assumption) (by decide) (by assumption) (by assumption) rfl ?_
  refine aw_aload_n (n := 183) dX6_work_182 rfl rfl ?_
  refine aw_getr (n := 186) dX6_work_183 fX6_26 (by assumption) rfl rfl ?_
  refine aw_iload (n := 188) dX6_work_186 rfl rfl ?_
  refine aw_aald (n := 189) dX6_work_188 (by assumption) (by decide) (by assumption) (by assumption) rfl ?_
  refine aw_s4 (n := 192) (Z := mX6_lookAtAll) (L0 := [_, _, _, _, .null]) dX6_work_189 kX6_lookAtAll gX6_86 syX6_lookAtAll rfl rfl rfl rfl (Nat.le_of_ble_eq_true rfl) rfl rfl (by omega) (Nat.le_of_ble_eq_true rfl) (t_lookAll (by omega) (by omega) (iV_st pa ha) (iV_st pb hb) (iV_st pc hc) (fun h => (hva h).1) (fun h => (hvb h).1) (fun h => (hvc h).1) ?_)
  dsimp only [aPush]
  refine aw_istore (n := 194) (L' := [_, _, _, _, _, _, _, _, _]) dX6_work_192 (Nat.le_of_ble_eq_true rfl) rfl rfl ?_
  refine aw_iload (n := 196) dX6_work_194 rfl rfl ?_
  refine aw_if_ne (tg := 233) (n := 199) dX6_work_196 (by decide) rfl (fun c_196 => ?_) (fun c_196 => ?_)
  · refine aw_iload (n := 235) dX6_work_233 rfl rfl ?_
    refine aw_if_eq (tg := 244) (n := 238) dX6_work_235 (by decide) rfl (fun c_235 => ?_) (fun c_235 => ?_)
    · refine aw_iload_n (n := 245) dX6_work_244 rfl rfl ?_
      refine aw_iret dX6_work_245 rfl ?_
      first
        | exact absurd c_235 c_196
        | exact h1 _ (op_lk hw n inp va vb vc rfl (fun q => c_196 (by rw [q]; rfl)))
        | exact absurd c_235 (nI_ne0 (op_code hw hk).1 (by have := (op_code hw hk).2; omega))
        | exact h1 _ hk
        | exact h2 _ _ hv h5 h6
        | exact absurd rfl c_235
    · refine aw_iload (n := 240) dX6_work_238 rfl rfl ?_
      refine aw_ineg (n := 241) dX6_work_240 rfl ?_
      refine aw_goto (n := 245) dX6_work_241 (by decide) ?_
      refine aw_iret dX6_work_245 rfl ?_
      first
        | exact absurd c_235 c_196
        | exact h1 _ (op_lk hw n inp va vb vc rfl (fun q => c_196 (by rw [q]; rfl)))
        | exact absurd c_235 (nI_ne0 (op_code hw hk).1 (by have := (op_code hw hk).2; omega))
        | exact h1 _ hk
        | exact h2 _ _ hv h5 h6
        | exact absurd rfl c_235
  · refine aw_aload_n (n := 200) dX6_work_199 rfl rfl ?_
    refine aw_iload_n (n := 201) dX6_work_200 rfl rfl ?_
    refine aw_aload_n (n := 202) dX6_work_201 rfl rfl ?_
    refine aw_getr (n := 205) dX6_work_202 fX6_26 (by assumption) rfl rfl ?_
    refine aw_iload_n (n := 206) dX6_work_205 rfl rfl ?_
    refine aw_aald (n := 207) dX6_work_206 (by assumption) (by decide) (by assumption) (by assumption) rfl ?_
    refine aw_aload_n (n := 208) dX6_work_207 rfl rfl ?_
    refine aw_getr (n := 211) dX6_work_208 fX6_26 (by assumption) rfl rfl ?_
    refine aw_iload (n := 213) dX6_work_211 rfl rfl ?_
    refine aw_aald (n := 214) dX6_work_213 (by assumption) (by decide) (by assumption) (by assumption) rfl ?_
    refine aw_aload_n (n := 215) dX6_work_214 rfl rfl ?_
    refine aw_getr (n := 218) dX6_work_215 fX6_26 (by assumption) rfl rfl ?_
    refine aw_iload (n := 220) dX6_work_218 rfl rfl ?_
    refine aw_aald (n := 221) dX6_work_220 (by assumption) (by decide) (by assumption) (by assumption) rfl ?_
    refine aw_aload_n (n := 222) dX6_work_221 rfl rfl ?_
    refine aw_getr (n := 225) dX6_work_222 fX6_26 (by assumption) rfl rfl ?_
    refine aw_iload (n := 227) dX6_work_225 rfl rfl ?_
    refine aw_aald (n := 228) dX6_work_227 (by assumption) (by decide) (by assumption) (by assumption) rfl ?_
    refine aw_v5 (n := 231) (Z := mX6_comeTo) (ci := 4) (L0 := [_, _, _, _, _, _, .null]) dX6_work_228 kX6_comeTo gX6_90 iyX6_comeTo eyX6_comeTo rfl rfl (by assumption) rfl rfl rfl rfl rfl (Nat.le_of_ble_eq_true rfl) rfl rfl (by omega) (Nat.le_of_ble_eq_true rfl) (t_comeTo (n := n) (inp := inp) (va := va) (vb := vb) (vc := vc) (by omega) hw ht hM hN hn0 hinp (iV_st own ho) (fun i hi => by omega) (iV_st pa ha) (iV_st pb hb) (iV_st pc hc) (fun h => ⟨(hva h).1, by have := (hva h).2; omega⟩) (fun h => ⟨(hvb h).1, by have := (hvb h).2; omega⟩) (fun h => ⟨(hvc h).1, by have := (hvc h).2; omega⟩) ((i4 l1 (by decide : 0 < 5)).mp c_196) (fun k hk => ?_) (fun v hv M' h5 h6 => ?_))
    · dsimp only [aPush]
      refine aw_istore (n := 233) (L' := [_, _, _, _, _, _, _, _, _]) dX6_work_231 (Nat.le_of_ble_eq_true rfl) rfl rfl ?_
      refine aw_iload (n := 235) dX6_work_233 rfl rfl ?_
      refine aw_if_eq (tg := 244) (n := 238) dX6_work_235 (by decide) rfl (fun c_235 => ?_) (fun c_235 => ?_)
      · refine aw_iload_n (n := 245) dX6_work_244 rfl rfl ?_
        refine aw_iret dX6_work_245 rfl ?_
        first
          | exact absurd c_235 c_196
          | exact h1 _ (op_lk hw n inp va vb vc rfl (fun q => c_196 (by rw [q]; rfl)))
          | exact absurd c_235 (nI_ne0 (op_code hw hk).1 (by have := (op_code hw hk).2; omega))
          | exact h1 _ hk
          | exact h2 _ _ hv h5 h6
          | exact absurd rfl c_235
      · refine aw_iload (n := 240) dX6_work_238 rfl rfl ?_
        refine aw_ineg (n := 241) dX6_work_240 rfl ?_
        refine aw_goto (n := 245) dX6_work_241 (by decide) ?_
        refine aw_iret dX6_work_245 rfl ?_
        first
          | exact absurd c_235 c_196
          | exact h1 _ (op_lk hw n inp va vb vc rfl (fun q => c_196 (by rw [q]; rfl)))
          | exact absurd c_235 (nI_ne0 (op_code hw hk).1 (by have := (op_code hw hk).2; omega))
          | exact h1 _ hk
          | exact h2 _ _ hv h5 h6
          | exact absurd rfl c_235
    · dsimp only [aPush]
      refine aw_istore (n := 233) (L' := [_, _, _, _, _, _, _, _, _]) dX6_work_231 (Nat.le_of_ble_eq_true rfl) rfl rfl ?_
      refine aw_iload (n := 235) dX6_work_233 rfl rfl ?_
      refine aw_if_eq (tg := 244) (n := 238) dX6_work_235 (by decide) rfl (fun c_235 => ?_) (fun c_235 => ?_)
      · refine aw_iload_n (n := 245) dX6_work_244 rfl rfl ?_
        refine aw_iret dX6_work_245 rfl ?_
        first
          | exact absurd c_235 c_196
          | exact h1 _ (op_lk hw n inp va vb vc rfl (fun q => c_196 (by rw [q]; rfl)))
          | exact absurd c_235 (nI_ne0 (op_code hw hk).1 (by have := (op_code hw hk).2; omega))
          | exact h1 _ hk
          | exact h2 _ _ hv h5 h6
          | exact absurd rfl c_235
      · refine aw_iload (n := 240) dX6_work_238 rfl rfl ?_
        refine aw_ineg (n := 241) dX6_work_240 rfl ?_
        refine aw_goto (n := 245) dX6_work_241 (by decide) ?_
        refine aw_iret dX6_work_245 rfl ?_
        first
          | exact absurd c_235 c_196
          | exact h1 _ (op_lk hw n inp va vb vc rfl (fun q => c_196 (by rw [q]; rfl)))
          | exact absurd c_235 (nI_ne0 (op_code hw hk).1 (by have := (op_code hw hk).2; omega))
          | exact h1 _ hk
          | exact h2 _ _ hv h5 h6
          | exact absurd rfl c_235
theorem ev_p0 {T : tm} {inp : Nat → vV} {n r t w : Nat} (hw : T 0 t = nI w) (hl : w ≤ 18) (hp : pts w = 0) : ev T inp (n + 1) (r + 1) t = (r, op w (T 4 t) inp none none none) := by
  have hc : (T 0 t).toNatClampNeg = w := by rw [hw]; exact nI_clamp (by omega)
  rw [ev, hc, if_neg (by omega), if_neg (by omega), if_pos hp]
theorem ev_p1 {T : tm} {inp : Nat → vV} {n r t w a : Nat} (hw : T 0 t = nI w) (hl : w ≤ 18) (hp : pts w = 1) (ha : T 1 t = nI a) (ha6 : a < 60) : ev T inp (n + 1) (r + 1) t = eB (ev T inp n r a) fun r1 v => (r1, op w (T 4 t) inp v none none) := by
  have hc : (T 0 t).toNatClampNeg = w := by rw [hw]; exact nI_clamp (by omega)
  have hca : (T 1 t).toNatClampNeg = a := by rw [ha]; exact nI_clamp (by omega)
  rw [ev, hc, hca, if_neg (by omega), if_neg (by omega), if_neg (by omega)]
  congr 1
  funext r1 v
  rw [if_pos hp]
theorem ev_p2 {T : tm} {inp : Nat → vV} {n r t w a b : Nat} (hw : T 0 t = nI w) (hl : w ≤ 18) (hp : pts w = 2) (ha : T 1 t = nI a) (ha6 : a < 60) (hb : T 2 t = nI b) (hb6 : b < 60) : ev T inp (n + 1) (r + 1) t = eB (ev T inp n r a) fun r1 v => eB (ev T inp n r1 b) fun r2 u => (r2, op w (T 4 t) inp v u none) := by
  have hc : (T 0 t).toNatClampNeg = w := by rw [hw]; exact nI_clamp (by omega)
  have hca : (T 1 t).toNatClampNeg = a := by rw [ha]; exact nI_clamp (by omega)
  have hcb : (T 2 t).toNatClampNeg = b := by rw [hb]; exact nI_clamp (by omega)
  rw [ev, hc, hca, hcb, if_neg (by omega), if_neg (by omega), if_neg (by omega)]
  congr 1
  funext r1 v
  rw [if_neg (by omega)]
  congr 1
  funext r2 u
  rw [if_pos hp]
theorem ev_p3 {T : tm} {inp : Nat → vV} {n r t w a b c : Nat} (hw : T 0 t = nI w) (hl : w ≤ 18) (hp : pts w = 3) (ha : T 1 t = nI a) (ha6 : a < 60) (hb : T 2 t = nI b) (hb6 : b < 60) (hc : T 3 t = nI c) (hc6 : c < 60) : ev T inp (n + 1) (r + 1) t = eB (ev T inp n r a) fun r1 v => eB (ev T inp n r1 b) fun r2 u => eB (ev T inp n r2 c) fun r3 z => (r3, op w (T 4 t) inp v u z) := by
  have hcw : (T 0 t).toNatClampNeg = w := by rw [hw]; exact nI_clamp (by omega)
  have hca : (T 1 t).toNatClampNeg = a := by rw [ha]; exact nI_clamp (by omega)
  have hcb : (T 2 t).toNatClampNeg = b := by rw [hb]; exact nI_clamp (by omega)
  have hcc : (T 3 t).toNatClampNeg = c := by rw [hc]; exact nI_clamp (by omega)
  rw [ev, hcw, hca, hcb, hcc, if_neg (by omega), if_neg (by omega), if_neg (by omega)]
  congr 1
  funext r1 v
  rw [if_neg (by omega)]
  congr 1
  funext r2 u
  rw [if_neg (by omega)]
theorem ev_19 {T : tm} {inp : Nat → vV} {n r t a b c : Nat} (hw : T 0 t = nI 19) (ha : T 1 t = nI a) (ha6 : a < 60) (hb : T 2 t = nI b) (hb6 : b < 60) (hc : T 3 t = nI c) (hc6 : c < 60) : ev T inp (n + 1) (r + 1) t = eB (ev T inp n r a) fun r1 v => eW r1 v fun x => if x = 0 then ev T inp n r1 c else ev T inp n r1 b := by
  have hcw : (T 0 t).toNatClampNeg = 19 := by rw [hw]; exact nI_clamp (by omega)
  have hca : (T 1 t).toNatClampNeg = a := by rw [ha]; exact nI_clamp (by omega)
  have hcb : (T 2 t).toNatClampNeg = b := by rw [hb]; exact nI_clamp (by omega)
  have hcc : (T 3 t).toNatClampNeg = c := by rw [hc]; exact nI_clamp (by omega)
  rw [ev, hcw, hca, hcb, hcc, if_pos rfl]
theorem ev_20 {T : tm} {inp : Nat → vV} {n r t a b : Nat} (hw : T 0 t = nI 20) (ha : T 1 t = nI a) (ha6 : a < 60) (hb : T 2 t = nI b) (hb6 : b < 60) : ev T inp (n + 1) (r + 1) t = eB (ev T inp n r a) fun r1 v => eW r1 v fun x => if x = 0 then (r1, .inr (some (.inl 0))) else eB (ev T inp n r1 b) fun r2 v2 => eW r2 v2 fun y => (r2, .inr (some (.inl (if y = 0 then 0 else 1)))) := by
  have hcw : (T 0 t).toNatClampNeg = 20 := by rw [hw]; exact nI_clamp (by omega)
  have hca : (T 1 t).toNatClampNeg = a := by rw [ha]; exact nI_clamp (by omega)
  have hcb : (T 2 t).toNatClampNeg = b := by rw [hb]; exact nI_clamp (by omega)
  rw [ev, hcw, hca, hcb, if_neg (by decide), if_pos rfl]
end WORK
end
