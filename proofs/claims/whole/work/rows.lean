section
-- ===== PART A: goes FIRST, ahead of the names: the tables' words, and 'selects' of the private methods out of them =====
/-- a private method of a class that the tables say can be made, by its rows of tables_1 -/
def lw_okq (q : MethodName × Nat) : Prop := (q.1.cls ≠ "java/lang/invoke/MethodHandle" ∧ q.1.cls ≠ "java/lang/invoke/VarHandle") ∧ Cond.instantiable q.1.cls q.2 ∈ tables_1 ∧ Cond.privateMethod q.1 ∈ tables_1 ∧ Cond.instanceMethod q.1 ∈ tables_1
theorem lw_p0 : lw_okq (⟨"ToldWays$Text", "append", "(IJ)V"⟩, 2) := ⟨⟨by decide +kernel, by decide +kernel⟩, List.mem_of_getElem? (i := 28) (by decide +kernel), List.mem_of_getElem? (i := 384) (by decide +kernel), List.mem_of_getElem? (i := 385) (by decide +kernel)⟩
theorem lw_p1 : lw_okq (⟨"ToldWays$Reader", "read", "(LToldWays$Text;)I"⟩, 9) := ⟨⟨by decide +kernel, by decide +kernel⟩, List.mem_of_getElem? (i := 45) (by decide +kernel), List.mem_of_getElem? (i := 396) (by decide +kernel), List.mem_of_getElem? (i := 397) (by decide +kernel)⟩
theorem lw_p2 : lw_okq (⟨"ToldWays$Land", "empty", "()V"⟩, 11) := ⟨⟨by decide +kernel, by decide +kernel⟩, List.mem_of_getElem? (i := 51) (by decide +kernel), List.mem_of_getElem? (i := 400) (by decide +kernel), List.mem_of_getElem? (i := 401) (by decide +kernel)⟩
theorem lw_p3 : lw_okq (⟨"ToldWays$Reader", "step", "()V"⟩, 9) := ⟨⟨by decide +kernel, by decide +kernel⟩, List.mem_of_getElem? (i := 45) (by decide +kernel), List.mem_of_getElem? (i := 404) (by decide +kernel), List.mem_of_getElem? (i := 405) (by decide +kernel)⟩
theorem lw_p4 : lw_okq (⟨"ToldWays$Reader", "byteAt", "(I)I"⟩, 9) := ⟨⟨by decide +kernel, by decide +kernel⟩, List.mem_of_getElem? (i := 45) (by decide +kernel), List.mem_of_getElem? (i := 408) (by decide +kernel), List.mem_of_getElem? (i := 409) (by decide +kernel)⟩
theorem lw_p5 : lw_okq (⟨"ToldWays$Reader", "goesOn", "(I)Z"⟩, 9) := ⟨⟨by decide +kernel, by decide +kernel⟩, List.mem_of_getElem? (i := 45) (by decide +kernel), List.mem_of_getElem? (i := 421) (by decide +kernel), List.mem_of_getElem? (i := 422) (by decide +kernel)⟩
theorem lw_p6 : lw_okq (⟨"ToldWays$Reader", "isWord", "(Ljava/lang/String;)Z"⟩, 9) := ⟨⟨by decide +kernel, by decide +kernel⟩, List.mem_of_getElem? (i := 45) (by decide +kernel), List.mem_of_getElem? (i := 426) (by decide +kernel), List.mem_of_getElem? (i := 427) (by decide +kernel)⟩
theorem lw_p7 : lw_okq (⟨"ToldWays$Reader", "readPlaces", "()V"⟩, 9) := ⟨⟨by decide +kernel, by decide +kernel⟩, List.mem_of_getElem? (i := 45) (by decide +kernel), List.mem_of_getElem? (i := 478) (by decide +kernel), List.mem_of_getElem? (i := 479) (by decide +kernel)⟩
theorem lw_p8 : lw_okq (⟨"ToldWays$Reader", "blame", "(I)V"⟩, 9) := ⟨⟨by decide +kernel, by decide +kernel⟩, List.mem_of_getElem? (i := 45) (by decide +kernel), List.mem_of_getElem? (i := 482) (by decide +kernel), List.mem_of_getElem? (i := 483) (by decide +kernel)⟩
theorem lw_p9 : lw_okq (⟨"ToldWays$Reader", "takeNumber", "(II)I"⟩, 9) := ⟨⟨by decide +kernel, by decide +kernel⟩, List.mem_of_getElem? (i := 45) (by decide +kernel), List.mem_of_getElem? (i := 486) (by decide +kernel), List.mem_of_getElem? (i := 487) (by decide +kernel)⟩
theorem lw_p10 : lw_okq (⟨"ToldWays$Reader", "seeNumber", "(II)I"⟩, 9) := ⟨⟨by decide +kernel, by decide +kernel⟩, List.mem_of_getElem? (i := 45) (by decide +kernel), List.mem_of_getElem? (i := 490) (by decide +kernel), List.mem_of_getElem? (i := 491) (by decide +kernel)⟩
theorem lw_p11 : lw_okq (⟨"ToldWays$Reader", "takeSign", "(C)V"⟩, 9) := ⟨⟨by decide +kernel, by decide +kernel⟩, List.mem_of_getElem? (i := 45) (by decide +kernel), List.mem_of_getElem? (i := 494) (by decide +kernel), List.mem_of_getElem? (i := 495) (by decide +kernel)⟩
theorem lw_p12 : lw_okq (⟨"ToldWays$Reader", "isSign", "(C)Z"⟩, 9) := ⟨⟨by decide +kernel, by decide +kernel⟩, List.mem_of_getElem? (i := 45) (by decide +kernel), List.mem_of_getElem? (i := 498) (by decide +kernel), List.mem_of_getElem? (i := 499) (by decide +kernel)⟩
theorem lw_p13 : lw_okq (⟨"ToldWays$Reader", "readWay", "()V"⟩, 9) := ⟨⟨by decide +kernel, by decide +kernel⟩, List.mem_of_getElem? (i := 45) (by decide +kernel), List.mem_of_getElem? (i := 503) (by decide +kernel), List.mem_of_getElem? (i := 504) (by decide +kernel)⟩
theorem lw_p14 : lw_okq (⟨"ToldWays$Land", "areJoined", "(II)Z"⟩, 11) := ⟨⟨by decide +kernel, by decide +kernel⟩, List.mem_of_getElem? (i := 51) (by decide +kernel), List.mem_of_getElem? (i := 507) (by decide +kernel), List.mem_of_getElem? (i := 508) (by decide +kernel)⟩
theorem lw_p15 : lw_okq (⟨"ToldWays$Land", "otherEnd", "(II)I"⟩, 11) := ⟨⟨by decide +kernel, by decide +kernel⟩, List.mem_of_getElem? (i := 51) (by decide +kernel), List.mem_of_getElem? (i := 511) (by decide +kernel), List.mem_of_getElem? (i := 512) (by decide +kernel)⟩
def lw_privs_1 : List (MethodName × Nat) := [(⟨"ToldWays$Text", "append", "(IJ)V"⟩, 2), (⟨"ToldWays$Reader", "read", "(LToldWays$Text;)I"⟩, 9), (⟨"ToldWays$Land", "empty", "()V"⟩, 11), (⟨"ToldWays$Reader", "step", "()V"⟩, 9), (⟨"ToldWays$Reader", "byteAt", "(I)I"⟩, 9), (⟨"ToldWays$Reader", "goesOn", "(I)Z"⟩, 9), (⟨"ToldWays$Reader", "isWord", "(Ljava/lang/String;)Z"⟩, 9), (⟨"ToldWays$Reader", "readPlaces", "()V"⟩, 9), (⟨"ToldWays$Reader", "blame", "(I)V"⟩, 9), (⟨"ToldWays$Reader", "takeNumber", "(II)I"⟩, 9), (⟨"ToldWays$Reader", "seeNumber", "(II)I"⟩, 9), (⟨"ToldWays$Reader", "takeSign", "(C)V"⟩, 9), (⟨"ToldWays$Reader", "isSign", "(C)Z"⟩, 9), (⟨"ToldWays$Reader", "readWay", "()V"⟩, 9), (⟨"ToldWays$Land", "areJoined", "(II)Z"⟩, 11), (⟨"ToldWays$Land", "otherEnd", "(II)I"⟩, 11)]
theorem lw_r1 : ∀ q ∈ lw_privs_1, lw_okq q := List.forall_mem_cons.mpr ⟨lw_p0, List.forall_mem_cons.mpr ⟨lw_p1, List.forall_mem_cons.mpr ⟨lw_p2, List.forall_mem_cons.mpr ⟨lw_p3, List.forall_mem_cons.mpr ⟨lw_p4, List.forall_mem_cons.mpr ⟨lw_p5, List.forall_mem_cons.mpr ⟨lw_p6, List.forall_mem_cons.mpr ⟨lw_p7, List.forall_mem_cons.mpr ⟨lw_p8, List.forall_mem_cons.mpr ⟨lw_p9, List.forall_mem_cons.mpr ⟨lw_p10, List.forall_mem_cons.mpr ⟨lw_p11, List.forall_mem_cons.mpr ⟨lw_p12, List.forall_mem_cons.mpr ⟨lw_p13, List.forall_mem_cons.mpr ⟨lw_p14, List.forall_mem_cons.mpr ⟨lw_p15, fun _ h => absurd h List.not_mem_nil⟩⟩⟩⟩⟩⟩⟩⟩⟩⟩⟩⟩⟩⟩⟩⟩
theorem lw_p16 : lw_okq (⟨"ToldWays$Reader", "readPerson", "()V"⟩, 9) := ⟨⟨by decide +kernel, by decide +kernel⟩, List.mem_of_getElem? (i := 45) (by decide +kernel), List.mem_of_getElem? (i := 518) (by decide +kernel), List.mem_of_getElem? (i := 519) (by decide +kernel)⟩
theorem lw_p17 : lw_okq (⟨"ToldWays$Reader", "takeHabit", "()I"⟩, 9) := ⟨⟨by decide +kernel, by decide +kernel⟩, List.mem_of_getElem? (i := 45) (by decide +kernel), List.mem_of_getElem? (i := 522) (by decide +kernel), List.mem_of_getElem? (i := 523) (by decide +kernel)⟩
theorem lw_p18 : lw_okq (⟨"ToldWays$Reader", "takeKnown", "()I"⟩, 9) := ⟨⟨by decide +kernel, by decide +kernel⟩, List.mem_of_getElem? (i := 45) (by decide +kernel), List.mem_of_getElem? (i := 531) (by decide +kernel), List.mem_of_getElem? (i := 532) (by decide +kernel)⟩
theorem lw_p19 : lw_okq (⟨"ToldWays$Land", "become", "(LToldWays$Land;)V"⟩, 11) := ⟨⟨by decide +kernel, by decide +kernel⟩, List.mem_of_getElem? (i := 51) (by decide +kernel), List.mem_of_getElem? (i := 535) (by decide +kernel), List.mem_of_getElem? (i := 536) (by decide +kernel)⟩
theorem lw_p20 : lw_okq (⟨"ToldWays$Journal", "forget", "()V"⟩, 8) := ⟨⟨by decide +kernel, by decide +kernel⟩, List.mem_of_getElem? (i := 283) (by decide +kernel), List.mem_of_getElem? (i := 548) (by decide +kernel), List.mem_of_getElem? (i := 549) (by decide +kernel)⟩
theorem lw_p21 : lw_okq (⟨"ToldWays$Land", "hasWay", "(I)Z"⟩, 11) := ⟨⟨by decide +kernel, by decide +kernel⟩, List.mem_of_getElem? (i := 51) (by decide +kernel), List.mem_of_getElem? (i := 565) (by decide +kernel), List.mem_of_getElem? (i := 566) (by decide +kernel)⟩
theorem lw_p22 : lw_okq (⟨"ToldWays$Land", "hasPerson", "(I)Z"⟩, 11) := ⟨⟨by decide +kernel, by decide +kernel⟩, List.mem_of_getElem? (i := 51) (by decide +kernel), List.mem_of_getElem? (i := 575) (by decide +kernel), List.mem_of_getElem? (i := 576) (by decide +kernel)⟩
theorem lw_p23 : lw_okq (⟨"ToldWays$Land", "hasPlace", "(I)Z"⟩, 11) := ⟨⟨by decide +kernel, by decide +kernel⟩, List.mem_of_getElem? (i := 51) (by decide +kernel), List.mem_of_getElem? (i := 583) (by decide +kernel), List.mem_of_getElem? (i := 584) (by decide +kernel)⟩
theorem lw_p24 : lw_okq (⟨"ToldWays", "farBetween", "(II)I"⟩, 10) := ⟨⟨by decide +kernel, by decide +kernel⟩, List.mem_of_getElem? (i := 20) (by decide +kernel), List.mem_of_getElem? (i := 587) (by decide +kernel), List.mem_of_getElem? (i := 588) (by decide +kernel)⟩
theorem lw_p25 : lw_okq (⟨"ToldWays$Path", "seek", "(LToldWays$Land;III)V"⟩, 4) := ⟨⟨by decide +kernel, by decide +kernel⟩, List.mem_of_getElem? (i := 156) (by decide +kernel), List.mem_of_getElem? (i := 591) (by decide +kernel), List.mem_of_getElem? (i := 592) (by decide +kernel)⟩
theorem lw_p26 : lw_okq (⟨"ToldWays$Path", "measure", "(LToldWays$Land;II)V"⟩, 4) := ⟨⟨by decide +kernel, by decide +kernel⟩, List.mem_of_getElem? (i := 156) (by decide +kernel), List.mem_of_getElem? (i := 596) (by decide +kernel), List.mem_of_getElem? (i := 597) (by decide +kernel)⟩
theorem lw_p27 : lw_okq (⟨"ToldWays$Path", "nextWay", "(LToldWays$Land;II)I"⟩, 4) := ⟨⟨by decide +kernel, by decide +kernel⟩, List.mem_of_getElem? (i := 156) (by decide +kernel), List.mem_of_getElem? (i := 606) (by decide +kernel), List.mem_of_getElem? (i := 607) (by decide +kernel)⟩
theorem lw_p28 : lw_okq (⟨"ToldWays$Path", "minutesTo", "(I)I"⟩, 4) := ⟨⟨by decide +kernel, by decide +kernel⟩, List.mem_of_getElem? (i := 156) (by decide +kernel), List.mem_of_getElem? (i := 611) (by decide +kernel), List.mem_of_getElem? (i := 612) (by decide +kernel)⟩
theorem lw_p29 : lw_okq (⟨"ToldWays", "canAsk", "(III)Z"⟩, 10) := ⟨⟨by decide +kernel, by decide +kernel⟩, List.mem_of_getElem? (i := 20) (by decide +kernel), List.mem_of_getElem? (i := 632) (by decide +kernel), List.mem_of_getElem? (i := 633) (by decide +kernel)⟩
theorem lw_p30 : lw_okq (⟨"ToldWays", "seekFor", "(III)V"⟩, 10) := ⟨⟨by decide +kernel, by decide +kernel⟩, List.mem_of_getElem? (i := 20) (by decide +kernel), List.mem_of_getElem? (i := 636) (by decide +kernel), List.mem_of_getElem? (i := 637) (by decide +kernel)⟩
theorem lw_p31 : lw_okq (⟨"ToldWays$Path", "placeAfter", "(I)I"⟩, 4) := ⟨⟨by decide +kernel, by decide +kernel⟩, List.mem_of_getElem? (i := 156) (by decide +kernel), List.mem_of_getElem? (i := 640) (by decide +kernel), List.mem_of_getElem? (i := 641) (by decide +kernel)⟩
def lw_privs_2 : List (MethodName × Nat) := [(⟨"ToldWays$Reader", "readPerson", "()V"⟩, 9), (⟨"ToldWays$Reader", "takeHabit", "()I"⟩, 9), (⟨"ToldWays$Reader", "takeKnown", "()I"⟩, 9), (⟨"ToldWays$Land", "become", "(LToldWays$Land;)V"⟩, 11), (⟨"ToldWays$Journal", "forget", "()V"⟩, 8), (⟨"ToldWays$Land", "hasWay", "(I)Z"⟩, 11), (⟨"ToldWays$Land", "hasPerson", "(I)Z"⟩, 11), (⟨"ToldWays$Land", "hasPlace", "(I)Z"⟩, 11), (⟨"ToldWays", "farBetween", "(II)I"⟩, 10), (⟨"ToldWays$Path", "seek", "(LToldWays$Land;III)V"⟩, 4), (⟨"ToldWays$Path", "measure", "(LToldWays$Land;II)V"⟩, 4), (⟨"ToldWays$Path", "nextWay", "(LToldWays$Land;II)I"⟩, 4), (⟨"ToldWays$Path", "minutesTo", "(I)I"⟩, 4), (⟨"ToldWays", "canAsk", "(III)Z"⟩, 10), (⟨"ToldWays", "seekFor", "(III)V"⟩, 10), (⟨"ToldWays$Path", "placeAfter", "(I)I"⟩, 4)]
theorem lw_r2 : ∀ q ∈ lw_privs_2, lw_okq q := List.forall_mem_cons.mpr ⟨lw_p16, List.forall_mem_cons.mpr ⟨lw_p17, List.forall_mem_cons.mpr ⟨lw_p18, List.forall_mem_cons.mpr ⟨lw_p19, List.forall_mem_cons.mpr ⟨lw_p20, List.forall_mem_cons.mpr ⟨lw_p21, List.forall_mem_cons.mpr ⟨lw_p22, List.forall_mem_cons.mpr ⟨lw_p23, List.forall_mem_cons.mpr ⟨lw_p24, List.forall_mem_cons.mpr ⟨lw_p25, List.forall_mem_cons.mpr ⟨lw_p26, List.forall_mem_cons.mpr ⟨lw_p27, List.forall_mem_cons.mpr ⟨lw_p28, List.forall_mem_cons.mpr ⟨lw_p29, List.forall_mem_cons.mpr ⟨lw_p30, List.forall_mem_cons.mpr ⟨lw_p31, fun _ h => absurd h List.not_mem_nil⟩⟩⟩⟩⟩⟩⟩⟩⟩⟩⟩⟩⟩⟩⟩⟩
theorem lw_p32 : lw_okq (⟨"ToldWays$Path", "saidBy", "(II)I"⟩, 4) := ⟨⟨by decide +kernel, by decide +kernel⟩, List.mem_of_getElem? (i := 156) (by decide +kernel), List.mem_of_getElem? (i := 648) (by decide +kernel), List.mem_of_getElem? (i := 649) (by decide +kernel)⟩
theorem lw_p33 : lw_okq (⟨"ToldWays$Path", "piecesTo", "(I)I"⟩, 4) := ⟨⟨by decide +kernel, by decide +kernel⟩, List.mem_of_getElem? (i := 156) (by decide +kernel), List.mem_of_getElem? (i := 652) (by decide +kernel), List.mem_of_getElem? (i := 653) (by decide +kernel)⟩
theorem lw_p34 : lw_okq (⟨"ToldWays$Path", "placeByLaw", "(II)I"⟩, 4) := ⟨⟨by decide +kernel, by decide +kernel⟩, List.mem_of_getElem? (i := 156) (by decide +kernel), List.mem_of_getElem? (i := 659) (by decide +kernel), List.mem_of_getElem? (i := 660) (by decide +kernel)⟩
theorem lw_p35 : lw_okq (⟨"ToldWays$Path", "outByLaw", "(II)I"⟩, 4) := ⟨⟨by decide +kernel, by decide +kernel⟩, List.mem_of_getElem? (i := 156) (by decide +kernel), List.mem_of_getElem? (i := 663) (by decide +kernel), List.mem_of_getElem? (i := 664) (by decide +kernel)⟩
theorem lw_p36 : lw_okq (⟨"ToldWays$Path", "minutesByLaw", "(II)I"⟩, 4) := ⟨⟨by decide +kernel, by decide +kernel⟩, List.mem_of_getElem? (i := 156) (by decide +kernel), List.mem_of_getElem? (i := 668) (by decide +kernel), List.mem_of_getElem? (i := 669) (by decide +kernel)⟩
theorem lw_p37 : lw_okq (⟨"ToldWays$Path", "dearest", "(III)I"⟩, 4) := ⟨⟨by decide +kernel, by decide +kernel⟩, List.mem_of_getElem? (i := 156) (by decide +kernel), List.mem_of_getElem? (i := 677) (by decide +kernel), List.mem_of_getElem? (i := 678) (by decide +kernel)⟩
theorem lw_p38 : lw_okq (⟨"ToldWays$Path", "gain", "(IIII)I"⟩, 4) := ⟨⟨by decide +kernel, by decide +kernel⟩, List.mem_of_getElem? (i := 156) (by decide +kernel), List.mem_of_getElem? (i := 681) (by decide +kernel), List.mem_of_getElem? (i := 682) (by decide +kernel)⟩
theorem lw_p39 : lw_okq (⟨"ToldWays", "gathered", "(IZ)LToldWays$Guides;"⟩, 10) := ⟨⟨by decide +kernel, by decide +kernel⟩, List.mem_of_getElem? (i := 20) (by decide +kernel), List.mem_of_getElem? (i := 691) (by decide +kernel), List.mem_of_getElem? (i := 692) (by decide +kernel)⟩
theorem lw_p40 : lw_okq (⟨"ToldWays", "guidesTo", "(I)LToldWays$Guides;"⟩, 10) := ⟨⟨by decide +kernel, by decide +kernel⟩, List.mem_of_getElem? (i := 20) (by decide +kernel), List.mem_of_getElem? (i := 695) (by decide +kernel), List.mem_of_getElem? (i := 696) (by decide +kernel)⟩
theorem lw_p41 : lw_okq (⟨"ToldWays$Guides", "gather", "(IZI)V"⟩, 12) := ⟨⟨by decide +kernel, by decide +kernel⟩, List.mem_of_getElem? (i := 177) (by decide +kernel), List.mem_of_getElem? (i := 699) (by decide +kernel), List.mem_of_getElem? (i := 700) (by decide +kernel)⟩
theorem lw_p42 : lw_okq (⟨"ToldWays$Guides", "hear", "(II)V"⟩, 12) := ⟨⟨by decide +kernel, by decide +kernel⟩, List.mem_of_getElem? (i := 177) (by decide +kernel), List.mem_of_getElem? (i := 706) (by decide +kernel), List.mem_of_getElem? (i := 707) (by decide +kernel)⟩
theorem lw_p43 : lw_okq (⟨"ToldWays$Guides", "ask", "(III)V"⟩, 12) := ⟨⟨by decide +kernel, by decide +kernel⟩, List.mem_of_getElem? (i := 177) (by decide +kernel), List.mem_of_getElem? (i := 713) (by decide +kernel), List.mem_of_getElem? (i := 714) (by decide +kernel)⟩
theorem lw_p44 : lw_okq (⟨"ToldWays$Guides", "lead", "(IILToldWays$Draws;)V"⟩, 12) := ⟨⟨by decide +kernel, by decide +kernel⟩, List.mem_of_getElem? (i := 177) (by decide +kernel), List.mem_of_getElem? (i := 718) (by decide +kernel), List.mem_of_getElem? (i := 719) (by decide +kernel)⟩
theorem lw_p45 : lw_okq (⟨"ToldWays$Guides", "howMany", "(II)I"⟩, 12) := ⟨⟨by decide +kernel, by decide +kernel⟩, List.mem_of_getElem? (i := 177) (by decide +kernel), List.mem_of_getElem? (i := 722) (by decide +kernel), List.mem_of_getElem? (i := 723) (by decide +kernel)⟩
theorem lw_p46 : lw_okq (⟨"ToldWays$Guides", "leads", "(III)Z"⟩, 12) := ⟨⟨by decide +kernel, by decide +kernel⟩, List.mem_of_getElem? (i := 177) (by decide +kernel), List.mem_of_getElem? (i := 726) (by decide +kernel), List.mem_of_getElem? (i := 727) (by decide +kernel)⟩
theorem lw_p47 : lw_okq (⟨"ToldWays$Draws", "next", "(I)I"⟩, 1) := ⟨⟨by decide +kernel, by decide +kernel⟩, List.mem_of_getElem? (i := 272) (by decide +kernel), List.mem_of_getElem? (i := 730) (by decide +kernel), List.mem_of_getElem? (i := 731) (by decide +kernel)⟩
def lw_privs_3 : List (MethodName × Nat) := [(⟨"ToldWays$Path", "saidBy", "(II)I"⟩, 4), (⟨"ToldWays$Path", "piecesTo", "(I)I"⟩, 4), (⟨"ToldWays$Path", "placeByLaw", "(II)I"⟩, 4), (⟨"ToldWays$Path", "outByLaw", "(II)I"⟩, 4), (⟨"ToldWays$Path", "minutesByLaw", "(II)I"⟩, 4), (⟨"ToldWays$Path", "dearest", "(III)I"⟩, 4), (⟨"ToldWays$Path", "gain", "(IIII)I"⟩, 4), (⟨"ToldWays", "gathered", "(IZ)LToldWays$Guides;"⟩, 10), (⟨"ToldWays", "guidesTo", "(I)LToldWays$Guides;"⟩, 10), (⟨"ToldWays$Guides", "gather", "(IZI)V"⟩, 12), (⟨"ToldWays$Guides", "hear", "(II)V"⟩, 12), (⟨"ToldWays$Guides", "ask", "(III)V"⟩, 12), (⟨"ToldWays$Guides", "lead", "(IILToldWays$Draws;)V"⟩, 12), (⟨"ToldWays$Guides", "howMany", "(II)I"⟩, 12), (⟨"ToldWays$Guides", "leads", "(III)Z"⟩, 12), (⟨"ToldWays$Draws", "next", "(I)I"⟩, 1)]
theorem lw_r3 : ∀ q ∈ lw_privs_3, lw_okq q := List.forall_mem_cons.mpr ⟨lw_p32, List.forall_mem_cons.mpr ⟨lw_p33, List.forall_mem_cons.mpr ⟨lw_p34, List.forall_mem_cons.mpr ⟨lw_p35, List.forall_mem_cons.mpr ⟨lw_p36, List.forall_mem_cons.mpr ⟨lw_p37, List.forall_mem_cons.mpr ⟨lw_p38, List.forall_mem_cons.mpr ⟨lw_p39, List.forall_mem_cons.mpr ⟨lw_p40, List.forall_mem_cons.mpr ⟨lw_p41, List.forall_mem_cons.mpr ⟨lw_p42, List.forall_mem_cons.mpr ⟨lw_p43, List.forall_mem_cons.mpr ⟨lw_p44, List.forall_mem_cons.mpr ⟨lw_p45, List.forall_mem_cons.mpr ⟨lw_p46, List.forall_mem_cons.mpr ⟨lw_p47, fun _ h => absurd h List.not_mem_nil⟩⟩⟩⟩⟩⟩⟩⟩⟩⟩⟩⟩⟩⟩⟩⟩
theorem lw_p48 : lw_okq (⟨"ToldWays$Guides", "leader", "(III)I"⟩, 12) := ⟨⟨by decide +kernel, by decide +kernel⟩, List.mem_of_getElem? (i := 177) (by decide +kernel), List.mem_of_getElem? (i := 738) (by decide +kernel), List.mem_of_getElem? (i := 739) (by decide +kernel)⟩
theorem lw_p49 : lw_okq (⟨"ToldWays$Guides", "fewestMinutes", "(II)I"⟩, 12) := ⟨⟨by decide +kernel, by decide +kernel⟩, List.mem_of_getElem? (i := 177) (by decide +kernel), List.mem_of_getElem? (i := 746) (by decide +kernel), List.mem_of_getElem? (i := 747) (by decide +kernel)⟩
theorem lw_p50 : lw_okq (⟨"ToldWays$Guides", "keyBy", "(I)I"⟩, 12) := ⟨⟨by decide +kernel, by decide +kernel⟩, List.mem_of_getElem? (i := 177) (by decide +kernel), List.mem_of_getElem? (i := 752) (by decide +kernel), List.mem_of_getElem? (i := 753) (by decide +kernel)⟩
theorem lw_p51 : lw_okq (⟨"ToldWays$Guides", "fewestGuides", "(I)I"⟩, 12) := ⟨⟨by decide +kernel, by decide +kernel⟩, List.mem_of_getElem? (i := 177) (by decide +kernel), List.mem_of_getElem? (i := 760) (by decide +kernel), List.mem_of_getElem? (i := 761) (by decide +kernel)⟩
theorem lw_p52 : lw_okq (⟨"ToldWays$Guides", "bestGuide", "(III)I"⟩, 12) := ⟨⟨by decide +kernel, by decide +kernel⟩, List.mem_of_getElem? (i := 177) (by decide +kernel), List.mem_of_getElem? (i := 764) (by decide +kernel), List.mem_of_getElem? (i := 765) (by decide +kernel)⟩
theorem lw_p53 : lw_okq (⟨"ToldWays$Guides", "leastGuide", "(I)I"⟩, 12) := ⟨⟨by decide +kernel, by decide +kernel⟩, List.mem_of_getElem? (i := 177) (by decide +kernel), List.mem_of_getElem? (i := 768) (by decide +kernel), List.mem_of_getElem? (i := 769) (by decide +kernel)⟩
theorem lw_p54 : lw_okq (⟨"ToldWays$Guides", "lots", "(II)V"⟩, 12) := ⟨⟨by decide +kernel, by decide +kernel⟩, List.mem_of_getElem? (i := 177) (by decide +kernel), List.mem_of_getElem? (i := 776) (by decide +kernel), List.mem_of_getElem? (i := 777) (by decide +kernel)⟩
theorem lw_p55 : lw_okq (⟨"ToldWays", "minutesIfLedTo", "(IIII)I"⟩, 10) := ⟨⟨by decide +kernel, by decide +kernel⟩, List.mem_of_getElem? (i := 20) (by decide +kernel), List.mem_of_getElem? (i := 789) (by decide +kernel), List.mem_of_getElem? (i := 790) (by decide +kernel)⟩
theorem lw_p56 : lw_okq (⟨"ToldWays$Lessons", "begin", "(III)V"⟩, 12) := ⟨⟨by decide +kernel, by decide +kernel⟩, List.mem_of_getElem? (i := 228) (by decide +kernel), List.mem_of_getElem? (i := 797) (by decide +kernel), List.mem_of_getElem? (i := 798) (by decide +kernel)⟩
theorem lw_p57 : lw_okq (⟨"ToldWays$Lessons", "isInTime", "()Z"⟩, 12) := ⟨⟨by decide +kernel, by decide +kernel⟩, List.mem_of_getElem? (i := 228) (by decide +kernel), List.mem_of_getElem? (i := 803) (by decide +kernel), List.mem_of_getElem? (i := 804) (by decide +kernel)⟩
theorem lw_p58 : lw_okq (⟨"ToldWays$Lessons", "seekOne", "()V"⟩, 12) := ⟨⟨by decide +kernel, by decide +kernel⟩, List.mem_of_getElem? (i := 228) (by decide +kernel), List.mem_of_getElem? (i := 808) (by decide +kernel), List.mem_of_getElem? (i := 809) (by decide +kernel)⟩
theorem lw_p59 : lw_okq (⟨"ToldWays$Lessons", "canBeLearnt", "(I)Z"⟩, 12) := ⟨⟨by decide +kernel, by decide +kernel⟩, List.mem_of_getElem? (i := 228) (by decide +kernel), List.mem_of_getElem? (i := 812) (by decide +kernel), List.mem_of_getElem? (i := 813) (by decide +kernel)⟩
theorem lw_p60 : lw_okq (⟨"ToldWays$Lessons", "unlearn", "(I)V"⟩, 12) := ⟨⟨by decide +kernel, by decide +kernel⟩, List.mem_of_getElem? (i := 228) (by decide +kernel), List.mem_of_getElem? (i := 821) (by decide +kernel), List.mem_of_getElem? (i := 822) (by decide +kernel)⟩
theorem lw_p61 : lw_okq (⟨"ToldWays$Lessons", "seekTwo", "()V"⟩, 12) := ⟨⟨by decide +kernel, by decide +kernel⟩, List.mem_of_getElem? (i := 228) (by decide +kernel), List.mem_of_getElem? (i := 825) (by decide +kernel), List.mem_of_getElem? (i := 826) (by decide +kernel)⟩
theorem lw_p62 : lw_okq (⟨"ToldWays$Lessons", "areBothInTime", "(II)Z"⟩, 12) := ⟨⟨by decide +kernel, by decide +kernel⟩, List.mem_of_getElem? (i := 228) (by decide +kernel), List.mem_of_getElem? (i := 829) (by decide +kernel), List.mem_of_getElem? (i := 830) (by decide +kernel)⟩
theorem lw_p63 : lw_okq (⟨"ToldWays$Lessons", "changesNothing", "(I)Z"⟩, 12) := ⟨⟨by decide +kernel, by decide +kernel⟩, List.mem_of_getElem? (i := 228) (by decide +kernel), List.mem_of_getElem? (i := 833) (by decide +kernel), List.mem_of_getElem? (i := 834) (by decide +kernel)⟩
def lw_privs_4 : List (MethodName × Nat) := [(⟨"ToldWays$Guides", "leader", "(III)I"⟩, 12), (⟨"ToldWays$Guides", "fewestMinutes", "(II)I"⟩, 12), (⟨"ToldWays$Guides", "keyBy", "(I)I"⟩, 12), (⟨"ToldWays$Guides", "fewestGuides", "(I)I"⟩, 12), (⟨"ToldWays$Guides", "bestGuide", "(III)I"⟩, 12), (⟨"ToldWays$Guides", "leastGuide", "(I)I"⟩, 12), (⟨"ToldWays$Guides", "lots", "(II)V"⟩, 12), (⟨"ToldWays", "minutesIfLedTo", "(IIII)I"⟩, 10), (⟨"ToldWays$Lessons", "begin", "(III)V"⟩, 12), (⟨"ToldWays$Lessons", "isInTime", "()Z"⟩, 12), (⟨"ToldWays$Lessons", "seekOne", "()V"⟩, 12), (⟨"ToldWays$Lessons", "canBeLearnt", "(I)Z"⟩, 12), (⟨"ToldWays$Lessons", "unlearn", "(I)V"⟩, 12), (⟨"ToldWays$Lessons", "seekTwo", "()V"⟩, 12), (⟨"ToldWays$Lessons", "areBothInTime", "(II)Z"⟩, 12), (⟨"ToldWays$Lessons", "changesNothing", "(I)Z"⟩, 12)]
theorem lw_r4 : ∀ q ∈ lw_privs_4, lw_okq q := List.forall_mem_cons.mpr ⟨lw_p48, List.forall_mem_cons.mpr ⟨lw_p49, List.forall_mem_cons.mpr ⟨lw_p50, List.forall_mem_cons.mpr ⟨lw_p51, List.forall_mem_cons.mpr ⟨lw_p52, List.forall_mem_cons.mpr ⟨lw_p53, List.forall_mem_cons.mpr ⟨lw_p54, List.forall_mem_cons.mpr ⟨lw_p55, List.forall_mem_cons.mpr ⟨lw_p56, List.forall_mem_cons.mpr ⟨lw_p57, List.forall_mem_cons.mpr ⟨lw_p58, List.forall_mem_cons.mpr ⟨lw_p59, List.forall_mem_cons.mpr ⟨lw_p60, List.forall_mem_cons.mpr ⟨lw_p61, List.forall_mem_cons.mpr ⟨lw_p62, List.forall_mem_cons.mpr ⟨lw_p63, fun _ h => absurd h List.not_mem_nil⟩⟩⟩⟩⟩⟩⟩⟩⟩⟩⟩⟩⟩⟩⟩⟩
theorem lw_p64 : lw_okq (⟨"ToldWays$Lessons", "apply", "(I)V"⟩, 12) := ⟨⟨by decide +kernel, by decide +kernel⟩, List.mem_of_getElem? (i := 228) (by decide +kernel), List.mem_of_getElem? (i := 837) (by decide +kernel), List.mem_of_getElem? (i := 838) (by decide +kernel)⟩
theorem lw_p65 : lw_okq (⟨"ToldWays$Lessons", "answer", "(I)I"⟩, 12) := ⟨⟨by decide +kernel, by decide +kernel⟩, List.mem_of_getElem? (i := 228) (by decide +kernel), List.mem_of_getElem? (i := 841) (by decide +kernel), List.mem_of_getElem? (i := 842) (by decide +kernel)⟩
theorem lw_p66 : lw_okq (⟨"ToldWays", "askedFor", "(II)I"⟩, 10) := ⟨⟨by decide +kernel, by decide +kernel⟩, List.mem_of_getElem? (i := 20) (by decide +kernel), List.mem_of_getElem? (i := 849) (by decide +kernel), List.mem_of_getElem? (i := 850) (by decide +kernel)⟩
theorem lw_p67 : lw_okq (⟨"ToldWays$Journal", "addMissed", "(II)I"⟩, 8) := ⟨⟨by decide +kernel, by decide +kernel⟩, List.mem_of_getElem? (i := 283) (by decide +kernel), List.mem_of_getElem? (i := 857) (by decide +kernel), List.mem_of_getElem? (i := 858) (by decide +kernel)⟩
theorem lw_p68 : lw_okq (⟨"ToldWays$Journal", "addLogged", "(IIII)I"⟩, 8) := ⟨⟨by decide +kernel, by decide +kernel⟩, List.mem_of_getElem? (i := 283) (by decide +kernel), List.mem_of_getElem? (i := 871) (by decide +kernel), List.mem_of_getElem? (i := 872) (by decide +kernel)⟩
theorem lw_p69 : lw_okq (⟨"ToldWaysModel", "here", "()I"⟩, 57) := ⟨⟨by decide +kernel, by decide +kernel⟩, List.mem_of_getElem? (i := 903) (by decide +kernel), List.mem_of_getElem? (i := 1098) (by decide +kernel), List.mem_of_getElem? (i := 1099) (by decide +kernel)⟩
theorem lw_p70 : lw_okq (⟨"ToldWaysModel", "takeClause", "()I"⟩, 57) := ⟨⟨by decide +kernel, by decide +kernel⟩, List.mem_of_getElem? (i := 903) (by decide +kernel), List.mem_of_getElem? (i := 1102) (by decide +kernel), List.mem_of_getElem? (i := 1103) (by decide +kernel)⟩
theorem lw_p71 : lw_okq (⟨"ToldWaysModel", "readWord", "()V"⟩, 57) := ⟨⟨by decide +kernel, by decide +kernel⟩, List.mem_of_getElem? (i := 903) (by decide +kernel), List.mem_of_getElem? (i := 1106) (by decide +kernel), List.mem_of_getElem? (i := 1107) (by decide +kernel)⟩
theorem lw_p72 : lw_okq (⟨"ToldWaysModel", "fails", "(II)I"⟩, 57) := ⟨⟨by decide +kernel, by decide +kernel⟩, List.mem_of_getElem? (i := 903) (by decide +kernel), List.mem_of_getElem? (i := 1122) (by decide +kernel), List.mem_of_getElem? (i := 1123) (by decide +kernel)⟩
theorem lw_p73 : lw_okq (⟨"ToldWaysModel", "takeNumber", "(II)I"⟩, 57) := ⟨⟨by decide +kernel, by decide +kernel⟩, List.mem_of_getElem? (i := 903) (by decide +kernel), List.mem_of_getElem? (i := 1126) (by decide +kernel), List.mem_of_getElem? (i := 1127) (by decide +kernel)⟩
theorem lw_p74 : lw_okq (⟨"ToldWaysModel", "takeWay", "()I"⟩, 57) := ⟨⟨by decide +kernel, by decide +kernel⟩, List.mem_of_getElem? (i := 903) (by decide +kernel), List.mem_of_getElem? (i := 1132) (by decide +kernel), List.mem_of_getElem? (i := 1133) (by decide +kernel)⟩
theorem lw_p75 : lw_okq (⟨"ToldWaysModel", "into", "([IIII)I"⟩, 57) := ⟨⟨by decide +kernel, by decide +kernel⟩, List.mem_of_getElem? (i := 903) (by decide +kernel), List.mem_of_getElem? (i := 1136) (by decide +kernel), List.mem_of_getElem? (i := 1137) (by decide +kernel)⟩
theorem lw_p76 : lw_okq (⟨"ToldWaysModel", "takePerson", "()I"⟩, 57) := ⟨⟨by decide +kernel, by decide +kernel⟩, List.mem_of_getElem? (i := 903) (by decide +kernel), List.mem_of_getElem? (i := 1140) (by decide +kernel), List.mem_of_getElem? (i := 1141) (by decide +kernel)⟩
theorem lw_p77 : lw_okq (⟨"ToldWaysModel", "takeHabit", "()I"⟩, 57) := ⟨⟨by decide +kernel, by decide +kernel⟩, List.mem_of_getElem? (i := 903) (by decide +kernel), List.mem_of_getElem? (i := 1144) (by decide +kernel), List.mem_of_getElem? (i := 1145) (by decide +kernel)⟩
theorem lw_p78 : lw_okq (⟨"ToldWaysModel", "takeKnows", "()I"⟩, 57) := ⟨⟨by decide +kernel, by decide +kernel⟩, List.mem_of_getElem? (i := 903) (by decide +kernel), List.mem_of_getElem? (i := 1148) (by decide +kernel), List.mem_of_getElem? (i := 1149) (by decide +kernel)⟩
theorem lw_p79 : lw_okq (⟨"ToldWaysModel", "isWay", "(I)Z"⟩, 57) := ⟨⟨by decide +kernel, by decide +kernel⟩, List.mem_of_getElem? (i := 903) (by decide +kernel), List.mem_of_getElem? (i := 1167) (by decide +kernel), List.mem_of_getElem? (i := 1168) (by decide +kernel)⟩
def lw_privs_5 : List (MethodName × Nat) := [(⟨"ToldWays$Lessons", "apply", "(I)V"⟩, 12), (⟨"ToldWays$Lessons", "answer", "(I)I"⟩, 12), (⟨"ToldWays", "askedFor", "(II)I"⟩, 10), (⟨"ToldWays$Journal", "addMissed", "(II)I"⟩, 8), (⟨"ToldWays$Journal", "addLogged", "(IIII)I"⟩, 8), (⟨"ToldWaysModel", "here", "()I"⟩, 57), (⟨"ToldWaysModel", "takeClause", "()I"⟩, 57), (⟨"ToldWaysModel", "readWord", "()V"⟩, 57), (⟨"ToldWaysModel", "fails", "(II)I"⟩, 57), (⟨"ToldWaysModel", "takeNumber", "(II)I"⟩, 57), (⟨"ToldWaysModel", "takeWay", "()I"⟩, 57), (⟨"ToldWaysModel", "into", "([IIII)I"⟩, 57), (⟨"ToldWaysModel", "takePerson", "()I"⟩, 57), (⟨"ToldWaysModel", "takeHabit", "()I"⟩, 57), (⟨"ToldWaysModel", "takeKnows", "()I"⟩, 57), (⟨"ToldWaysModel", "isWay", "(I)Z"⟩, 57)]
theorem lw_r5 : ∀ q ∈ lw_privs_5, lw_okq q := List.forall_mem_cons.mpr ⟨lw_p64, List.forall_mem_cons.mpr ⟨lw_p65, List.forall_mem_cons.mpr ⟨lw_p66, List.forall_mem_cons.mpr ⟨lw_p67, List.forall_mem_cons.mpr ⟨lw_p68, List.forall_mem_cons.mpr ⟨lw_p69, List.forall_mem_cons.mpr ⟨lw_p70, List.forall_mem_cons.mpr ⟨lw_p71, List.forall_mem_cons.mpr ⟨lw_p72, List.forall_mem_cons.mpr ⟨lw_p73, List.forall_mem_cons.mpr ⟨lw_p74, List.forall_mem_cons.mpr ⟨lw_p75, List.forall_mem_cons.mpr ⟨lw_p76, List.forall_mem_cons.mpr ⟨lw_p77, List.forall_mem_cons.mpr ⟨lw_p78, List.forall_mem_cons.mpr ⟨lw_p79, fun _ h => absurd h List.not_mem_nil⟩⟩⟩⟩⟩⟩⟩⟩⟩⟩⟩⟩⟩⟩⟩⟩
theorem lw_p80 : lw_okq (⟨"ToldWaysModel", "isPerson", "(I)Z"⟩, 57) := ⟨⟨by decide +kernel, by decide +kernel⟩, List.mem_of_getElem? (i := 903) (by decide +kernel), List.mem_of_getElem? (i := 1176) (by decide +kernel), List.mem_of_getElem? (i := 1177) (by decide +kernel)⟩
theorem lw_p81 : lw_okq (⟨"ToldWaysModel", "isPlace", "(I)Z"⟩, 57) := ⟨⟨by decide +kernel, by decide +kernel⟩, List.mem_of_getElem? (i := 903) (by decide +kernel), List.mem_of_getElem? (i := 1197) (by decide +kernel), List.mem_of_getElem? (i := 1198) (by decide +kernel)⟩
theorem lw_p82 : lw_okq (⟨"ToldWaysModel", "findNeeds", "(II)V"⟩, 57) := ⟨⟨by decide +kernel, by decide +kernel⟩, List.mem_of_getElem? (i := 903) (by decide +kernel), List.mem_of_getElem? (i := 1201) (by decide +kernel), List.mem_of_getElem? (i := 1202) (by decide +kernel)⟩
theorem lw_p83 : lw_okq (⟨"ToldWaysModel", "isAsked", "(III)Z"⟩, 57) := ⟨⟨by decide +kernel, by decide +kernel⟩, List.mem_of_getElem? (i := 903) (by decide +kernel), List.mem_of_getElem? (i := 1210) (by decide +kernel), List.mem_of_getElem? (i := 1211) (by decide +kernel)⟩
theorem lw_p84 : lw_okq (⟨"ToldWaysModel", "findRoute", "(III)I"⟩, 57) := ⟨⟨by decide +kernel, by decide +kernel⟩, List.mem_of_getElem? (i := 903) (by decide +kernel), List.mem_of_getElem? (i := 1214) (by decide +kernel), List.mem_of_getElem? (i := 1215) (by decide +kernel)⟩
theorem lw_p85 : lw_okq (⟨"ToldWaysModel", "saidBy", "(III)I"⟩, 57) := ⟨⟨by decide +kernel, by decide +kernel⟩, List.mem_of_getElem? (i := 903) (by decide +kernel), List.mem_of_getElem? (i := 1222) (by decide +kernel), List.mem_of_getElem? (i := 1223) (by decide +kernel)⟩
theorem lw_p86 : lw_okq (⟨"ToldWaysModel", "endOf", "(II)I"⟩, 57) := ⟨⟨by decide +kernel, by decide +kernel⟩, List.mem_of_getElem? (i := 903) (by decide +kernel), List.mem_of_getElem? (i := 1226) (by decide +kernel), List.mem_of_getElem? (i := 1227) (by decide +kernel)⟩
theorem lw_p87 : lw_okq (⟨"ToldWaysModel", "longOf", "(I)I"⟩, 57) := ⟨⟨by decide +kernel, by decide +kernel⟩, List.mem_of_getElem? (i := 903) (by decide +kernel), List.mem_of_getElem? (i := 1230) (by decide +kernel), List.mem_of_getElem? (i := 1231) (by decide +kernel)⟩
theorem lw_p88 : lw_okq (⟨"ToldWaysModel", "stands", "(II)I"⟩, 57) := ⟨⟨by decide +kernel, by decide +kernel⟩, List.mem_of_getElem? (i := 903) (by decide +kernel), List.mem_of_getElem? (i := 1234) (by decide +kernel), List.mem_of_getElem? (i := 1235) (by decide +kernel)⟩
theorem lw_p89 : lw_okq (⟨"ToldWaysModel", "outOf", "(I)I"⟩, 57) := ⟨⟨by decide +kernel, by decide +kernel⟩, List.mem_of_getElem? (i := 903) (by decide +kernel), List.mem_of_getElem? (i := 1238) (by decide +kernel), List.mem_of_getElem? (i := 1239) (by decide +kernel)⟩
theorem lw_p90 : lw_okq (⟨"ToldWaysModel", "walked", "(I)I"⟩, 57) := ⟨⟨by decide +kernel, by decide +kernel⟩, List.mem_of_getElem? (i := 903) (by decide +kernel), List.mem_of_getElem? (i := 1242) (by decide +kernel), List.mem_of_getElem? (i := 1243) (by decide +kernel)⟩
theorem lw_p91 : lw_okq (⟨"ToldWaysModel", "ownBy", "(III)I"⟩, 57) := ⟨⟨by decide +kernel, by decide +kernel⟩, List.mem_of_getElem? (i := 903) (by decide +kernel), List.mem_of_getElem? (i := 1250) (by decide +kernel), List.mem_of_getElem? (i := 1251) (by decide +kernel)⟩
theorem lw_p92 : lw_okq (⟨"ToldWaysModel", "gainOf", "(III)I"⟩, 57) := ⟨⟨by decide +kernel, by decide +kernel⟩, List.mem_of_getElem? (i := 903) (by decide +kernel), List.mem_of_getElem? (i := 1254) (by decide +kernel), List.mem_of_getElem? (i := 1255) (by decide +kernel)⟩
theorem lw_p93 : lw_okq (⟨"ToldWaysModel", "findEnds", "(IZ)V"⟩, 57) := ⟨⟨by decide +kernel, by decide +kernel⟩, List.mem_of_getElem? (i := 903) (by decide +kernel), List.mem_of_getElem? (i := 1262) (by decide +kernel), List.mem_of_getElem? (i := 1263) (by decide +kernel)⟩
theorem lw_p94 : lw_okq (⟨"ToldWaysModel", "leads", "(III)Z"⟩, 57) := ⟨⟨by decide +kernel, by decide +kernel⟩, List.mem_of_getElem? (i := 903) (by decide +kernel), List.mem_of_getElem? (i := 1266) (by decide +kernel), List.mem_of_getElem? (i := 1267) (by decide +kernel)⟩
theorem lw_p95 : lw_okq (⟨"ToldWaysModel", "soonestOf", "(II)I"⟩, 57) := ⟨⟨by decide +kernel, by decide +kernel⟩, List.mem_of_getElem? (i := 903) (by decide +kernel), List.mem_of_getElem? (i := 1274) (by decide +kernel), List.mem_of_getElem? (i := 1275) (by decide +kernel)⟩
def lw_privs_6 : List (MethodName × Nat) := [(⟨"ToldWaysModel", "isPerson", "(I)Z"⟩, 57), (⟨"ToldWaysModel", "isPlace", "(I)Z"⟩, 57), (⟨"ToldWaysModel", "findNeeds", "(II)V"⟩, 57), (⟨"ToldWaysModel", "isAsked", "(III)Z"⟩, 57), (⟨"ToldWaysModel", "findRoute", "(III)I"⟩, 57), (⟨"ToldWaysModel", "saidBy", "(III)I"⟩, 57), (⟨"ToldWaysModel", "endOf", "(II)I"⟩, 57), (⟨"ToldWaysModel", "longOf", "(I)I"⟩, 57), (⟨"ToldWaysModel", "stands", "(II)I"⟩, 57), (⟨"ToldWaysModel", "outOf", "(I)I"⟩, 57), (⟨"ToldWaysModel", "walked", "(I)I"⟩, 57), (⟨"ToldWaysModel", "ownBy", "(III)I"⟩, 57), (⟨"ToldWaysModel", "gainOf", "(III)I"⟩, 57), (⟨"ToldWaysModel", "findEnds", "(IZ)V"⟩, 57), (⟨"ToldWaysModel", "leads", "(III)Z"⟩, 57), (⟨"ToldWaysModel", "soonestOf", "(II)I"⟩, 57)]
theorem lw_r6 : ∀ q ∈ lw_privs_6, lw_okq q := List.forall_mem_cons.mpr ⟨lw_p80, List.forall_mem_cons.mpr ⟨lw_p81, List.forall_mem_cons.mpr ⟨lw_p82, List.forall_mem_cons.mpr ⟨lw_p83, List.forall_mem_cons.mpr ⟨lw_p84, List.forall_mem_cons.mpr ⟨lw_p85, List.forall_mem_cons.mpr ⟨lw_p86, List.forall_mem_cons.mpr ⟨lw_p87, List.forall_mem_cons.mpr ⟨lw_p88, List.forall_mem_cons.mpr ⟨lw_p89, List.forall_mem_cons.mpr ⟨lw_p90, List.forall_mem_cons.mpr ⟨lw_p91, List.forall_mem_cons.mpr ⟨lw_p92, List.forall_mem_cons.mpr ⟨lw_p93, List.forall_mem_cons.mpr ⟨lw_p94, List.forall_mem_cons.mpr ⟨lw_p95, fun _ h => absurd h List.not_mem_nil⟩⟩⟩⟩⟩⟩⟩⟩⟩⟩⟩⟩⟩⟩⟩⟩
theorem lw_p96 : lw_okq (⟨"ToldWaysModel", "findSoon", "(I)V"⟩, 57) := ⟨⟨by decide +kernel, by decide +kernel⟩, List.mem_of_getElem? (i := 903) (by decide +kernel), List.mem_of_getElem? (i := 1278) (by decide +kernel), List.mem_of_getElem? (i := 1279) (by decide +kernel)⟩
theorem lw_p97 : lw_okq (⟨"ToldWaysModel", "addLot", "(IIIJ)V"⟩, 57) := ⟨⟨by decide +kernel, by decide +kernel⟩, List.mem_of_getElem? (i := 903) (by decide +kernel), List.mem_of_getElem? (i := 1292) (by decide +kernel), List.mem_of_getElem? (i := 1293) (by decide +kernel)⟩
theorem lw_p98 : lw_okq (⟨"ToldWaysModel", "countLeads", "(II)I"⟩, 57) := ⟨⟨by decide +kernel, by decide +kernel⟩, List.mem_of_getElem? (i := 903) (by decide +kernel), List.mem_of_getElem? (i := 1296) (by decide +kernel), List.mem_of_getElem? (i := 1297) (by decide +kernel)⟩
theorem lw_p99 : lw_okq (⟨"ToldWaysModel", "findLearnt", "(III)I"⟩, 57) := ⟨⟨by decide +kernel, by decide +kernel⟩, List.mem_of_getElem? (i := 903) (by decide +kernel), List.mem_of_getElem? (i := 1311) (by decide +kernel), List.mem_of_getElem? (i := 1312) (by decide +kernel)⟩
theorem lw_p100 : lw_okq (⟨"ToldWaysModel", "isSoon", "(III)Z"⟩, 57) := ⟨⟨by decide +kernel, by decide +kernel⟩, List.mem_of_getElem? (i := 903) (by decide +kernel), List.mem_of_getElem? (i := 1315) (by decide +kernel), List.mem_of_getElem? (i := 1316) (by decide +kernel)⟩
theorem lw_p101 : lw_okq (⟨"ToldWaysModel", "isOpen", "(I)Z"⟩, 57) := ⟨⟨by decide +kernel, by decide +kernel⟩, List.mem_of_getElem? (i := 903) (by decide +kernel), List.mem_of_getElem? (i := 1319) (by decide +kernel), List.mem_of_getElem? (i := 1320) (by decide +kernel)⟩
theorem lw_p102 : lw_okq (⟨"ToldWaysModel", "teach", "(IZ)V"⟩, 57) := ⟨⟨by decide +kernel, by decide +kernel⟩, List.mem_of_getElem? (i := 903) (by decide +kernel), List.mem_of_getElem? (i := 1323) (by decide +kernel), List.mem_of_getElem? (i := 1324) (by decide +kernel)⟩
theorem lw_p103 : lw_okq (⟨"ToldWaysModel", "missingOf", "(II)I"⟩, 57) := ⟨⟨by decide +kernel, by decide +kernel⟩, List.mem_of_getElem? (i := 903) (by decide +kernel), List.mem_of_getElem? (i := 1331) (by decide +kernel), List.mem_of_getElem? (i := 1332) (by decide +kernel)⟩
theorem lw_p104 : lw_okq (⟨"ToldWaysModel", "mayBe", "(I)Z"⟩, 57) := ⟨⟨by decide +kernel, by decide +kernel⟩, List.mem_of_getElem? (i := 903) (by decide +kernel), List.mem_of_getElem? (i := 1356) (by decide +kernel), List.mem_of_getElem? (i := 1357) (by decide +kernel)⟩
theorem lw_p105 : lw_okq (⟨"ToldWaysModel", "strangerBy", "()I"⟩, 57) := ⟨⟨by decide +kernel, by decide +kernel⟩, List.mem_of_getElem? (i := 903) (by decide +kernel), List.mem_of_getElem? (i := 1366) (by decide +kernel), List.mem_of_getElem? (i := 1367) (by decide +kernel)⟩
theorem lw_p106 : lw_okq (⟨"ToldWaysModel", "draw", "(I)I"⟩, 57) := ⟨⟨by decide +kernel, by decide +kernel⟩, List.mem_of_getElem? (i := 903) (by decide +kernel), List.mem_of_getElem? (i := 1370) (by decide +kernel), List.mem_of_getElem? (i := 1371) (by decide +kernel)⟩
def lw_privs_7 : List (MethodName × Nat) := [(⟨"ToldWaysModel", "findSoon", "(I)V"⟩, 57), (⟨"ToldWaysModel", "addLot", "(IIIJ)V"⟩, 57), (⟨"ToldWaysModel", "countLeads", "(II)I"⟩, 57), (⟨"ToldWaysModel", "findLearnt", "(III)I"⟩, 57), (⟨"ToldWaysModel", "isSoon", "(III)Z"⟩, 57), (⟨"ToldWaysModel", "isOpen", "(I)Z"⟩, 57), (⟨"ToldWaysModel", "teach", "(IZ)V"⟩, 57), (⟨"ToldWaysModel", "missingOf", "(II)I"⟩, 57), (⟨"ToldWaysModel", "mayBe", "(I)Z"⟩, 57), (⟨"ToldWaysModel", "strangerBy", "()I"⟩, 57), (⟨"ToldWaysModel", "draw", "(I)I"⟩, 57)]
theorem lw_r7 : ∀ q ∈ lw_privs_7, lw_okq q := List.forall_mem_cons.mpr ⟨lw_p96, List.forall_mem_cons.mpr ⟨lw_p97, List.forall_mem_cons.mpr ⟨lw_p98, List.forall_mem_cons.mpr ⟨lw_p99, List.forall_mem_cons.mpr ⟨lw_p100, List.forall_mem_cons.mpr ⟨lw_p101, List.forall_mem_cons.mpr ⟨lw_p102, List.forall_mem_cons.mpr ⟨lw_p103, List.forall_mem_cons.mpr ⟨lw_p104, List.forall_mem_cons.mpr ⟨lw_p105, List.forall_mem_cons.mpr ⟨lw_p106, fun _ h => absurd h List.not_mem_nil⟩⟩⟩⟩⟩⟩⟩⟩⟩⟩⟩
def lw_privs : List (MethodName × Nat) := lw_privs_1 ++ (lw_privs_2 ++ (lw_privs_3 ++ (lw_privs_4 ++ (lw_privs_5 ++ (lw_privs_6 ++ (lw_privs_7))))))
def lw_tbl : List Cond := k2_sels lw_privs ++ tables_1
theorem lw_privs_ok : ∀ q ∈ lw_privs, lw_okq q := by
  show ∀ q ∈ lw_privs_1 ++ (lw_privs_2 ++ (lw_privs_3 ++ (lw_privs_4 ++ (lw_privs_5 ++ (lw_privs_6 ++ (lw_privs_7)))))), lw_okq q
  exact List.forall_mem_append.mpr ⟨lw_r1, List.forall_mem_append.mpr ⟨lw_r2, List.forall_mem_append.mpr ⟨lw_r3, List.forall_mem_append.mpr ⟨lw_r4, List.forall_mem_append.mpr ⟨lw_r5, List.forall_mem_append.mpr ⟨lw_r6, lw_r7⟩⟩⟩⟩⟩⟩
-- ===== end of PART A; then your names; then what follows =====
end
section
/-! ===== BEGIN words of one list among another's, by their places ===== -/
theorem goodIn_r {big : List Cond} (ws : List Cond) (ps : List Nat) (hp : ws = ps.filterMap (fun i => big[i]?)) (h : ws.all goodWord = true) : GoodIn big ws := by
  intro w hw
  have h1 := List.all_eq_true.mp h w hw
  rw [hp] at hw
  obtain ⟨i, -, hi⟩ := List.mem_filterMap.mp hw
  have hm : w ∈ big := by first | exact List.mem_of_getElem? hi | exact List.getElem?_mem hi
  exact ⟨hm, good_of_word h1⟩
theorem goodIn_app {big a b : List Cond} (ha : GoodIn big a) (hb : GoodIn big b) : GoodIn big (a ++ b) := fun w h => (List.mem_append.mp h).elim (ha w) (hb w)
theorem goodIn_ca {big a b : List Cond} {c : Cond} (ha : GoodIn big (c :: a)) (hb : GoodIn big b) : GoodIn big (c :: (a ++ b)) := fun w h => (List.mem_cons.mp h).elim (fun e => ha w (List.mem_cons.mpr (Or.inl e))) (fun h => (List.mem_append.mp h).elim (fun h => ha w (List.mem_cons.mpr (Or.inr h))) (hb w))
theorem goodIn_sub {big ws : List Cond} (hm : ∀ w ∈ ws, w ∈ big) (h : ws.all goodWord = true) : GoodIn big ws := fun w hw => ⟨hm w hw, good_of_word (List.all_eq_true.mp h w hw)⟩
/-! ===== END ===== -/

/-! ===== BEGIN printed: names, fields, word lists, decode rows ===== -/
def RX0 : String := "ToldWays$Draws"
def TX0 : u_T := fun k => match k with
  | _ => ("ToldWays$Draws", "state", "I", false)
def tyX0 : Nat → FieldType := fun k => match k with
  | _ => .int
abbrev wsX00 : List Cond := u_ws RX0 TX0 1
theorem nmX0 : ∀ a, a < 1 → ∀ b, b < 1 → a ≠ b → (TX0 a).2.1 ≠ (TX0 b).2.1 := by decide +kernel
theorem tyX0_ok : ∀ k, k < 1 → parseFieldDescriptor (TX0 k).2.2.1 = some (tyX0 k) := by decide +kernel
abbrev cX0_init : ByteArray := prog_2_method_1_code
def yX0_init : MethodName := ⟨RX0, "<init>", "()V"⟩
abbrev cX0_next : ByteArray := prog_2_method_2_code
def yX0_next : MethodName := ⟨RX0, "next", "(I)I"⟩
def RX1 : String := "ToldWays$Guides"
def TX1 : u_T := fun k => match k with
  | 0 => ("ToldWays$Guides", "land", "LToldWays$Land;", true)
  | 1 => ("ToldWays$Guides", "path", "LToldWays$Path;", true)
  | 2 => ("ToldWays$Guides", "ends", "[I", true)
  | 3 => ("ToldWays$Guides", "minutes", "[I", true)
  | 4 => ("ToldWays$Guides", "keys", "[I", true)
  | 5 => ("ToldWays$Guides", "target", "I", false)
  | 6 => ("ToldWays$Guides", "place", "I", false)
  | 7 => ("ToldWays$Guides", "minutesGone", "I", false)
  | 8 => ("ToldWays$Guides", "leaders", "I", false)
  | 9 => ("ToldWays$Guides", "lostOdds", "I", false)
  | 10 => ("ToldWays$Guides", "longest", "I", false)
  | _ => ("ToldWays$Guides", "sum", "J", false)
def tyX1 : Nat → FieldType := fun k => match k with
  | 0 => .object "ToldWays$Land"
  | 1 => .object "ToldWays$Path"
  | 2 => .array .int
  | 3 => .array .int
  | 4 => .array .int
  | 5 => .int
  | 6 => .int
  | 7 => .int
  | 8 => .int
  | 9 => .int
  | 10 => .int
  | _ => .long
abbrev wsX10 : List Cond := u_ws RX1 TX1 12
theorem nmX1 : ∀ a, a < 12 → ∀ b, b < 12 → a ≠ b → (TX1 a).2.1 ≠ (TX1 b).2.1 := by decide +kernel
theorem tyX1_ok : ∀ k, k < 12 → parseFieldDescriptor (TX1 k).2.2.1 = some (tyX1 k) := by decide +kernel
abbrev cX1_init : ByteArray := prog_3_method_1_code
def yX1_init : MethodName := ⟨RX1, "<init>", "(LToldWays$Land;LToldWays$Path;)V"⟩
abbrev cX1_gather : ByteArray := prog_3_method_2_code
def yX1_gather : MethodName := ⟨RX1, "gather", "(IZI)V"⟩
abbrev cX1_ask : ByteArray := prog_3_method_3_code
def yX1_ask : MethodName := ⟨RX1, "ask", "(III)V"⟩
abbrev cX1_hear : ByteArray := prog_3_method_4_code
def yX1_hear : MethodName := ⟨RX1, "hear", "(II)V"⟩
abbrev cX1_leads : ByteArray := prog_3_method_5_code
def yX1_leads : MethodName := ⟨RX1, "leads", "(III)Z"⟩
abbrev cX1_howMany : ByteArray := prog_3_method_6_code
def yX1_howMany : MethodName := ⟨RX1, "howMany", "(II)I"⟩
abbrev cX1_leader : ByteArray := prog_3_method_7_code
def yX1_leader : MethodName := ⟨RX1, "leader", "(III)I"⟩
abbrev cX1_lead : ByteArray := prog_3_method_8_code
def yX1_lead : MethodName := ⟨RX1, "lead", "(IILToldWays$Draws;)V"⟩
abbrev cX1_fewestMinutes : ByteArray := prog_3_method_9_code
def yX1_fewestMinutes : MethodName := ⟨RX1, "fewestMinutes", "(II)I"⟩
abbrev cX1_keyBy : ByteArray := prog_3_method_10_code
def yX1_keyBy : MethodName := ⟨RX1, "keyBy", "(I)I"⟩
abbrev cX1_fewestGuides : ByteArray := prog_3_method_11_code
def yX1_fewestGuides : MethodName := ⟨RX1, "fewestGuides", "(I)I"⟩
abbrev cX1_bestGuide : ByteArray := prog_3_method_12_code
def yX1_bestGuide : MethodName := ⟨RX1, "bestGuide", "(III)I"⟩
abbrev cX1_leastGuide : ByteArray := prog_3_method_13_code
def yX1_leastGuide : MethodName := ⟨RX1, "leastGuide", "(I)I"⟩
abbrev cX1_lots : ByteArray := prog_3_method_14_code
def yX1_lots : MethodName := ⟨RX1, "lots", "(II)V"⟩
abbrev cX1_castLots : ByteArray := prog_3_method_15_code
def yX1_castLots : MethodName := ⟨RX1, "castLots", "(LToldWays$Guides;IIII)V"⟩
def RX2 : String := "ToldWays$Image"
def TX2 : u_T := fun k => match k with
  | 0 => ("ToldWays$Image", "known", "[I", true)
  | 1 => ("ToldWays$Image", "habits", "[I", true)
  | 2 => ("ToldWays$Image", "law", "I", false)
  | 3 => ("ToldWays$Image", "draws", "I", false)
  | _ => ("ToldWays$Image", "kept", "Z", false)
def tyX2 : Nat → FieldType := fun k => match k with
  | 0 => .array .int
  | 1 => .array .int
  | 2 => .int
  | 3 => .int
  | _ => .boolean
abbrev wsX20 : List Cond := u_ws RX2 TX2 5
theorem nmX2 : ∀ a, a < 5 → ∀ b, b < 5 → a ≠ b → (TX2 a).2.1 ≠ (TX2 b).2.1 := by decide +kernel
theorem tyX2_ok : ∀ k, k < 5 → parseFieldDescriptor (TX2 k).2.2.1 = some (tyX2 k) := by decide +kernel
abbrev cX2_init : ByteArray := prog_4_method_1_code
def yX2_init : MethodName := ⟨RX2, "<init>", "()V"⟩
def RX3 : String := "ToldWays$Journal"
def TX3 : u_T := fun k => match k with
  | 0 => ("ToldWays$Journal", "persons", "[I", true)
  | 1 => ("ToldWays$Journal", "targets", "[I", true)
  | 2 => ("ToldWays$Journal", "pieces", "[I", true)
  | 3 => ("ToldWays$Journal", "went", "[I", true)
  | 4 => ("ToldWays$Journal", "missedPersons", "[I", true)
  | 5 => ("ToldWays$Journal", "missedMinutes", "[I", true)
  | 6 => ("ToldWays$Journal", "logged", "I", false)
  | _ => ("ToldWays$Journal", "missed", "I", false)
def tyX3 : Nat → FieldType := fun k => match k with
  | 0 => .array .int
  | 1 => .array .int
  | 2 => .array .int
  | 3 => .array .int
  | 4 => .array .int
  | 5 => .array .int
  | 6 => .int
  | _ => .int
abbrev wsX30 : List Cond := u_ws RX3 TX3 8
theorem nmX3 : ∀ a, a < 8 → ∀ b, b < 8 → a ≠ b → (TX3 a).2.1 ≠ (TX3 b).2.1 := by decide +kernel
theorem tyX3_ok : ∀ k, k < 8 → parseFieldDescriptor (TX3 k).2.2.1 = some (tyX3 k) := by decide +kernel
abbrev cX3_init : ByteArray := prog_5_method_1_code
def yX3_init : MethodName := ⟨RX3, "<init>", "()V"⟩
abbrev cX3_addLogged : ByteArray := prog_5_method_2_code
def yX3_addLogged : MethodName := ⟨RX3, "addLogged", "(IIII)I"⟩
abbrev cX3_addMissed : ByteArray := prog_5_method_3_code
def yX3_addMissed : MethodName := ⟨RX3, "addMissed", "(II)I"⟩
abbrev cX3_forget : ByteArray := prog_5_method_4_code
def yX3_forget : MethodName := ⟨RX3, "forget", "()V"⟩
def RX4 : String := "ToldWays$Land"
def TX4 : u_T := fun k => match k with
  | 0 => ("ToldWays$Land", "wayFrom", "[I", true)
  | 1 => ("ToldWays$Land", "wayTo", "[I", true)
  | 2 => ("ToldWays$Land", "wayMinutes", "[I", true)
  | 3 => ("ToldWays$Land", "homes", "[I", true)
  | 4 => ("ToldWays$Land", "errands", "[I", true)
  | 5 => ("ToldWays$Land", "worths", "[I", true)
  | 6 => ("ToldWays$Land", "habits", "[I", true)
  | 7 => ("ToldWays$Land", "known", "[I", true)
  | 8 => ("ToldWays$Land", "places", "I", false)
  | 9 => ("ToldWays$Land", "ways", "I", false)
  | _ => ("ToldWays$Land", "persons", "I", false)
def tyX4 : Nat → FieldType := fun k => match k with
  | 0 => .array .int
  | 1 => .array .int
  | 2 => .array .int
  | 3 => .array .int
  | 4 => .array .int
  | 5 => .array .int
  | 6 => .array .int
  | 7 => .array .int
  | 8 => .int
  | 9 => .int
  | _ => .int
abbrev wsX40 : List Cond := u_ws RX4 TX4 11
theorem nmX4 : ∀ a, a < 11 → ∀ b, b < 11 → a ≠ b → (TX4 a).2.1 ≠ (TX4 b).2.1 := by decide +kernel
theorem tyX4_ok : ∀ k, k < 11 → parseFieldDescriptor (TX4 k).2.2.1 = some (tyX4 k) := by decide +kernel
abbrev cX4_init : ByteArray := prog_6_method_1_code
def yX4_init : MethodName := ⟨RX4, "<init>", "()V"⟩
abbrev cX4_hasPlace : ByteArray := prog_6_method_2_code
def yX4_hasPlace : MethodName := ⟨RX4, "hasPlace", "(I)Z"⟩
abbrev cX4_hasWay : ByteArray := prog_6_method_3_code
def yX4_hasWay : MethodName := ⟨RX4, "hasWay", "(I)Z"⟩
abbrev cX4_hasPerson : ByteArray := prog_6_method_4_code
def yX4_hasPerson : MethodName := ⟨RX4, "hasPerson", "(I)Z"⟩
abbrev cX4_empty : ByteArray := prog_6_method_5_code
def yX4_empty : MethodName := ⟨RX4, "empty", "()V"⟩
abbrev cX4_become : ByteArray := prog_6_method_6_code
def yX4_become : MethodName := ⟨RX4, "become", "(LToldWays$Land;)V"⟩
abbrev cX4_otherEnd : ByteArray := prog_6_method_7_code
def yX4_otherEnd : MethodName := ⟨RX4, "otherEnd", "(II)I"⟩
abbrev cX4_areJoined : ByteArray := prog_6_method_8_code
def yX4_areJoined : MethodName := ⟨RX4, "areJoined", "(II)Z"⟩
def RX5 : String := "ToldWays$Lessons"
def TX5 : u_T := fun k => match k with
  | 0 => ("ToldWays$Lessons", "land", "LToldWays$Land;", true)
  | 1 => ("ToldWays$Lessons", "guides", "LToldWays$Guides;", true)
  | 2 => ("ToldWays$Lessons", "ends", "[I", true)
  | 3 => ("ToldWays$Lessons", "minutes", "[I", true)
  | 4 => ("ToldWays$Lessons", "endsNow", "[I", true)
  | 5 => ("ToldWays$Lessons", "minutesNow", "[I", true)
  | 6 => ("ToldWays$Lessons", "from", "I", false)
  | 7 => ("ToldWays$Lessons", "target", "I", false)
  | 8 => ("ToldWays$Lessons", "limit", "I", false)
  | 9 => ("ToldWays$Lessons", "count", "I", false)
  | 10 => ("ToldWays$Lessons", "first", "I", false)
  | _ => ("ToldWays$Lessons", "second", "I", false)
def tyX5 : Nat → FieldType := fun k => match k with
  | 0 => .object "ToldWays$Land"
  | 1 => .object "ToldWays$Guides"
  | 2 => .array .int
  | 3 => .array .int
  | 4 => .array .int
  | 5 => .array .int
  | 6 => .int
  | 7 => .int
  | 8 => .int
  | 9 => .int
  | 10 => .int
  | _ => .int
abbrev wsX50 : List Cond := u_ws RX5 TX5 12
theorem nmX5 : ∀ a, a < 12 → ∀ b, b < 12 → a ≠ b → (TX5 a).2.1 ≠ (TX5 b).2.1 := by decide +kernel
theorem tyX5_ok : ∀ k, k < 12 → parseFieldDescriptor (TX5 k).2.2.1 = some (tyX5 k) := by decide +kernel
abbrev cX5_init : ByteArray := prog_7_method_1_code
def yX5_init : MethodName := ⟨RX5, "<init>", "(LToldWays$Land;LToldWays$Guides;)V"⟩
abbrev cX5_begin : ByteArray := prog_7_method_2_code
def yX5_begin : MethodName := ⟨RX5, "begin", "(III)V"⟩
abbrev cX5_seekOne : ByteArray := prog_7_method_3_code
def yX5_seekOne : MethodName := ⟨RX5, "seekOne", "()V"⟩
abbrev cX5_seekTwo : ByteArray := prog_7_method_4_code
def yX5_seekTwo : MethodName := ⟨RX5, "seekTwo", "()V"⟩
abbrev cX5_areBothInTime : ByteArray := prog_7_method_5_code
def yX5_areBothInTime : MethodName := ⟨RX5, "areBothInTime", "(II)Z"⟩
abbrev cX5_canBeLearnt : ByteArray := prog_7_method_6_code
def yX5_canBeLearnt : MethodName := ⟨RX5, "canBeLearnt", "(I)Z"⟩
abbrev cX5_changesNothing : ByteArray := prog_7_method_7_code
def yX5_changesNothing : MethodName := ⟨RX5, "changesNothing", "(I)Z"⟩
abbrev cX5_apply : ByteArray := prog_7_method_8_code
def yX5_apply : MethodName := ⟨RX5, "apply", "(I)V"⟩
abbrev cX5_unlearn : ByteArray := prog_7_method_9_code
def yX5_unlearn : MethodName := ⟨RX5, "unlearn", "(I)V"⟩
abbrev cX5_isInTime : ByteArray := prog_7_method_10_code
def yX5_isInTime : MethodName := ⟨RX5, "isInTime", "()Z"⟩
abbrev cX5_answer : ByteArray := prog_7_method_11_code
def yX5_answer : MethodName := ⟨RX5, "answer", "(I)I"⟩
def RX6 : String := "ToldWays$Path"
def TX6 : u_T := fun k => match k with
  | 0 => ("ToldWays$Path", "keys", "[I", true)
  | 1 => ("ToldWays$Path", "stops", "[I", true)
  | 2 => ("ToldWays$Path", "clock", "[I", true)
  | _ => ("ToldWays$Path", "pieces", "I", false)
def tyX6 : Nat → FieldType := fun k => match k with
  | 0 => .array .int
  | 1 => .array .int
  | 2 => .array .int
  | _ => .int
abbrev wsX60 : List Cond := u_ws RX6 TX6 4
theorem nmX6 : ∀ a, a < 4 → ∀ b, b < 4 → a ≠ b → (TX6 a).2.1 ≠ (TX6 b).2.1 := by decide +kernel
theorem tyX6_ok : ∀ k, k < 4 → parseFieldDescriptor (TX6 k).2.2.1 = some (tyX6 k) := by decide +kernel
abbrev cX6_init : ByteArray := prog_8_method_1_code
def yX6_init : MethodName := ⟨RX6, "<init>", "()V"⟩
abbrev cX6_seek : ByteArray := prog_8_method_2_code
def yX6_seek : MethodName := ⟨RX6, "seek", "(LToldWays$Land;III)V"⟩
abbrev cX6_measure : ByteArray := prog_8_method_3_code
def yX6_measure : MethodName := ⟨RX6, "measure", "(LToldWays$Land;II)V"⟩
abbrev cX6_nextWay : ByteArray := prog_8_method_4_code
def yX6_nextWay : MethodName := ⟨RX6, "nextWay", "(LToldWays$Land;II)I"⟩
abbrev cX6_placeAfter : ByteArray := prog_8_method_5_code
def yX6_placeAfter : MethodName := ⟨RX6, "placeAfter", "(I)I"⟩
abbrev cX6_minutesTo : ByteArray := prog_8_method_6_code
def yX6_minutesTo : MethodName := ⟨RX6, "minutesTo", "(I)I"⟩
abbrev cX6_piecesTo : ByteArray := prog_8_method_7_code
def yX6_piecesTo : MethodName := ⟨RX6, "piecesTo", "(I)I"⟩
abbrev cX6_saidBy : ByteArray := prog_8_method_8_code
def yX6_saidBy : MethodName := ⟨RX6, "saidBy", "(II)I"⟩
abbrev cX6_outByLaw : ByteArray := prog_8_method_9_code
def yX6_outByLaw : MethodName := ⟨RX6, "outByLaw", "(II)I"⟩
abbrev cX6_placeByLaw : ByteArray := prog_8_method_10_code
def yX6_placeByLaw : MethodName := ⟨RX6, "placeByLaw", "(II)I"⟩
abbrev cX6_minutesByLaw : ByteArray := prog_8_method_11_code
def yX6_minutesByLaw : MethodName := ⟨RX6, "minutesByLaw", "(II)I"⟩
abbrev cX6_gain : ByteArray := prog_8_method_12_code
def yX6_gain : MethodName := ⟨RX6, "gain", "(IIII)I"⟩
abbrev cX6_dearest : ByteArray := prog_8_method_13_code
def yX6_dearest : MethodName := ⟨RX6, "dearest", "(III)I"⟩
def RX7 : String := "ToldWays$Reader"
def TX7 : u_T := fun k => match k with
  | 0 => ("ToldWays$Reader", "draft", "LToldWays$Land;", true)
  | 1 => ("ToldWays$Reader", "source", "LToldWays$Text;", false)
  | 2 => ("ToldWays$Reader", "faultKind", "I", false)
  | 3 => ("ToldWays$Reader", "faultPlace", "I", false)
  | 4 => ("ToldWays$Reader", "start", "I", false)
  | 5 => ("ToldWays$Reader", "length", "I", false)
  | 6 => ("ToldWays$Reader", "word", "Z", false)
  | 7 => ("ToldWays$Reader", "number", "Z", false)
  | _ => ("ToldWays$Reader", "value", "I", false)
def tyX7 : Nat → FieldType := fun k => match k with
  | 0 => .object "ToldWays$Land"
  | 1 => .object "ToldWays$Text"
  | 2 => .int
  | 3 => .int
  | 4 => .int
  | 5 => .int
  | 6 => .boolean
  | 7 => .boolean
  | _ => .int
abbrev wsX70 : List Cond := u_ws RX7 TX7 9
theorem nmX7 : ∀ a, a < 9 → ∀ b, b < 9 → a ≠ b → (TX7 a).2.1 ≠ (TX7 b).2.1 := by decide +kernel
theorem tyX7_ok : ∀ k, k < 9 → parseFieldDescriptor (TX7 k).2.2.1 = some (tyX7 k) := by decide +kernel
abbrev cX7_init : ByteArray := prog_9_method_1_code
def yX7_init : MethodName := ⟨RX7, "<init>", "()V"⟩
abbrev cX7_read : ByteArray := prog_9_method_2_code
def yX7_read : MethodName := ⟨RX7, "read", "(LToldWays$Text;)I"⟩
abbrev cX7_readPlaces : ByteArray := prog_9_method_3_code
def yX7_readPlaces : MethodName := ⟨RX7, "readPlaces", "()V"⟩
abbrev cX7_readWay : ByteArray := prog_9_method_4_code
def yX7_readWay : MethodName := ⟨RX7, "readWay", "()V"⟩
abbrev cX7_readPerson : ByteArray := prog_9_method_5_code
def yX7_readPerson : MethodName := ⟨RX7, "readPerson", "()V"⟩
abbrev cX7_takeHabit : ByteArray := prog_9_method_6_code
def yX7_takeHabit : MethodName := ⟨RX7, "takeHabit", "()I"⟩
abbrev cX7_takeKnown : ByteArray := prog_9_method_7_code
def yX7_takeKnown : MethodName := ⟨RX7, "takeKnown", "()I"⟩
abbrev cX7_takeNumber : ByteArray := prog_9_method_8_code
def yX7_takeNumber : MethodName := ⟨RX7, "takeNumber", "(II)I"⟩
abbrev cX7_seeNumber : ByteArray := prog_9_method_9_code
def yX7_seeNumber : MethodName := ⟨RX7, "seeNumber", "(II)I"⟩
abbrev cX7_takeSign : ByteArray := prog_9_method_10_code
def yX7_takeSign : MethodName := ⟨RX7, "takeSign", "(C)V"⟩
abbrev cX7_isSign : ByteArray := prog_9_method_11_code
def yX7_isSign : MethodName := ⟨RX7, "isSign", "(C)Z"⟩
abbrev cX7_isWord : ByteArray := prog_9_method_12_code
def yX7_isWord : MethodName := ⟨RX7, "isWord", "(Ljava/lang/String;)Z"⟩
abbrev cX7_blame : ByteArray := prog_9_method_13_code
def yX7_blame : MethodName := ⟨RX7, "blame", "(I)V"⟩
abbrev cX7_step : ByteArray := prog_9_method_14_code
def yX7_step : MethodName := ⟨RX7, "step", "()V"⟩
abbrev cX7_goesOn : ByteArray := prog_9_method_15_code
def yX7_goesOn : MethodName := ⟨RX7, "goesOn", "(I)Z"⟩
abbrev cX7_byteAt : ByteArray := prog_9_method_16_code
def yX7_byteAt : MethodName := ⟨RX7, "byteAt", "(I)I"⟩
abbrev cX7_isLetter : ByteArray := prog_9_method_17_code
def yX7_isLetter : MethodName := ⟨RX7, "isLetter", "(I)Z"⟩
abbrev cX7_isFigure : ByteArray := prog_9_method_18_code
def yX7_isFigure : MethodName := ⟨RX7, "isFigure", "(I)Z"⟩
def RX8 : String := "ToldWays$Text"
def TX8 : u_T := fun k => match k with
  | 0 => ("ToldWays$Text", "bytes", "[I", true)
  | _ => ("ToldWays$Text", "length", "I", false)
def tyX8 : Nat → FieldType := fun k => match k with
  | 0 => .array .int
  | _ => .int
abbrev wsX80 : List Cond := u_ws RX8 TX8 2
theorem nmX8 : ∀ a, a < 2 → ∀ b, b < 2 → a ≠ b → (TX8 a).2.1 ≠ (TX8 b).2.1 := by decide +kernel
theorem tyX8_ok : ∀ k, k < 2 → parseFieldDescriptor (TX8 k).2.2.1 = some (tyX8 k) := by decide +kernel
abbrev cX8_init : ByteArray := prog_10_method_1_code
def yX8_init : MethodName := ⟨RX8, "<init>", "()V"⟩
abbrev cX8_append : ByteArray := prog_10_method_2_code
def yX8_append : MethodName := ⟨RX8, "append", "(IJ)V"⟩
def RX9 : String := "ToldWays"
def TX9 : u_T := fun k => match k with
  | 0 => ("ToldWays", "text", "LToldWays$Text;", true)
  | 1 => ("ToldWays", "reader", "LToldWays$Reader;", true)
  | 2 => ("ToldWays", "land", "LToldWays$Land;", true)
  | 3 => ("ToldWays", "path", "LToldWays$Path;", true)
  | 4 => ("ToldWays", "guides", "[LToldWays$Guides;", true)
  | 5 => ("ToldWays", "lessons", "LToldWays$Lessons;", true)
  | 6 => ("ToldWays", "draws", "LToldWays$Draws;", true)
  | 7 => ("ToldWays", "journal", "LToldWays$Journal;", true)
  | 8 => ("ToldWays", "images", "[LToldWays$Image;", true)
  | _ => ("ToldWays", "law", "I", false)
def tyX9 : Nat → FieldType := fun k => match k with
  | 0 => .object "ToldWays$Text"
  | 1 => .object "ToldWays$Reader"
  | 2 => .object "ToldWays$Land"
  | 3 => .object "ToldWays$Path"
  | 4 => .array (.object "ToldWays$Guides")
  | 5 => .object "ToldWays$Lessons"
  | 6 => .object "ToldWays$Draws"
  | 7 => .object "ToldWays$Journal"
  | 8 => .array (.object "ToldWays$Image")
  | _ => .int
abbrev wsX90 : List Cond := u_ws RX9 TX9 10
theorem nmX9 : ∀ a, a < 10 → ∀ b, b < 10 → a ≠ b → (TX9 a).2.1 ≠ (TX9 b).2.1 := by decide +kernel
theorem tyX9_ok : ∀ k, k < 10 → parseFieldDescriptor (TX9 k).2.2.1 = some (tyX9 k) := by decide +kernel
abbrev cX9_init : ByteArray := prog_1_method_1_code
def yX9_init : MethodName := ⟨RX9, "<init>", "()V"⟩
abbrev cX9_feed : ByteArray := prog_1_method_2_code
def yX9_feed : MethodName := ⟨RX9, "feed", "(IJ)I"⟩
abbrev cX9_land : ByteArray := prog_1_method_3_code
def yX9_land : MethodName := ⟨RX9, "land", "()I"⟩
abbrev cX9_fault : ByteArray := prog_1_method_4_code
def yX9_fault : MethodName := ⟨RX9, "fault", "()I"⟩
abbrev cX9_told : ByteArray := prog_1_method_5_code
def yX9_told : MethodName := ⟨RX9, "told", "(I)I"⟩
abbrev cX9_way : ByteArray := prog_1_method_6_code
def yX9_way : MethodName := ⟨RX9, "way", "(II)I"⟩
abbrev cX9_person : ByteArray := prog_1_method_7_code
def yX9_person : MethodName := ⟨RX9, "person", "(II)I"⟩
abbrev cX9_far : ByteArray := prog_1_method_8_code
def yX9_far : MethodName := ⟨RX9, "far", "(II)I"⟩
abbrev cX9_law : ByteArray := prog_1_method_9_code
def yX9_law : MethodName := ⟨RX9, "law", "(I)I"⟩
abbrev cX9_learn : ByteArray := prog_1_method_10_code
def yX9_learn : MethodName := ⟨RX9, "learn", "(IIZ)I"⟩
abbrev cX9_habit : ByteArray := prog_1_method_11_code
def yX9_habit : MethodName := ⟨RX9, "habit", "(II)I"⟩
abbrev cX9_route : ByteArray := prog_1_method_12_code
def yX9_route : MethodName := ⟨RX9, "route", "(IIII)I"⟩
abbrev cX9_says : ByteArray := prog_1_method_13_code
def yX9_says : MethodName := ⟨RX9, "says", "(IIII)I"⟩
abbrev cX9_own : ByteArray := prog_1_method_14_code
def yX9_own : MethodName := ⟨RX9, "own", "(IIII)I"⟩
abbrev cX9_led : ByteArray := prog_1_method_15_code
def yX9_led : MethodName := ⟨RX9, "led", "(IIZI)I"⟩
abbrev cX9_soonest : ByteArray := prog_1_method_16_code
def yX9_soonest : MethodName := ⟨RX9, "soonest", "(II)I"⟩
abbrev cX9_guide : ByteArray := prog_1_method_17_code
def yX9_guide : MethodName := ⟨RX9, "guide", "(III)I"⟩
abbrev cX9_lot : ByteArray := prog_1_method_18_code
def yX9_lot : MethodName := ⟨RX9, "lot", "(III)I"⟩
abbrev cX9_say : ByteArray := prog_1_method_19_code
def yX9_say : MethodName := ⟨RX9, "say", "(III)I"⟩
abbrev cX9_learnt : ByteArray := prog_1_method_20_code
def yX9_learnt : MethodName := ⟨RX9, "learnt", "(IIII)I"⟩
abbrev cX9_missing : ByteArray := prog_1_method_21_code
def yX9_missing : MethodName := ⟨RX9, "missing", "(II)I"⟩
abbrev cX9_lack : ByteArray := prog_1_method_22_code
def yX9_lack : MethodName := ⟨RX9, "lack", "(II)I"⟩
abbrev cX9_fits : ByteArray := prog_1_method_23_code
def yX9_fits : MethodName := ⟨RX9, "fits", "()I"⟩
abbrev cX9_log : ByteArray := prog_1_method_24_code
def yX9_log : MethodName := ⟨RX9, "log", "(IIII)I"⟩
abbrev cX9_clear : ByteArray := prog_1_method_25_code
def yX9_clear : MethodName := ⟨RX9, "clear", "()I"⟩
abbrev cX9_judge : ByteArray := prog_1_method_26_code
def yX9_judge : MethodName := ⟨RX9, "judge", "()I"⟩
abbrev cX9_drift : ByteArray := prog_1_method_27_code
def yX9_drift : MethodName := ⟨RX9, "drift", "(II)I"⟩
abbrev cX9_seed : ByteArray := prog_1_method_28_code
def yX9_seed : MethodName := ⟨RX9, "seed", "(I)I"⟩
abbrev cX9_keep : ByteArray := prog_1_method_29_code
def yX9_keep : MethodName := ⟨RX9, "keep", "(I)I"⟩
abbrev cX9_goBack : ByteArray := prog_1_method_30_code
def yX9_goBack : MethodName := ⟨RX9, "goBack", "(I)I"⟩
abbrev cX9_canAsk : ByteArray := prog_1_method_31_code
def yX9_canAsk : MethodName := ⟨RX9, "canAsk", "(III)Z"⟩
abbrev cX9_seekFor : ByteArray := prog_1_method_32_code
def yX9_seekFor : MethodName := ⟨RX9, "seekFor", "(III)V"⟩
abbrev cX9_farBetween : ByteArray := prog_1_method_33_code
def yX9_farBetween : MethodName := ⟨RX9, "farBetween", "(II)I"⟩
abbrev cX9_guidesTo : ByteArray := prog_1_method_34_code
def yX9_guidesTo : MethodName := ⟨RX9, "guidesTo", "(I)LToldWays$Guides;"⟩
abbrev cX9_gathered : ByteArray := prog_1_method_35_code
def yX9_gathered : MethodName := ⟨RX9, "gathered", "(IZ)LToldWays$Guides;"⟩
abbrev cX9_minutesIfLedTo : ByteArray := prog_1_method_36_code
def yX9_minutesIfLedTo : MethodName := ⟨RX9, "minutesIfLedTo", "(IIII)I"⟩
abbrev cX9_askedFor : ByteArray := prog_1_method_37_code
def yX9_askedFor : MethodName := ⟨RX9, "askedFor", "(II)I"⟩
abbrev cX9_at : ByteArray := prog_1_method_38_code
def yX9_at : MethodName := ⟨RX9, "at", "([II)I"⟩
abbrev cX9_put : ByteArray := prog_1_method_39_code
def yX9_put : MethodName := ⟨RX9, "put", "([III)V"⟩
abbrev cX9_copy : ByteArray := prog_1_method_40_code
def yX9_copy : MethodName := ⟨RX9, "copy", "([I[I)V"⟩
def RX10 : String := "ToldWaysModel"
def TX10 : u_T := fun k => match k with
  | 0 => ("ToldWaysModel", "places", "I", false)
  | 1 => ("ToldWaysModel", "ways", "I", false)
  | 2 => ("ToldWaysModel", "wayOne", "[I", true)
  | 3 => ("ToldWaysModel", "wayTwo", "[I", true)
  | 4 => ("ToldWaysModel", "wayLong", "[I", true)
  | 5 => ("ToldWaysModel", "persons", "I", false)
  | 6 => ("ToldWaysModel", "place", "[I", true)
  | 7 => ("ToldWaysModel", "errand", "[I", true)
  | 8 => ("ToldWaysModel", "worth", "[I", true)
  | 9 => ("ToldWaysModel", "habit", "[I", true)
  | 10 => ("ToldWaysModel", "knows", "[I", true)
  | 11 => ("ToldWaysModel", "law", "I", false)
  | 12 => ("ToldWaysModel", "seed", "I", false)
  | 13 => ("ToldWaysModel", "text", "[I", true)
  | 14 => ("ToldWaysModel", "texted", "I", false)
  | 15 => ("ToldWaysModel", "faultPlace", "I", false)
  | 16 => ("ToldWaysModel", "at0", "I", false)
  | 17 => ("ToldWaysModel", "said", "J", false)
  | 18 => ("ToldWaysModel", "wordEnd", "I", false)
  | 19 => ("ToldWaysModel", "number", "I", false)
  | 20 => ("ToldWaysModel", "numberAt", "I", false)
  | 21 => ("ToldWaysModel", "readPlaces", "I", false)
  | 22 => ("ToldWaysModel", "readWays", "I", false)
  | 23 => ("ToldWaysModel", "readOne", "[I", true)
  | 24 => ("ToldWaysModel", "readTwo", "[I", true)
  | 25 => ("ToldWaysModel", "readLong", "[I", true)
  | 26 => ("ToldWaysModel", "readPersons", "I", false)
  | 27 => ("ToldWaysModel", "readPlace", "[I", true)
  | 28 => ("ToldWaysModel", "readErrand", "[I", true)
  | 29 => ("ToldWaysModel", "readWorth", "[I", true)
  | 30 => ("ToldWaysModel", "readHabit", "[I", true)
  | 31 => ("ToldWaysModel", "readKnows", "[I", true)
  | 32 => ("ToldWaysModel", "need", "[I", true)
  | 33 => ("ToldWaysModel", "pieces", "I", false)
  | 34 => ("ToldWaysModel", "behind", "[I", true)
  | 35 => ("ToldWaysModel", "minutes", "[I", true)
  | 36 => ("ToldWaysModel", "gained", "I", false)
  | 37 => ("ToldWaysModel", "ends", "[I", true)
  | 38 => ("ToldWaysModel", "longs", "[I", true)
  | 39 => ("ToldWaysModel", "soon", "[I", true)
  | 40 => ("ToldWaysModel", "lotAt", "[I", true)
  | 41 => ("ToldWaysModel", "lotLed", "[I", true)
  | 42 => ("ToldWaysModel", "lotLong", "[I", true)
  | 43 => ("ToldWaysModel", "lotOdds", "[J", true)
  | 44 => ("ToldWaysModel", "lots", "I", false)
  | 45 => ("ToldWaysModel", "firstPair", "I", false)
  | 46 => ("ToldWaysModel", "secondPair", "I", false)
  | 47 => ("ToldWaysModel", "lacked", "I", false)
  | 48 => ("ToldWaysModel", "lackWho", "[I", true)
  | 49 => ("ToldWaysModel", "lackLong", "[I", true)
  | 50 => ("ToldWaysModel", "logged", "I", false)
  | 51 => ("ToldWaysModel", "logWho", "[I", true)
  | 52 => ("ToldWaysModel", "logFor", "[I", true)
  | 53 => ("ToldWaysModel", "logPieces", "[I", true)
  | 54 => ("ToldWaysModel", "logWent", "[I", true)
  | 55 => ("ToldWaysModel", "images", "[I", true)
  | _ => ("ToldWaysModel", "isKept", "[Z", true)
def tyX10 : Nat → FieldType := fun k => match k with
  | 0 => .int
  | 1 => .int
  | 2 => .array .int
  | 3 => .array .int
  | 4 => .array .int
  | 5 => .int
  | 6 => .array .int
  | 7 => .array .int
  | 8 => .array .int
  | 9 => .array .int
  | 10 => .array .int
  | 11 => .int
  | 12 => .int
  | 13 => .array .int
  | 14 => .int
  | 15 => .int
  | 16 => .int
  | 17 => .long
  | 18 => .int
  | 19 => .int
  | 20 => .int
  | 21 => .int
  | 22 => .int
  | 23 => .array .int
  | 24 => .array .int
  | 25 => .array .int
  | 26 => .int
  | 27 => .array .int
  | 28 => .array .int
  | 29 => .array .int
  | 30 => .array .int
  | 31 => .array .int
  | 32 => .array .int
  | 33 => .int
  | 34 => .array .int
  | 35 => .array .int
  | 36 => .int
  | 37 => .array .int
  | 38 => .array .int
  | 39 => .array .int
  | 40 => .array .int
  | 41 => .array .int
  | 42 => .array .int
  | 43 => .array .long
  | 44 => .int
  | 45 => .int
  | 46 => .int
  | 47 => .int
  | 48 => .array .int
  | 49 => .array .int
  | 50 => .int
  | 51 => .array .int
  | 52 => .array .int
  | 53 => .array .int
  | 54 => .array .int
  | 55 => .array .int
  | _ => .array .boolean
abbrev wsX100 : List Cond := u_ws RX10 TX10 57
theorem nmX10 : ∀ a, a < 57 → ∀ b, b < 57 → a ≠ b → (TX10 a).2.1 ≠ (TX10 b).2.1 := by decide +kernel
theorem tyX10_ok : ∀ k, k < 57 → parseFieldDescriptor (TX10 k).2.2.1 = some (tyX10 k) := by decide +kernel
abbrev cX10_init : ByteArray := prog_12_method_1_code
def yX10_init : MethodName := ⟨RX10, "<init>", "()V"⟩
abbrev cX10_in : ByteArray := prog_12_method_3_code
def yX10_in : MethodName := ⟨RX10, "in", "(JJJ)Z"⟩
abbrev cX10_has : ByteArray := prog_12_method_4_code
def yX10_has : MethodName := ⟨RX10, "has", "(II)Z"⟩
abbrev cX10_isPlace : ByteArray := prog_12_method_5_code
def yX10_isPlace : MethodName := ⟨RX10, "isPlace", "(I)Z"⟩
abbrev cX10_isWay : ByteArray := prog_12_method_6_code
def yX10_isWay : MethodName := ⟨RX10, "isWay", "(I)Z"⟩
abbrev cX10_isPerson : ByteArray := prog_12_method_7_code
def yX10_isPerson : MethodName := ⟨RX10, "isPerson", "(I)Z"⟩
abbrev cX10_feed : ByteArray := prog_12_method_8_code
def yX10_feed : MethodName := ⟨RX10, "feed", "(IJ)I"⟩
abbrev cX10_here : ByteArray := prog_12_method_9_code
def yX10_here : MethodName := ⟨RX10, "here", "()I"⟩
abbrev cX10_fails : ByteArray := prog_12_method_10_code
def yX10_fails : MethodName := ⟨RX10, "fails", "(II)I"⟩
abbrev cX10_readWord : ByteArray := prog_12_method_11_code
def yX10_readWord : MethodName := ⟨RX10, "readWord", "()V"⟩
abbrev cX10_code : ByteArray := prog_12_method_12_code
def yX10_code : MethodName := ⟨RX10, "code", "(III)J"⟩
abbrev cX10_longer : ByteArray := prog_12_method_13_code
def yX10_longer : MethodName := ⟨RX10, "longer", "(JII)J"⟩
abbrev cX10_takeNumber : ByteArray := prog_12_method_14_code
def yX10_takeNumber : MethodName := ⟨RX10, "takeNumber", "(II)I"⟩
abbrev cX10_into : ByteArray := prog_12_method_15_code
def yX10_into : MethodName := ⟨RX10, "into", "([IIII)I"⟩
abbrev cX10_takeWay : ByteArray := prog_12_method_16_code
def yX10_takeWay : MethodName := ⟨RX10, "takeWay", "()I"⟩
abbrev cX10_takeHabit : ByteArray := prog_12_method_17_code
def yX10_takeHabit : MethodName := ⟨RX10, "takeHabit", "()I"⟩
abbrev cX10_takeKnows : ByteArray := prog_12_method_18_code
def yX10_takeKnows : MethodName := ⟨RX10, "takeKnows", "()I"⟩
abbrev cX10_takePerson : ByteArray := prog_12_method_19_code
def yX10_takePerson : MethodName := ⟨RX10, "takePerson", "()I"⟩
abbrev cX10_takeClause : ByteArray := prog_12_method_20_code
def yX10_takeClause : MethodName := ⟨RX10, "takeClause", "()I"⟩
abbrev cX10_land : ByteArray := prog_12_method_21_code
def yX10_land : MethodName := ⟨RX10, "land", "()I"⟩
abbrev cX10_fault : ByteArray := prog_12_method_22_code
def yX10_fault : MethodName := ⟨RX10, "fault", "()I"⟩
abbrev cX10_told : ByteArray := prog_12_method_23_code
def yX10_told : MethodName := ⟨RX10, "told", "(I)I"⟩
abbrev cX10_way : ByteArray := prog_12_method_24_code
def yX10_way : MethodName := ⟨RX10, "way", "(II)I"⟩
abbrev cX10_person : ByteArray := prog_12_method_25_code
def yX10_person : MethodName := ⟨RX10, "person", "(II)I"⟩
abbrev cX10_law : ByteArray := prog_12_method_26_code
def yX10_law : MethodName := ⟨RX10, "law", "(I)I"⟩
abbrev cX10_learn : ByteArray := prog_12_method_27_code
def yX10_learn : MethodName := ⟨RX10, "learn", "(IIZ)I"⟩
abbrev cX10_habit : ByteArray := prog_12_method_28_code
def yX10_habit : MethodName := ⟨RX10, "habit", "(II)I"⟩
abbrev cX10_findNeeds : ByteArray := prog_12_method_29_code
def yX10_findNeeds : MethodName := ⟨RX10, "findNeeds", "(II)V"⟩
abbrev cX10_findRoute : ByteArray := prog_12_method_30_code
def yX10_findRoute : MethodName := ⟨RX10, "findRoute", "(III)I"⟩
abbrev cX10_far : ByteArray := prog_12_method_31_code
def yX10_far : MethodName := ⟨RX10, "far", "(II)I"⟩
abbrev cX10_isAsked : ByteArray := prog_12_method_32_code
def yX10_isAsked : MethodName := ⟨RX10, "isAsked", "(III)Z"⟩
abbrev cX10_route : ByteArray := prog_12_method_33_code
def yX10_route : MethodName := ⟨RX10, "route", "(IIII)I"⟩
abbrev cX10_endOf : ByteArray := prog_12_method_34_code
def yX10_endOf : MethodName := ⟨RX10, "endOf", "(II)I"⟩
abbrev cX10_longOf : ByteArray := prog_12_method_35_code
def yX10_longOf : MethodName := ⟨RX10, "longOf", "(I)I"⟩
abbrev cX10_outOf : ByteArray := prog_12_method_36_code
def yX10_outOf : MethodName := ⟨RX10, "outOf", "(I)I"⟩
abbrev cX10_walked : ByteArray := prog_12_method_37_code
def yX10_walked : MethodName := ⟨RX10, "walked", "(I)I"⟩
abbrev cX10_stands : ByteArray := prog_12_method_38_code
def yX10_stands : MethodName := ⟨RX10, "stands", "(II)I"⟩
abbrev cX10_saidBy : ByteArray := prog_12_method_39_code
def yX10_saidBy : MethodName := ⟨RX10, "saidBy", "(III)I"⟩
abbrev cX10_says : ByteArray := prog_12_method_40_code
def yX10_says : MethodName := ⟨RX10, "says", "(IIII)I"⟩
abbrev cX10_gainOf : ByteArray := prog_12_method_41_code
def yX10_gainOf : MethodName := ⟨RX10, "gainOf", "(III)I"⟩
abbrev cX10_ownBy : ByteArray := prog_12_method_42_code
def yX10_ownBy : MethodName := ⟨RX10, "ownBy", "(III)I"⟩
abbrev cX10_own : ByteArray := prog_12_method_43_code
def yX10_own : MethodName := ⟨RX10, "own", "(IIII)I"⟩
abbrev cX10_findEnds : ByteArray := prog_12_method_44_code
def yX10_findEnds : MethodName := ⟨RX10, "findEnds", "(IZ)V"⟩
abbrev cX10_leads : ByteArray := prog_12_method_45_code
def yX10_leads : MethodName := ⟨RX10, "leads", "(III)Z"⟩
abbrev cX10_led : ByteArray := prog_12_method_46_code
def yX10_led : MethodName := ⟨RX10, "led", "(IIZI)I"⟩
abbrev cX10_findSoon : ByteArray := prog_12_method_47_code
def yX10_findSoon : MethodName := ⟨RX10, "findSoon", "(I)V"⟩
abbrev cX10_soonestOf : ByteArray := prog_12_method_48_code
def yX10_soonestOf : MethodName := ⟨RX10, "soonestOf", "(II)I"⟩
abbrev cX10_soonest : ByteArray := prog_12_method_49_code
def yX10_soonest : MethodName := ⟨RX10, "soonest", "(II)I"⟩
abbrev cX10_guide : ByteArray := prog_12_method_50_code
def yX10_guide : MethodName := ⟨RX10, "guide", "(III)I"⟩
abbrev cX10_addLot : ByteArray := prog_12_method_51_code
def yX10_addLot : MethodName := ⟨RX10, "addLot", "(IIIJ)V"⟩
abbrev cX10_countLeads : ByteArray := prog_12_method_52_code
def yX10_countLeads : MethodName := ⟨RX10, "countLeads", "(II)I"⟩
abbrev cX10_lot : ByteArray := prog_12_method_53_code
def yX10_lot : MethodName := ⟨RX10, "lot", "(III)I"⟩
abbrev cX10_say : ByteArray := prog_12_method_54_code
def yX10_say : MethodName := ⟨RX10, "say", "(III)I"⟩
abbrev cX10_teach : ByteArray := prog_12_method_55_code
def yX10_teach : MethodName := ⟨RX10, "teach", "(IZ)V"⟩
abbrev cX10_isOpen : ByteArray := prog_12_method_56_code
def yX10_isOpen : MethodName := ⟨RX10, "isOpen", "(I)Z"⟩
abbrev cX10_isSoon : ByteArray := prog_12_method_57_code
def yX10_isSoon : MethodName := ⟨RX10, "isSoon", "(III)Z"⟩
abbrev cX10_findLearnt : ByteArray := prog_12_method_58_code
def yX10_findLearnt : MethodName := ⟨RX10, "findLearnt", "(III)I"⟩
abbrev cX10_learnt : ByteArray := prog_12_method_59_code
def yX10_learnt : MethodName := ⟨RX10, "learnt", "(IIII)I"⟩
abbrev cX10_missingOf : ByteArray := prog_12_method_60_code
def yX10_missingOf : MethodName := ⟨RX10, "missingOf", "(II)I"⟩
abbrev cX10_missing : ByteArray := prog_12_method_61_code
def yX10_missing : MethodName := ⟨RX10, "missing", "(II)I"⟩
abbrev cX10_lack : ByteArray := prog_12_method_62_code
def yX10_lack : MethodName := ⟨RX10, "lack", "(II)I"⟩
abbrev cX10_fits : ByteArray := prog_12_method_63_code
def yX10_fits : MethodName := ⟨RX10, "fits", "()I"⟩
abbrev cX10_log : ByteArray := prog_12_method_64_code
def yX10_log : MethodName := ⟨RX10, "log", "(IIII)I"⟩
abbrev cX10_clear : ByteArray := prog_12_method_65_code
def yX10_clear : MethodName := ⟨RX10, "clear", "()I"⟩
abbrev cX10_mayBe : ByteArray := prog_12_method_66_code
def yX10_mayBe : MethodName := ⟨RX10, "mayBe", "(I)Z"⟩
abbrev cX10_judge : ByteArray := prog_12_method_67_code
def yX10_judge : MethodName := ⟨RX10, "judge", "()I"⟩
abbrev cX10_draw : ByteArray := prog_12_method_68_code
def yX10_draw : MethodName := ⟨RX10, "draw", "(I)I"⟩
abbrev cX10_strangerBy : ByteArray := prog_12_method_69_code
def yX10_strangerBy : MethodName := ⟨RX10, "strangerBy", "()I"⟩
abbrev cX10_drift : ByteArray := prog_12_method_70_code
def yX10_drift : MethodName := ⟨RX10, "drift", "(II)I"⟩
abbrev cX10_seed : ByteArray := prog_12_method_71_code
def yX10_seed : MethodName := ⟨RX10, "seed", "(I)I"⟩
abbrev cX10_keep : ByteArray := prog_12_method_72_code
def yX10_keep : MethodName := ⟨RX10, "keep", "(I)I"⟩
abbrev cX10_goBack : ByteArray := prog_12_method_73_code
def yX10_goBack : MethodName := ⟨RX10, "goBack", "(I)I"⟩
def RJx145de : String := "java/io/Serializable"
def TJx145de : u_T := fun k => match k with
  | _ => ("", "", "", false)
def tyJx145de : Nat → FieldType := fun k => match k with
  | _ => .int
abbrev wsJx145de0 : List Cond := u_ws RJx145de TJx145de 0
theorem nmJx145de : ∀ a, a < 0 → ∀ b, b < 0 → a ≠ b → (TJx145de a).2.1 ≠ (TJx145de b).2.1 := by decide +kernel
theorem tyJx145de_ok : ∀ k, k < 0 → parseFieldDescriptor (TJx145de k).2.2.1 = some (tyJx145de k) := by decide +kernel
def RJx9f9b0 : String := "java/lang/CharSequence"
def TJx9f9b0 : u_T := fun k => match k with
  | _ => ("", "", "", false)
def tyJx9f9b0 : Nat → FieldType := fun k => match k with
  | _ => .int
abbrev wsJx9f9b00 : List Cond := u_ws RJx9f9b0 TJx9f9b0 0
theorem nmJx9f9b0 : ∀ a, a < 0 → ∀ b, b < 0 → a ≠ b → (TJx9f9b0 a).2.1 ≠ (TJx9f9b0 b).2.1 := by decide +kernel
theorem tyJx9f9b0_ok : ∀ k, k < 0 → parseFieldDescriptor (TJx9f9b0 k).2.2.1 = some (tyJx9f9b0 k) := by decide +kernel
def RJxb160c : String := "java/lang/Comparable"
def TJxb160c : u_T := fun k => match k with
  | _ => ("", "", "", false)
def tyJxb160c : Nat → FieldType := fun k => match k with
  | _ => .int
abbrev wsJxb160c0 : List Cond := u_ws RJxb160c TJxb160c 0
theorem nmJxb160c : ∀ a, a < 0 → ∀ b, b < 0 → a ≠ b → (TJxb160c a).2.1 ≠ (TJxb160c b).2.1 := by decide +kernel
theorem tyJxb160c_ok : ∀ k, k < 0 → parseFieldDescriptor (TJxb160c k).2.2.1 = some (tyJxb160c k) := by decide +kernel
def RJ9 : String := "java/lang/Math"
def TJ9 : u_T := fun k => match k with
  | _ => ("", "", "", false)
def tyJ9 : Nat → FieldType := fun k => match k with
  | _ => .int
abbrev wsJ90 : List Cond := u_ws RJ9 TJ9 0
theorem nmJ9 : ∀ a, a < 0 → ∀ b, b < 0 → a ≠ b → (TJ9 a).2.1 ≠ (TJ9 b).2.1 := by decide +kernel
theorem tyJ9_ok : ∀ k, k < 0 → parseFieldDescriptor (TJ9 k).2.2.1 = some (tyJ9 k) := by decide +kernel
abbrev cJ9_max_7cf53 : ByteArray := prog_13_method_65_code
def yJ9_max_7cf53 : MethodName := ⟨RJ9, "max", "(II)I"⟩
abbrev cJ9_min_7cf53 : ByteArray := prog_13_method_69_code
def yJ9_min_7cf53 : MethodName := ⟨RJ9, "min", "(II)I"⟩
def RJ0 : String := "java/lang/String"
def TJ0 : u_T := fun k => match k with
  | _ => ("", "", "", false)
def tyJ0 : Nat → FieldType := fun k => match k with
  | _ => .int
abbrev wsJ00 : List Cond := u_ws RJ0 TJ0 0
theorem nmJ0 : ∀ a, a < 0 → ∀ b, b < 0 → a ≠ b → (TJ0 a).2.1 ≠ (TJ0 b).2.1 := by decide +kernel
theorem tyJ0_ok : ∀ k, k < 0 → parseFieldDescriptor (TJ0 k).2.2.1 = some (tyJ0 k) := by decide +kernel
abbrev cJ0_length_8abf5 : ByteArray := prog_14_method_54_code
def yJ0_length_8abf5 : MethodName := ⟨RJ0, "length", "()I"⟩
abbrev cJ0_charAt_5068e : ByteArray := prog_14_method_56_code
def yJ0_charAt_5068e : MethodName := ⟨RJ0, "charAt", "(I)C"⟩
abbrev cJ0_coder_7d493 : ByteArray := prog_14_method_152_code
def yJ0_coder_7d493 : MethodName := ⟨RJ0, "coder", "()B"⟩
abbrev cJ0_isLatin1_aae02 : ByteArray := prog_14_method_154_code
def yJ0_isLatin1_aae02 : MethodName := ⟨RJ0, "isLatin1", "()Z"⟩
abbrev cJ0_checkIndex_df160 : ByteArray := prog_14_method_155_code
def yJ0_checkIndex_df160 : MethodName := ⟨RJ0, "checkIndex", "(II)V"⟩
def RJ1 : String := "java/lang/StringLatin1"
def TJ1 : u_T := fun k => match k with
  | _ => ("", "", "", false)
def tyJ1 : Nat → FieldType := fun k => match k with
  | _ => .int
abbrev wsJ10 : List Cond := u_ws RJ1 TJ1 0
theorem nmJ1 : ∀ a, a < 0 → ∀ b, b < 0 → a ≠ b → (TJ1 a).2.1 ≠ (TJ1 b).2.1 := by decide +kernel
theorem tyJ1_ok : ∀ k, k < 0 → parseFieldDescriptor (TJ1 k).2.2.1 = some (tyJ1 k) := by decide +kernel
abbrev cJ1_charAt_3b067 : ByteArray := prog_15_method_2_code
def yJ1_charAt_3b067 : MethodName := ⟨RJ1, "charAt", "([BI)C"⟩
def RJ2 : String := "java/lang/StringUTF16"
def TJ2 : u_T := fun k => match k with
  | _ => ("", "", "", false)
def tyJ2 : Nat → FieldType := fun k => match k with
  | _ => .int
abbrev wsJ20 : List Cond := u_ws RJ2 TJ2 0
theorem nmJ2 : ∀ a, a < 0 → ∀ b, b < 0 → a ≠ b → (TJ2 a).2.1 ≠ (TJ2 b).2.1 := by decide +kernel
theorem tyJ2_ok : ∀ k, k < 0 → parseFieldDescriptor (TJ2 k).2.2.1 = some (tyJ2 k) := by decide +kernel
abbrev cJ2_getChar_3b067 : ByteArray := prog_16_method_5_code
def yJ2_getChar_3b067 : MethodName := ⟨RJ2, "getChar", "([BI)C"⟩
abbrev cJ2_length_9d52b : ByteArray := prog_16_method_6_code
def yJ2_length_9d52b : MethodName := ⟨RJ2, "length", "([B)I"⟩
abbrev cJ2_charAt_3b067 : ByteArray := prog_16_method_83_code
def yJ2_charAt_3b067 : MethodName := ⟨RJ2, "charAt", "([BI)C"⟩
abbrev cJ2_checkIndex_2214a : ByteArray := prog_16_method_91_code
def yJ2_checkIndex_2214a : MethodName := ⟨RJ2, "checkIndex", "(I[B)V"⟩
def RJ10 : String := "java/lang/System"
def TJ10 : u_T := fun k => match k with
  | _ => ("", "", "", false)
def tyJ10 : Nat → FieldType := fun k => match k with
  | _ => .int
abbrev wsJ100 : List Cond := u_ws RJ10 TJ10 0
theorem nmJ10 : ∀ a, a < 0 → ∀ b, b < 0 → a ≠ b → (TJ10 a).2.1 ≠ (TJ10 b).2.1 := by decide +kernel
theorem tyJ10_ok : ∀ k, k < 0 → parseFieldDescriptor (TJ10 k).2.2.1 = some (tyJ10 k) := by decide +kernel
def RJxfd54e : String := "java/lang/constant/Constable"
def TJxfd54e : u_T := fun k => match k with
  | _ => ("", "", "", false)
def tyJxfd54e : Nat → FieldType := fun k => match k with
  | _ => .int
abbrev wsJxfd54e0 : List Cond := u_ws RJxfd54e TJxfd54e 0
theorem nmJxfd54e : ∀ a, a < 0 → ∀ b, b < 0 → a ≠ b → (TJxfd54e a).2.1 ≠ (TJxfd54e b).2.1 := by decide +kernel
theorem tyJxfd54e_ok : ∀ k, k < 0 → parseFieldDescriptor (TJxfd54e k).2.2.1 = some (tyJxfd54e k) := by decide +kernel
def RJx3cf43 : String := "java/lang/constant/ConstantDesc"
def TJx3cf43 : u_T := fun k => match k with
  | _ => ("", "", "", false)
def tyJx3cf43 : Nat → FieldType := fun k => match k with
  | _ => .int
abbrev wsJx3cf430 : List Cond := u_ws RJx3cf43 TJx3cf43 0
theorem nmJx3cf43 : ∀ a, a < 0 → ∀ b, b < 0 → a ≠ b → (TJx3cf43 a).2.1 ≠ (TJx3cf43 b).2.1 := by decide +kernel
theorem tyJx3cf43_ok : ∀ k, k < 0 → parseFieldDescriptor (TJx3cf43 k).2.2.1 = some (tyJx3cf43 k) := by decide +kernel
def RJ7 : String := "java/util/Arrays"
def TJ7 : u_T := fun k => match k with
  | _ => ("", "", "", false)
def tyJ7 : Nat → FieldType := fun k => match k with
  | _ => .int
abbrev wsJ70 : List Cond := u_ws RJ7 TJ7 0
theorem nmJ7 : ∀ a, a < 0 → ∀ b, b < 0 → a ≠ b → (TJ7 a).2.1 ≠ (TJ7 b).2.1 := by decide +kernel
theorem tyJ7_ok : ∀ k, k < 0 → parseFieldDescriptor (TJ7 k).2.2.1 = some (tyJ7 k) := by decide +kernel
abbrev cJ7_fill_53178 : ByteArray := prog_18_method_103_code
def yJ7_fill_53178 : MethodName := ⟨RJ7, "fill", "([II)V"⟩
def RJ3 : String := "jdk/internal/util/Preconditions"
def TJ3 : u_T := fun k => match k with
  | _ => ("", "", "", false)
def tyJ3 : Nat → FieldType := fun k => match k with
  | _ => .int
abbrev wsJ30 : List Cond := u_ws RJ3 TJ3 0
theorem nmJ3 : ∀ a, a < 0 → ∀ b, b < 0 → a ≠ b → (TJ3 a).2.1 ≠ (TJ3 b).2.1 := by decide +kernel
theorem tyJ3_ok : ∀ k, k < 0 → parseFieldDescriptor (TJ3 k).2.2.1 = some (tyJ3 k) := by decide +kernel
abbrev cJ3_checkIndex_8e157 : ByteArray := prog_19_method_11_code
def yJ3_checkIndex_8e157 : MethodName := ⟨RJ3, "checkIndex", "(IILjava/util/function/BiFunction;)I"⟩
def RL : String := "ToldWaysLaw"
abbrev cL_law : ByteArray := code
def yL_law : MethodName := ⟨RL, "law", "([I)Z"⟩
end
section
theorem dJ0_length_8abf5_0 : decode cJ0_length_8abf5 0 = .ok (.aload_n 0, 1) := by decide +kernel
theorem dJ0_length_8abf5_1 : decode cJ0_length_8abf5 1 = .ok (.getfield 9, 3) := by decide +kernel
theorem dJ0_length_8abf5_4 : decode cJ0_length_8abf5 4 = .ok (.arraylength, 1) := by decide +kernel
theorem dJ0_length_8abf5_5 : decode cJ0_length_8abf5 5 = .ok (.aload_n 0, 1) := by decide +kernel
theorem dJ0_length_8abf5_6 : decode cJ0_length_8abf5 6 = .ok (.invokevirtual 335, 3) := by decide +kernel
theorem dJ0_length_8abf5_9 : decode cJ0_length_8abf5 9 = .ok (.ishr, 1) := by decide +kernel
theorem dJ0_length_8abf5_10 : decode cJ0_length_8abf5 10 = .ok (.ireturn, 1) := by decide +kernel
theorem dJ0_charAt_5068e_0 : decode cJ0_charAt_5068e 0 = .ok (.aload_n 0, 1) := by decide +kernel
theorem dJ0_charAt_5068e_1 : decode cJ0_charAt_5068e 1 = .ok (.invokevirtual 492, 3) := by decide +kernel
theorem dJ0_charAt_5068e_4 : decode cJ0_charAt_5068e 4 = .ok (.ifCond .eq 12, 3) := by decide +kernel
theorem dJ0_charAt_5068e_7 : decode cJ0_charAt_5068e 7 = .ok (.aload_n 0, 1) := by decide +kernel
theorem dJ0_charAt_5068e_8 : decode cJ0_charAt_5068e 8 = .ok (.getfield 9, 3) := by decide +kernel
theorem dJ0_charAt_5068e_11 : decode cJ0_charAt_5068e 11 = .ok (.iload_n 1, 1) := by decide +kernel
theorem dJ0_charAt_5068e_12 : decode cJ0_charAt_5068e 12 = .ok (.invokestatic 495, 3) := by decide +kernel
theorem dJ0_charAt_5068e_15 : decode cJ0_charAt_5068e 15 = .ok (.ireturn, 1) := by decide +kernel
theorem dJ0_charAt_5068e_16 : decode cJ0_charAt_5068e 16 = .ok (.aload_n 0, 1) := by decide +kernel
theorem dJ0_charAt_5068e_17 : decode cJ0_charAt_5068e 17 = .ok (.getfield 9, 3) := by decide +kernel
theorem dJ0_charAt_5068e_20 : decode cJ0_charAt_5068e 20 = .ok (.iload_n 1, 1) := by decide +kernel
theorem dJ0_charAt_5068e_21 : decode cJ0_charAt_5068e 21 = .ok (.invokestatic 498, 3) := by decide +kernel
theorem dJ0_charAt_5068e_24 : decode cJ0_charAt_5068e 24 = .ok (.ireturn, 1) := by decide +kernel
theorem dJ0_coder_7d493_0 : decode cJ0_coder_7d493 0 = .ok (.getstatic 38, 3) := by decide +kernel
theorem dJ0_coder_7d493_3 : decode cJ0_coder_7d493 3 = .ok (.ifCond .eq 10, 3) := by decide +kernel
theorem dJ0_coder_7d493_6 : decode cJ0_coder_7d493 6 = .ok (.aload_n 0, 1) := by decide +kernel
theorem dJ0_coder_7d493_7 : decode cJ0_coder_7d493 7 = .ok (.getfield 15, 3) := by decide +kernel
theorem dJ0_coder_7d493_10 : decode cJ0_coder_7d493 10 = .ok (.goto 4, 3) := by decide +kernel
theorem dJ0_coder_7d493_13 : decode cJ0_coder_7d493 13 = .ok (.iconst 1, 1) := by decide +kernel
theorem dJ0_coder_7d493_14 : decode cJ0_coder_7d493 14 = .ok (.ireturn, 1) := by decide +kernel
theorem dJ0_isLatin1_aae02_0 : decode cJ0_isLatin1_aae02 0 = .ok (.getstatic 38, 3) := by decide +kernel
theorem dJ0_isLatin1_aae02_3 : decode cJ0_isLatin1_aae02 3 = .ok (.ifCond .eq 14, 3) := by decide +kernel
theorem dJ0_isLatin1_aae02_6 : decode cJ0_isLatin1_aae02 6 = .ok (.aload_n 0, 1) := by decide +kernel
theorem dJ0_isLatin1_aae02_7 : decode cJ0_isLatin1_aae02 7 = .ok (.getfield 15, 3) := by decide +kernel
theorem dJ0_isLatin1_aae02_10 : decode cJ0_isLatin1_aae02 10 = .ok (.ifCond .ne 7, 3) := by decide +kernel
theorem dJ0_isLatin1_aae02_13 : decode cJ0_isLatin1_aae02 13 = .ok (.iconst 1, 1) := by decide +kernel
theorem dJ0_isLatin1_aae02_14 : decode cJ0_isLatin1_aae02 14 = .ok (.goto 4, 3) := by decide +kernel
theorem dJ0_isLatin1_aae02_17 : decode cJ0_isLatin1_aae02 17 = .ok (.iconst 0, 1) := by decide +kernel
theorem dJ0_isLatin1_aae02_18 : decode cJ0_isLatin1_aae02 18 = .ok (.ireturn, 1) := by decide +kernel
theorem dJ0_checkIndex_df160_0 : decode cJ0_checkIndex_df160 0 = .ok (.iload_n 0, 1) := by decide +kernel
theorem dJ0_checkIndex_df160_1 : decode cJ0_checkIndex_df160 1 = .ok (.iload_n 1, 1) := by decide +kernel
theorem dJ0_checkIndex_df160_2 : decode cJ0_checkIndex_df160 2 = .ok (.getstatic 1053, 3) := by decide +kernel
theorem dJ0_checkIndex_df160_5 : decode cJ0_checkIndex_df160 5 = .ok (.invokestatic 1059, 3) := by decide +kernel
theorem dJ0_checkIndex_df160_8 : decode cJ0_checkIndex_df160 8 = .ok (.pop, 1) := by decide +kernel
theorem dJ0_checkIndex_df160_9 : decode cJ0_checkIndex_df160 9 = .ok (.return_, 1) := by decide +kernel
theorem dJ1_charAt_3b067_0 : decode cJ1_charAt_3b067 0 = .ok (.iload_n 1, 1) := by decide +kernel
theorem dJ1_charAt_3b067_1 : decode cJ1_charAt_3b067 1 = .ok (.aload_n 0, 1) := by decide +kernel
theorem dJ1_charAt_3b067_2 : decode cJ1_charAt_3b067 2 = .ok (.arraylength, 1) := by decide +kernel
theorem dJ1_charAt_3b067_3 : decode cJ1_charAt_3b067 3 = .ok (.invokestatic 9, 3) := by decide +kernel
theorem dJ1_charAt_3b067_6 : decode cJ1_charAt_3b067 6 = .ok (.aload_n 0, 1) := by decide +kernel
theorem dJ1_charAt_3b067_7 : decode cJ1_charAt_3b067 7 = .ok (.iload_n 1, 1) := by decide +kernel
theorem dJ1_charAt_3b067_8 : decode cJ1_charAt_3b067 8 = .ok (.baload, 1) := by decide +kernel
theorem dJ1_charAt_3b067_9 : decode cJ1_charAt_3b067 9 = .ok (.sipush 255, 3) := by decide +kernel
theorem dJ1_charAt_3b067_12 : decode cJ1_charAt_3b067 12 = .ok (.iand, 1) := by decide +kernel
theorem dJ1_charAt_3b067_13 : decode cJ1_charAt_3b067 13 = .ok (.i2c, 1) := by decide +kernel
theorem dJ1_charAt_3b067_14 : decode cJ1_charAt_3b067 14 = .ok (.ireturn, 1) := by decide +kernel
theorem dJ2_getChar_3b067_0 : decode cJ2_getChar_3b067 0 = .ok (.getstatic 44, 3) := by decide +kernel
theorem dJ2_getChar_3b067_3 : decode cJ2_getChar_3b067 3 = .ok (.ifCond .ne 25, 3) := by decide +kernel
theorem dJ2_getChar_3b067_6 : decode cJ2_getChar_3b067 6 = .ok (.iload_n 1, 1) := by decide +kernel
theorem dJ2_getChar_3b067_7 : decode cJ2_getChar_3b067 7 = .ok (.ifCond .lt 11, 3) := by decide +kernel
theorem dJ2_getChar_3b067_10 : decode cJ2_getChar_3b067 10 = .ok (.iload_n 1, 1) := by decide +kernel
theorem dJ2_getChar_3b067_11 : decode cJ2_getChar_3b067 11 = .ok (.aload_n 0, 1) := by decide +kernel
theorem dJ2_getChar_3b067_12 : decode cJ2_getChar_3b067 12 = .ok (.invokestatic 48, 3) := by decide +kernel
theorem dJ2_getChar_3b067_15 : decode cJ2_getChar_3b067 15 = .ok (.if_icmp .lt 13, 3) := by decide +kernel
theorem dJ2_getChar_3b067_18 : decode cJ2_getChar_3b067 18 = .ok (.new 52, 3) := by decide +kernel
theorem dJ2_getChar_3b067_21 : decode cJ2_getChar_3b067 21 = .ok (.dup, 1) := by decide +kernel
theorem dJ2_getChar_3b067_22 : decode cJ2_getChar_3b067 22 = .ok (.ldc 54, 2) := by decide +kernel
theorem dJ2_getChar_3b067_24 : decode cJ2_getChar_3b067 24 = .ok (.invokespecial 56, 3) := by decide +kernel
theorem dJ2_getChar_3b067_27 : decode cJ2_getChar_3b067 27 = .ok (.athrow, 1) := by decide +kernel
theorem dJ2_getChar_3b067_28 : decode cJ2_getChar_3b067 28 = .ok (.iload_n 1, 1) := by decide +kernel
theorem dJ2_getChar_3b067_29 : decode cJ2_getChar_3b067 29 = .ok (.iconst 1, 1) := by decide +kernel
theorem dJ2_getChar_3b067_30 : decode cJ2_getChar_3b067 30 = .ok (.ishl, 1) := by decide +kernel
theorem dJ2_getChar_3b067_31 : decode cJ2_getChar_3b067 31 = .ok (.istore_n 1, 1) := by decide +kernel
theorem dJ2_getChar_3b067_32 : decode cJ2_getChar_3b067 32 = .ok (.aload_n 0, 1) := by decide +kernel
theorem dJ2_getChar_3b067_33 : decode cJ2_getChar_3b067 33 = .ok (.iload_n 1, 1) := by decide +kernel
theorem dJ2_getChar_3b067_34 : decode cJ2_getChar_3b067 34 = .ok (.iinc 1 1, 3) := by decide +kernel
theorem dJ2_getChar_3b067_37 : decode cJ2_getChar_3b067 37 = .ok (.baload, 1) := by decide +kernel
theorem dJ2_getChar_3b067_38 : decode cJ2_getChar_3b067 38 = .ok (.sipush 255, 3) := by decide +kernel
theorem dJ2_getChar_3b067_41 : decode cJ2_getChar_3b067 41 = .ok (.iand, 1) := by decide +kernel
theorem dJ2_getChar_3b067_42 : decode cJ2_getChar_3b067 42 = .ok (.getstatic 59, 3) := by decide +kernel
theorem dJ2_getChar_3b067_45 : decode cJ2_getChar_3b067 45 = .ok (.ishl, 1) := by decide +kernel
theorem dJ2_getChar_3b067_46 : decode cJ2_getChar_3b067 46 = .ok (.aload_n 0, 1) := by decide +kernel
theorem dJ2_getChar_3b067_47 : decode cJ2_getChar_3b067 47 = .ok (.iload_n 1, 1) := by decide +kernel
theorem dJ2_getChar_3b067_48 : decode cJ2_getChar_3b067 48 = .ok (.baload, 1) := by decide +kernel
theorem dJ2_getChar_3b067_49 : decode cJ2_getChar_3b067 49 = .ok (.sipush 255, 3) := by decide +kernel
theorem dJ2_getChar_3b067_52 : decode cJ2_getChar_3b067 52 = .ok (.iand, 1) := by decide +kernel
theorem dJ2_getChar_3b067_53 : decode cJ2_getChar_3b067 53 = .ok (.getstatic 63, 3) := by decide +kernel
theorem dJ2_getChar_3b067_56 : decode cJ2_getChar_3b067 56 = .ok (.ishl, 1) := by decide +kernel
theorem dJ2_getChar_3b067_57 : decode cJ2_getChar_3b067 57 = .ok (.ior, 1) := by decide +kernel
theorem dJ2_getChar_3b067_58 : decode cJ2_getChar_3b067 58 = .ok (.i2c, 1) := by decide +kernel
theorem dJ2_getChar_3b067_59 : decode cJ2_getChar_3b067 59 = .ok (.ireturn, 1) := by decide +kernel
theorem dJ2_length_9d52b_0 : decode cJ2_length_9d52b 0 = .ok (.aload_n 0, 1) := by decide +kernel
theorem dJ2_length_9d52b_1 : decode cJ2_length_9d52b 1 = .ok (.arraylength, 1) := by decide +kernel
theorem dJ2_length_9d52b_2 : decode cJ2_length_9d52b 2 = .ok (.iconst 1, 1) := by decide +kernel
theorem dJ2_length_9d52b_3 : decode cJ2_length_9d52b 3 = .ok (.ishr, 1) := by decide +kernel
theorem dJ2_length_9d52b_4 : decode cJ2_length_9d52b 4 = .ok (.ireturn, 1) := by decide +kernel
theorem dJ2_charAt_3b067_0 : decode cJ2_charAt_3b067 0 = .ok (.iload_n 1, 1) := by decide +kernel
theorem dJ2_charAt_3b067_1 : decode cJ2_charAt_3b067 1 = .ok (.aload_n 0, 1) := by decide +kernel
theorem dJ2_charAt_3b067_2 : decode cJ2_charAt_3b067 2 = .ok (.invokestatic 67, 3) := by decide +kernel
theorem dJ2_charAt_3b067_5 : decode cJ2_charAt_3b067 5 = .ok (.aload_n 0, 1) := by decide +kernel
theorem dJ2_charAt_3b067_6 : decode cJ2_charAt_3b067 6 = .ok (.iload_n 1, 1) := by decide +kernel
theorem dJ2_charAt_3b067_7 : decode cJ2_charAt_3b067 7 = .ok (.invokestatic 71, 3) := by decide +kernel
theorem dJ2_charAt_3b067_10 : decode cJ2_charAt_3b067 10 = .ok (.ireturn, 1) := by decide +kernel
theorem dJ2_checkIndex_2214a_0 : decode cJ2_checkIndex_2214a 0 = .ok (.iload_n 0, 1) := by decide +kernel
theorem dJ2_checkIndex_2214a_1 : decode cJ2_checkIndex_2214a 1 = .ok (.aload_n 1, 1) := by decide +kernel
theorem dJ2_checkIndex_2214a_2 : decode cJ2_checkIndex_2214a 2 = .ok (.invokestatic 48, 3) := by decide +kernel
theorem dJ2_checkIndex_2214a_5 : decode cJ2_checkIndex_2214a 5 = .ok (.invokestatic 414, 3) := by decide +kernel
theorem dJ2_checkIndex_2214a_8 : decode cJ2_checkIndex_2214a 8 = .ok (.return_, 1) := by decide +kernel
theorem dJ3_checkIndex_8e157_0 : decode cJ3_checkIndex_8e157 0 = .ok (.iload_n 0, 1) := by decide +kernel
theorem dJ3_checkIndex_8e157_1 : decode cJ3_checkIndex_8e157 1 = .ok (.ifCond .lt 8, 3) := by decide +kernel
theorem dJ3_checkIndex_8e157_4 : decode cJ3_checkIndex_8e157 4 = .ok (.iload_n 0, 1) := by decide +kernel
theorem dJ3_checkIndex_8e157_5 : decode cJ3_checkIndex_8e157 5 = .ok (.iload_n 1, 1) := by decide +kernel
theorem dJ3_checkIndex_8e157_6 : decode cJ3_checkIndex_8e157 6 = .ok (.if_icmp .lt 10, 3) := by decide +kernel
theorem dJ3_checkIndex_8e157_9 : decode cJ3_checkIndex_8e157 9 = .ok (.aload_n 2, 1) := by decide +kernel
theorem dJ3_checkIndex_8e157_10 : decode cJ3_checkIndex_8e157 10 = .ok (.iload_n 0, 1) := by decide +kernel
theorem dJ3_checkIndex_8e157_11 : decode cJ3_checkIndex_8e157 11 = .ok (.iload_n 1, 1) := by decide +kernel
theorem dJ3_checkIndex_8e157_12 : decode cJ3_checkIndex_8e157 12 = .ok (.invokestatic 95, 3) := by decide +kernel
theorem dJ3_checkIndex_8e157_15 : decode cJ3_checkIndex_8e157 15 = .ok (.athrow, 1) := by decide +kernel
theorem dJ3_checkIndex_8e157_16 : decode cJ3_checkIndex_8e157 16 = .ok (.iload_n 0, 1) := by decide +kernel
theorem dJ3_checkIndex_8e157_17 : decode cJ3_checkIndex_8e157 17 = .ok (.ireturn, 1) := by decide +kernel
theorem dJ7_fill_53178_0 : decode cJ7_fill_53178 0 = .ok (.iconst 0, 1) := by decide +kernel
theorem dJ7_fill_53178_1 : decode cJ7_fill_53178 1 = .ok (.istore_n 2, 1) := by decide +kernel
theorem dJ7_fill_53178_2 : decode cJ7_fill_53178 2 = .ok (.aload_n 0, 1) := by decide +kernel
theorem dJ7_fill_53178_3 : decode cJ7_fill_53178 3 = .ok (.arraylength, 1) := by decide +kernel
theorem dJ7_fill_53178_4 : decode cJ7_fill_53178 4 = .ok (.istore_n 3, 1) := by decide +kernel
theorem dJ7_fill_53178_5 : decode cJ7_fill_53178 5 = .ok (.iload_n 2, 1) := by decide +kernel
theorem dJ7_fill_53178_6 : decode cJ7_fill_53178 6 = .ok (.iload_n 3, 1) := by decide +kernel
theorem dJ7_fill_53178_7 : decode cJ7_fill_53178 7 = .ok (.if_icmp .ge 13, 3) := by decide +kernel
theorem dJ7_fill_53178_10 : decode cJ7_fill_53178 10 = .ok (.aload_n 0, 1) := by decide +kernel
theorem dJ7_fill_53178_11 : decode cJ7_fill_53178 11 = .ok (.iload_n 2, 1) := by decide +kernel
theorem dJ7_fill_53178_12 : decode cJ7_fill_53178 12 = .ok (.iload_n 1, 1) := by decide +kernel
theorem dJ7_fill_53178_13 : decode cJ7_fill_53178 13 = .ok (.iastore, 1) := by decide +kernel
theorem dJ7_fill_53178_14 : decode cJ7_fill_53178 14 = .ok (.iinc 2 1, 3) := by decide +kernel
theorem dJ7_fill_53178_17 : decode cJ7_fill_53178 17 = .ok (.goto (-12), 3) := by decide +kernel
theorem dJ7_fill_53178_20 : decode cJ7_fill_53178 20 = .ok (.return_, 1) := by decide +kernel
theorem dJ9_max_7cf53_0 : decode cJ9_max_7cf53 0 = .ok (.iload_n 0, 1) := by decide +kernel
theorem dJ9_max_7cf53_1 : decode cJ9_max_7cf53 1 = .ok (.iload_n 1, 1) := by decide +kernel
theorem dJ9_max_7cf53_2 : decode cJ9_max_7cf53 2 = .ok (.if_icmp .lt 7, 3) := by decide +kernel
theorem dJ9_max_7cf53_5 : decode cJ9_max_7cf53 5 = .ok (.iload_n 0, 1) := by decide +kernel
theorem dJ9_max_7cf53_6 : decode cJ9_max_7cf53 6 = .ok (.goto 4, 3) := by decide +kernel
theorem dJ9_max_7cf53_9 : decode cJ9_max_7cf53 9 = .ok (.iload_n 1, 1) := by decide +kernel
theorem dJ9_max_7cf53_10 : decode cJ9_max_7cf53 10 = .ok (.ireturn, 1) := by decide +kernel
theorem dJ9_min_7cf53_0 : decode cJ9_min_7cf53 0 = .ok (.iload_n 0, 1) := by decide +kernel
theorem dJ9_min_7cf53_1 : decode cJ9_min_7cf53 1 = .ok (.iload_n 1, 1) := by decide +kernel
theorem dJ9_min_7cf53_2 : decode cJ9_min_7cf53 2 = .ok (.if_icmp .gt 7, 3) := by decide +kernel
theorem dJ9_min_7cf53_5 : decode cJ9_min_7cf53 5 = .ok (.iload_n 0, 1) := by decide +kernel
theorem dJ9_min_7cf53_6 : decode cJ9_min_7cf53 6 = .ok (.goto 4, 3) := by decide +kernel
theorem dJ9_min_7cf53_9 : decode cJ9_min_7cf53 9 = .ok (.iload_n 1, 1) := by decide +kernel
theorem dJ9_min_7cf53_10 : decode cJ9_min_7cf53 10 = .ok (.ireturn, 1) := by decide +kernel
theorem dX0_init_0 : decode cX0_init 0 = .ok (.aload_n 0, 1) := by decide +kernel
theorem dX0_init_1 : decode cX0_init 1 = .ok (.invokespecial 1, 3) := by decide +kernel
theorem dX0_init_4 : decode cX0_init 4 = .ok (.return_, 1) := by decide +kernel
theorem dX0_next_0 : decode cX0_next 0 = .ok (.aload_n 0, 1) := by decide +kernel
theorem dX0_next_1 : decode cX0_next 1 = .ok (.aload_n 0, 1) := by decide +kernel
theorem dX0_next_2 : decode cX0_next 2 = .ok (.getfield 7, 3) := by decide +kernel
theorem dX0_next_5 : decode cX0_next 5 = .ok (.i2l, 1) := by decide +kernel
theorem dX0_next_6 : decode cX0_next 6 = .ok (.ldc2_w 13, 3) := by decide +kernel
theorem dX0_next_9 : decode cX0_next 9 = .ok (.lmul, 1) := by decide +kernel
theorem dX0_next_10 : decode cX0_next 10 = .ok (.ldc2_w 15, 3) := by decide +kernel
theorem dX0_next_13 : decode cX0_next 13 = .ok (.ladd, 1) := by decide +kernel
theorem dX0_next_14 : decode cX0_next 14 = .ok (.ldc2_w 17, 3) := by decide +kernel
theorem dX0_next_17 : decode cX0_next 17 = .ok (.land, 1) := by decide +kernel
theorem dX0_next_18 : decode cX0_next 18 = .ok (.l2i, 1) := by decide +kernel
theorem dX0_next_19 : decode cX0_next 19 = .ok (.putfield 7, 3) := by decide +kernel
theorem dX0_next_22 : decode cX0_next 22 = .ok (.iload_n 1, 1) := by decide +kernel
theorem dX0_next_23 : decode cX0_next 23 = .ok (.iconst 1, 1) := by decide +kernel
theorem dX0_next_24 : decode cX0_next 24 = .ok (.if_icmp .ge 7, 3) := by decide +kernel
theorem dX0_next_27 : decode cX0_next 27 = .ok (.iconst 0, 1) := by decide +kernel
theorem dX0_next_28 : decode cX0_next 28 = .ok (.goto 12, 3) := by decide +kernel
theorem dX0_next_31 : decode cX0_next 31 = .ok (.aload_n 0, 1) := by decide +kernel
theorem dX0_next_32 : decode cX0_next 32 = .ok (.getfield 7, 3) := by decide +kernel
theorem dX0_next_35 : decode cX0_next 35 = .ok (.ldc 19, 2) := by decide +kernel
theorem dX0_next_37 : decode cX0_next 37 = .ok (.idiv, 1) := by decide +kernel
theorem dX0_next_38 : decode cX0_next 38 = .ok (.iload_n 1, 1) := by decide +kernel
theorem dX0_next_39 : decode cX0_next 39 = .ok (.irem, 1) := by decide +kernel
theorem dX0_next_40 : decode cX0_next 40 = .ok (.ireturn, 1) := by decide +kernel
theorem dX2_init_0 : decode cX2_init 0 = .ok (.aload_n 0, 1) := by decide +kernel
theorem dX2_init_1 : decode cX2_init 1 = .ok (.invokespecial 3, 3) := by decide +kernel
theorem dX2_init_4 : decode cX2_init 4 = .ok (.aload_n 0, 1) := by decide +kernel
theorem dX2_init_5 : decode cX2_init 5 = .ok (.bipush 6, 2) := by decide +kernel
theorem dX2_init_7 : decode cX2_init 7 = .ok (.newarray .int, 2) := by decide +kernel
theorem dX2_init_9 : decode cX2_init 9 = .ok (.putfield 9, 3) := by decide +kernel
theorem dX2_init_12 : decode cX2_init 12 = .ok (.aload_n 0, 1) := by decide +kernel
theorem dX2_init_13 : decode cX2_init 13 = .ok (.bipush 6, 2) := by decide +kernel
theorem dX2_init_15 : decode cX2_init 15 = .ok (.newarray .int, 2) := by decide +kernel
theorem dX2_init_17 : decode cX2_init 17 = .ok (.putfield 15, 3) := by decide +kernel
theorem dX2_init_20 : decode cX2_init 20 = .ok (.return_, 1) := by decide +kernel
theorem dX3_init_0 : decode cX3_init 0 = .ok (.aload_n 0, 1) := by decide +kernel
theorem dX3_init_1 : decode cX3_init 1 = .ok (.invokespecial 3, 3) := by decide +kernel
theorem dX3_init_4 : decode cX3_init 4 = .ok (.aload_n 0, 1) := by decide +kernel
theorem dX3_init_5 : decode cX3_init 5 = .ok (.bipush 30, 2) := by decide +kernel
theorem dX3_init_7 : decode cX3_init 7 = .ok (.newarray .int, 2) := by decide +kernel
theorem dX3_init_9 : decode cX3_init 9 = .ok (.putfield 9, 3) := by decide +kernel
theorem dX3_init_12 : decode cX3_init 12 = .ok (.aload_n 0, 1) := by decide +kernel
theorem dX3_init_13 : decode cX3_init 13 = .ok (.bipush 30, 2) := by decide +kernel
theorem dX3_init_15 : decode cX3_init 15 = .ok (.newarray .int, 2) := by decide +kernel
theorem dX3_init_17 : decode cX3_init 17 = .ok (.putfield 15, 3) := by decide +kernel
theorem dX3_init_20 : decode cX3_init 20 = .ok (.aload_n 0, 1) := by decide +kernel
theorem dX3_init_21 : decode cX3_init 21 = .ok (.bipush 30, 2) := by decide +kernel
theorem dX3_init_23 : decode cX3_init 23 = .ok (.newarray .int, 2) := by decide +kernel
theorem dX3_init_25 : decode cX3_init 25 = .ok (.putfield 18, 3) := by decide +kernel
theorem dX3_init_28 : decode cX3_init 28 = .ok (.aload_n 0, 1) := by decide +kernel
theorem dX3_init_29 : decode cX3_init 29 = .ok (.bipush 30, 2) := by decide +kernel
theorem dX3_init_31 : decode cX3_init 31 = .ok (.newarray .int, 2) := by decide +kernel
theorem dX3_init_33 : decode cX3_init 33 = .ok (.putfield 21, 3) := by decide +kernel
theorem dX3_init_36 : decode cX3_init 36 = .ok (.aload_n 0, 1) := by decide +kernel
theorem dX3_init_37 : decode cX3_init 37 = .ok (.bipush 8, 2) := by decide +kernel
theorem dX3_init_39 : decode cX3_init 39 = .ok (.newarray .int, 2) := by decide +kernel
theorem dX3_init_41 : decode cX3_init 41 = .ok (.putfield 24, 3) := by decide +kernel
theorem dX3_init_44 : decode cX3_init 44 = .ok (.aload_n 0, 1) := by decide +kernel
theorem dX3_init_45 : decode cX3_init 45 = .ok (.bipush 8, 2) := by decide +kernel
theorem dX3_init_47 : decode cX3_init 47 = .ok (.newarray .int, 2) := by decide +kernel
theorem dX3_init_49 : decode cX3_init 49 = .ok (.putfield 27, 3) := by decide +kernel
theorem dX3_init_52 : decode cX3_init 52 = .ok (.return_, 1) := by decide +kernel
theorem dX3_addLogged_0 : decode cX3_addLogged 0 = .ok (.aload_n 0, 1) := by decide +kernel
theorem dX3_addLogged_1 : decode cX3_addLogged 1 = .ok (.getfield 30, 3) := by decide +kernel
theorem dX3_addLogged_4 : decode cX3_addLogged 4 = .ok (.bipush 30, 2) := by decide +kernel
theorem dX3_addLogged_6 : decode cX3_addLogged 6 = .ok (.if_icmp .lt 6, 3) := by decide +kernel
theorem dX3_addLogged_9 : decode cX3_addLogged 9 = .ok (.ldc 34, 2) := by decide +kernel
theorem dX3_addLogged_11 : decode cX3_addLogged 11 = .ok (.ireturn, 1) := by decide +kernel
theorem dX3_addLogged_12 : decode cX3_addLogged 12 = .ok (.aload_n 0, 1) := by decide +kernel
theorem dX3_addLogged_13 : decode cX3_addLogged 13 = .ok (.getfield 9, 3) := by decide +kernel
theorem dX3_addLogged_16 : decode cX3_addLogged 16 = .ok (.aload_n 0, 1) := by decide +kernel
theorem dX3_addLogged_17 : decode cX3_addLogged 17 = .ok (.getfield 30, 3) := by decide +kernel
theorem dX3_addLogged_20 : decode cX3_addLogged 20 = .ok (.iload_n 1, 1) := by decide +kernel
theorem dX3_addLogged_21 : decode cX3_addLogged 21 = .ok (.invokestatic 35, 3) := by decide +kernel
theorem dX3_addLogged_24 : decode cX3_addLogged 24 = .ok (.aload_n 0, 1) := by decide +kernel
theorem dX3_addLogged_25 : decode cX3_addLogged 25 = .ok (.getfield 15, 3) := by decide +kernel
theorem dX3_addLogged_28 : decode cX3_addLogged 28 = .ok (.aload_n 0, 1) := by decide +kernel
theorem dX3_addLogged_29 : decode cX3_addLogged 29 = .ok (.getfield 30, 3) := by decide +kernel
theorem dX3_addLogged_32 : decode cX3_addLogged 32 = .ok (.iload_n 2, 1) := by decide +kernel
theorem dX3_addLogged_33 : decode cX3_addLogged 33 = .ok (.invokestatic 35, 3) := by decide +kernel
theorem dX3_addLogged_36 : decode cX3_addLogged 36 = .ok (.aload_n 0, 1) := by decide +kernel
theorem dX3_addLogged_37 : decode cX3_addLogged 37 = .ok (.getfield 18, 3) := by decide +kernel
theorem dX3_addLogged_40 : decode cX3_addLogged 40 = .ok (.aload_n 0, 1) := by decide +kernel
theorem dX3_addLogged_41 : decode cX3_addLogged 41 = .ok (.getfield 30, 3) := by decide +kernel
theorem dX3_addLogged_44 : decode cX3_addLogged 44 = .ok (.iload_n 3, 1) := by decide +kernel
theorem dX3_addLogged_45 : decode cX3_addLogged 45 = .ok (.invokestatic 35, 3) := by decide +kernel
theorem dX3_addLogged_48 : decode cX3_addLogged 48 = .ok (.aload_n 0, 1) := by decide +kernel
theorem dX3_addLogged_49 : decode cX3_addLogged 49 = .ok (.getfield 21, 3) := by decide +kernel
theorem dX3_addLogged_52 : decode cX3_addLogged 52 = .ok (.aload_n 0, 1) := by decide +kernel
theorem dX3_addLogged_53 : decode cX3_addLogged 53 = .ok (.getfield 30, 3) := by decide +kernel
theorem dX3_addLogged_56 : decode cX3_addLogged 56 = .ok (.iload 4, 2) := by decide +kernel
theorem dX3_addLogged_58 : decode cX3_addLogged 58 = .ok (.invokestatic 35, 3) := by decide +kernel
theorem dX3_addLogged_61 : decode cX3_addLogged 61 = .ok (.aload_n 0, 1) := by decide +kernel
theorem dX3_addLogged_62 : decode cX3_addLogged 62 = .ok (.dup, 1) := by decide +kernel
theorem dX3_addLogged_63 : decode cX3_addLogged 63 = .ok (.getfield 30, 3) := by decide +kernel
theorem dX3_addLogged_66 : decode cX3_addLogged 66 = .ok (.iconst 1, 1) := by decide +kernel
theorem dX3_addLogged_67 : decode cX3_addLogged 67 = .ok (.iadd, 1) := by decide +kernel
theorem dX3_addLogged_68 : decode cX3_addLogged 68 = .ok (.putfield 30, 3) := by decide +kernel
theorem dX3_addLogged_71 : decode cX3_addLogged 71 = .ok (.aload_n 0, 1) := by decide +kernel
theorem dX3_addLogged_72 : decode cX3_addLogged 72 = .ok (.getfield 30, 3) := by decide +kernel
theorem dX3_addLogged_75 : decode cX3_addLogged 75 = .ok (.ireturn, 1) := by decide +kernel
theorem dX3_addMissed_0 : decode cX3_addMissed 0 = .ok (.aload_n 0, 1) := by decide +kernel
theorem dX3_addMissed_1 : decode cX3_addMissed 1 = .ok (.getfield 39, 3) := by decide +kernel
theorem dX3_addMissed_4 : decode cX3_addMissed 4 = .ok (.bipush 8, 2) := by decide +kernel
theorem dX3_addMissed_6 : decode cX3_addMissed 6 = .ok (.if_icmp .lt 6, 3) := by decide +kernel
theorem dX3_addMissed_9 : decode cX3_addMissed 9 = .ok (.ldc 34, 2) := by decide +kernel
theorem dX3_addMissed_11 : decode cX3_addMissed 11 = .ok (.ireturn, 1) := by decide +kernel
theorem dX3_addMissed_12 : decode cX3_addMissed 12 = .ok (.aload_n 0, 1) := by decide +kernel
theorem dX3_addMissed_13 : decode cX3_addMissed 13 = .ok (.getfield 24, 3) := by decide +kernel
theorem dX3_addMissed_16 : decode cX3_addMissed 16 = .ok (.aload_n 0, 1) := by decide +kernel
theorem dX3_addMissed_17 : decode cX3_addMissed 17 = .ok (.getfield 39, 3) := by decide +kernel
theorem dX3_addMissed_20 : decode cX3_addMissed 20 = .ok (.iload_n 1, 1) := by decide +kernel
theorem dX3_addMissed_21 : decode cX3_addMissed 21 = .ok (.invokestatic 35, 3) := by decide +kernel
theorem dX3_addMissed_24 : decode cX3_addMissed 24 = .ok (.aload_n 0, 1) := by decide +kernel
theorem dX3_addMissed_25 : decode cX3_addMissed 25 = .ok (.getfield 27, 3) := by decide +kernel
theorem dX3_addMissed_28 : decode cX3_addMissed 28 = .ok (.aload_n 0, 1) := by decide +kernel
theorem dX3_addMissed_29 : decode cX3_addMissed 29 = .ok (.getfield 39, 3) := by decide +kernel
theorem dX3_addMissed_32 : decode cX3_addMissed 32 = .ok (.iload_n 2, 1) := by decide +kernel
theorem dX3_addMissed_33 : decode cX3_addMissed 33 = .ok (.invokestatic 35, 3) := by decide +kernel
theorem dX3_addMissed_36 : decode cX3_addMissed 36 = .ok (.aload_n 0, 1) := by decide +kernel
theorem dX3_addMissed_37 : decode cX3_addMissed 37 = .ok (.dup, 1) := by decide +kernel
theorem dX3_addMissed_38 : decode cX3_addMissed 38 = .ok (.getfield 39, 3) := by decide +kernel
theorem dX3_addMissed_41 : decode cX3_addMissed 41 = .ok (.iconst 1, 1) := by decide +kernel
theorem dX3_addMissed_42 : decode cX3_addMissed 42 = .ok (.iadd, 1) := by decide +kernel
theorem dX3_addMissed_43 : decode cX3_addMissed 43 = .ok (.putfield 39, 3) := by decide +kernel
theorem dX3_addMissed_46 : decode cX3_addMissed 46 = .ok (.aload_n 0, 1) := by decide +kernel
theorem dX3_addMissed_47 : decode cX3_addMissed 47 = .ok (.getfield 39, 3) := by decide +kernel
theorem dX3_addMissed_50 : decode cX3_addMissed 50 = .ok (.ireturn, 1) := by decide +kernel
theorem dX3_forget_0 : decode cX3_forget 0 = .ok (.aload_n 0, 1) := by decide +kernel
theorem dX3_forget_1 : decode cX3_forget 1 = .ok (.iconst 0, 1) := by decide +kernel
theorem dX3_forget_2 : decode cX3_forget 2 = .ok (.putfield 30, 3) := by decide +kernel
theorem dX3_forget_5 : decode cX3_forget 5 = .ok (.aload_n 0, 1) := by decide +kernel
theorem dX3_forget_6 : decode cX3_forget 6 = .ok (.iconst 0, 1) := by decide +kernel
theorem dX3_forget_7 : decode cX3_forget 7 = .ok (.putfield 39, 3) := by decide +kernel
theorem dX3_forget_10 : decode cX3_forget 10 = .ok (.return_, 1) := by decide +kernel
theorem dX4_init_0 : decode cX4_init 0 = .ok (.aload_n 0, 1) := by decide +kernel
theorem dX4_init_1 : decode cX4_init 1 = .ok (.invokespecial 3, 3) := by decide +kernel
theorem dX4_init_4 : decode cX4_init 4 = .ok (.aload_n 0, 1) := by decide +kernel
theorem dX4_init_5 : decode cX4_init 5 = .ok (.bipush 14, 2) := by decide +kernel
theorem dX4_init_7 : decode cX4_init 7 = .ok (.newarray .int, 2) := by decide +kernel
theorem dX4_init_9 : decode cX4_init 9 = .ok (.putfield 9, 3) := by decide +kernel
theorem dX4_init_12 : decode cX4_init 12 = .ok (.aload_n 0, 1) := by decide +kernel
theorem dX4_init_13 : decode cX4_init 13 = .ok (.bipush 14, 2) := by decide +kernel
theorem dX4_init_15 : decode cX4_init 15 = .ok (.newarray .int, 2) := by decide +kernel
theorem dX4_init_17 : decode cX4_init 17 = .ok (.putfield 15, 3) := by decide +kernel
theorem dX4_init_20 : decode cX4_init 20 = .ok (.aload_n 0, 1) := by decide +kernel
theorem dX4_init_21 : decode cX4_init 21 = .ok (.bipush 14, 2) := by decide +kernel
theorem dX4_init_23 : decode cX4_init 23 = .ok (.newarray .int, 2) := by decide +kernel
theorem dX4_init_25 : decode cX4_init 25 = .ok (.putfield 18, 3) := by decide +kernel
theorem dX4_init_28 : decode cX4_init 28 = .ok (.aload_n 0, 1) := by decide +kernel
theorem dX4_init_29 : decode cX4_init 29 = .ok (.bipush 6, 2) := by decide +kernel
theorem dX4_init_31 : decode cX4_init 31 = .ok (.newarray .int, 2) := by decide +kernel
theorem dX4_init_33 : decode cX4_init 33 = .ok (.putfield 21, 3) := by decide +kernel
theorem dX4_init_36 : decode cX4_init 36 = .ok (.aload_n 0, 1) := by decide +kernel
theorem dX4_init_37 : decode cX4_init 37 = .ok (.bipush 6, 2) := by decide +kernel
theorem dX4_init_39 : decode cX4_init 39 = .ok (.newarray .int, 2) := by decide +kernel
theorem dX4_init_41 : decode cX4_init 41 = .ok (.putfield 24, 3) := by decide +kernel
theorem dX4_init_44 : decode cX4_init 44 = .ok (.aload_n 0, 1) := by decide +kernel
theorem dX4_init_45 : decode cX4_init 45 = .ok (.bipush 6, 2) := by decide +kernel
theorem dX4_init_47 : decode cX4_init 47 = .ok (.newarray .int, 2) := by decide +kernel
theorem dX4_init_49 : decode cX4_init 49 = .ok (.putfield 27, 3) := by decide +kernel
theorem dX4_init_52 : decode cX4_init 52 = .ok (.aload_n 0, 1) := by decide +kernel
theorem dX4_init_53 : decode cX4_init 53 = .ok (.bipush 6, 2) := by decide +kernel
theorem dX4_init_55 : decode cX4_init 55 = .ok (.newarray .int, 2) := by decide +kernel
theorem dX4_init_57 : decode cX4_init 57 = .ok (.putfield 30, 3) := by decide +kernel
theorem dX4_init_60 : decode cX4_init 60 = .ok (.aload_n 0, 1) := by decide +kernel
theorem dX4_init_61 : decode cX4_init 61 = .ok (.bipush 6, 2) := by decide +kernel
theorem dX4_init_63 : decode cX4_init 63 = .ok (.newarray .int, 2) := by decide +kernel
theorem dX4_init_65 : decode cX4_init 65 = .ok (.putfield 33, 3) := by decide +kernel
theorem dX4_init_68 : decode cX4_init 68 = .ok (.return_, 1) := by decide +kernel
theorem dX4_hasPlace_0 : decode cX4_hasPlace 0 = .ok (.iload_n 1, 1) := by decide +kernel
theorem dX4_hasPlace_1 : decode cX4_hasPlace 1 = .ok (.ifCond .lt 15, 3) := by decide +kernel
theorem dX4_hasPlace_4 : decode cX4_hasPlace 4 = .ok (.iload_n 1, 1) := by decide +kernel
theorem dX4_hasPlace_5 : decode cX4_hasPlace 5 = .ok (.aload_n 0, 1) := by decide +kernel
theorem dX4_hasPlace_6 : decode cX4_hasPlace 6 = .ok (.getfield 36, 3) := by decide +kernel
theorem dX4_hasPlace_9 : decode cX4_hasPlace 9 = .ok (.if_icmp .ge 7, 3) := by decide +kernel
theorem dX4_hasPlace_12 : decode cX4_hasPlace 12 = .ok (.iconst 1, 1) := by decide +kernel
theorem dX4_hasPlace_13 : decode cX4_hasPlace 13 = .ok (.goto 4, 3) := by decide +kernel
theorem dX4_hasPlace_16 : decode cX4_hasPlace 16 = .ok (.iconst 0, 1) := by decide +kernel
theorem dX4_hasPlace_17 : decode cX4_hasPlace 17 = .ok (.ireturn, 1) := by decide +kernel
theorem dX4_hasWay_0 : decode cX4_hasWay 0 = .ok (.iload_n 1, 1) := by decide +kernel
theorem dX4_hasWay_1 : decode cX4_hasWay 1 = .ok (.ifCond .lt 15, 3) := by decide +kernel
theorem dX4_hasWay_4 : decode cX4_hasWay 4 = .ok (.iload_n 1, 1) := by decide +kernel
theorem dX4_hasWay_5 : decode cX4_hasWay 5 = .ok (.aload_n 0, 1) := by decide +kernel
theorem dX4_hasWay_6 : decode cX4_hasWay 6 = .ok (.getfield 40, 3) := by decide +kernel
theorem dX4_hasWay_9 : decode cX4_hasWay 9 = .ok (.if_icmp .ge 7, 3) := by decide +kernel
theorem dX4_hasWay_12 : decode cX4_hasWay 12 = .ok (.iconst 1, 1) := by decide +kernel
theorem dX4_hasWay_13 : decode cX4_hasWay 13 = .ok (.goto 4, 3) := by decide +kernel
theorem dX4_hasWay_16 : decode cX4_hasWay 16 = .ok (.iconst 0, 1) := by decide +kernel
theorem dX4_hasWay_17 : decode cX4_hasWay 17 = .ok (.ireturn, 1) := by decide +kernel
theorem dX4_hasPerson_0 : decode cX4_hasPerson 0 = .ok (.iload_n 1, 1) := by decide +kernel
theorem dX4_hasPerson_1 : decode cX4_hasPerson 1 = .ok (.ifCond .lt 15, 3) := by decide +kernel
theorem dX4_hasPerson_4 : decode cX4_hasPerson 4 = .ok (.iload_n 1, 1) := by decide +kernel
theorem dX4_hasPerson_5 : decode cX4_hasPerson 5 = .ok (.aload_n 0, 1) := by decide +kernel
theorem dX4_hasPerson_6 : decode cX4_hasPerson 6 = .ok (.getfield 43, 3) := by decide +kernel
theorem dX4_hasPerson_9 : decode cX4_hasPerson 9 = .ok (.if_icmp .ge 7, 3) := by decide +kernel
theorem dX4_hasPerson_12 : decode cX4_hasPerson 12 = .ok (.iconst 1, 1) := by decide +kernel
theorem dX4_hasPerson_13 : decode cX4_hasPerson 13 = .ok (.goto 4, 3) := by decide +kernel
theorem dX4_hasPerson_16 : decode cX4_hasPerson 16 = .ok (.iconst 0, 1) := by decide +kernel
theorem dX4_hasPerson_17 : decode cX4_hasPerson 17 = .ok (.ireturn, 1) := by decide +kernel
theorem dX4_empty_0 : decode cX4_empty 0 = .ok (.aload_n 0, 1) := by decide +kernel
theorem dX4_empty_1 : decode cX4_empty 1 = .ok (.iconst 0, 1) := by decide +kernel
theorem dX4_empty_2 : decode cX4_empty 2 = .ok (.putfield 36, 3) := by decide +kernel
theorem dX4_empty_5 : decode cX4_empty 5 = .ok (.aload_n 0, 1) := by decide +kernel
theorem dX4_empty_6 : decode cX4_empty 6 = .ok (.iconst 0, 1) := by decide +kernel
theorem dX4_empty_7 : decode cX4_empty 7 = .ok (.putfield 40, 3) := by decide +kernel
theorem dX4_empty_10 : decode cX4_empty 10 = .ok (.aload_n 0, 1) := by decide +kernel
theorem dX4_empty_11 : decode cX4_empty 11 = .ok (.iconst 0, 1) := by decide +kernel
theorem dX4_empty_12 : decode cX4_empty 12 = .ok (.putfield 43, 3) := by decide +kernel
theorem dX4_empty_15 : decode cX4_empty 15 = .ok (.return_, 1) := by decide +kernel
theorem dX4_become_0 : decode cX4_become 0 = .ok (.aload_n 1, 1) := by decide +kernel
theorem dX4_become_1 : decode cX4_become 1 = .ok (.getfield 9, 3) := by decide +kernel
theorem dX4_become_4 : decode cX4_become 4 = .ok (.aload_n 0, 1) := by decide +kernel
theorem dX4_become_5 : decode cX4_become 5 = .ok (.getfield 9, 3) := by decide +kernel
theorem dX4_become_8 : decode cX4_become 8 = .ok (.invokestatic 46, 3) := by decide +kernel
theorem dX4_become_11 : decode cX4_become 11 = .ok (.aload_n 1, 1) := by decide +kernel
theorem dX4_become_12 : decode cX4_become 12 = .ok (.getfield 15, 3) := by decide +kernel
theorem dX4_become_15 : decode cX4_become 15 = .ok (.aload_n 0, 1) := by decide +kernel
theorem dX4_become_16 : decode cX4_become 16 = .ok (.getfield 15, 3) := by decide +kernel
theorem dX4_become_19 : decode cX4_become 19 = .ok (.invokestatic 46, 3) := by decide +kernel
theorem dX4_become_22 : decode cX4_become 22 = .ok (.aload_n 1, 1) := by decide +kernel
theorem dX4_become_23 : decode cX4_become 23 = .ok (.getfield 18, 3) := by decide +kernel
theorem dX4_become_26 : decode cX4_become 26 = .ok (.aload_n 0, 1) := by decide +kernel
theorem dX4_become_27 : decode cX4_become 27 = .ok (.getfield 18, 3) := by decide +kernel
theorem dX4_become_30 : decode cX4_become 30 = .ok (.invokestatic 46, 3) := by decide +kernel
theorem dX4_become_33 : decode cX4_become 33 = .ok (.aload_n 1, 1) := by decide +kernel
theorem dX4_become_34 : decode cX4_become 34 = .ok (.getfield 21, 3) := by decide +kernel
theorem dX4_become_37 : decode cX4_become 37 = .ok (.aload_n 0, 1) := by decide +kernel
theorem dX4_become_38 : decode cX4_become 38 = .ok (.getfield 21, 3) := by decide +kernel
theorem dX4_become_41 : decode cX4_become 41 = .ok (.invokestatic 46, 3) := by decide +kernel
theorem dX4_become_44 : decode cX4_become 44 = .ok (.aload_n 1, 1) := by decide +kernel
theorem dX4_become_45 : decode cX4_become 45 = .ok (.getfield 24, 3) := by decide +kernel
theorem dX4_become_48 : decode cX4_become 48 = .ok (.aload_n 0, 1) := by decide +kernel
theorem dX4_become_49 : decode cX4_become 49 = .ok (.getfield 24, 3) := by decide +kernel
theorem dX4_become_52 : decode cX4_become 52 = .ok (.invokestatic 46, 3) := by decide +kernel
theorem dX4_become_55 : decode cX4_become 55 = .ok (.aload_n 1, 1) := by decide +kernel
theorem dX4_become_56 : decode cX4_become 56 = .ok (.getfield 27, 3) := by decide +kernel
theorem dX4_become_59 : decode cX4_become 59 = .ok (.aload_n 0, 1) := by decide +kernel
theorem dX4_become_60 : decode cX4_become 60 = .ok (.getfield 27, 3) := by decide +kernel
theorem dX4_become_63 : decode cX4_become 63 = .ok (.invokestatic 46, 3) := by decide +kernel
theorem dX4_become_66 : decode cX4_become 66 = .ok (.aload_n 1, 1) := by decide +kernel
theorem dX4_become_67 : decode cX4_become 67 = .ok (.getfield 30, 3) := by decide +kernel
theorem dX4_become_70 : decode cX4_become 70 = .ok (.aload_n 0, 1) := by decide +kernel
theorem dX4_become_71 : decode cX4_become 71 = .ok (.getfield 30, 3) := by decide +kernel
theorem dX4_become_74 : decode cX4_become 74 = .ok (.invokestatic 46, 3) := by decide +kernel
theorem dX4_become_77 : decode cX4_become 77 = .ok (.aload_n 1, 1) := by decide +kernel
theorem dX4_become_78 : decode cX4_become 78 = .ok (.getfield 33, 3) := by decide +kernel
theorem dX4_become_81 : decode cX4_become 81 = .ok (.aload_n 0, 1) := by decide +kernel
theorem dX4_become_82 : decode cX4_become 82 = .ok (.getfield 33, 3) := by decide +kernel
theorem dX4_become_85 : decode cX4_become 85 = .ok (.invokestatic 46, 3) := by decide +kernel
theorem dX4_become_88 : decode cX4_become 88 = .ok (.aload_n 0, 1) := by decide +kernel
theorem dX4_become_89 : decode cX4_become 89 = .ok (.aload_n 1, 1) := by decide +kernel
theorem dX4_become_90 : decode cX4_become 90 = .ok (.getfield 36, 3) := by decide +kernel
theorem dX4_become_93 : decode cX4_become 93 = .ok (.putfield 36, 3) := by decide +kernel
theorem dX4_become_96 : decode cX4_become 96 = .ok (.aload_n 0, 1) := by decide +kernel
theorem dX4_become_97 : decode cX4_become 97 = .ok (.aload_n 1, 1) := by decide +kernel
theorem dX4_become_98 : decode cX4_become 98 = .ok (.getfield 40, 3) := by decide +kernel
theorem dX4_become_101 : decode cX4_become 101 = .ok (.putfield 40, 3) := by decide +kernel
theorem dX4_become_104 : decode cX4_become 104 = .ok (.aload_n 0, 1) := by decide +kernel
theorem dX4_become_105 : decode cX4_become 105 = .ok (.aload_n 1, 1) := by decide +kernel
theorem dX4_become_106 : decode cX4_become 106 = .ok (.getfield 43, 3) := by decide +kernel
theorem dX4_become_109 : decode cX4_become 109 = .ok (.putfield 43, 3) := by decide +kernel
theorem dX4_become_112 : decode cX4_become 112 = .ok (.return_, 1) := by decide +kernel
theorem dX4_otherEnd_0 : decode cX4_otherEnd 0 = .ok (.aload_n 0, 1) := by decide +kernel
theorem dX4_otherEnd_1 : decode cX4_otherEnd 1 = .ok (.getfield 9, 3) := by decide +kernel
theorem dX4_otherEnd_4 : decode cX4_otherEnd 4 = .ok (.iload_n 1, 1) := by decide +kernel
theorem dX4_otherEnd_5 : decode cX4_otherEnd 5 = .ok (.invokestatic 50, 3) := by decide +kernel
theorem dX4_otherEnd_8 : decode cX4_otherEnd 8 = .ok (.istore_n 3, 1) := by decide +kernel
theorem dX4_otherEnd_9 : decode cX4_otherEnd 9 = .ok (.aload_n 0, 1) := by decide +kernel
theorem dX4_otherEnd_10 : decode cX4_otherEnd 10 = .ok (.getfield 15, 3) := by decide +kernel
theorem dX4_otherEnd_13 : decode cX4_otherEnd 13 = .ok (.iload_n 1, 1) := by decide +kernel
theorem dX4_otherEnd_14 : decode cX4_otherEnd 14 = .ok (.invokestatic 50, 3) := by decide +kernel
theorem dX4_otherEnd_17 : decode cX4_otherEnd 17 = .ok (.istore 4, 2) := by decide +kernel
theorem dX4_otherEnd_19 : decode cX4_otherEnd 19 = .ok (.iload_n 3, 1) := by decide +kernel
theorem dX4_otherEnd_20 : decode cX4_otherEnd 20 = .ok (.iload_n 2, 1) := by decide +kernel
theorem dX4_otherEnd_21 : decode cX4_otherEnd 21 = .ok (.if_icmp .ne 8, 3) := by decide +kernel
theorem dX4_otherEnd_24 : decode cX4_otherEnd 24 = .ok (.iload 4, 2) := by decide +kernel
theorem dX4_otherEnd_26 : decode cX4_otherEnd 26 = .ok (.goto 14, 3) := by decide +kernel
theorem dX4_otherEnd_29 : decode cX4_otherEnd 29 = .ok (.iload 4, 2) := by decide +kernel
theorem dX4_otherEnd_31 : decode cX4_otherEnd 31 = .ok (.iload_n 2, 1) := by decide +kernel
theorem dX4_otherEnd_32 : decode cX4_otherEnd 32 = .ok (.if_icmp .ne 7, 3) := by decide +kernel
theorem dX4_otherEnd_35 : decode cX4_otherEnd 35 = .ok (.iload_n 3, 1) := by decide +kernel
theorem dX4_otherEnd_36 : decode cX4_otherEnd 36 = .ok (.goto 4, 3) := by decide +kernel
theorem dX4_otherEnd_39 : decode cX4_otherEnd 39 = .ok (.iconst (-1), 1) := by decide +kernel
theorem dX4_otherEnd_40 : decode cX4_otherEnd 40 = .ok (.ireturn, 1) := by decide +kernel
theorem dX4_areJoined_0 : decode cX4_areJoined 0 = .ok (.iconst 0, 1) := by decide +kernel
theorem dX4_areJoined_1 : decode cX4_areJoined 1 = .ok (.istore_n 3, 1) := by decide +kernel
theorem dX4_areJoined_2 : decode cX4_areJoined 2 = .ok (.iload_n 3, 1) := by decide +kernel
theorem dX4_areJoined_3 : decode cX4_areJoined 3 = .ok (.aload_n 0, 1) := by decide +kernel
theorem dX4_areJoined_4 : decode cX4_areJoined 4 = .ok (.getfield 40, 3) := by decide +kernel
theorem dX4_areJoined_7 : decode cX4_areJoined 7 = .ok (.if_icmp .ge 21, 3) := by decide +kernel
theorem dX4_areJoined_10 : decode cX4_areJoined 10 = .ok (.aload_n 0, 1) := by decide +kernel
theorem dX4_areJoined_11 : decode cX4_areJoined 11 = .ok (.iload_n 3, 1) := by decide +kernel
theorem dX4_areJoined_12 : decode cX4_areJoined 12 = .ok (.iload_n 1, 1) := by decide +kernel
theorem dX4_areJoined_13 : decode cX4_areJoined 13 = .ok (.invokevirtual 54, 3) := by decide +kernel
theorem dX4_areJoined_16 : decode cX4_areJoined 16 = .ok (.iload_n 2, 1) := by decide +kernel
theorem dX4_areJoined_17 : decode cX4_areJoined 17 = .ok (.if_icmp .ne 5, 3) := by decide +kernel
theorem dX4_areJoined_20 : decode cX4_areJoined 20 = .ok (.iconst 1, 1) := by decide +kernel
theorem dX4_areJoined_21 : decode cX4_areJoined 21 = .ok (.ireturn, 1) := by decide +kernel
theorem dX4_areJoined_22 : decode cX4_areJoined 22 = .ok (.iinc 3 1, 3) := by decide +kernel
theorem dX4_areJoined_25 : decode cX4_areJoined 25 = .ok (.goto (-23), 3) := by decide +kernel
theorem dX4_areJoined_28 : decode cX4_areJoined 28 = .ok (.iconst 0, 1) := by decide +kernel
theorem dX4_areJoined_29 : decode cX4_areJoined 29 = .ok (.ireturn, 1) := by decide +kernel
theorem dX6_init_0 : decode cX6_init 0 = .ok (.aload_n 0, 1) := by decide +kernel
theorem dX6_init_1 : decode cX6_init 1 = .ok (.invokespecial 3, 3) := by decide +kernel
theorem dX6_init_4 : decode cX6_init 4 = .ok (.aload_n 0, 1) := by decide +kernel
theorem dX6_init_5 : decode cX6_init 5 = .ok (.bipush 10, 2) := by decide +kernel
theorem dX6_init_7 : decode cX6_init 7 = .ok (.newarray .int, 2) := by decide +kernel
theorem dX6_init_9 : decode cX6_init 9 = .ok (.putfield 9, 3) := by decide +kernel
theorem dX6_init_12 : decode cX6_init 12 = .ok (.aload_n 0, 1) := by decide +kernel
theorem dX6_init_13 : decode cX6_init 13 = .ok (.bipush 10, 2) := by decide +kernel
theorem dX6_init_15 : decode cX6_init 15 = .ok (.newarray .int, 2) := by decide +kernel
theorem dX6_init_17 : decode cX6_init 17 = .ok (.putfield 15, 3) := by decide +kernel
theorem dX6_init_20 : decode cX6_init 20 = .ok (.aload_n 0, 1) := by decide +kernel
theorem dX6_init_21 : decode cX6_init 21 = .ok (.bipush 10, 2) := by decide +kernel
theorem dX6_init_23 : decode cX6_init 23 = .ok (.newarray .int, 2) := by decide +kernel
theorem dX6_init_25 : decode cX6_init 25 = .ok (.putfield 18, 3) := by decide +kernel
theorem dX6_init_28 : decode cX6_init 28 = .ok (.aload_n 0, 1) := by decide +kernel
theorem dX6_init_29 : decode cX6_init 29 = .ok (.iconst (-1), 1) := by decide +kernel
theorem dX6_init_30 : decode cX6_init 30 = .ok (.putfield 21, 3) := by decide +kernel
theorem dX6_init_33 : decode cX6_init 33 = .ok (.return_, 1) := by decide +kernel
theorem dX6_seek_0 : decode cX6_seek 0 = .ok (.aload_n 0, 1) := by decide +kernel
theorem dX6_seek_1 : decode cX6_seek 1 = .ok (.iconst (-1), 1) := by decide +kernel
theorem dX6_seek_2 : decode cX6_seek 2 = .ok (.putfield 21, 3) := by decide +kernel
theorem dX6_seek_5 : decode cX6_seek 5 = .ok (.aload_n 0, 1) := by decide +kernel
theorem dX6_seek_6 : decode cX6_seek 6 = .ok (.getfield 15, 3) := by decide +kernel
theorem dX6_seek_9 : decode cX6_seek 9 = .ok (.iconst 0, 1) := by decide +kernel
theorem dX6_seek_10 : decode cX6_seek 10 = .ok (.iload_n 3, 1) := by decide +kernel
theorem dX6_seek_11 : decode cX6_seek 11 = .ok (.invokestatic 25, 3) := by decide +kernel
theorem dX6_seek_14 : decode cX6_seek 14 = .ok (.aload_n 0, 1) := by decide +kernel
theorem dX6_seek_15 : decode cX6_seek 15 = .ok (.getfield 18, 3) := by decide +kernel
theorem dX6_seek_18 : decode cX6_seek 18 = .ok (.iconst 0, 1) := by decide +kernel
theorem dX6_seek_19 : decode cX6_seek 19 = .ok (.iconst 0, 1) := by decide +kernel
theorem dX6_seek_20 : decode cX6_seek 20 = .ok (.invokestatic 25, 3) := by decide +kernel
theorem dX6_seek_23 : decode cX6_seek 23 = .ok (.aload_n 0, 1) := by decide +kernel
theorem dX6_seek_24 : decode cX6_seek 24 = .ok (.aload_n 1, 1) := by decide +kernel
theorem dX6_seek_25 : decode cX6_seek 25 = .ok (.iload_n 2, 1) := by decide +kernel
theorem dX6_seek_26 : decode cX6_seek 26 = .ok (.iload 4, 2) := by decide +kernel
theorem dX6_seek_28 : decode cX6_seek 28 = .ok (.invokevirtual 29, 3) := by decide +kernel
theorem dX6_seek_31 : decode cX6_seek 31 = .ok (.aload_n 0, 1) := by decide +kernel
theorem dX6_seek_32 : decode cX6_seek 32 = .ok (.getfield 9, 3) := by decide +kernel
theorem dX6_seek_35 : decode cX6_seek 35 = .ok (.iload_n 3, 1) := by decide +kernel
theorem dX6_seek_36 : decode cX6_seek 36 = .ok (.invokestatic 33, 3) := by decide +kernel
theorem dX6_seek_39 : decode cX6_seek 39 = .ok (.ldc 37, 2) := by decide +kernel
theorem dX6_seek_41 : decode cX6_seek 41 = .ok (.if_icmp .lt 4, 3) := by decide +kernel
theorem dX6_seek_44 : decode cX6_seek 44 = .ok (.return_, 1) := by decide +kernel
theorem dX6_seek_45 : decode cX6_seek 45 = .ok (.iload_n 3, 1) := by decide +kernel
theorem dX6_seek_46 : decode cX6_seek 46 = .ok (.istore 5, 2) := by decide +kernel
theorem dX6_seek_48 : decode cX6_seek 48 = .ok (.aload_n 0, 1) := by decide +kernel
theorem dX6_seek_49 : decode cX6_seek 49 = .ok (.iconst 0, 1) := by decide +kernel
theorem dX6_seek_50 : decode cX6_seek 50 = .ok (.putfield 21, 3) := by decide +kernel
theorem dX6_seek_53 : decode cX6_seek 53 = .ok (.iconst 1, 1) := by decide +kernel
theorem dX6_seek_54 : decode cX6_seek 54 = .ok (.istore 6, 2) := by decide +kernel
theorem dX6_seek_56 : decode cX6_seek 56 = .ok (.iload 6, 2) := by decide +kernel
theorem dX6_seek_58 : decode cX6_seek 58 = .ok (.bipush 10, 2) := by decide +kernel
theorem dX6_seek_60 : decode cX6_seek 60 = .ok (.if_icmp .ge 83, 3) := by decide +kernel
theorem dX6_seek_63 : decode cX6_seek 63 = .ok (.iload 5, 2) := by decide +kernel
theorem dX6_seek_65 : decode cX6_seek 65 = .ok (.iload 4, 2) := by decide +kernel
theorem dX6_seek_67 : decode cX6_seek 67 = .ok (.if_icmp .eq 76, 3) := by decide +kernel
theorem dX6_seek_70 : decode cX6_seek 70 = .ok (.aload_n 0, 1) := by decide +kernel
theorem dX6_seek_71 : decode cX6_seek 71 = .ok (.aload_n 1, 1) := by decide +kernel
theorem dX6_seek_72 : decode cX6_seek 72 = .ok (.iload_n 2, 1) := by decide +kernel
theorem dX6_seek_73 : decode cX6_seek 73 = .ok (.iload 5, 2) := by decide +kernel
theorem dX6_seek_75 : decode cX6_seek 75 = .ok (.invokevirtual 38, 3) := by decide +kernel
theorem dX6_seek_78 : decode cX6_seek 78 = .ok (.istore 7, 2) := by decide +kernel
theorem dX6_seek_80 : decode cX6_seek 80 = .ok (.aload_n 1, 1) := by decide +kernel
theorem dX6_seek_81 : decode cX6_seek 81 = .ok (.iload 7, 2) := by decide +kernel
theorem dX6_seek_83 : decode cX6_seek 83 = .ok (.iload 5, 2) := by decide +kernel
theorem dX6_seek_85 : decode cX6_seek 85 = .ok (.invokevirtual 42, 3) := by decide +kernel
theorem dX6_seek_88 : decode cX6_seek 88 = .ok (.istore 5, 2) := by decide +kernel
theorem dX6_seek_90 : decode cX6_seek 90 = .ok (.aload_n 0, 1) := by decide +kernel
theorem dX6_seek_91 : decode cX6_seek 91 = .ok (.getfield 15, 3) := by decide +kernel
theorem dX6_seek_94 : decode cX6_seek 94 = .ok (.iload 6, 2) := by decide +kernel
theorem dX6_seek_96 : decode cX6_seek 96 = .ok (.iload 5, 2) := by decide +kernel
theorem dX6_seek_98 : decode cX6_seek 98 = .ok (.invokestatic 25, 3) := by decide +kernel
theorem dX6_seek_101 : decode cX6_seek 101 = .ok (.aload_n 0, 1) := by decide +kernel
theorem dX6_seek_102 : decode cX6_seek 102 = .ok (.getfield 18, 3) := by decide +kernel
theorem dX6_seek_105 : decode cX6_seek 105 = .ok (.iload 6, 2) := by decide +kernel
theorem dX6_seek_107 : decode cX6_seek 107 = .ok (.aload_n 0, 1) := by decide +kernel
theorem dX6_seek_108 : decode cX6_seek 108 = .ok (.getfield 18, 3) := by decide +kernel
theorem dX6_seek_111 : decode cX6_seek 111 = .ok (.iload 6, 2) := by decide +kernel
theorem dX6_seek_113 : decode cX6_seek 113 = .ok (.iconst 1, 1) := by decide +kernel
theorem dX6_seek_114 : decode cX6_seek 114 = .ok (.isub, 1) := by decide +kernel
theorem dX6_seek_115 : decode cX6_seek 115 = .ok (.invokestatic 33, 3) := by decide +kernel
theorem dX6_seek_118 : decode cX6_seek 118 = .ok (.aload_n 1, 1) := by decide +kernel
theorem dX6_seek_119 : decode cX6_seek 119 = .ok (.getfield 48, 3) := by decide +kernel
theorem dX6_seek_122 : decode cX6_seek 122 = .ok (.iload 7, 2) := by decide +kernel
theorem dX6_seek_124 : decode cX6_seek 124 = .ok (.invokestatic 33, 3) := by decide +kernel
theorem dX6_seek_127 : decode cX6_seek 127 = .ok (.iadd, 1) := by decide +kernel
theorem dX6_seek_128 : decode cX6_seek 128 = .ok (.invokestatic 25, 3) := by decide +kernel
theorem dX6_seek_131 : decode cX6_seek 131 = .ok (.aload_n 0, 1) := by decide +kernel
theorem dX6_seek_132 : decode cX6_seek 132 = .ok (.iload 6, 2) := by decide +kernel
theorem dX6_seek_134 : decode cX6_seek 134 = .ok (.putfield 21, 3) := by decide +kernel
theorem dX6_seek_137 : decode cX6_seek 137 = .ok (.iinc 6 1, 3) := by decide +kernel
theorem dX6_seek_140 : decode cX6_seek 140 = .ok (.goto (-84), 3) := by decide +kernel
theorem dX6_seek_143 : decode cX6_seek 143 = .ok (.return_, 1) := by decide +kernel
theorem dX6_measure_0 : decode cX6_measure 0 = .ok (.aload_n 0, 1) := by decide +kernel
theorem dX6_measure_1 : decode cX6_measure 1 = .ok (.getfield 9, 3) := by decide +kernel
theorem dX6_measure_4 : decode cX6_measure 4 = .ok (.ldc 37, 2) := by decide +kernel
theorem dX6_measure_6 : decode cX6_measure 6 = .ok (.invokestatic 51, 3) := by decide +kernel
theorem dX6_measure_9 : decode cX6_measure 9 = .ok (.aload_n 0, 1) := by decide +kernel
theorem dX6_measure_10 : decode cX6_measure 10 = .ok (.getfield 9, 3) := by decide +kernel
theorem dX6_measure_13 : decode cX6_measure 13 = .ok (.iload_n 3, 1) := by decide +kernel
theorem dX6_measure_14 : decode cX6_measure 14 = .ok (.iconst 0, 1) := by decide +kernel
theorem dX6_measure_15 : decode cX6_measure 15 = .ok (.invokestatic 25, 3) := by decide +kernel
theorem dX6_measure_18 : decode cX6_measure 18 = .ok (.iconst 1, 1) := by decide +kernel
theorem dX6_measure_19 : decode cX6_measure 19 = .ok (.istore 4, 2) := by decide +kernel
theorem dX6_measure_21 : decode cX6_measure 21 = .ok (.iconst 0, 1) := by decide +kernel
theorem dX6_measure_22 : decode cX6_measure 22 = .ok (.istore 5, 2) := by decide +kernel
theorem dX6_measure_24 : decode cX6_measure 24 = .ok (.iload 5, 2) := by decide +kernel
theorem dX6_measure_26 : decode cX6_measure 26 = .ok (.bipush 10, 2) := by decide +kernel
theorem dX6_measure_28 : decode cX6_measure 28 = .ok (.if_icmp .ge 190, 3) := by decide +kernel
theorem dX6_measure_31 : decode cX6_measure 31 = .ok (.iload 4, 2) := by decide +kernel
theorem dX6_measure_33 : decode cX6_measure 33 = .ok (.ifCond .eq 185, 3) := by decide +kernel
theorem dX6_measure_36 : decode cX6_measure 36 = .ok (.iconst 0, 1) := by decide +kernel
theorem dX6_measure_37 : decode cX6_measure 37 = .ok (.istore 4, 2) := by decide +kernel
theorem dX6_measure_39 : decode cX6_measure 39 = .ok (.iconst 0, 1) := by decide +kernel
theorem dX6_measure_40 : decode cX6_measure 40 = .ok (.istore 6, 2) := by decide +kernel
theorem dX6_measure_42 : decode cX6_measure 42 = .ok (.iload 6, 2) := by decide +kernel
theorem dX6_measure_44 : decode cX6_measure 44 = .ok (.aload_n 1, 1) := by decide +kernel
theorem dX6_measure_45 : decode cX6_measure 45 = .ok (.getfield 57, 3) := by decide +kernel
theorem dX6_measure_48 : decode cX6_measure 48 = .ok (.if_icmp .ge 164, 3) := by decide +kernel
theorem dX6_measure_51 : decode cX6_measure 51 = .ok (.iload_n 2, 1) := by decide +kernel
theorem dX6_measure_52 : decode cX6_measure 52 = .ok (.iload 6, 2) := by decide +kernel
theorem dX6_measure_54 : decode cX6_measure 54 = .ok (.ishr, 1) := by decide +kernel
theorem dX6_measure_55 : decode cX6_measure 55 = .ok (.iconst 1, 1) := by decide +kernel
theorem dX6_measure_56 : decode cX6_measure 56 = .ok (.iand, 1) := by decide +kernel
theorem dX6_measure_57 : decode cX6_measure 57 = .ok (.iconst 1, 1) := by decide +kernel
theorem dX6_measure_58 : decode cX6_measure 58 = .ok (.if_icmp .ne 148, 3) := by decide +kernel
theorem dX6_measure_61 : decode cX6_measure 61 = .ok (.aload_n 1, 1) := by decide +kernel
theorem dX6_measure_62 : decode cX6_measure 62 = .ok (.getfield 60, 3) := by decide +kernel
theorem dX6_measure_65 : decode cX6_measure 65 = .ok (.iload 6, 2) := by decide +kernel
theorem dX6_measure_67 : decode cX6_measure 67 = .ok (.invokestatic 33, 3) := by decide +kernel
theorem dX6_measure_70 : decode cX6_measure 70 = .ok (.istore 7, 2) := by decide +kernel
theorem dX6_measure_72 : decode cX6_measure 72 = .ok (.aload_n 1, 1) := by decide +kernel
theorem dX6_measure_73 : decode cX6_measure 73 = .ok (.getfield 63, 3) := by decide +kernel
theorem dX6_measure_76 : decode cX6_measure 76 = .ok (.iload 6, 2) := by decide +kernel
theorem dX6_measure_78 : decode cX6_measure 78 = .ok (.invokestatic 33, 3) := by decide +kernel
theorem dX6_measure_81 : decode cX6_measure 81 = .ok (.istore 8, 2) := by decide +kernel
theorem dX6_measure_83 : decode cX6_measure 83 = .ok (.aload_n 1, 1) := by decide +kernel
theorem dX6_measure_84 : decode cX6_measure 84 = .ok (.getfield 48, 3) := by decide +kernel
theorem dX6_measure_87 : decode cX6_measure 87 = .ok (.iload 6, 2) := by decide +kernel
theorem dX6_measure_89 : decode cX6_measure 89 = .ok (.invokestatic 33, 3) := by decide +kernel
theorem dX6_measure_92 : decode cX6_measure 92 = .ok (.bipush 16, 2) := by decide +kernel
theorem dX6_measure_94 : decode cX6_measure 94 = .ok (.imul, 1) := by decide +kernel
theorem dX6_measure_95 : decode cX6_measure 95 = .ok (.iconst 1, 1) := by decide +kernel
theorem dX6_measure_96 : decode cX6_measure 96 = .ok (.iadd, 1) := by decide +kernel
theorem dX6_measure_97 : decode cX6_measure 97 = .ok (.istore 9, 2) := by decide +kernel
theorem dX6_measure_99 : decode cX6_measure 99 = .ok (.aload_n 0, 1) := by decide +kernel
theorem dX6_measure_100 : decode cX6_measure 100 = .ok (.getfield 9, 3) := by decide +kernel
theorem dX6_measure_103 : decode cX6_measure 103 = .ok (.iload 7, 2) := by decide +kernel
theorem dX6_measure_105 : decode cX6_measure 105 = .ok (.invokestatic 33, 3) := by decide +kernel
theorem dX6_measure_108 : decode cX6_measure 108 = .ok (.aload_n 0, 1) := by decide +kernel
theorem dX6_measure_109 : decode cX6_measure 109 = .ok (.getfield 9, 3) := by decide +kernel
theorem dX6_measure_112 : decode cX6_measure 112 = .ok (.iload 8, 2) := by decide +kernel
theorem dX6_measure_114 : decode cX6_measure 114 = .ok (.invokestatic 33, 3) := by decide +kernel
theorem dX6_measure_117 : decode cX6_measure 117 = .ok (.iload 9, 2) := by decide +kernel
theorem dX6_measure_119 : decode cX6_measure 119 = .ok (.iadd, 1) := by decide +kernel
theorem dX6_measure_120 : decode cX6_measure 120 = .ok (.invokestatic 66, 3) := by decide +kernel
theorem dX6_measure_123 : decode cX6_measure 123 = .ok (.istore 10, 2) := by decide +kernel
theorem dX6_measure_125 : decode cX6_measure 125 = .ok (.aload_n 0, 1) := by decide +kernel
theorem dX6_measure_126 : decode cX6_measure 126 = .ok (.getfield 9, 3) := by decide +kernel
theorem dX6_measure_129 : decode cX6_measure 129 = .ok (.iload 8, 2) := by decide +kernel
theorem dX6_measure_131 : decode cX6_measure 131 = .ok (.invokestatic 33, 3) := by decide +kernel
theorem dX6_measure_134 : decode cX6_measure 134 = .ok (.iload 10, 2) := by decide +kernel
theorem dX6_measure_136 : decode cX6_measure 136 = .ok (.iload 9, 2) := by decide +kernel
theorem dX6_measure_138 : decode cX6_measure 138 = .ok (.iadd, 1) := by decide +kernel
theorem dX6_measure_139 : decode cX6_measure 139 = .ok (.invokestatic 66, 3) := by decide +kernel
theorem dX6_measure_142 : decode cX6_measure 142 = .ok (.istore 11, 2) := by decide +kernel
theorem dX6_measure_144 : decode cX6_measure 144 = .ok (.iload 4, 2) := by decide +kernel
theorem dX6_measure_146 : decode cX6_measure 146 = .ok (.ifCond .ne 31, 3) := by decide +kernel
theorem dX6_measure_149 : decode cX6_measure 149 = .ok (.iload 10, 2) := by decide +kernel
theorem dX6_measure_151 : decode cX6_measure 151 = .ok (.aload_n 0, 1) := by decide +kernel
theorem dX6_measure_152 : decode cX6_measure 152 = .ok (.getfield 9, 3) := by decide +kernel
theorem dX6_measure_155 : decode cX6_measure 155 = .ok (.iload 7, 2) := by decide +kernel
theorem dX6_measure_157 : decode cX6_measure 157 = .ok (.invokestatic 33, 3) := by decide +kernel
theorem dX6_measure_160 : decode cX6_measure 160 = .ok (.if_icmp .lt 17, 3) := by decide +kernel
theorem dX6_measure_163 : decode cX6_measure 163 = .ok (.iload 11, 2) := by decide +kernel
theorem dX6_measure_165 : decode cX6_measure 165 = .ok (.aload_n 0, 1) := by decide +kernel
theorem dX6_measure_166 : decode cX6_measure 166 = .ok (.getfield 9, 3) := by decide +kernel
theorem dX6_measure_169 : decode cX6_measure 169 = .ok (.iload 8, 2) := by decide +kernel
theorem dX6_measure_171 : decode cX6_measure 171 = .ok (.invokestatic 33, 3) := by decide +kernel
theorem dX6_measure_174 : decode cX6_measure 174 = .ok (.if_icmp .ge 7, 3) := by decide +kernel
theorem dX6_measure_177 : decode cX6_measure 177 = .ok (.iconst 1, 1) := by decide +kernel
theorem dX6_measure_178 : decode cX6_measure 178 = .ok (.goto 4, 3) := by decide +kernel
theorem dX6_measure_181 : decode cX6_measure 181 = .ok (.iconst 0, 1) := by decide +kernel
theorem dX6_measure_182 : decode cX6_measure 182 = .ok (.istore 4, 2) := by decide +kernel
theorem dX6_measure_184 : decode cX6_measure 184 = .ok (.aload_n 0, 1) := by decide +kernel
theorem dX6_measure_185 : decode cX6_measure 185 = .ok (.getfield 9, 3) := by decide +kernel
theorem dX6_measure_188 : decode cX6_measure 188 = .ok (.iload 7, 2) := by decide +kernel
theorem dX6_measure_190 : decode cX6_measure 190 = .ok (.iload 10, 2) := by decide +kernel
theorem dX6_measure_192 : decode cX6_measure 192 = .ok (.invokestatic 25, 3) := by decide +kernel
theorem dX6_measure_195 : decode cX6_measure 195 = .ok (.aload_n 0, 1) := by decide +kernel
theorem dX6_measure_196 : decode cX6_measure 196 = .ok (.getfield 9, 3) := by decide +kernel
theorem dX6_measure_199 : decode cX6_measure 199 = .ok (.iload 8, 2) := by decide +kernel
theorem dX6_measure_201 : decode cX6_measure 201 = .ok (.iload 11, 2) := by decide +kernel
theorem dX6_measure_203 : decode cX6_measure 203 = .ok (.invokestatic 25, 3) := by decide +kernel
theorem dX6_measure_206 : decode cX6_measure 206 = .ok (.iinc 6 1, 3) := by decide +kernel
theorem dX6_measure_209 : decode cX6_measure 209 = .ok (.goto (-167), 3) := by decide +kernel
theorem dX6_measure_212 : decode cX6_measure 212 = .ok (.iinc 5 1, 3) := by decide +kernel
theorem dX6_measure_215 : decode cX6_measure 215 = .ok (.goto (-191), 3) := by decide +kernel
theorem dX6_measure_218 : decode cX6_measure 218 = .ok (.return_, 1) := by decide +kernel
theorem dX6_nextWay_0 : decode cX6_nextWay 0 = .ok (.iconst (-1), 1) := by decide +kernel
theorem dX6_nextWay_1 : decode cX6_nextWay 1 = .ok (.istore 4, 2) := by decide +kernel
theorem dX6_nextWay_3 : decode cX6_nextWay 3 = .ok (.bipush 10, 2) := by decide +kernel
theorem dX6_nextWay_5 : decode cX6_nextWay 5 = .ok (.istore 5, 2) := by decide +kernel
theorem dX6_nextWay_7 : decode cX6_nextWay 7 = .ok (.iconst 0, 1) := by decide +kernel
theorem dX6_nextWay_8 : decode cX6_nextWay 8 = .ok (.istore 6, 2) := by decide +kernel
theorem dX6_nextWay_10 : decode cX6_nextWay 10 = .ok (.iload 6, 2) := by decide +kernel
theorem dX6_nextWay_12 : decode cX6_nextWay 12 = .ok (.aload_n 1, 1) := by decide +kernel
theorem dX6_nextWay_13 : decode cX6_nextWay 13 = .ok (.getfield 57, 3) := by decide +kernel
theorem dX6_nextWay_16 : decode cX6_nextWay 16 = .ok (.if_icmp .ge 84, 3) := by decide +kernel
theorem dX6_nextWay_19 : decode cX6_nextWay 19 = .ok (.aload_n 1, 1) := by decide +kernel
theorem dX6_nextWay_20 : decode cX6_nextWay 20 = .ok (.iload 6, 2) := by decide +kernel
theorem dX6_nextWay_22 : decode cX6_nextWay 22 = .ok (.iload_n 3, 1) := by decide +kernel
theorem dX6_nextWay_23 : decode cX6_nextWay 23 = .ok (.invokevirtual 42, 3) := by decide +kernel
theorem dX6_nextWay_26 : decode cX6_nextWay 26 = .ok (.istore 7, 2) := by decide +kernel
theorem dX6_nextWay_28 : decode cX6_nextWay 28 = .ok (.iload 7, 2) := by decide +kernel
theorem dX6_nextWay_30 : decode cX6_nextWay 30 = .ok (.iconst (-1), 1) := by decide +kernel
theorem dX6_nextWay_31 : decode cX6_nextWay 31 = .ok (.if_icmp .eq 63, 3) := by decide +kernel
theorem dX6_nextWay_34 : decode cX6_nextWay 34 = .ok (.iload 7, 2) := by decide +kernel
theorem dX6_nextWay_36 : decode cX6_nextWay 36 = .ok (.iload 5, 2) := by decide +kernel
theorem dX6_nextWay_38 : decode cX6_nextWay 38 = .ok (.if_icmp .ge 56, 3) := by decide +kernel
theorem dX6_nextWay_41 : decode cX6_nextWay 41 = .ok (.iload_n 2, 1) := by decide +kernel
theorem dX6_nextWay_42 : decode cX6_nextWay 42 = .ok (.iload 6, 2) := by decide +kernel
theorem dX6_nextWay_44 : decode cX6_nextWay 44 = .ok (.ishr, 1) := by decide +kernel
theorem dX6_nextWay_45 : decode cX6_nextWay 45 = .ok (.iconst 1, 1) := by decide +kernel
theorem dX6_nextWay_46 : decode cX6_nextWay 46 = .ok (.iand, 1) := by decide +kernel
theorem dX6_nextWay_47 : decode cX6_nextWay 47 = .ok (.iconst 1, 1) := by decide +kernel
theorem dX6_nextWay_48 : decode cX6_nextWay 48 = .ok (.if_icmp .ne 46, 3) := by decide +kernel
theorem dX6_nextWay_51 : decode cX6_nextWay 51 = .ok (.aload_n 0, 1) := by decide +kernel
theorem dX6_nextWay_52 : decode cX6_nextWay 52 = .ok (.getfield 9, 3) := by decide +kernel
theorem dX6_nextWay_55 : decode cX6_nextWay 55 = .ok (.iload 7, 2) := by decide +kernel
theorem dX6_nextWay_57 : decode cX6_nextWay 57 = .ok (.invokestatic 33, 3) := by decide +kernel
theorem dX6_nextWay_60 : decode cX6_nextWay 60 = .ok (.aload_n 1, 1) := by decide +kernel
theorem dX6_nextWay_61 : decode cX6_nextWay 61 = .ok (.getfield 48, 3) := by decide +kernel
theorem dX6_nextWay_64 : decode cX6_nextWay 64 = .ok (.iload 6, 2) := by decide +kernel
theorem dX6_nextWay_66 : decode cX6_nextWay 66 = .ok (.invokestatic 33, 3) := by decide +kernel
theorem dX6_nextWay_69 : decode cX6_nextWay 69 = .ok (.bipush 16, 2) := by decide +kernel
theorem dX6_nextWay_71 : decode cX6_nextWay 71 = .ok (.imul, 1) := by decide +kernel
theorem dX6_nextWay_72 : decode cX6_nextWay 72 = .ok (.iadd, 1) := by decide +kernel
theorem dX6_nextWay_73 : decode cX6_nextWay 73 = .ok (.iconst 1, 1) := by decide +kernel
theorem dX6_nextWay_74 : decode cX6_nextWay 74 = .ok (.iadd, 1) := by decide +kernel
theorem dX6_nextWay_75 : decode cX6_nextWay 75 = .ok (.aload_n 0, 1) := by decide +kernel
theorem dX6_nextWay_76 : decode cX6_nextWay 76 = .ok (.getfield 9, 3) := by decide +kernel
theorem dX6_nextWay_79 : decode cX6_nextWay 79 = .ok (.iload_n 3, 1) := by decide +kernel
theorem dX6_nextWay_80 : decode cX6_nextWay 80 = .ok (.invokestatic 33, 3) := by decide +kernel
theorem dX6_nextWay_83 : decode cX6_nextWay 83 = .ok (.if_icmp .ne 11, 3) := by decide +kernel
theorem dX6_nextWay_86 : decode cX6_nextWay 86 = .ok (.iload 6, 2) := by decide +kernel
theorem dX6_nextWay_88 : decode cX6_nextWay 88 = .ok (.istore 4, 2) := by decide +kernel
theorem dX6_nextWay_90 : decode cX6_nextWay 90 = .ok (.iload 7, 2) := by decide +kernel
theorem dX6_nextWay_92 : decode cX6_nextWay 92 = .ok (.istore 5, 2) := by decide +kernel
theorem dX6_nextWay_94 : decode cX6_nextWay 94 = .ok (.iinc 6 1, 3) := by decide +kernel
theorem dX6_nextWay_97 : decode cX6_nextWay 97 = .ok (.goto (-87), 3) := by decide +kernel
theorem dX6_nextWay_100 : decode cX6_nextWay 100 = .ok (.iload 4, 2) := by decide +kernel
theorem dX6_nextWay_102 : decode cX6_nextWay 102 = .ok (.ireturn, 1) := by decide +kernel
theorem dX6_placeAfter_0 : decode cX6_placeAfter 0 = .ok (.aload_n 0, 1) := by decide +kernel
theorem dX6_placeAfter_1 : decode cX6_placeAfter 1 = .ok (.getfield 15, 3) := by decide +kernel
theorem dX6_placeAfter_4 : decode cX6_placeAfter 4 = .ok (.iload_n 1, 1) := by decide +kernel
theorem dX6_placeAfter_5 : decode cX6_placeAfter 5 = .ok (.invokestatic 33, 3) := by decide +kernel
theorem dX6_placeAfter_8 : decode cX6_placeAfter 8 = .ok (.ireturn, 1) := by decide +kernel
theorem dX6_minutesTo_0 : decode cX6_minutesTo 0 = .ok (.aload_n 0, 1) := by decide +kernel
theorem dX6_minutesTo_1 : decode cX6_minutesTo 1 = .ok (.getfield 18, 3) := by decide +kernel
theorem dX6_minutesTo_4 : decode cX6_minutesTo 4 = .ok (.iload_n 1, 1) := by decide +kernel
theorem dX6_minutesTo_5 : decode cX6_minutesTo 5 = .ok (.invokestatic 33, 3) := by decide +kernel
theorem dX6_minutesTo_8 : decode cX6_minutesTo 8 = .ok (.ireturn, 1) := by decide +kernel
theorem dX6_piecesTo_0 : decode cX6_piecesTo 0 = .ok (.iconst 1, 1) := by decide +kernel
theorem dX6_piecesTo_1 : decode cX6_piecesTo 1 = .ok (.istore_n 2, 1) := by decide +kernel
theorem dX6_piecesTo_2 : decode cX6_piecesTo 2 = .ok (.iload_n 2, 1) := by decide +kernel
theorem dX6_piecesTo_3 : decode cX6_piecesTo 3 = .ok (.aload_n 0, 1) := by decide +kernel
theorem dX6_piecesTo_4 : decode cX6_piecesTo 4 = .ok (.getfield 21, 3) := by decide +kernel
theorem dX6_piecesTo_7 : decode cX6_piecesTo 7 = .ok (.if_icmp .gt 23, 3) := by decide +kernel
theorem dX6_piecesTo_10 : decode cX6_piecesTo 10 = .ok (.aload_n 0, 1) := by decide +kernel
theorem dX6_piecesTo_11 : decode cX6_piecesTo 11 = .ok (.getfield 15, 3) := by decide +kernel
theorem dX6_piecesTo_14 : decode cX6_piecesTo 14 = .ok (.iload_n 2, 1) := by decide +kernel
theorem dX6_piecesTo_15 : decode cX6_piecesTo 15 = .ok (.invokestatic 33, 3) := by decide +kernel
theorem dX6_piecesTo_18 : decode cX6_piecesTo 18 = .ok (.iload_n 1, 1) := by decide +kernel
theorem dX6_piecesTo_19 : decode cX6_piecesTo 19 = .ok (.if_icmp .ne 5, 3) := by decide +kernel
theorem dX6_piecesTo_22 : decode cX6_piecesTo 22 = .ok (.iload_n 2, 1) := by decide +kernel
theorem dX6_piecesTo_23 : decode cX6_piecesTo 23 = .ok (.ireturn, 1) := by decide +kernel
theorem dX6_piecesTo_24 : decode cX6_piecesTo 24 = .ok (.iinc 2 1, 3) := by decide +kernel
theorem dX6_piecesTo_27 : decode cX6_piecesTo 27 = .ok (.goto (-25), 3) := by decide +kernel
theorem dX6_piecesTo_30 : decode cX6_piecesTo 30 = .ok (.iconst (-1), 1) := by decide +kernel
theorem dX6_piecesTo_31 : decode cX6_piecesTo 31 = .ok (.ireturn, 1) := by decide +kernel
theorem dX6_saidBy_0 : decode cX6_saidBy 0 = .ok (.aload_n 0, 1) := by decide +kernel
theorem dX6_saidBy_1 : decode cX6_saidBy 1 = .ok (.getfield 21, 3) := by decide +kernel
theorem dX6_saidBy_4 : decode cX6_saidBy 4 = .ok (.iconst 1, 1) := by decide +kernel
theorem dX6_saidBy_5 : decode cX6_saidBy 5 = .ok (.if_icmp .ge 5, 3) := by decide +kernel
theorem dX6_saidBy_8 : decode cX6_saidBy 8 = .ok (.iconst 0, 1) := by decide +kernel
theorem dX6_saidBy_9 : decode cX6_saidBy 9 = .ok (.ireturn, 1) := by decide +kernel
theorem dX6_saidBy_10 : decode cX6_saidBy 10 = .ok (.iload_n 1, 1) := by decide +kernel
theorem dX6_saidBy_11 : decode cX6_saidBy 11 = .ok (.tableswitch 42 1 3 #[25, 27, 37], 25) := by decide +kernel
theorem dX6_saidBy_36 : decode cX6_saidBy 36 = .ok (.iconst 1, 1) := by decide +kernel
theorem dX6_saidBy_37 : decode cX6_saidBy 37 = .ok (.ireturn, 1) := by decide +kernel
theorem dX6_saidBy_38 : decode cX6_saidBy 38 = .ok (.iconst 0, 1) := by decide +kernel
theorem dX6_saidBy_39 : decode cX6_saidBy 39 = .ok (.aload_n 0, 1) := by decide +kernel
theorem dX6_saidBy_40 : decode cX6_saidBy 40 = .ok (.iload_n 2, 1) := by decide +kernel
theorem dX6_saidBy_41 : decode cX6_saidBy 41 = .ok (.invokevirtual 71, 3) := by decide +kernel
theorem dX6_saidBy_44 : decode cX6_saidBy 44 = .ok (.invokestatic 75, 3) := by decide +kernel
theorem dX6_saidBy_47 : decode cX6_saidBy 47 = .ok (.ireturn, 1) := by decide +kernel
theorem dX6_saidBy_48 : decode cX6_saidBy 48 = .ok (.aload_n 0, 1) := by decide +kernel
theorem dX6_saidBy_49 : decode cX6_saidBy 49 = .ok (.getfield 21, 3) := by decide +kernel
theorem dX6_saidBy_52 : decode cX6_saidBy 52 = .ok (.ireturn, 1) := by decide +kernel
theorem dX6_saidBy_53 : decode cX6_saidBy 53 = .ok (.iconst 0, 1) := by decide +kernel
theorem dX6_saidBy_54 : decode cX6_saidBy 54 = .ok (.ireturn, 1) := by decide +kernel
theorem dX6_outByLaw_0 : decode cX6_outByLaw 0 = .ok (.iload_n 1, 1) := by decide +kernel
theorem dX6_outByLaw_1 : decode cX6_outByLaw 1 = .ok (.iconst 1, 1) := by decide +kernel
theorem dX6_outByLaw_2 : decode cX6_outByLaw 2 = .ok (.if_icmp .ne 11, 3) := by decide +kernel
theorem dX6_outByLaw_5 : decode cX6_outByLaw 5 = .ok (.iconst 1, 1) := by decide +kernel
theorem dX6_outByLaw_6 : decode cX6_outByLaw 6 = .ok (.iload_n 2, 1) := by decide +kernel
theorem dX6_outByLaw_7 : decode cX6_outByLaw 7 = .ok (.invokestatic 66, 3) := by decide +kernel
theorem dX6_outByLaw_10 : decode cX6_outByLaw 10 = .ok (.goto 17, 3) := by decide +kernel
theorem dX6_outByLaw_13 : decode cX6_outByLaw 13 = .ok (.iload_n 1, 1) := by decide +kernel
theorem dX6_outByLaw_14 : decode cX6_outByLaw 14 = .ok (.iconst 3, 1) := by decide +kernel
theorem dX6_outByLaw_15 : decode cX6_outByLaw 15 = .ok (.if_icmp .ne 11, 3) := by decide +kernel
theorem dX6_outByLaw_18 : decode cX6_outByLaw 18 = .ok (.iload_n 2, 1) := by decide +kernel
theorem dX6_outByLaw_19 : decode cX6_outByLaw 19 = .ok (.iconst 1, 1) := by decide +kernel
theorem dX6_outByLaw_20 : decode cX6_outByLaw 20 = .ok (.iadd, 1) := by decide +kernel
theorem dX6_outByLaw_21 : decode cX6_outByLaw 21 = .ok (.iconst 2, 1) := by decide +kernel
theorem dX6_outByLaw_22 : decode cX6_outByLaw 22 = .ok (.idiv, 1) := by decide +kernel
theorem dX6_outByLaw_23 : decode cX6_outByLaw 23 = .ok (.goto 4, 3) := by decide +kernel
theorem dX6_outByLaw_26 : decode cX6_outByLaw 26 = .ok (.iload_n 2, 1) := by decide +kernel
theorem dX6_outByLaw_27 : decode cX6_outByLaw 27 = .ok (.ireturn, 1) := by decide +kernel
theorem dX6_placeByLaw_0 : decode cX6_placeByLaw 0 = .ok (.aload_n 0, 1) := by decide +kernel
theorem dX6_placeByLaw_1 : decode cX6_placeByLaw 1 = .ok (.iload_n 1, 1) := by decide +kernel
theorem dX6_placeByLaw_2 : decode cX6_placeByLaw 2 = .ok (.iconst 2, 1) := by decide +kernel
theorem dX6_placeByLaw_3 : decode cX6_placeByLaw 3 = .ok (.if_icmp .ne 7, 3) := by decide +kernel
theorem dX6_placeByLaw_6 : decode cX6_placeByLaw 6 = .ok (.iconst 0, 1) := by decide +kernel
theorem dX6_placeByLaw_7 : decode cX6_placeByLaw 7 = .ok (.goto 9, 3) := by decide +kernel
theorem dX6_placeByLaw_10 : decode cX6_placeByLaw 10 = .ok (.aload_n 0, 1) := by decide +kernel
theorem dX6_placeByLaw_11 : decode cX6_placeByLaw 11 = .ok (.iload_n 1, 1) := by decide +kernel
theorem dX6_placeByLaw_12 : decode cX6_placeByLaw 12 = .ok (.iload_n 2, 1) := by decide +kernel
theorem dX6_placeByLaw_13 : decode cX6_placeByLaw 13 = .ok (.invokevirtual 78, 3) := by decide +kernel
theorem dX6_placeByLaw_16 : decode cX6_placeByLaw 16 = .ok (.invokevirtual 81, 3) := by decide +kernel
theorem dX6_placeByLaw_19 : decode cX6_placeByLaw 19 = .ok (.ireturn, 1) := by decide +kernel
theorem dX6_minutesByLaw_0 : decode cX6_minutesByLaw 0 = .ok (.aload_n 0, 1) := by decide +kernel
theorem dX6_minutesByLaw_1 : decode cX6_minutesByLaw 1 = .ok (.aload_n 0, 1) := by decide +kernel
theorem dX6_minutesByLaw_2 : decode cX6_minutesByLaw 2 = .ok (.iload_n 1, 1) := by decide +kernel
theorem dX6_minutesByLaw_3 : decode cX6_minutesByLaw 3 = .ok (.iload_n 2, 1) := by decide +kernel
theorem dX6_minutesByLaw_4 : decode cX6_minutesByLaw 4 = .ok (.invokevirtual 78, 3) := by decide +kernel
theorem dX6_minutesByLaw_7 : decode cX6_minutesByLaw 7 = .ok (.invokevirtual 84, 3) := by decide +kernel
theorem dX6_minutesByLaw_10 : decode cX6_minutesByLaw 10 = .ok (.iload_n 1, 1) := by decide +kernel
theorem dX6_minutesByLaw_11 : decode cX6_minutesByLaw 11 = .ok (.iconst 2, 1) := by decide +kernel
theorem dX6_minutesByLaw_12 : decode cX6_minutesByLaw 12 = .ok (.if_icmp .ne 7, 3) := by decide +kernel
theorem dX6_minutesByLaw_15 : decode cX6_minutesByLaw 15 = .ok (.iconst 2, 1) := by decide +kernel
theorem dX6_minutesByLaw_16 : decode cX6_minutesByLaw 16 = .ok (.goto 4, 3) := by decide +kernel
theorem dX6_minutesByLaw_19 : decode cX6_minutesByLaw 19 = .ok (.iconst 1, 1) := by decide +kernel
theorem dX6_minutesByLaw_20 : decode cX6_minutesByLaw 20 = .ok (.imul, 1) := by decide +kernel
theorem dX6_minutesByLaw_21 : decode cX6_minutesByLaw 21 = .ok (.ireturn, 1) := by decide +kernel
theorem dX6_gain_0 : decode cX6_gain 0 = .ok (.aload_n 0, 1) := by decide +kernel
theorem dX6_gain_1 : decode cX6_gain 1 = .ok (.iload_n 3, 1) := by decide +kernel
theorem dX6_gain_2 : decode cX6_gain 2 = .ok (.invokevirtual 71, 3) := by decide +kernel
theorem dX6_gain_5 : decode cX6_gain 5 = .ok (.istore 5, 2) := by decide +kernel
theorem dX6_gain_7 : decode cX6_gain 7 = .ok (.iload 5, 2) := by decide +kernel
theorem dX6_gain_9 : decode cX6_gain 9 = .ok (.iconst (-1), 1) := by decide +kernel
theorem dX6_gain_10 : decode cX6_gain 10 = .ok (.if_icmp .eq 18, 3) := by decide +kernel
theorem dX6_gain_13 : decode cX6_gain 13 = .ok (.iload 5, 2) := by decide +kernel
theorem dX6_gain_15 : decode cX6_gain 15 = .ok (.aload_n 0, 1) := by decide +kernel
theorem dX6_gain_16 : decode cX6_gain 16 = .ok (.iload_n 1, 1) := by decide +kernel
theorem dX6_gain_17 : decode cX6_gain 17 = .ok (.iload_n 2, 1) := by decide +kernel
theorem dX6_gain_18 : decode cX6_gain 18 = .ok (.invokevirtual 78, 3) := by decide +kernel
theorem dX6_gain_21 : decode cX6_gain 21 = .ok (.if_icmp .gt 7, 3) := by decide +kernel
theorem dX6_gain_24 : decode cX6_gain 24 = .ok (.iconst 1, 1) := by decide +kernel
theorem dX6_gain_25 : decode cX6_gain 25 = .ok (.goto 4, 3) := by decide +kernel
theorem dX6_gain_28 : decode cX6_gain 28 = .ok (.iconst 0, 1) := by decide +kernel
theorem dX6_gain_29 : decode cX6_gain 29 = .ok (.istore 6, 2) := by decide +kernel
theorem dX6_gain_31 : decode cX6_gain 31 = .ok (.iload 6, 2) := by decide +kernel
theorem dX6_gain_33 : decode cX6_gain 33 = .ok (.ifCond .eq 8, 3) := by decide +kernel
theorem dX6_gain_36 : decode cX6_gain 36 = .ok (.iload 4, 2) := by decide +kernel
theorem dX6_gain_38 : decode cX6_gain 38 = .ok (.goto 4, 3) := by decide +kernel
theorem dX6_gain_41 : decode cX6_gain 41 = .ok (.iconst 0, 1) := by decide +kernel
theorem dX6_gain_42 : decode cX6_gain 42 = .ok (.aload_n 0, 1) := by decide +kernel
theorem dX6_gain_43 : decode cX6_gain 43 = .ok (.iload_n 1, 1) := by decide +kernel
theorem dX6_gain_44 : decode cX6_gain 44 = .ok (.iload_n 2, 1) := by decide +kernel
theorem dX6_gain_45 : decode cX6_gain 45 = .ok (.invokevirtual 87, 3) := by decide +kernel
theorem dX6_gain_48 : decode cX6_gain 48 = .ok (.isub, 1) := by decide +kernel
theorem dX6_gain_49 : decode cX6_gain 49 = .ok (.ireturn, 1) := by decide +kernel
theorem dX6_dearest_0 : decode cX6_dearest 0 = .ok (.iconst 0, 1) := by decide +kernel
theorem dX6_dearest_1 : decode cX6_dearest 1 = .ok (.istore 4, 2) := by decide +kernel
theorem dX6_dearest_3 : decode cX6_dearest 3 = .ok (.iconst 1, 1) := by decide +kernel
theorem dX6_dearest_4 : decode cX6_dearest 4 = .ok (.istore 5, 2) := by decide +kernel
theorem dX6_dearest_6 : decode cX6_dearest 6 = .ok (.iload 5, 2) := by decide +kernel
theorem dX6_dearest_8 : decode cX6_dearest 8 = .ok (.aload_n 0, 1) := by decide +kernel
theorem dX6_dearest_9 : decode cX6_dearest 9 = .ok (.getfield 21, 3) := by decide +kernel
theorem dX6_dearest_12 : decode cX6_dearest 12 = .ok (.if_icmp .gt 34, 3) := by decide +kernel
theorem dX6_dearest_15 : decode cX6_dearest 15 = .ok (.aload_n 0, 1) := by decide +kernel
theorem dX6_dearest_16 : decode cX6_dearest 16 = .ok (.iload_n 1, 1) := by decide +kernel
theorem dX6_dearest_17 : decode cX6_dearest 17 = .ok (.iload 5, 2) := by decide +kernel
theorem dX6_dearest_19 : decode cX6_dearest 19 = .ok (.iload_n 2, 1) := by decide +kernel
theorem dX6_dearest_20 : decode cX6_dearest 20 = .ok (.iload_n 3, 1) := by decide +kernel
theorem dX6_dearest_21 : decode cX6_dearest 21 = .ok (.invokevirtual 90, 3) := by decide +kernel
theorem dX6_dearest_24 : decode cX6_dearest 24 = .ok (.aload_n 0, 1) := by decide +kernel
theorem dX6_dearest_25 : decode cX6_dearest 25 = .ok (.iload_n 1, 1) := by decide +kernel
theorem dX6_dearest_26 : decode cX6_dearest 26 = .ok (.iload 4, 2) := by decide +kernel
theorem dX6_dearest_28 : decode cX6_dearest 28 = .ok (.iload_n 2, 1) := by decide +kernel
theorem dX6_dearest_29 : decode cX6_dearest 29 = .ok (.iload_n 3, 1) := by decide +kernel
theorem dX6_dearest_30 : decode cX6_dearest 30 = .ok (.invokevirtual 90, 3) := by decide +kernel
theorem dX6_dearest_33 : decode cX6_dearest 33 = .ok (.if_icmp .le 7, 3) := by decide +kernel
theorem dX6_dearest_36 : decode cX6_dearest 36 = .ok (.iload 5, 2) := by decide +kernel
theorem dX6_dearest_38 : decode cX6_dearest 38 = .ok (.istore 4, 2) := by decide +kernel
theorem dX6_dearest_40 : decode cX6_dearest 40 = .ok (.iinc 5 1, 3) := by decide +kernel
theorem dX6_dearest_43 : decode cX6_dearest 43 = .ok (.goto (-37), 3) := by decide +kernel
theorem dX6_dearest_46 : decode cX6_dearest 46 = .ok (.iload 4, 2) := by decide +kernel
theorem dX6_dearest_48 : decode cX6_dearest 48 = .ok (.ireturn, 1) := by decide +kernel
theorem dX8_init_0 : decode cX8_init 0 = .ok (.aload_n 0, 1) := by decide +kernel
theorem dX8_init_1 : decode cX8_init 1 = .ok (.invokespecial 3, 3) := by decide +kernel
theorem dX8_init_4 : decode cX8_init 4 = .ok (.aload_n 0, 1) := by decide +kernel
theorem dX8_init_5 : decode cX8_init 5 = .ok (.sipush 400, 3) := by decide +kernel
theorem dX8_init_8 : decode cX8_init 8 = .ok (.newarray .int, 2) := by decide +kernel
theorem dX8_init_10 : decode cX8_init 10 = .ok (.putfield 9, 3) := by decide +kernel
theorem dX8_init_13 : decode cX8_init 13 = .ok (.return_, 1) := by decide +kernel
theorem dX8_append_0 : decode cX8_append 0 = .ok (.iload_n 1, 1) := by decide +kernel
theorem dX8_append_1 : decode cX8_append 1 = .ok (.iconst 1, 1) := by decide +kernel
theorem dX8_append_2 : decode cX8_append 2 = .ok (.isub, 1) := by decide +kernel
theorem dX8_append_3 : decode cX8_append 3 = .ok (.istore 4, 2) := by decide +kernel
theorem dX8_append_5 : decode cX8_append 5 = .ok (.iload 4, 2) := by decide +kernel
theorem dX8_append_7 : decode cX8_append 7 = .ok (.ifCond .lt 42, 3) := by decide +kernel
theorem dX8_append_10 : decode cX8_append 10 = .ok (.aload_n 0, 1) := by decide +kernel
theorem dX8_append_11 : decode cX8_append 11 = .ok (.getfield 9, 3) := by decide +kernel
theorem dX8_append_14 : decode cX8_append 14 = .ok (.aload_n 0, 1) := by decide +kernel
theorem dX8_append_15 : decode cX8_append 15 = .ok (.getfield 15, 3) := by decide +kernel
theorem dX8_append_18 : decode cX8_append 18 = .ok (.lload_n 2, 1) := by decide +kernel
theorem dX8_append_19 : decode cX8_append 19 = .ok (.bipush 8, 2) := by decide +kernel
theorem dX8_append_21 : decode cX8_append 21 = .ok (.iload 4, 2) := by decide +kernel
theorem dX8_append_23 : decode cX8_append 23 = .ok (.imul, 1) := by decide +kernel
theorem dX8_append_24 : decode cX8_append 24 = .ok (.lushr, 1) := by decide +kernel
theorem dX8_append_25 : decode cX8_append 25 = .ok (.ldc2_w 19, 3) := by decide +kernel
theorem dX8_append_28 : decode cX8_append 28 = .ok (.land, 1) := by decide +kernel
theorem dX8_append_29 : decode cX8_append 29 = .ok (.l2i, 1) := by decide +kernel
theorem dX8_append_30 : decode cX8_append 30 = .ok (.invokestatic 21, 3) := by decide +kernel
theorem dX8_append_33 : decode cX8_append 33 = .ok (.aload_n 0, 1) := by decide +kernel
theorem dX8_append_34 : decode cX8_append 34 = .ok (.dup, 1) := by decide +kernel
theorem dX8_append_35 : decode cX8_append 35 = .ok (.getfield 15, 3) := by decide +kernel
theorem dX8_append_38 : decode cX8_append 38 = .ok (.iconst 1, 1) := by decide +kernel
theorem dX8_append_39 : decode cX8_append 39 = .ok (.iadd, 1) := by decide +kernel
theorem dX8_append_40 : decode cX8_append 40 = .ok (.putfield 15, 3) := by decide +kernel
theorem dX8_append_43 : decode cX8_append 43 = .ok (.iinc 4 (-1), 3) := by decide +kernel
theorem dX8_append_46 : decode cX8_append 46 = .ok (.goto (-41), 3) := by decide +kernel
theorem dX8_append_49 : decode cX8_append 49 = .ok (.return_, 1) := by decide +kernel
end
section
theorem dX1_init_0 : decode cX1_init 0 = .ok (.aload_n 0, 1) := by decide +kernel
theorem dX1_init_1 : decode cX1_init 1 = .ok (.invokespecial 3, 3) := by decide +kernel
theorem dX1_init_4 : decode cX1_init 4 = .ok (.aload_n 0, 1) := by decide +kernel
theorem dX1_init_5 : decode cX1_init 5 = .ok (.bipush 6, 2) := by decide +kernel
theorem dX1_init_7 : decode cX1_init 7 = .ok (.newarray .int, 2) := by decide +kernel
theorem dX1_init_9 : decode cX1_init 9 = .ok (.putfield 9, 3) := by decide +kernel
theorem dX1_init_12 : decode cX1_init 12 = .ok (.aload_n 0, 1) := by decide +kernel
theorem dX1_init_13 : decode cX1_init 13 = .ok (.bipush 6, 2) := by decide +kernel
theorem dX1_init_15 : decode cX1_init 15 = .ok (.newarray .int, 2) := by decide +kernel
theorem dX1_init_17 : decode cX1_init 17 = .ok (.putfield 15, 3) := by decide +kernel
theorem dX1_init_20 : decode cX1_init 20 = .ok (.aload_n 0, 1) := by decide +kernel
theorem dX1_init_21 : decode cX1_init 21 = .ok (.bipush 10, 2) := by decide +kernel
theorem dX1_init_23 : decode cX1_init 23 = .ok (.newarray .int, 2) := by decide +kernel
theorem dX1_init_25 : decode cX1_init 25 = .ok (.putfield 18, 3) := by decide +kernel
theorem dX1_init_28 : decode cX1_init 28 = .ok (.aload_n 0, 1) := by decide +kernel
theorem dX1_init_29 : decode cX1_init 29 = .ok (.aload_n 1, 1) := by decide +kernel
theorem dX1_init_30 : decode cX1_init 30 = .ok (.putfield 21, 3) := by decide +kernel
theorem dX1_init_33 : decode cX1_init 33 = .ok (.aload_n 0, 1) := by decide +kernel
theorem dX1_init_34 : decode cX1_init 34 = .ok (.aload_n 2, 1) := by decide +kernel
theorem dX1_init_35 : decode cX1_init 35 = .ok (.putfield 25, 3) := by decide +kernel
theorem dX1_init_38 : decode cX1_init 38 = .ok (.return_, 1) := by decide +kernel
theorem dX1_gather_0 : decode cX1_gather 0 = .ok (.iconst 0, 1) := by decide +kernel
theorem dX1_gather_1 : decode cX1_gather 1 = .ok (.istore 4, 2) := by decide +kernel
theorem dX1_gather_3 : decode cX1_gather 3 = .ok (.iload 4, 2) := by decide +kernel
theorem dX1_gather_5 : decode cX1_gather 5 = .ok (.aload_n 0, 1) := by decide +kernel
theorem dX1_gather_6 : decode cX1_gather 6 = .ok (.getfield 21, 3) := by decide +kernel
theorem dX1_gather_9 : decode cX1_gather 9 = .ok (.getfield 29, 3) := by decide +kernel
theorem dX1_gather_12 : decode cX1_gather 12 = .ok (.if_icmp .ge 109, 3) := by decide +kernel
theorem dX1_gather_15 : decode cX1_gather 15 = .ok (.iload_n 2, 1) := by decide +kernel
theorem dX1_gather_16 : decode cX1_gather 16 = .ok (.ifCond .eq 80, 3) := by decide +kernel
theorem dX1_gather_19 : decode cX1_gather 19 = .ok (.aload_n 0, 1) := by decide +kernel
theorem dX1_gather_20 : decode cX1_gather 20 = .ok (.getfield 25, 3) := by decide +kernel
theorem dX1_gather_23 : decode cX1_gather 23 = .ok (.aload_n 0, 1) := by decide +kernel
theorem dX1_gather_24 : decode cX1_gather 24 = .ok (.getfield 21, 3) := by decide +kernel
theorem dX1_gather_27 : decode cX1_gather 27 = .ok (.aload_n 0, 1) := by decide +kernel
theorem dX1_gather_28 : decode cX1_gather 28 = .ok (.getfield 21, 3) := by decide +kernel
theorem dX1_gather_31 : decode cX1_gather 31 = .ok (.getfield 35, 3) := by decide +kernel
theorem dX1_gather_34 : decode cX1_gather 34 = .ok (.iload 4, 2) := by decide +kernel
theorem dX1_gather_36 : decode cX1_gather 36 = .ok (.invokestatic 38, 3) := by decide +kernel
theorem dX1_gather_39 : decode cX1_gather 39 = .ok (.aload_n 0, 1) := by decide +kernel
theorem dX1_gather_40 : decode cX1_gather 40 = .ok (.getfield 21, 3) := by decide +kernel
theorem dX1_gather_43 : decode cX1_gather 43 = .ok (.getfield 42, 3) := by decide +kernel
theorem dX1_gather_46 : decode cX1_gather 46 = .ok (.iload 4, 2) := by decide +kernel
theorem dX1_gather_48 : decode cX1_gather 48 = .ok (.invokestatic 38, 3) := by decide +kernel
theorem dX1_gather_51 : decode cX1_gather 51 = .ok (.iload_n 1, 1) := by decide +kernel
theorem dX1_gather_52 : decode cX1_gather 52 = .ok (.invokevirtual 45, 3) := by decide +kernel
theorem dX1_gather_55 : decode cX1_gather 55 = .ok (.aload_n 0, 1) := by decide +kernel
theorem dX1_gather_56 : decode cX1_gather 56 = .ok (.iload 4, 2) := by decide +kernel
theorem dX1_gather_58 : decode cX1_gather 58 = .ok (.aload_n 0, 1) := by decide +kernel
theorem dX1_gather_59 : decode cX1_gather 59 = .ok (.getfield 25, 3) := by decide +kernel
theorem dX1_gather_62 : decode cX1_gather 62 = .ok (.iload_n 3, 1) := by decide +kernel
theorem dX1_gather_63 : decode cX1_gather 63 = .ok (.aload_n 0, 1) := by decide +kernel
theorem dX1_gather_64 : decode cX1_gather 64 = .ok (.getfield 21, 3) := by decide +kernel
theorem dX1_gather_67 : decode cX1_gather 67 = .ok (.getfield 51, 3) := by decide +kernel
theorem dX1_gather_70 : decode cX1_gather 70 = .ok (.iload 4, 2) := by decide +kernel
theorem dX1_gather_72 : decode cX1_gather 72 = .ok (.invokestatic 38, 3) := by decide +kernel
theorem dX1_gather_75 : decode cX1_gather 75 = .ok (.aload_n 0, 1) := by decide +kernel
theorem dX1_gather_76 : decode cX1_gather 76 = .ok (.getfield 21, 3) := by decide +kernel
theorem dX1_gather_79 : decode cX1_gather 79 = .ok (.getfield 54, 3) := by decide +kernel
theorem dX1_gather_82 : decode cX1_gather 82 = .ok (.iload 4, 2) := by decide +kernel
theorem dX1_gather_84 : decode cX1_gather 84 = .ok (.invokestatic 38, 3) := by decide +kernel
theorem dX1_gather_87 : decode cX1_gather 87 = .ok (.invokevirtual 57, 3) := by decide +kernel
theorem dX1_gather_90 : decode cX1_gather 90 = .ok (.invokevirtual 61, 3) := by decide +kernel
theorem dX1_gather_93 : decode cX1_gather 93 = .ok (.goto 22, 3) := by decide +kernel
theorem dX1_gather_96 : decode cX1_gather 96 = .ok (.aload_n 0, 1) := by decide +kernel
theorem dX1_gather_97 : decode cX1_gather 97 = .ok (.iload 4, 2) := by decide +kernel
theorem dX1_gather_99 : decode cX1_gather 99 = .ok (.aload_n 0, 1) := by decide +kernel
theorem dX1_gather_100 : decode cX1_gather 100 = .ok (.getfield 21, 3) := by decide +kernel
theorem dX1_gather_103 : decode cX1_gather 103 = .ok (.getfield 35, 3) := by decide +kernel
theorem dX1_gather_106 : decode cX1_gather 106 = .ok (.iload 4, 2) := by decide +kernel
theorem dX1_gather_108 : decode cX1_gather 108 = .ok (.invokestatic 38, 3) := by decide +kernel
theorem dX1_gather_111 : decode cX1_gather 111 = .ok (.iload_n 1, 1) := by decide +kernel
theorem dX1_gather_112 : decode cX1_gather 112 = .ok (.invokevirtual 65, 3) := by decide +kernel
theorem dX1_gather_115 : decode cX1_gather 115 = .ok (.iinc 4 1, 3) := by decide +kernel
theorem dX1_gather_118 : decode cX1_gather 118 = .ok (.goto (-115), 3) := by decide +kernel
theorem dX1_gather_121 : decode cX1_gather 121 = .ok (.return_, 1) := by decide +kernel
theorem dX1_ask_0 : decode cX1_ask 0 = .ok (.aload_n 0, 1) := by decide +kernel
theorem dX1_ask_1 : decode cX1_ask 1 = .ok (.getfield 25, 3) := by decide +kernel
theorem dX1_ask_4 : decode cX1_ask 4 = .ok (.aload_n 0, 1) := by decide +kernel
theorem dX1_ask_5 : decode cX1_ask 5 = .ok (.getfield 21, 3) := by decide +kernel
theorem dX1_ask_8 : decode cX1_ask 8 = .ok (.iload_n 2, 1) := by decide +kernel
theorem dX1_ask_9 : decode cX1_ask 9 = .ok (.aload_n 0, 1) := by decide +kernel
theorem dX1_ask_10 : decode cX1_ask 10 = .ok (.getfield 21, 3) := by decide +kernel
theorem dX1_ask_13 : decode cX1_ask 13 = .ok (.getfield 42, 3) := by decide +kernel
theorem dX1_ask_16 : decode cX1_ask 16 = .ok (.iload_n 1, 1) := by decide +kernel
theorem dX1_ask_17 : decode cX1_ask 17 = .ok (.invokestatic 38, 3) := by decide +kernel
theorem dX1_ask_20 : decode cX1_ask 20 = .ok (.iload_n 3, 1) := by decide +kernel
theorem dX1_ask_21 : decode cX1_ask 21 = .ok (.invokevirtual 45, 3) := by decide +kernel
theorem dX1_ask_24 : decode cX1_ask 24 = .ok (.aload_n 0, 1) := by decide +kernel
theorem dX1_ask_25 : decode cX1_ask 25 = .ok (.iload_n 1, 1) := by decide +kernel
theorem dX1_ask_26 : decode cX1_ask 26 = .ok (.aload_n 0, 1) := by decide +kernel
theorem dX1_ask_27 : decode cX1_ask 27 = .ok (.getfield 25, 3) := by decide +kernel
theorem dX1_ask_30 : decode cX1_ask 30 = .ok (.aload_n 0, 1) := by decide +kernel
theorem dX1_ask_31 : decode cX1_ask 31 = .ok (.getfield 21, 3) := by decide +kernel
theorem dX1_ask_34 : decode cX1_ask 34 = .ok (.getfield 69, 3) := by decide +kernel
theorem dX1_ask_37 : decode cX1_ask 37 = .ok (.iload_n 1, 1) := by decide +kernel
theorem dX1_ask_38 : decode cX1_ask 38 = .ok (.invokestatic 38, 3) := by decide +kernel
theorem dX1_ask_41 : decode cX1_ask 41 = .ok (.aload_n 0, 1) := by decide +kernel
theorem dX1_ask_42 : decode cX1_ask 42 = .ok (.getfield 21, 3) := by decide +kernel
theorem dX1_ask_45 : decode cX1_ask 45 = .ok (.getfield 51, 3) := by decide +kernel
theorem dX1_ask_48 : decode cX1_ask 48 = .ok (.iload_n 1, 1) := by decide +kernel
theorem dX1_ask_49 : decode cX1_ask 49 = .ok (.invokestatic 38, 3) := by decide +kernel
theorem dX1_ask_52 : decode cX1_ask 52 = .ok (.invokevirtual 72, 3) := by decide +kernel
theorem dX1_ask_55 : decode cX1_ask 55 = .ok (.invokevirtual 61, 3) := by decide +kernel
theorem dX1_ask_58 : decode cX1_ask 58 = .ok (.return_, 1) := by decide +kernel
theorem dX1_hear_0 : decode cX1_hear 0 = .ok (.aload_n 0, 1) := by decide +kernel
theorem dX1_hear_1 : decode cX1_hear 1 = .ok (.getfield 9, 3) := by decide +kernel
theorem dX1_hear_4 : decode cX1_hear 4 = .ok (.iload_n 1, 1) := by decide +kernel
theorem dX1_hear_5 : decode cX1_hear 5 = .ok (.iload_n 2, 1) := by decide +kernel
theorem dX1_hear_6 : decode cX1_hear 6 = .ok (.ifCond .le 14, 3) := by decide +kernel
theorem dX1_hear_9 : decode cX1_hear 9 = .ok (.aload_n 0, 1) := by decide +kernel
theorem dX1_hear_10 : decode cX1_hear 10 = .ok (.getfield 25, 3) := by decide +kernel
theorem dX1_hear_13 : decode cX1_hear 13 = .ok (.iload_n 2, 1) := by decide +kernel
theorem dX1_hear_14 : decode cX1_hear 14 = .ok (.invokevirtual 76, 3) := by decide +kernel
theorem dX1_hear_17 : decode cX1_hear 17 = .ok (.goto 4, 3) := by decide +kernel
theorem dX1_hear_20 : decode cX1_hear 20 = .ok (.iconst (-1), 1) := by decide +kernel
theorem dX1_hear_21 : decode cX1_hear 21 = .ok (.invokestatic 80, 3) := by decide +kernel
theorem dX1_hear_24 : decode cX1_hear 24 = .ok (.aload_n 0, 1) := by decide +kernel
theorem dX1_hear_25 : decode cX1_hear 25 = .ok (.getfield 15, 3) := by decide +kernel
theorem dX1_hear_28 : decode cX1_hear 28 = .ok (.iload_n 1, 1) := by decide +kernel
theorem dX1_hear_29 : decode cX1_hear 29 = .ok (.aload_n 0, 1) := by decide +kernel
theorem dX1_hear_30 : decode cX1_hear 30 = .ok (.getfield 25, 3) := by decide +kernel
theorem dX1_hear_33 : decode cX1_hear 33 = .ok (.iload_n 2, 1) := by decide +kernel
theorem dX1_hear_34 : decode cX1_hear 34 = .ok (.invokevirtual 84, 3) := by decide +kernel
theorem dX1_hear_37 : decode cX1_hear 37 = .ok (.invokestatic 80, 3) := by decide +kernel
theorem dX1_hear_40 : decode cX1_hear 40 = .ok (.return_, 1) := by decide +kernel
theorem dX1_leads_0 : decode cX1_leads 0 = .ok (.aload_n 0, 1) := by decide +kernel
theorem dX1_leads_1 : decode cX1_leads 1 = .ok (.getfield 21, 3) := by decide +kernel
theorem dX1_leads_4 : decode cX1_leads 4 = .ok (.getfield 42, 3) := by decide +kernel
theorem dX1_leads_7 : decode cX1_leads 7 = .ok (.iload_n 1, 1) := by decide +kernel
theorem dX1_leads_8 : decode cX1_leads 8 = .ok (.invokestatic 38, 3) := by decide +kernel
theorem dX1_leads_11 : decode cX1_leads 11 = .ok (.iload_n 2, 1) := by decide +kernel
theorem dX1_leads_12 : decode cX1_leads 12 = .ok (.if_icmp .ne 27, 3) := by decide +kernel
theorem dX1_leads_15 : decode cX1_leads 15 = .ok (.aload_n 0, 1) := by decide +kernel
theorem dX1_leads_16 : decode cX1_leads 16 = .ok (.getfield 9, 3) := by decide +kernel
theorem dX1_leads_19 : decode cX1_leads 19 = .ok (.iload_n 1, 1) := by decide +kernel
theorem dX1_leads_20 : decode cX1_leads 20 = .ok (.invokestatic 38, 3) := by decide +kernel
theorem dX1_leads_23 : decode cX1_leads 23 = .ok (.iconst (-1), 1) := by decide +kernel
theorem dX1_leads_24 : decode cX1_leads 24 = .ok (.if_icmp .eq 15, 3) := by decide +kernel
theorem dX1_leads_27 : decode cX1_leads 27 = .ok (.iload_n 3, 1) := by decide +kernel
theorem dX1_leads_28 : decode cX1_leads 28 = .ok (.iload_n 1, 1) := by decide +kernel
theorem dX1_leads_29 : decode cX1_leads 29 = .ok (.ishr, 1) := by decide +kernel
theorem dX1_leads_30 : decode cX1_leads 30 = .ok (.iconst 1, 1) := by decide +kernel
theorem dX1_leads_31 : decode cX1_leads 31 = .ok (.iand, 1) := by decide +kernel
theorem dX1_leads_32 : decode cX1_leads 32 = .ok (.ifCond .ne 7, 3) := by decide +kernel
theorem dX1_leads_35 : decode cX1_leads 35 = .ok (.iconst 1, 1) := by decide +kernel
theorem dX1_leads_36 : decode cX1_leads 36 = .ok (.goto 4, 3) := by decide +kernel
theorem dX1_leads_39 : decode cX1_leads 39 = .ok (.iconst 0, 1) := by decide +kernel
theorem dX1_leads_40 : decode cX1_leads 40 = .ok (.ireturn, 1) := by decide +kernel
theorem dX1_howMany_0 : decode cX1_howMany 0 = .ok (.iconst 0, 1) := by decide +kernel
theorem dX1_howMany_1 : decode cX1_howMany 1 = .ok (.istore_n 3, 1) := by decide +kernel
theorem dX1_howMany_2 : decode cX1_howMany 2 = .ok (.iconst 0, 1) := by decide +kernel
theorem dX1_howMany_3 : decode cX1_howMany 3 = .ok (.istore 4, 2) := by decide +kernel
theorem dX1_howMany_5 : decode cX1_howMany 5 = .ok (.iload 4, 2) := by decide +kernel
theorem dX1_howMany_7 : decode cX1_howMany 7 = .ok (.aload_n 0, 1) := by decide +kernel
theorem dX1_howMany_8 : decode cX1_howMany 8 = .ok (.getfield 21, 3) := by decide +kernel
theorem dX1_howMany_11 : decode cX1_howMany 11 = .ok (.getfield 29, 3) := by decide +kernel
theorem dX1_howMany_14 : decode cX1_howMany 14 = .ok (.if_icmp .ge 28, 3) := by decide +kernel
theorem dX1_howMany_17 : decode cX1_howMany 17 = .ok (.iload_n 3, 1) := by decide +kernel
theorem dX1_howMany_18 : decode cX1_howMany 18 = .ok (.aload_n 0, 1) := by decide +kernel
theorem dX1_howMany_19 : decode cX1_howMany 19 = .ok (.iload 4, 2) := by decide +kernel
theorem dX1_howMany_21 : decode cX1_howMany 21 = .ok (.iload_n 1, 1) := by decide +kernel
theorem dX1_howMany_22 : decode cX1_howMany 22 = .ok (.iload_n 2, 1) := by decide +kernel
theorem dX1_howMany_23 : decode cX1_howMany 23 = .ok (.invokevirtual 87, 3) := by decide +kernel
theorem dX1_howMany_26 : decode cX1_howMany 26 = .ok (.ifCond .eq 7, 3) := by decide +kernel
theorem dX1_howMany_29 : decode cX1_howMany 29 = .ok (.iconst 1, 1) := by decide +kernel
theorem dX1_howMany_30 : decode cX1_howMany 30 = .ok (.goto 4, 3) := by decide +kernel
theorem dX1_howMany_33 : decode cX1_howMany 33 = .ok (.iconst 0, 1) := by decide +kernel
theorem dX1_howMany_34 : decode cX1_howMany 34 = .ok (.iadd, 1) := by decide +kernel
theorem dX1_howMany_35 : decode cX1_howMany 35 = .ok (.istore_n 3, 1) := by decide +kernel
theorem dX1_howMany_36 : decode cX1_howMany 36 = .ok (.iinc 4 1, 3) := by decide +kernel
theorem dX1_howMany_39 : decode cX1_howMany 39 = .ok (.goto (-34), 3) := by decide +kernel
theorem dX1_howMany_42 : decode cX1_howMany 42 = .ok (.iload_n 3, 1) := by decide +kernel
theorem dX1_howMany_43 : decode cX1_howMany 43 = .ok (.ireturn, 1) := by decide +kernel
theorem dX1_leader_0 : decode cX1_leader 0 = .ok (.iconst 0, 1) := by decide +kernel
theorem dX1_leader_1 : decode cX1_leader 1 = .ok (.istore 4, 2) := by decide +kernel
theorem dX1_leader_3 : decode cX1_leader 3 = .ok (.iconst 0, 1) := by decide +kernel
theorem dX1_leader_4 : decode cX1_leader 4 = .ok (.istore 5, 2) := by decide +kernel
theorem dX1_leader_6 : decode cX1_leader 6 = .ok (.iload 5, 2) := by decide +kernel
theorem dX1_leader_8 : decode cX1_leader 8 = .ok (.aload_n 0, 1) := by decide +kernel
theorem dX1_leader_9 : decode cX1_leader 9 = .ok (.getfield 21, 3) := by decide +kernel
theorem dX1_leader_12 : decode cX1_leader 12 = .ok (.getfield 29, 3) := by decide +kernel
theorem dX1_leader_15 : decode cX1_leader 15 = .ok (.if_icmp .ge 32, 3) := by decide +kernel
theorem dX1_leader_18 : decode cX1_leader 18 = .ok (.aload_n 0, 1) := by decide +kernel
theorem dX1_leader_19 : decode cX1_leader 19 = .ok (.iload 5, 2) := by decide +kernel
theorem dX1_leader_21 : decode cX1_leader 21 = .ok (.iload_n 1, 1) := by decide +kernel
theorem dX1_leader_22 : decode cX1_leader 22 = .ok (.iload_n 2, 1) := by decide +kernel
theorem dX1_leader_23 : decode cX1_leader 23 = .ok (.invokevirtual 87, 3) := by decide +kernel
theorem dX1_leader_26 : decode cX1_leader 26 = .ok (.ifCond .eq 15, 3) := by decide +kernel
theorem dX1_leader_29 : decode cX1_leader 29 = .ok (.iload 4, 2) := by decide +kernel
theorem dX1_leader_31 : decode cX1_leader 31 = .ok (.iload_n 3, 1) := by decide +kernel
theorem dX1_leader_32 : decode cX1_leader 32 = .ok (.if_icmp .ne 6, 3) := by decide +kernel
theorem dX1_leader_35 : decode cX1_leader 35 = .ok (.iload 5, 2) := by decide +kernel
theorem dX1_leader_37 : decode cX1_leader 37 = .ok (.ireturn, 1) := by decide +kernel
theorem dX1_leader_38 : decode cX1_leader 38 = .ok (.iinc 4 1, 3) := by decide +kernel
theorem dX1_leader_41 : decode cX1_leader 41 = .ok (.iinc 5 1, 3) := by decide +kernel
theorem dX1_leader_44 : decode cX1_leader 44 = .ok (.goto (-38), 3) := by decide +kernel
theorem dX1_leader_47 : decode cX1_leader 47 = .ok (.iconst (-1), 1) := by decide +kernel
theorem dX1_leader_48 : decode cX1_leader 48 = .ok (.ireturn, 1) := by decide +kernel
theorem dX1_lead_0 : decode cX1_lead 0 = .ok (.iconst 0, 1) := by decide +kernel
theorem dX1_lead_1 : decode cX1_lead 1 = .ok (.istore 4, 2) := by decide +kernel
theorem dX1_lead_3 : decode cX1_lead 3 = .ok (.aload_n 0, 1) := by decide +kernel
theorem dX1_lead_4 : decode cX1_lead 4 = .ok (.iload_n 1, 1) := by decide +kernel
theorem dX1_lead_5 : decode cX1_lead 5 = .ok (.putfield 91, 3) := by decide +kernel
theorem dX1_lead_8 : decode cX1_lead 8 = .ok (.aload_n 0, 1) := by decide +kernel
theorem dX1_lead_9 : decode cX1_lead 9 = .ok (.iconst 0, 1) := by decide +kernel
theorem dX1_lead_10 : decode cX1_lead 10 = .ok (.putfield 94, 3) := by decide +kernel
theorem dX1_lead_13 : decode cX1_lead 13 = .ok (.aload_n 0, 1) := by decide +kernel
theorem dX1_lead_14 : decode cX1_lead 14 = .ok (.iconst 0, 1) := by decide +kernel
theorem dX1_lead_15 : decode cX1_lead 15 = .ok (.putfield 97, 3) := by decide +kernel
theorem dX1_lead_18 : decode cX1_lead 18 = .ok (.iconst 0, 1) := by decide +kernel
theorem dX1_lead_19 : decode cX1_lead 19 = .ok (.istore 5, 2) := by decide +kernel
theorem dX1_lead_21 : decode cX1_lead 21 = .ok (.iload 5, 2) := by decide +kernel
theorem dX1_lead_23 : decode cX1_lead 23 = .ok (.bipush 6, 2) := by decide +kernel
theorem dX1_lead_25 : decode cX1_lead 25 = .ok (.if_icmp .ge 111, 3) := by decide +kernel
theorem dX1_lead_28 : decode cX1_lead 28 = .ok (.aload_n 0, 1) := by decide +kernel
theorem dX1_lead_29 : decode cX1_lead 29 = .ok (.getfield 91, 3) := by decide +kernel
theorem dX1_lead_32 : decode cX1_lead 32 = .ok (.iload_n 2, 1) := by decide +kernel
theorem dX1_lead_33 : decode cX1_lead 33 = .ok (.if_icmp .eq 103, 3) := by decide +kernel
theorem dX1_lead_36 : decode cX1_lead 36 = .ok (.aload_n 0, 1) := by decide +kernel
theorem dX1_lead_37 : decode cX1_lead 37 = .ok (.aload_n 0, 1) := by decide +kernel
theorem dX1_lead_38 : decode cX1_lead 38 = .ok (.getfield 91, 3) := by decide +kernel
theorem dX1_lead_41 : decode cX1_lead 41 = .ok (.iload 4, 2) := by decide +kernel
theorem dX1_lead_43 : decode cX1_lead 43 = .ok (.invokevirtual 100, 3) := by decide +kernel
theorem dX1_lead_46 : decode cX1_lead 46 = .ok (.istore 6, 2) := by decide +kernel
theorem dX1_lead_48 : decode cX1_lead 48 = .ok (.iload 6, 2) := by decide +kernel
theorem dX1_lead_50 : decode cX1_lead 50 = .ok (.ifCond .ne 4, 3) := by decide +kernel
theorem dX1_lead_53 : decode cX1_lead 53 = .ok (.return_, 1) := by decide +kernel
theorem dX1_lead_54 : decode cX1_lead 54 = .ok (.aload_n 0, 1) := by decide +kernel
theorem dX1_lead_55 : decode cX1_lead 55 = .ok (.aload_n 0, 1) := by decide +kernel
theorem dX1_lead_56 : decode cX1_lead 56 = .ok (.getfield 91, 3) := by decide +kernel
theorem dX1_lead_59 : decode cX1_lead 59 = .ok (.iload 4, 2) := by decide +kernel
theorem dX1_lead_61 : decode cX1_lead 61 = .ok (.aload_n 3, 1) := by decide +kernel
theorem dX1_lead_62 : decode cX1_lead 62 = .ok (.ifnonnull 7, 3) := by decide +kernel
theorem dX1_lead_65 : decode cX1_lead 65 = .ok (.iconst 0, 1) := by decide +kernel
theorem dX1_lead_66 : decode cX1_lead 66 = .ok (.goto 9, 3) := by decide +kernel
theorem dX1_lead_69 : decode cX1_lead 69 = .ok (.aload_n 3, 1) := by decide +kernel
theorem dX1_lead_70 : decode cX1_lead 70 = .ok (.iload 6, 2) := by decide +kernel
theorem dX1_lead_72 : decode cX1_lead 72 = .ok (.invokevirtual 103, 3) := by decide +kernel
theorem dX1_lead_75 : decode cX1_lead 75 = .ok (.invokevirtual 108, 3) := by decide +kernel
theorem dX1_lead_78 : decode cX1_lead 78 = .ok (.istore 7, 2) := by decide +kernel
theorem dX1_lead_80 : decode cX1_lead 80 = .ok (.iload 4, 2) := by decide +kernel
theorem dX1_lead_82 : decode cX1_lead 82 = .ok (.iconst 1, 1) := by decide +kernel
theorem dX1_lead_83 : decode cX1_lead 83 = .ok (.iload 7, 2) := by decide +kernel
theorem dX1_lead_85 : decode cX1_lead 85 = .ok (.ishl, 1) := by decide +kernel
theorem dX1_lead_86 : decode cX1_lead 86 = .ok (.ior, 1) := by decide +kernel
theorem dX1_lead_87 : decode cX1_lead 87 = .ok (.istore 4, 2) := by decide +kernel
theorem dX1_lead_89 : decode cX1_lead 89 = .ok (.aload_n 0, 1) := by decide +kernel
theorem dX1_lead_90 : decode cX1_lead 90 = .ok (.aload_n 0, 1) := by decide +kernel
theorem dX1_lead_91 : decode cX1_lead 91 = .ok (.getfield 9, 3) := by decide +kernel
theorem dX1_lead_94 : decode cX1_lead 94 = .ok (.iload 7, 2) := by decide +kernel
theorem dX1_lead_96 : decode cX1_lead 96 = .ok (.invokestatic 38, 3) := by decide +kernel
theorem dX1_lead_99 : decode cX1_lead 99 = .ok (.putfield 91, 3) := by decide +kernel
theorem dX1_lead_102 : decode cX1_lead 102 = .ok (.aload_n 0, 1) := by decide +kernel
theorem dX1_lead_103 : decode cX1_lead 103 = .ok (.dup, 1) := by decide +kernel
theorem dX1_lead_104 : decode cX1_lead 104 = .ok (.getfield 94, 3) := by decide +kernel
theorem dX1_lead_107 : decode cX1_lead 107 = .ok (.aload_n 0, 1) := by decide +kernel
theorem dX1_lead_108 : decode cX1_lead 108 = .ok (.getfield 15, 3) := by decide +kernel
theorem dX1_lead_111 : decode cX1_lead 111 = .ok (.iload 7, 2) := by decide +kernel
theorem dX1_lead_113 : decode cX1_lead 113 = .ok (.invokestatic 38, 3) := by decide +kernel
theorem dX1_lead_116 : decode cX1_lead 116 = .ok (.iadd, 1) := by decide +kernel
theorem dX1_lead_117 : decode cX1_lead 117 = .ok (.putfield 94, 3) := by decide +kernel
theorem dX1_lead_120 : decode cX1_lead 120 = .ok (.aload_n 0, 1) := by decide +kernel
theorem dX1_lead_121 : decode cX1_lead 121 = .ok (.dup, 1) := by decide +kernel
theorem dX1_lead_122 : decode cX1_lead 122 = .ok (.getfield 97, 3) := by decide +kernel
theorem dX1_lead_125 : decode cX1_lead 125 = .ok (.iconst 1, 1) := by decide +kernel
theorem dX1_lead_126 : decode cX1_lead 126 = .ok (.iadd, 1) := by decide +kernel
theorem dX1_lead_127 : decode cX1_lead 127 = .ok (.putfield 97, 3) := by decide +kernel
theorem dX1_lead_130 : decode cX1_lead 130 = .ok (.iinc 5 1, 3) := by decide +kernel
theorem dX1_lead_133 : decode cX1_lead 133 = .ok (.goto (-112), 3) := by decide +kernel
theorem dX1_lead_136 : decode cX1_lead 136 = .ok (.return_, 1) := by decide +kernel
theorem dX1_fewestMinutes_0 : decode cX1_fewestMinutes 0 = .ok (.aload_n 0, 1) := by decide +kernel
theorem dX1_fewestMinutes_1 : decode cX1_fewestMinutes 1 = .ok (.getfield 18, 3) := by decide +kernel
theorem dX1_fewestMinutes_4 : decode cX1_fewestMinutes 4 = .ok (.ldc 111, 2) := by decide +kernel
theorem dX1_fewestMinutes_6 : decode cX1_fewestMinutes 6 = .ok (.invokestatic 112, 3) := by decide +kernel
theorem dX1_fewestMinutes_9 : decode cX1_fewestMinutes 9 = .ok (.aload_n 0, 1) := by decide +kernel
theorem dX1_fewestMinutes_10 : decode cX1_fewestMinutes 10 = .ok (.getfield 18, 3) := by decide +kernel
theorem dX1_fewestMinutes_13 : decode cX1_fewestMinutes 13 = .ok (.iload_n 2, 1) := by decide +kernel
theorem dX1_fewestMinutes_14 : decode cX1_fewestMinutes 14 = .ok (.iconst 0, 1) := by decide +kernel
theorem dX1_fewestMinutes_15 : decode cX1_fewestMinutes 15 = .ok (.invokestatic 80, 3) := by decide +kernel
theorem dX1_fewestMinutes_18 : decode cX1_fewestMinutes 18 = .ok (.iconst 1, 1) := by decide +kernel
theorem dX1_fewestMinutes_19 : decode cX1_fewestMinutes 19 = .ok (.istore_n 3, 1) := by decide +kernel
theorem dX1_fewestMinutes_20 : decode cX1_fewestMinutes 20 = .ok (.iconst 0, 1) := by decide +kernel
theorem dX1_fewestMinutes_21 : decode cX1_fewestMinutes 21 = .ok (.istore 4, 2) := by decide +kernel
theorem dX1_fewestMinutes_23 : decode cX1_fewestMinutes 23 = .ok (.iload 4, 2) := by decide +kernel
theorem dX1_fewestMinutes_25 : decode cX1_fewestMinutes 25 = .ok (.bipush 10, 2) := by decide +kernel
theorem dX1_fewestMinutes_27 : decode cX1_fewestMinutes 27 = .ok (.if_icmp .ge 104, 3) := by decide +kernel
theorem dX1_fewestMinutes_30 : decode cX1_fewestMinutes 30 = .ok (.iload_n 3, 1) := by decide +kernel
theorem dX1_fewestMinutes_31 : decode cX1_fewestMinutes 31 = .ok (.ifCond .eq 100, 3) := by decide +kernel
theorem dX1_fewestMinutes_34 : decode cX1_fewestMinutes 34 = .ok (.iconst 0, 1) := by decide +kernel
theorem dX1_fewestMinutes_35 : decode cX1_fewestMinutes 35 = .ok (.istore_n 3, 1) := by decide +kernel
theorem dX1_fewestMinutes_36 : decode cX1_fewestMinutes 36 = .ok (.iconst 0, 1) := by decide +kernel
theorem dX1_fewestMinutes_37 : decode cX1_fewestMinutes 37 = .ok (.istore 5, 2) := by decide +kernel
theorem dX1_fewestMinutes_39 : decode cX1_fewestMinutes 39 = .ok (.iload 5, 2) := by decide +kernel
theorem dX1_fewestMinutes_41 : decode cX1_fewestMinutes 41 = .ok (.aload_n 0, 1) := by decide +kernel
theorem dX1_fewestMinutes_42 : decode cX1_fewestMinutes 42 = .ok (.getfield 21, 3) := by decide +kernel
theorem dX1_fewestMinutes_45 : decode cX1_fewestMinutes 45 = .ok (.getfield 29, 3) := by decide +kernel
theorem dX1_fewestMinutes_48 : decode cX1_fewestMinutes 48 = .ok (.if_icmp .ge 77, 3) := by decide +kernel
theorem dX1_fewestMinutes_51 : decode cX1_fewestMinutes 51 = .ok (.aload_n 0, 1) := by decide +kernel
theorem dX1_fewestMinutes_52 : decode cX1_fewestMinutes 52 = .ok (.getfield 9, 3) := by decide +kernel
theorem dX1_fewestMinutes_55 : decode cX1_fewestMinutes 55 = .ok (.iload 5, 2) := by decide +kernel
theorem dX1_fewestMinutes_57 : decode cX1_fewestMinutes 57 = .ok (.invokestatic 38, 3) := by decide +kernel
theorem dX1_fewestMinutes_60 : decode cX1_fewestMinutes 60 = .ok (.iconst (-1), 1) := by decide +kernel
theorem dX1_fewestMinutes_61 : decode cX1_fewestMinutes 61 = .ok (.if_icmp .eq 58, 3) := by decide +kernel
theorem dX1_fewestMinutes_64 : decode cX1_fewestMinutes 64 = .ok (.aload_n 0, 1) := by decide +kernel
theorem dX1_fewestMinutes_65 : decode cX1_fewestMinutes 65 = .ok (.iload 5, 2) := by decide +kernel
theorem dX1_fewestMinutes_67 : decode cX1_fewestMinutes 67 = .ok (.invokevirtual 118, 3) := by decide +kernel
theorem dX1_fewestMinutes_70 : decode cX1_fewestMinutes 70 = .ok (.aload_n 0, 1) := by decide +kernel
theorem dX1_fewestMinutes_71 : decode cX1_fewestMinutes 71 = .ok (.getfield 18, 3) := by decide +kernel
theorem dX1_fewestMinutes_74 : decode cX1_fewestMinutes 74 = .ok (.aload_n 0, 1) := by decide +kernel
theorem dX1_fewestMinutes_75 : decode cX1_fewestMinutes 75 = .ok (.getfield 21, 3) := by decide +kernel
theorem dX1_fewestMinutes_78 : decode cX1_fewestMinutes 78 = .ok (.getfield 42, 3) := by decide +kernel
theorem dX1_fewestMinutes_81 : decode cX1_fewestMinutes 81 = .ok (.iload 5, 2) := by decide +kernel
theorem dX1_fewestMinutes_83 : decode cX1_fewestMinutes 83 = .ok (.invokestatic 38, 3) := by decide +kernel
theorem dX1_fewestMinutes_86 : decode cX1_fewestMinutes 86 = .ok (.invokestatic 38, 3) := by decide +kernel
theorem dX1_fewestMinutes_89 : decode cX1_fewestMinutes 89 = .ok (.if_icmp .ge 30, 3) := by decide +kernel
theorem dX1_fewestMinutes_92 : decode cX1_fewestMinutes 92 = .ok (.aload_n 0, 1) := by decide +kernel
theorem dX1_fewestMinutes_93 : decode cX1_fewestMinutes 93 = .ok (.getfield 18, 3) := by decide +kernel
theorem dX1_fewestMinutes_96 : decode cX1_fewestMinutes 96 = .ok (.aload_n 0, 1) := by decide +kernel
theorem dX1_fewestMinutes_97 : decode cX1_fewestMinutes 97 = .ok (.getfield 21, 3) := by decide +kernel
theorem dX1_fewestMinutes_100 : decode cX1_fewestMinutes 100 = .ok (.getfield 42, 3) := by decide +kernel
theorem dX1_fewestMinutes_103 : decode cX1_fewestMinutes 103 = .ok (.iload 5, 2) := by decide +kernel
theorem dX1_fewestMinutes_105 : decode cX1_fewestMinutes 105 = .ok (.invokestatic 38, 3) := by decide +kernel
theorem dX1_fewestMinutes_108 : decode cX1_fewestMinutes 108 = .ok (.aload_n 0, 1) := by decide +kernel
theorem dX1_fewestMinutes_109 : decode cX1_fewestMinutes 109 = .ok (.iload 5, 2) := by decide +kernel
theorem dX1_fewestMinutes_111 : decode cX1_fewestMinutes 111 = .ok (.invokevirtual 118, 3) := by decide +kernel
theorem dX1_fewestMinutes_114 : decode cX1_fewestMinutes 114 = .ok (.invokestatic 80, 3) := by decide +kernel
theorem dX1_fewestMinutes_117 : decode cX1_fewestMinutes 117 = .ok (.iconst 1, 1) := by decide +kernel
theorem dX1_fewestMinutes_118 : decode cX1_fewestMinutes 118 = .ok (.istore_n 3, 1) := by decide +kernel
theorem dX1_fewestMinutes_119 : decode cX1_fewestMinutes 119 = .ok (.iinc 5 1, 3) := by decide +kernel
theorem dX1_fewestMinutes_122 : decode cX1_fewestMinutes 122 = .ok (.goto (-83), 3) := by decide +kernel
theorem dX1_fewestMinutes_125 : decode cX1_fewestMinutes 125 = .ok (.iinc 4 1, 3) := by decide +kernel
theorem dX1_fewestMinutes_128 : decode cX1_fewestMinutes 128 = .ok (.goto (-105), 3) := by decide +kernel
theorem dX1_fewestMinutes_131 : decode cX1_fewestMinutes 131 = .ok (.aload_n 0, 1) := by decide +kernel
theorem dX1_fewestMinutes_132 : decode cX1_fewestMinutes 132 = .ok (.getfield 18, 3) := by decide +kernel
theorem dX1_fewestMinutes_135 : decode cX1_fewestMinutes 135 = .ok (.iload_n 1, 1) := by decide +kernel
theorem dX1_fewestMinutes_136 : decode cX1_fewestMinutes 136 = .ok (.invokestatic 38, 3) := by decide +kernel
theorem dX1_fewestMinutes_139 : decode cX1_fewestMinutes 139 = .ok (.ldc 111, 2) := by decide +kernel
theorem dX1_fewestMinutes_141 : decode cX1_fewestMinutes 141 = .ok (.if_icmp .lt 7, 3) := by decide +kernel
theorem dX1_fewestMinutes_144 : decode cX1_fewestMinutes 144 = .ok (.iconst (-1), 1) := by decide +kernel
theorem dX1_fewestMinutes_145 : decode cX1_fewestMinutes 145 = .ok (.goto 14, 3) := by decide +kernel
theorem dX1_fewestMinutes_148 : decode cX1_fewestMinutes 148 = .ok (.aload_n 0, 1) := by decide +kernel
theorem dX1_fewestMinutes_149 : decode cX1_fewestMinutes 149 = .ok (.getfield 18, 3) := by decide +kernel
theorem dX1_fewestMinutes_152 : decode cX1_fewestMinutes 152 = .ok (.iload_n 1, 1) := by decide +kernel
theorem dX1_fewestMinutes_153 : decode cX1_fewestMinutes 153 = .ok (.invokestatic 38, 3) := by decide +kernel
theorem dX1_fewestMinutes_156 : decode cX1_fewestMinutes 156 = .ok (.bipush 16, 2) := by decide +kernel
theorem dX1_fewestMinutes_158 : decode cX1_fewestMinutes 158 = .ok (.idiv, 1) := by decide +kernel
theorem dX1_fewestMinutes_159 : decode cX1_fewestMinutes 159 = .ok (.ireturn, 1) := by decide +kernel
theorem dX1_keyBy_0 : decode cX1_keyBy 0 = .ok (.aload_n 0, 1) := by decide +kernel
theorem dX1_keyBy_1 : decode cX1_keyBy 1 = .ok (.getfield 18, 3) := by decide +kernel
theorem dX1_keyBy_4 : decode cX1_keyBy 4 = .ok (.aload_n 0, 1) := by decide +kernel
theorem dX1_keyBy_5 : decode cX1_keyBy 5 = .ok (.getfield 9, 3) := by decide +kernel
theorem dX1_keyBy_8 : decode cX1_keyBy 8 = .ok (.iload_n 1, 1) := by decide +kernel
theorem dX1_keyBy_9 : decode cX1_keyBy 9 = .ok (.invokestatic 38, 3) := by decide +kernel
theorem dX1_keyBy_12 : decode cX1_keyBy 12 = .ok (.invokestatic 38, 3) := by decide +kernel
theorem dX1_keyBy_15 : decode cX1_keyBy 15 = .ok (.aload_n 0, 1) := by decide +kernel
theorem dX1_keyBy_16 : decode cX1_keyBy 16 = .ok (.getfield 15, 3) := by decide +kernel
theorem dX1_keyBy_19 : decode cX1_keyBy 19 = .ok (.iload_n 1, 1) := by decide +kernel
theorem dX1_keyBy_20 : decode cX1_keyBy 20 = .ok (.invokestatic 38, 3) := by decide +kernel
theorem dX1_keyBy_23 : decode cX1_keyBy 23 = .ok (.bipush 16, 2) := by decide +kernel
theorem dX1_keyBy_25 : decode cX1_keyBy 25 = .ok (.imul, 1) := by decide +kernel
theorem dX1_keyBy_26 : decode cX1_keyBy 26 = .ok (.iadd, 1) := by decide +kernel
theorem dX1_keyBy_27 : decode cX1_keyBy 27 = .ok (.iconst 1, 1) := by decide +kernel
theorem dX1_keyBy_28 : decode cX1_keyBy 28 = .ok (.iadd, 1) := by decide +kernel
theorem dX1_keyBy_29 : decode cX1_keyBy 29 = .ok (.ireturn, 1) := by decide +kernel
theorem dX1_fewestGuides_0 : decode cX1_fewestGuides 0 = .ok (.aload_n 0, 1) := by decide +kernel
theorem dX1_fewestGuides_1 : decode cX1_fewestGuides 1 = .ok (.getfield 18, 3) := by decide +kernel
theorem dX1_fewestGuides_4 : decode cX1_fewestGuides 4 = .ok (.iload_n 1, 1) := by decide +kernel
theorem dX1_fewestGuides_5 : decode cX1_fewestGuides 5 = .ok (.invokestatic 38, 3) := by decide +kernel
theorem dX1_fewestGuides_8 : decode cX1_fewestGuides 8 = .ok (.bipush 16, 2) := by decide +kernel
theorem dX1_fewestGuides_10 : decode cX1_fewestGuides 10 = .ok (.irem, 1) := by decide +kernel
theorem dX1_fewestGuides_11 : decode cX1_fewestGuides 11 = .ok (.ireturn, 1) := by decide +kernel
theorem dX1_bestGuide_0 : decode cX1_bestGuide 0 = .ok (.iload_n 1, 1) := by decide +kernel
theorem dX1_bestGuide_1 : decode cX1_bestGuide 1 = .ok (.istore 4, 2) := by decide +kernel
theorem dX1_bestGuide_3 : decode cX1_bestGuide 3 = .ok (.iconst 0, 1) := by decide +kernel
theorem dX1_bestGuide_4 : decode cX1_bestGuide 4 = .ok (.istore 5, 2) := by decide +kernel
theorem dX1_bestGuide_6 : decode cX1_bestGuide 6 = .ok (.iload 5, 2) := by decide +kernel
theorem dX1_bestGuide_8 : decode cX1_bestGuide 8 = .ok (.iload_n 3, 1) := by decide +kernel
theorem dX1_bestGuide_9 : decode cX1_bestGuide 9 = .ok (.if_icmp .gt 50, 3) := by decide +kernel
theorem dX1_bestGuide_12 : decode cX1_bestGuide 12 = .ok (.iload 5, 2) := by decide +kernel
theorem dX1_bestGuide_14 : decode cX1_bestGuide 14 = .ok (.bipush 6, 2) := by decide +kernel
theorem dX1_bestGuide_16 : decode cX1_bestGuide 16 = .ok (.if_icmp .ge 43, 3) := by decide +kernel
theorem dX1_bestGuide_19 : decode cX1_bestGuide 19 = .ok (.iload 4, 2) := by decide +kernel
theorem dX1_bestGuide_21 : decode cX1_bestGuide 21 = .ok (.iload_n 2, 1) := by decide +kernel
theorem dX1_bestGuide_22 : decode cX1_bestGuide 22 = .ok (.if_icmp .eq 37, 3) := by decide +kernel
theorem dX1_bestGuide_25 : decode cX1_bestGuide 25 = .ok (.aload_n 0, 1) := by decide +kernel
theorem dX1_bestGuide_26 : decode cX1_bestGuide 26 = .ok (.iload 4, 2) := by decide +kernel
theorem dX1_bestGuide_28 : decode cX1_bestGuide 28 = .ok (.invokevirtual 121, 3) := by decide +kernel
theorem dX1_bestGuide_31 : decode cX1_bestGuide 31 = .ok (.istore 6, 2) := by decide +kernel
theorem dX1_bestGuide_33 : decode cX1_bestGuide 33 = .ok (.iload 5, 2) := by decide +kernel
theorem dX1_bestGuide_35 : decode cX1_bestGuide 35 = .ok (.iload_n 3, 1) := by decide +kernel
theorem dX1_bestGuide_36 : decode cX1_bestGuide 36 = .ok (.if_icmp .ne 6, 3) := by decide +kernel
theorem dX1_bestGuide_39 : decode cX1_bestGuide 39 = .ok (.iload 6, 2) := by decide +kernel
theorem dX1_bestGuide_41 : decode cX1_bestGuide 41 = .ok (.ireturn, 1) := by decide +kernel
theorem dX1_bestGuide_42 : decode cX1_bestGuide 42 = .ok (.aload_n 0, 1) := by decide +kernel
theorem dX1_bestGuide_43 : decode cX1_bestGuide 43 = .ok (.getfield 9, 3) := by decide +kernel
theorem dX1_bestGuide_46 : decode cX1_bestGuide 46 = .ok (.iload 6, 2) := by decide +kernel
theorem dX1_bestGuide_48 : decode cX1_bestGuide 48 = .ok (.invokestatic 38, 3) := by decide +kernel
theorem dX1_bestGuide_51 : decode cX1_bestGuide 51 = .ok (.istore 4, 2) := by decide +kernel
theorem dX1_bestGuide_53 : decode cX1_bestGuide 53 = .ok (.iinc 5 1, 3) := by decide +kernel
theorem dX1_bestGuide_56 : decode cX1_bestGuide 56 = .ok (.goto (-50), 3) := by decide +kernel
theorem dX1_bestGuide_59 : decode cX1_bestGuide 59 = .ok (.iconst (-1), 1) := by decide +kernel
theorem dX1_bestGuide_60 : decode cX1_bestGuide 60 = .ok (.ireturn, 1) := by decide +kernel
theorem dX1_leastGuide_0 : decode cX1_leastGuide 0 = .ok (.iconst 0, 1) := by decide +kernel
theorem dX1_leastGuide_1 : decode cX1_leastGuide 1 = .ok (.istore_n 2, 1) := by decide +kernel
theorem dX1_leastGuide_2 : decode cX1_leastGuide 2 = .ok (.iload_n 2, 1) := by decide +kernel
theorem dX1_leastGuide_3 : decode cX1_leastGuide 3 = .ok (.aload_n 0, 1) := by decide +kernel
theorem dX1_leastGuide_4 : decode cX1_leastGuide 4 = .ok (.getfield 21, 3) := by decide +kernel
theorem dX1_leastGuide_7 : decode cX1_leastGuide 7 = .ok (.getfield 29, 3) := by decide +kernel
theorem dX1_leastGuide_10 : decode cX1_leastGuide 10 = .ok (.if_icmp .ge 37, 3) := by decide +kernel
theorem dX1_leastGuide_13 : decode cX1_leastGuide 13 = .ok (.aload_n 0, 1) := by decide +kernel
theorem dX1_leastGuide_14 : decode cX1_leastGuide 14 = .ok (.iload_n 2, 1) := by decide +kernel
theorem dX1_leastGuide_15 : decode cX1_leastGuide 15 = .ok (.iload_n 1, 1) := by decide +kernel
theorem dX1_leastGuide_16 : decode cX1_leastGuide 16 = .ok (.iconst 0, 1) := by decide +kernel
theorem dX1_leastGuide_17 : decode cX1_leastGuide 17 = .ok (.invokevirtual 87, 3) := by decide +kernel
theorem dX1_leastGuide_20 : decode cX1_leastGuide 20 = .ok (.ifCond .eq 21, 3) := by decide +kernel
theorem dX1_leastGuide_23 : decode cX1_leastGuide 23 = .ok (.aload_n 0, 1) := by decide +kernel
theorem dX1_leastGuide_24 : decode cX1_leastGuide 24 = .ok (.iload_n 2, 1) := by decide +kernel
theorem dX1_leastGuide_25 : decode cX1_leastGuide 25 = .ok (.invokevirtual 118, 3) := by decide +kernel
theorem dX1_leastGuide_28 : decode cX1_leastGuide 28 = .ok (.aload_n 0, 1) := by decide +kernel
theorem dX1_leastGuide_29 : decode cX1_leastGuide 29 = .ok (.getfield 18, 3) := by decide +kernel
theorem dX1_leastGuide_32 : decode cX1_leastGuide 32 = .ok (.iload_n 1, 1) := by decide +kernel
theorem dX1_leastGuide_33 : decode cX1_leastGuide 33 = .ok (.invokestatic 38, 3) := by decide +kernel
theorem dX1_leastGuide_36 : decode cX1_leastGuide 36 = .ok (.if_icmp .ne 5, 3) := by decide +kernel
theorem dX1_leastGuide_39 : decode cX1_leastGuide 39 = .ok (.iload_n 2, 1) := by decide +kernel
theorem dX1_leastGuide_40 : decode cX1_leastGuide 40 = .ok (.ireturn, 1) := by decide +kernel
theorem dX1_leastGuide_41 : decode cX1_leastGuide 41 = .ok (.iinc 2 1, 3) := by decide +kernel
theorem dX1_leastGuide_44 : decode cX1_leastGuide 44 = .ok (.goto (-42), 3) := by decide +kernel
theorem dX1_leastGuide_47 : decode cX1_leastGuide 47 = .ok (.iconst (-1), 1) := by decide +kernel
theorem dX1_leastGuide_48 : decode cX1_leastGuide 48 = .ok (.ireturn, 1) := by decide +kernel
theorem dX1_lots_0 : decode cX1_lots 0 = .ok (.aload_n 0, 1) := by decide +kernel
theorem dX1_lots_1 : decode cX1_lots 1 = .ok (.iload_n 2, 1) := by decide +kernel
theorem dX1_lots_2 : decode cX1_lots 2 = .ok (.putfield 124, 3) := by decide +kernel
theorem dX1_lots_5 : decode cX1_lots 5 = .ok (.aload_n 0, 1) := by decide +kernel
theorem dX1_lots_6 : decode cX1_lots 6 = .ok (.iconst 0, 1) := by decide +kernel
theorem dX1_lots_7 : decode cX1_lots 7 = .ok (.putfield 127, 3) := by decide +kernel
theorem dX1_lots_10 : decode cX1_lots 10 = .ok (.aload_n 0, 1) := by decide +kernel
theorem dX1_lots_11 : decode cX1_lots 11 = .ok (.iconst (-1), 1) := by decide +kernel
theorem dX1_lots_12 : decode cX1_lots 12 = .ok (.putfield 130, 3) := by decide +kernel
theorem dX1_lots_15 : decode cX1_lots 15 = .ok (.aload_n 0, 1) := by decide +kernel
theorem dX1_lots_16 : decode cX1_lots 16 = .ok (.lconst 0, 1) := by decide +kernel
theorem dX1_lots_17 : decode cX1_lots 17 = .ok (.putfield 133, 3) := by decide +kernel
theorem dX1_lots_20 : decode cX1_lots 20 = .ok (.aload_n 0, 1) := by decide +kernel
theorem dX1_lots_21 : decode cX1_lots 21 = .ok (.iload_n 1, 1) := by decide +kernel
theorem dX1_lots_22 : decode cX1_lots 22 = .ok (.iconst 0, 1) := by decide +kernel
theorem dX1_lots_23 : decode cX1_lots 23 = .ok (.ldc 111, 2) := by decide +kernel
theorem dX1_lots_25 : decode cX1_lots 25 = .ok (.iconst 0, 1) := by decide +kernel
theorem dX1_lots_26 : decode cX1_lots 26 = .ok (.invokestatic 137, 3) := by decide +kernel
theorem dX1_lots_29 : decode cX1_lots 29 = .ok (.return_, 1) := by decide +kernel
theorem dX1_castLots_0 : decode cX1_castLots 0 = .ok (.iload_n 1, 1) := by decide +kernel
theorem dX1_castLots_1 : decode cX1_castLots 1 = .ok (.aload_n 0, 1) := by decide +kernel
theorem dX1_castLots_2 : decode cX1_castLots 2 = .ok (.getfield 124, 3) := by decide +kernel
theorem dX1_castLots_5 : decode cX1_castLots 5 = .ok (.if_icmp .ne 32, 3) := by decide +kernel
theorem dX1_castLots_8 : decode cX1_castLots 8 = .ok (.aload_n 0, 1) := by decide +kernel
theorem dX1_castLots_9 : decode cX1_castLots 9 = .ok (.aload_n 0, 1) := by decide +kernel
theorem dX1_castLots_10 : decode cX1_castLots 10 = .ok (.getfield 130, 3) := by decide +kernel
theorem dX1_castLots_13 : decode cX1_castLots 13 = .ok (.iload 4, 2) := by decide +kernel
theorem dX1_castLots_15 : decode cX1_castLots 15 = .ok (.invokestatic 141, 3) := by decide +kernel
theorem dX1_castLots_18 : decode cX1_castLots 18 = .ok (.putfield 130, 3) := by decide +kernel
theorem dX1_castLots_21 : decode cX1_castLots 21 = .ok (.aload_n 0, 1) := by decide +kernel
theorem dX1_castLots_22 : decode cX1_castLots 22 = .ok (.dup, 1) := by decide +kernel
theorem dX1_castLots_23 : decode cX1_castLots 23 = .ok (.getfield 133, 3) := by decide +kernel
theorem dX1_castLots_26 : decode cX1_castLots 26 = .ok (.iload_n 3, 1) := by decide +kernel
theorem dX1_castLots_27 : decode cX1_castLots 27 = .ok (.i2l, 1) := by decide +kernel
theorem dX1_castLots_28 : decode cX1_castLots 28 = .ok (.iload 4, 2) := by decide +kernel
theorem dX1_castLots_30 : decode cX1_castLots 30 = .ok (.i2l, 1) := by decide +kernel
theorem dX1_castLots_31 : decode cX1_castLots 31 = .ok (.lmul, 1) := by decide +kernel
theorem dX1_castLots_32 : decode cX1_castLots 32 = .ok (.ladd, 1) := by decide +kernel
theorem dX1_castLots_33 : decode cX1_castLots 33 = .ok (.putfield 133, 3) := by decide +kernel
theorem dX1_castLots_36 : decode cX1_castLots 36 = .ok (.return_, 1) := by decide +kernel
theorem dX1_castLots_37 : decode cX1_castLots 37 = .ok (.aload_n 0, 1) := by decide +kernel
theorem dX1_castLots_38 : decode cX1_castLots 38 = .ok (.iload_n 1, 1) := by decide +kernel
theorem dX1_castLots_39 : decode cX1_castLots 39 = .ok (.iload_n 2, 1) := by decide +kernel
theorem dX1_castLots_40 : decode cX1_castLots 40 = .ok (.invokevirtual 100, 3) := by decide +kernel
theorem dX1_castLots_43 : decode cX1_castLots 43 = .ok (.istore 5, 2) := by decide +kernel
theorem dX1_castLots_45 : decode cX1_castLots 45 = .ok (.iload 5, 2) := by decide +kernel
theorem dX1_castLots_47 : decode cX1_castLots 47 = .ok (.ifCond .ne 14, 3) := by decide +kernel
theorem dX1_castLots_50 : decode cX1_castLots 50 = .ok (.aload_n 0, 1) := by decide +kernel
theorem dX1_castLots_51 : decode cX1_castLots 51 = .ok (.dup, 1) := by decide +kernel
theorem dX1_castLots_52 : decode cX1_castLots 52 = .ok (.getfield 127, 3) := by decide +kernel
theorem dX1_castLots_55 : decode cX1_castLots 55 = .ok (.iload_n 3, 1) := by decide +kernel
theorem dX1_castLots_56 : decode cX1_castLots 56 = .ok (.iadd, 1) := by decide +kernel
theorem dX1_castLots_57 : decode cX1_castLots 57 = .ok (.putfield 127, 3) := by decide +kernel
theorem dX1_castLots_60 : decode cX1_castLots 60 = .ok (.return_, 1) := by decide +kernel
theorem dX1_castLots_61 : decode cX1_castLots 61 = .ok (.iload_n 3, 1) := by decide +kernel
theorem dX1_castLots_62 : decode cX1_castLots 62 = .ok (.iload 5, 2) := by decide +kernel
theorem dX1_castLots_64 : decode cX1_castLots 64 = .ok (.idiv, 1) := by decide +kernel
theorem dX1_castLots_65 : decode cX1_castLots 65 = .ok (.istore 6, 2) := by decide +kernel
theorem dX1_castLots_67 : decode cX1_castLots 67 = .ok (.iconst 0, 1) := by decide +kernel
theorem dX1_castLots_68 : decode cX1_castLots 68 = .ok (.istore 7, 2) := by decide +kernel
theorem dX1_castLots_70 : decode cX1_castLots 70 = .ok (.iload 7, 2) := by decide +kernel
theorem dX1_castLots_72 : decode cX1_castLots 72 = .ok (.iload 5, 2) := by decide +kernel
theorem dX1_castLots_74 : decode cX1_castLots 74 = .ok (.if_icmp .ge 82, 3) := by decide +kernel
theorem dX1_castLots_77 : decode cX1_castLots 77 = .ok (.aload_n 0, 1) := by decide +kernel
theorem dX1_castLots_78 : decode cX1_castLots 78 = .ok (.iload_n 1, 1) := by decide +kernel
theorem dX1_castLots_79 : decode cX1_castLots 79 = .ok (.iload_n 2, 1) := by decide +kernel
theorem dX1_castLots_80 : decode cX1_castLots 80 = .ok (.iload 7, 2) := by decide +kernel
theorem dX1_castLots_82 : decode cX1_castLots 82 = .ok (.invokevirtual 108, 3) := by decide +kernel
theorem dX1_castLots_85 : decode cX1_castLots 85 = .ok (.istore 8, 2) := by decide +kernel
theorem dX1_castLots_87 : decode cX1_castLots 87 = .ok (.iload 8, 2) := by decide +kernel
theorem dX1_castLots_89 : decode cX1_castLots 89 = .ok (.iconst (-1), 1) := by decide +kernel
theorem dX1_castLots_90 : decode cX1_castLots 90 = .ok (.if_icmp .ne 4, 3) := by decide +kernel
theorem dX1_castLots_93 : decode cX1_castLots 93 = .ok (.return_, 1) := by decide +kernel
theorem dX1_castLots_94 : decode cX1_castLots 94 = .ok (.iload 7, 2) := by decide +kernel
theorem dX1_castLots_96 : decode cX1_castLots 96 = .ok (.iload 5, 2) := by decide +kernel
theorem dX1_castLots_98 : decode cX1_castLots 98 = .ok (.iconst 1, 1) := by decide +kernel
theorem dX1_castLots_99 : decode cX1_castLots 99 = .ok (.isub, 1) := by decide +kernel
theorem dX1_castLots_100 : decode cX1_castLots 100 = .ok (.if_icmp .ne 13, 3) := by decide +kernel
theorem dX1_castLots_103 : decode cX1_castLots 103 = .ok (.iload_n 3, 1) := by decide +kernel
theorem dX1_castLots_104 : decode cX1_castLots 104 = .ok (.iload 6, 2) := by decide +kernel
theorem dX1_castLots_106 : decode cX1_castLots 106 = .ok (.iload 7, 2) := by decide +kernel
theorem dX1_castLots_108 : decode cX1_castLots 108 = .ok (.imul, 1) := by decide +kernel
theorem dX1_castLots_109 : decode cX1_castLots 109 = .ok (.isub, 1) := by decide +kernel
theorem dX1_castLots_110 : decode cX1_castLots 110 = .ok (.goto 5, 3) := by decide +kernel
theorem dX1_castLots_113 : decode cX1_castLots 113 = .ok (.iload 6, 2) := by decide +kernel
theorem dX1_castLots_115 : decode cX1_castLots 115 = .ok (.istore 9, 2) := by decide +kernel
theorem dX1_castLots_117 : decode cX1_castLots 117 = .ok (.aload_n 0, 1) := by decide +kernel
theorem dX1_castLots_118 : decode cX1_castLots 118 = .ok (.aload_n 0, 1) := by decide +kernel
theorem dX1_castLots_119 : decode cX1_castLots 119 = .ok (.getfield 9, 3) := by decide +kernel
theorem dX1_castLots_122 : decode cX1_castLots 122 = .ok (.iload 8, 2) := by decide +kernel
theorem dX1_castLots_124 : decode cX1_castLots 124 = .ok (.invokestatic 38, 3) := by decide +kernel
theorem dX1_castLots_127 : decode cX1_castLots 127 = .ok (.iload_n 2, 1) := by decide +kernel
theorem dX1_castLots_128 : decode cX1_castLots 128 = .ok (.iconst 1, 1) := by decide +kernel
theorem dX1_castLots_129 : decode cX1_castLots 129 = .ok (.iload 8, 2) := by decide +kernel
theorem dX1_castLots_131 : decode cX1_castLots 131 = .ok (.ishl, 1) := by decide +kernel
theorem dX1_castLots_132 : decode cX1_castLots 132 = .ok (.ior, 1) := by decide +kernel
theorem dX1_castLots_133 : decode cX1_castLots 133 = .ok (.iload 9, 2) := by decide +kernel
theorem dX1_castLots_135 : decode cX1_castLots 135 = .ok (.iload 4, 2) := by decide +kernel
theorem dX1_castLots_137 : decode cX1_castLots 137 = .ok (.aload_n 0, 1) := by decide +kernel
theorem dX1_castLots_138 : decode cX1_castLots 138 = .ok (.getfield 15, 3) := by decide +kernel
theorem dX1_castLots_141 : decode cX1_castLots 141 = .ok (.iload 8, 2) := by decide +kernel
theorem dX1_castLots_143 : decode cX1_castLots 143 = .ok (.invokestatic 38, 3) := by decide +kernel
theorem dX1_castLots_146 : decode cX1_castLots 146 = .ok (.iadd, 1) := by decide +kernel
theorem dX1_castLots_147 : decode cX1_castLots 147 = .ok (.invokestatic 137, 3) := by decide +kernel
theorem dX1_castLots_150 : decode cX1_castLots 150 = .ok (.iinc 7 1, 3) := by decide +kernel
theorem dX1_castLots_153 : decode cX1_castLots 153 = .ok (.goto (-83), 3) := by decide +kernel
theorem dX1_castLots_156 : decode cX1_castLots 156 = .ok (.return_, 1) := by decide +kernel
theorem dX5_init_0 : decode cX5_init 0 = .ok (.aload_n 0, 1) := by decide +kernel
theorem dX5_init_1 : decode cX5_init 1 = .ok (.invokespecial 3, 3) := by decide +kernel
theorem dX5_init_4 : decode cX5_init 4 = .ok (.aload_n 0, 1) := by decide +kernel
theorem dX5_init_5 : decode cX5_init 5 = .ok (.bipush 84, 2) := by decide +kernel
theorem dX5_init_7 : decode cX5_init 7 = .ok (.newarray .int, 2) := by decide +kernel
theorem dX5_init_9 : decode cX5_init 9 = .ok (.putfield 11, 3) := by decide +kernel
theorem dX5_init_12 : decode cX5_init 12 = .ok (.aload_n 0, 1) := by decide +kernel
theorem dX5_init_13 : decode cX5_init 13 = .ok (.bipush 84, 2) := by decide +kernel
theorem dX5_init_15 : decode cX5_init 15 = .ok (.newarray .int, 2) := by decide +kernel
theorem dX5_init_17 : decode cX5_init 17 = .ok (.putfield 15, 3) := by decide +kernel
theorem dX5_init_20 : decode cX5_init 20 = .ok (.aload_n 0, 1) := by decide +kernel
theorem dX5_init_21 : decode cX5_init 21 = .ok (.bipush 6, 2) := by decide +kernel
theorem dX5_init_23 : decode cX5_init 23 = .ok (.newarray .int, 2) := by decide +kernel
theorem dX5_init_25 : decode cX5_init 25 = .ok (.putfield 18, 3) := by decide +kernel
theorem dX5_init_28 : decode cX5_init 28 = .ok (.aload_n 0, 1) := by decide +kernel
theorem dX5_init_29 : decode cX5_init 29 = .ok (.bipush 6, 2) := by decide +kernel
theorem dX5_init_31 : decode cX5_init 31 = .ok (.newarray .int, 2) := by decide +kernel
theorem dX5_init_33 : decode cX5_init 33 = .ok (.putfield 21, 3) := by decide +kernel
theorem dX5_init_36 : decode cX5_init 36 = .ok (.aload_n 0, 1) := by decide +kernel
theorem dX5_init_37 : decode cX5_init 37 = .ok (.aload_n 1, 1) := by decide +kernel
theorem dX5_init_38 : decode cX5_init 38 = .ok (.putfield 24, 3) := by decide +kernel
theorem dX5_init_41 : decode cX5_init 41 = .ok (.aload_n 0, 1) := by decide +kernel
theorem dX5_init_42 : decode cX5_init 42 = .ok (.aload_n 2, 1) := by decide +kernel
theorem dX5_init_43 : decode cX5_init 43 = .ok (.putfield 28, 3) := by decide +kernel
theorem dX5_init_46 : decode cX5_init 46 = .ok (.return_, 1) := by decide +kernel
theorem dX5_begin_0 : decode cX5_begin 0 = .ok (.aload_n 0, 1) := by decide +kernel
theorem dX5_begin_1 : decode cX5_begin 1 = .ok (.iload_n 1, 1) := by decide +kernel
theorem dX5_begin_2 : decode cX5_begin 2 = .ok (.putfield 32, 3) := by decide +kernel
theorem dX5_begin_5 : decode cX5_begin 5 = .ok (.aload_n 0, 1) := by decide +kernel
theorem dX5_begin_6 : decode cX5_begin 6 = .ok (.iload_n 2, 1) := by decide +kernel
theorem dX5_begin_7 : decode cX5_begin 7 = .ok (.putfield 36, 3) := by decide +kernel
theorem dX5_begin_10 : decode cX5_begin 10 = .ok (.aload_n 0, 1) := by decide +kernel
theorem dX5_begin_11 : decode cX5_begin 11 = .ok (.iload_n 3, 1) := by decide +kernel
theorem dX5_begin_12 : decode cX5_begin 12 = .ok (.putfield 39, 3) := by decide +kernel
theorem dX5_begin_15 : decode cX5_begin 15 = .ok (.aload_n 0, 1) := by decide +kernel
theorem dX5_begin_16 : decode cX5_begin 16 = .ok (.getfield 28, 3) := by decide +kernel
theorem dX5_begin_19 : decode cX5_begin 19 = .ok (.iload_n 2, 1) := by decide +kernel
theorem dX5_begin_20 : decode cX5_begin 20 = .ok (.iconst 0, 1) := by decide +kernel
theorem dX5_begin_21 : decode cX5_begin 21 = .ok (.iconst 0, 1) := by decide +kernel
theorem dX5_begin_22 : decode cX5_begin 22 = .ok (.invokevirtual 42, 3) := by decide +kernel
theorem dX5_begin_25 : decode cX5_begin 25 = .ok (.aload_n 0, 1) := by decide +kernel
theorem dX5_begin_26 : decode cX5_begin 26 = .ok (.getfield 28, 3) := by decide +kernel
theorem dX5_begin_29 : decode cX5_begin 29 = .ok (.getfield 48, 3) := by decide +kernel
theorem dX5_begin_32 : decode cX5_begin 32 = .ok (.aload_n 0, 1) := by decide +kernel
theorem dX5_begin_33 : decode cX5_begin 33 = .ok (.getfield 18, 3) := by decide +kernel
theorem dX5_begin_36 : decode cX5_begin 36 = .ok (.invokestatic 49, 3) := by decide +kernel
theorem dX5_begin_39 : decode cX5_begin 39 = .ok (.aload_n 0, 1) := by decide +kernel
theorem dX5_begin_40 : decode cX5_begin 40 = .ok (.getfield 28, 3) := by decide +kernel
theorem dX5_begin_43 : decode cX5_begin 43 = .ok (.getfield 53, 3) := by decide +kernel
theorem dX5_begin_46 : decode cX5_begin 46 = .ok (.aload_n 0, 1) := by decide +kernel
theorem dX5_begin_47 : decode cX5_begin 47 = .ok (.getfield 21, 3) := by decide +kernel
theorem dX5_begin_50 : decode cX5_begin 50 = .ok (.invokestatic 49, 3) := by decide +kernel
theorem dX5_begin_53 : decode cX5_begin 53 = .ok (.aload_n 0, 1) := by decide +kernel
theorem dX5_begin_54 : decode cX5_begin 54 = .ok (.aload_n 0, 1) := by decide +kernel
theorem dX5_begin_55 : decode cX5_begin 55 = .ok (.invokevirtual 54, 3) := by decide +kernel
theorem dX5_begin_58 : decode cX5_begin 58 = .ok (.ifCond .eq 7, 3) := by decide +kernel
theorem dX5_begin_61 : decode cX5_begin 61 = .ok (.iconst 0, 1) := by decide +kernel
theorem dX5_begin_62 : decode cX5_begin 62 = .ok (.goto 4, 3) := by decide +kernel
theorem dX5_begin_65 : decode cX5_begin 65 = .ok (.iconst (-1), 1) := by decide +kernel
theorem dX5_begin_66 : decode cX5_begin 66 = .ok (.putfield 58, 3) := by decide +kernel
theorem dX5_begin_69 : decode cX5_begin 69 = .ok (.return_, 1) := by decide +kernel
theorem dX5_seekOne_0 : decode cX5_seekOne 0 = .ok (.iconst 0, 1) := by decide +kernel
theorem dX5_seekOne_1 : decode cX5_seekOne 1 = .ok (.istore_n 1, 1) := by decide +kernel
theorem dX5_seekOne_2 : decode cX5_seekOne 2 = .ok (.iload_n 1, 1) := by decide +kernel
theorem dX5_seekOne_3 : decode cX5_seekOne 3 = .ok (.bipush 84, 2) := by decide +kernel
theorem dX5_seekOne_5 : decode cX5_seekOne 5 = .ok (.if_icmp .ge 113, 3) := by decide +kernel
theorem dX5_seekOne_8 : decode cX5_seekOne 8 = .ok (.iload_n 1, 1) := by decide +kernel
theorem dX5_seekOne_9 : decode cX5_seekOne 9 = .ok (.bipush 14, 2) := by decide +kernel
theorem dX5_seekOne_11 : decode cX5_seekOne 11 = .ok (.idiv, 1) := by decide +kernel
theorem dX5_seekOne_12 : decode cX5_seekOne 12 = .ok (.istore_n 2, 1) := by decide +kernel
theorem dX5_seekOne_13 : decode cX5_seekOne 13 = .ok (.aload_n 0, 1) := by decide +kernel
theorem dX5_seekOne_14 : decode cX5_seekOne 14 = .ok (.iload_n 1, 1) := by decide +kernel
theorem dX5_seekOne_15 : decode cX5_seekOne 15 = .ok (.invokevirtual 61, 3) := by decide +kernel
theorem dX5_seekOne_18 : decode cX5_seekOne 18 = .ok (.ifCond .eq 94, 3) := by decide +kernel
theorem dX5_seekOne_21 : decode cX5_seekOne 21 = .ok (.aload_n 0, 1) := by decide +kernel
theorem dX5_seekOne_22 : decode cX5_seekOne 22 = .ok (.getfield 28, 3) := by decide +kernel
theorem dX5_seekOne_25 : decode cX5_seekOne 25 = .ok (.iload_n 2, 1) := by decide +kernel
theorem dX5_seekOne_26 : decode cX5_seekOne 26 = .ok (.aload_n 0, 1) := by decide +kernel
theorem dX5_seekOne_27 : decode cX5_seekOne 27 = .ok (.getfield 24, 3) := by decide +kernel
theorem dX5_seekOne_30 : decode cX5_seekOne 30 = .ok (.getfield 65, 3) := by decide +kernel
theorem dX5_seekOne_33 : decode cX5_seekOne 33 = .ok (.iload_n 2, 1) := by decide +kernel
theorem dX5_seekOne_34 : decode cX5_seekOne 34 = .ok (.invokestatic 70, 3) := by decide +kernel
theorem dX5_seekOne_37 : decode cX5_seekOne 37 = .ok (.iconst 1, 1) := by decide +kernel
theorem dX5_seekOne_38 : decode cX5_seekOne 38 = .ok (.iload_n 1, 1) := by decide +kernel
theorem dX5_seekOne_39 : decode cX5_seekOne 39 = .ok (.bipush 14, 2) := by decide +kernel
theorem dX5_seekOne_41 : decode cX5_seekOne 41 = .ok (.irem, 1) := by decide +kernel
theorem dX5_seekOne_42 : decode cX5_seekOne 42 = .ok (.ishl, 1) := by decide +kernel
theorem dX5_seekOne_43 : decode cX5_seekOne 43 = .ok (.ior, 1) := by decide +kernel
theorem dX5_seekOne_44 : decode cX5_seekOne 44 = .ok (.aload_n 0, 1) := by decide +kernel
theorem dX5_seekOne_45 : decode cX5_seekOne 45 = .ok (.getfield 36, 3) := by decide +kernel
theorem dX5_seekOne_48 : decode cX5_seekOne 48 = .ok (.invokevirtual 74, 3) := by decide +kernel
theorem dX5_seekOne_51 : decode cX5_seekOne 51 = .ok (.aload_n 0, 1) := by decide +kernel
theorem dX5_seekOne_52 : decode cX5_seekOne 52 = .ok (.getfield 11, 3) := by decide +kernel
theorem dX5_seekOne_55 : decode cX5_seekOne 55 = .ok (.iload_n 1, 1) := by decide +kernel
theorem dX5_seekOne_56 : decode cX5_seekOne 56 = .ok (.aload_n 0, 1) := by decide +kernel
theorem dX5_seekOne_57 : decode cX5_seekOne 57 = .ok (.getfield 28, 3) := by decide +kernel
theorem dX5_seekOne_60 : decode cX5_seekOne 60 = .ok (.getfield 48, 3) := by decide +kernel
theorem dX5_seekOne_63 : decode cX5_seekOne 63 = .ok (.iload_n 2, 1) := by decide +kernel
theorem dX5_seekOne_64 : decode cX5_seekOne 64 = .ok (.invokestatic 70, 3) := by decide +kernel
theorem dX5_seekOne_67 : decode cX5_seekOne 67 = .ok (.invokestatic 78, 3) := by decide +kernel
theorem dX5_seekOne_70 : decode cX5_seekOne 70 = .ok (.aload_n 0, 1) := by decide +kernel
theorem dX5_seekOne_71 : decode cX5_seekOne 71 = .ok (.getfield 15, 3) := by decide +kernel
theorem dX5_seekOne_74 : decode cX5_seekOne 74 = .ok (.iload_n 1, 1) := by decide +kernel
theorem dX5_seekOne_75 : decode cX5_seekOne 75 = .ok (.aload_n 0, 1) := by decide +kernel
theorem dX5_seekOne_76 : decode cX5_seekOne 76 = .ok (.getfield 28, 3) := by decide +kernel
theorem dX5_seekOne_79 : decode cX5_seekOne 79 = .ok (.getfield 53, 3) := by decide +kernel
theorem dX5_seekOne_82 : decode cX5_seekOne 82 = .ok (.iload_n 2, 1) := by decide +kernel
theorem dX5_seekOne_83 : decode cX5_seekOne 83 = .ok (.invokestatic 70, 3) := by decide +kernel
theorem dX5_seekOne_86 : decode cX5_seekOne 86 = .ok (.invokestatic 78, 3) := by decide +kernel
theorem dX5_seekOne_89 : decode cX5_seekOne 89 = .ok (.aload_n 0, 1) := by decide +kernel
theorem dX5_seekOne_90 : decode cX5_seekOne 90 = .ok (.invokevirtual 54, 3) := by decide +kernel
theorem dX5_seekOne_93 : decode cX5_seekOne 93 = .ok (.ifCond .eq 14, 3) := by decide +kernel
theorem dX5_seekOne_96 : decode cX5_seekOne 96 = .ok (.aload_n 0, 1) := by decide +kernel
theorem dX5_seekOne_97 : decode cX5_seekOne 97 = .ok (.iconst 1, 1) := by decide +kernel
theorem dX5_seekOne_98 : decode cX5_seekOne 98 = .ok (.putfield 58, 3) := by decide +kernel
theorem dX5_seekOne_101 : decode cX5_seekOne 101 = .ok (.aload_n 0, 1) := by decide +kernel
theorem dX5_seekOne_102 : decode cX5_seekOne 102 = .ok (.iload_n 1, 1) := by decide +kernel
theorem dX5_seekOne_103 : decode cX5_seekOne 103 = .ok (.putfield 82, 3) := by decide +kernel
theorem dX5_seekOne_106 : decode cX5_seekOne 106 = .ok (.return_, 1) := by decide +kernel
theorem dX5_seekOne_107 : decode cX5_seekOne 107 = .ok (.aload_n 0, 1) := by decide +kernel
theorem dX5_seekOne_108 : decode cX5_seekOne 108 = .ok (.iload_n 2, 1) := by decide +kernel
theorem dX5_seekOne_109 : decode cX5_seekOne 109 = .ok (.invokevirtual 85, 3) := by decide +kernel
theorem dX5_seekOne_112 : decode cX5_seekOne 112 = .ok (.iinc 1 1, 3) := by decide +kernel
theorem dX5_seekOne_115 : decode cX5_seekOne 115 = .ok (.goto (-113), 3) := by decide +kernel
theorem dX5_seekOne_118 : decode cX5_seekOne 118 = .ok (.return_, 1) := by decide +kernel
theorem dX5_seekTwo_0 : decode cX5_seekTwo 0 = .ok (.iconst 0, 1) := by decide +kernel
theorem dX5_seekTwo_1 : decode cX5_seekTwo 1 = .ok (.istore_n 1, 1) := by decide +kernel
theorem dX5_seekTwo_2 : decode cX5_seekTwo 2 = .ok (.iload_n 1, 1) := by decide +kernel
theorem dX5_seekTwo_3 : decode cX5_seekTwo 3 = .ok (.bipush 84, 2) := by decide +kernel
theorem dX5_seekTwo_5 : decode cX5_seekTwo 5 = .ok (.if_icmp .ge 66, 3) := by decide +kernel
theorem dX5_seekTwo_8 : decode cX5_seekTwo 8 = .ok (.iload_n 1, 1) := by decide +kernel
theorem dX5_seekTwo_9 : decode cX5_seekTwo 9 = .ok (.iconst 1, 1) := by decide +kernel
theorem dX5_seekTwo_10 : decode cX5_seekTwo 10 = .ok (.iadd, 1) := by decide +kernel
theorem dX5_seekTwo_11 : decode cX5_seekTwo 11 = .ok (.istore_n 2, 1) := by decide +kernel
theorem dX5_seekTwo_12 : decode cX5_seekTwo 12 = .ok (.iload_n 2, 1) := by decide +kernel
theorem dX5_seekTwo_13 : decode cX5_seekTwo 13 = .ok (.bipush 84, 2) := by decide +kernel
theorem dX5_seekTwo_15 : decode cX5_seekTwo 15 = .ok (.if_icmp .ge 50, 3) := by decide +kernel
theorem dX5_seekTwo_18 : decode cX5_seekTwo 18 = .ok (.aload_n 0, 1) := by decide +kernel
theorem dX5_seekTwo_19 : decode cX5_seekTwo 19 = .ok (.iload_n 1, 1) := by decide +kernel
theorem dX5_seekTwo_20 : decode cX5_seekTwo 20 = .ok (.invokevirtual 61, 3) := by decide +kernel
theorem dX5_seekTwo_23 : decode cX5_seekTwo 23 = .ok (.ifCond .eq 36, 3) := by decide +kernel
theorem dX5_seekTwo_26 : decode cX5_seekTwo 26 = .ok (.aload_n 0, 1) := by decide +kernel
theorem dX5_seekTwo_27 : decode cX5_seekTwo 27 = .ok (.iload_n 2, 1) := by decide +kernel
theorem dX5_seekTwo_28 : decode cX5_seekTwo 28 = .ok (.invokevirtual 61, 3) := by decide +kernel
theorem dX5_seekTwo_31 : decode cX5_seekTwo 31 = .ok (.ifCond .eq 28, 3) := by decide +kernel
theorem dX5_seekTwo_34 : decode cX5_seekTwo 34 = .ok (.aload_n 0, 1) := by decide +kernel
theorem dX5_seekTwo_35 : decode cX5_seekTwo 35 = .ok (.iload_n 1, 1) := by decide +kernel
theorem dX5_seekTwo_36 : decode cX5_seekTwo 36 = .ok (.iload_n 2, 1) := by decide +kernel
theorem dX5_seekTwo_37 : decode cX5_seekTwo 37 = .ok (.invokevirtual 89, 3) := by decide +kernel
theorem dX5_seekTwo_40 : decode cX5_seekTwo 40 = .ok (.ifCond .eq 19, 3) := by decide +kernel
theorem dX5_seekTwo_43 : decode cX5_seekTwo 43 = .ok (.aload_n 0, 1) := by decide +kernel
theorem dX5_seekTwo_44 : decode cX5_seekTwo 44 = .ok (.iconst 2, 1) := by decide +kernel
theorem dX5_seekTwo_45 : decode cX5_seekTwo 45 = .ok (.putfield 58, 3) := by decide +kernel
theorem dX5_seekTwo_48 : decode cX5_seekTwo 48 = .ok (.aload_n 0, 1) := by decide +kernel
theorem dX5_seekTwo_49 : decode cX5_seekTwo 49 = .ok (.iload_n 1, 1) := by decide +kernel
theorem dX5_seekTwo_50 : decode cX5_seekTwo 50 = .ok (.putfield 82, 3) := by decide +kernel
theorem dX5_seekTwo_53 : decode cX5_seekTwo 53 = .ok (.aload_n 0, 1) := by decide +kernel
theorem dX5_seekTwo_54 : decode cX5_seekTwo 54 = .ok (.iload_n 2, 1) := by decide +kernel
theorem dX5_seekTwo_55 : decode cX5_seekTwo 55 = .ok (.putfield 93, 3) := by decide +kernel
theorem dX5_seekTwo_58 : decode cX5_seekTwo 58 = .ok (.return_, 1) := by decide +kernel
theorem dX5_seekTwo_59 : decode cX5_seekTwo 59 = .ok (.iinc 2 1, 3) := by decide +kernel
theorem dX5_seekTwo_62 : decode cX5_seekTwo 62 = .ok (.goto (-50), 3) := by decide +kernel
theorem dX5_seekTwo_65 : decode cX5_seekTwo 65 = .ok (.iinc 1 1, 3) := by decide +kernel
theorem dX5_seekTwo_68 : decode cX5_seekTwo 68 = .ok (.goto (-66), 3) := by decide +kernel
theorem dX5_seekTwo_71 : decode cX5_seekTwo 71 = .ok (.return_, 1) := by decide +kernel
theorem dX5_areBothInTime_0 : decode cX5_areBothInTime 0 = .ok (.iload_n 1, 1) := by decide +kernel
theorem dX5_areBothInTime_1 : decode cX5_areBothInTime 1 = .ok (.bipush 14, 2) := by decide +kernel
theorem dX5_areBothInTime_3 : decode cX5_areBothInTime 3 = .ok (.idiv, 1) := by decide +kernel
theorem dX5_areBothInTime_4 : decode cX5_areBothInTime 4 = .ok (.istore_n 3, 1) := by decide +kernel
theorem dX5_areBothInTime_5 : decode cX5_areBothInTime 5 = .ok (.iload_n 2, 1) := by decide +kernel
theorem dX5_areBothInTime_6 : decode cX5_areBothInTime 6 = .ok (.bipush 14, 2) := by decide +kernel
theorem dX5_areBothInTime_8 : decode cX5_areBothInTime 8 = .ok (.idiv, 1) := by decide +kernel
theorem dX5_areBothInTime_9 : decode cX5_areBothInTime 9 = .ok (.istore 4, 2) := by decide +kernel
theorem dX5_areBothInTime_11 : decode cX5_areBothInTime 11 = .ok (.iload_n 3, 1) := by decide +kernel
theorem dX5_areBothInTime_12 : decode cX5_areBothInTime 12 = .ok (.iload 4, 2) := by decide +kernel
theorem dX5_areBothInTime_14 : decode cX5_areBothInTime 14 = .ok (.if_icmp .ne 43, 3) := by decide +kernel
theorem dX5_areBothInTime_17 : decode cX5_areBothInTime 17 = .ok (.aload_n 0, 1) := by decide +kernel
theorem dX5_areBothInTime_18 : decode cX5_areBothInTime 18 = .ok (.getfield 28, 3) := by decide +kernel
theorem dX5_areBothInTime_21 : decode cX5_areBothInTime 21 = .ok (.iload_n 3, 1) := by decide +kernel
theorem dX5_areBothInTime_22 : decode cX5_areBothInTime 22 = .ok (.aload_n 0, 1) := by decide +kernel
theorem dX5_areBothInTime_23 : decode cX5_areBothInTime 23 = .ok (.getfield 24, 3) := by decide +kernel
theorem dX5_areBothInTime_26 : decode cX5_areBothInTime 26 = .ok (.getfield 65, 3) := by decide +kernel
theorem dX5_areBothInTime_29 : decode cX5_areBothInTime 29 = .ok (.iload_n 3, 1) := by decide +kernel
theorem dX5_areBothInTime_30 : decode cX5_areBothInTime 30 = .ok (.invokestatic 70, 3) := by decide +kernel
theorem dX5_areBothInTime_33 : decode cX5_areBothInTime 33 = .ok (.iconst 1, 1) := by decide +kernel
theorem dX5_areBothInTime_34 : decode cX5_areBothInTime 34 = .ok (.iload_n 1, 1) := by decide +kernel
theorem dX5_areBothInTime_35 : decode cX5_areBothInTime 35 = .ok (.bipush 14, 2) := by decide +kernel
theorem dX5_areBothInTime_37 : decode cX5_areBothInTime 37 = .ok (.irem, 1) := by decide +kernel
theorem dX5_areBothInTime_38 : decode cX5_areBothInTime 38 = .ok (.ishl, 1) := by decide +kernel
theorem dX5_areBothInTime_39 : decode cX5_areBothInTime 39 = .ok (.ior, 1) := by decide +kernel
theorem dX5_areBothInTime_40 : decode cX5_areBothInTime 40 = .ok (.iconst 1, 1) := by decide +kernel
theorem dX5_areBothInTime_41 : decode cX5_areBothInTime 41 = .ok (.iload_n 2, 1) := by decide +kernel
theorem dX5_areBothInTime_42 : decode cX5_areBothInTime 42 = .ok (.bipush 14, 2) := by decide +kernel
theorem dX5_areBothInTime_44 : decode cX5_areBothInTime 44 = .ok (.irem, 1) := by decide +kernel
theorem dX5_areBothInTime_45 : decode cX5_areBothInTime 45 = .ok (.ishl, 1) := by decide +kernel
theorem dX5_areBothInTime_46 : decode cX5_areBothInTime 46 = .ok (.ior, 1) := by decide +kernel
theorem dX5_areBothInTime_47 : decode cX5_areBothInTime 47 = .ok (.aload_n 0, 1) := by decide +kernel
theorem dX5_areBothInTime_48 : decode cX5_areBothInTime 48 = .ok (.getfield 36, 3) := by decide +kernel
theorem dX5_areBothInTime_51 : decode cX5_areBothInTime 51 = .ok (.invokevirtual 74, 3) := by decide +kernel
theorem dX5_areBothInTime_54 : decode cX5_areBothInTime 54 = .ok (.goto 31, 3) := by decide +kernel
theorem dX5_areBothInTime_57 : decode cX5_areBothInTime 57 = .ok (.aload_n 0, 1) := by decide +kernel
theorem dX5_areBothInTime_58 : decode cX5_areBothInTime 58 = .ok (.iload_n 1, 1) := by decide +kernel
theorem dX5_areBothInTime_59 : decode cX5_areBothInTime 59 = .ok (.invokevirtual 96, 3) := by decide +kernel
theorem dX5_areBothInTime_62 : decode cX5_areBothInTime 62 = .ok (.ifCond .ne 11, 3) := by decide +kernel
theorem dX5_areBothInTime_65 : decode cX5_areBothInTime 65 = .ok (.aload_n 0, 1) := by decide +kernel
theorem dX5_areBothInTime_66 : decode cX5_areBothInTime 66 = .ok (.iload_n 2, 1) := by decide +kernel
theorem dX5_areBothInTime_67 : decode cX5_areBothInTime 67 = .ok (.invokevirtual 96, 3) := by decide +kernel
theorem dX5_areBothInTime_70 : decode cX5_areBothInTime 70 = .ok (.ifCond .eq 5, 3) := by decide +kernel
theorem dX5_areBothInTime_73 : decode cX5_areBothInTime 73 = .ok (.iconst 0, 1) := by decide +kernel
theorem dX5_areBothInTime_74 : decode cX5_areBothInTime 74 = .ok (.ireturn, 1) := by decide +kernel
theorem dX5_areBothInTime_75 : decode cX5_areBothInTime 75 = .ok (.aload_n 0, 1) := by decide +kernel
theorem dX5_areBothInTime_76 : decode cX5_areBothInTime 76 = .ok (.iload_n 1, 1) := by decide +kernel
theorem dX5_areBothInTime_77 : decode cX5_areBothInTime 77 = .ok (.invokevirtual 99, 3) := by decide +kernel
theorem dX5_areBothInTime_80 : decode cX5_areBothInTime 80 = .ok (.aload_n 0, 1) := by decide +kernel
theorem dX5_areBothInTime_81 : decode cX5_areBothInTime 81 = .ok (.iload_n 2, 1) := by decide +kernel
theorem dX5_areBothInTime_82 : decode cX5_areBothInTime 82 = .ok (.invokevirtual 99, 3) := by decide +kernel
theorem dX5_areBothInTime_85 : decode cX5_areBothInTime 85 = .ok (.aload_n 0, 1) := by decide +kernel
theorem dX5_areBothInTime_86 : decode cX5_areBothInTime 86 = .ok (.invokevirtual 54, 3) := by decide +kernel
theorem dX5_areBothInTime_89 : decode cX5_areBothInTime 89 = .ok (.istore 5, 2) := by decide +kernel
theorem dX5_areBothInTime_91 : decode cX5_areBothInTime 91 = .ok (.aload_n 0, 1) := by decide +kernel
theorem dX5_areBothInTime_92 : decode cX5_areBothInTime 92 = .ok (.iload_n 3, 1) := by decide +kernel
theorem dX5_areBothInTime_93 : decode cX5_areBothInTime 93 = .ok (.invokevirtual 85, 3) := by decide +kernel
theorem dX5_areBothInTime_96 : decode cX5_areBothInTime 96 = .ok (.aload_n 0, 1) := by decide +kernel
theorem dX5_areBothInTime_97 : decode cX5_areBothInTime 97 = .ok (.iload 4, 2) := by decide +kernel
theorem dX5_areBothInTime_99 : decode cX5_areBothInTime 99 = .ok (.invokevirtual 85, 3) := by decide +kernel
theorem dX5_areBothInTime_102 : decode cX5_areBothInTime 102 = .ok (.iload 5, 2) := by decide +kernel
theorem dX5_areBothInTime_104 : decode cX5_areBothInTime 104 = .ok (.ireturn, 1) := by decide +kernel
theorem dX5_canBeLearnt_0 : decode cX5_canBeLearnt 0 = .ok (.iload_n 1, 1) := by decide +kernel
theorem dX5_canBeLearnt_1 : decode cX5_canBeLearnt 1 = .ok (.bipush 14, 2) := by decide +kernel
theorem dX5_canBeLearnt_3 : decode cX5_canBeLearnt 3 = .ok (.idiv, 1) := by decide +kernel
theorem dX5_canBeLearnt_4 : decode cX5_canBeLearnt 4 = .ok (.istore_n 2, 1) := by decide +kernel
theorem dX5_canBeLearnt_5 : decode cX5_canBeLearnt 5 = .ok (.iload_n 1, 1) := by decide +kernel
theorem dX5_canBeLearnt_6 : decode cX5_canBeLearnt 6 = .ok (.bipush 14, 2) := by decide +kernel
theorem dX5_canBeLearnt_8 : decode cX5_canBeLearnt 8 = .ok (.irem, 1) := by decide +kernel
theorem dX5_canBeLearnt_9 : decode cX5_canBeLearnt 9 = .ok (.istore_n 3, 1) := by decide +kernel
theorem dX5_canBeLearnt_10 : decode cX5_canBeLearnt 10 = .ok (.aload_n 0, 1) := by decide +kernel
theorem dX5_canBeLearnt_11 : decode cX5_canBeLearnt 11 = .ok (.getfield 24, 3) := by decide +kernel
theorem dX5_canBeLearnt_14 : decode cX5_canBeLearnt 14 = .ok (.iload_n 2, 1) := by decide +kernel
theorem dX5_canBeLearnt_15 : decode cX5_canBeLearnt 15 = .ok (.invokevirtual 102, 3) := by decide +kernel
theorem dX5_canBeLearnt_18 : decode cX5_canBeLearnt 18 = .ok (.ifCond .eq 36, 3) := by decide +kernel
theorem dX5_canBeLearnt_21 : decode cX5_canBeLearnt 21 = .ok (.aload_n 0, 1) := by decide +kernel
theorem dX5_canBeLearnt_22 : decode cX5_canBeLearnt 22 = .ok (.getfield 24, 3) := by decide +kernel
theorem dX5_canBeLearnt_25 : decode cX5_canBeLearnt 25 = .ok (.iload_n 3, 1) := by decide +kernel
theorem dX5_canBeLearnt_26 : decode cX5_canBeLearnt 26 = .ok (.invokevirtual 105, 3) := by decide +kernel
theorem dX5_canBeLearnt_29 : decode cX5_canBeLearnt 29 = .ok (.ifCond .eq 25, 3) := by decide +kernel
theorem dX5_canBeLearnt_32 : decode cX5_canBeLearnt 32 = .ok (.aload_n 0, 1) := by decide +kernel
theorem dX5_canBeLearnt_33 : decode cX5_canBeLearnt 33 = .ok (.getfield 24, 3) := by decide +kernel
theorem dX5_canBeLearnt_36 : decode cX5_canBeLearnt 36 = .ok (.getfield 65, 3) := by decide +kernel
theorem dX5_canBeLearnt_39 : decode cX5_canBeLearnt 39 = .ok (.iload_n 2, 1) := by decide +kernel
theorem dX5_canBeLearnt_40 : decode cX5_canBeLearnt 40 = .ok (.invokestatic 70, 3) := by decide +kernel
theorem dX5_canBeLearnt_43 : decode cX5_canBeLearnt 43 = .ok (.iload_n 3, 1) := by decide +kernel
theorem dX5_canBeLearnt_44 : decode cX5_canBeLearnt 44 = .ok (.ishr, 1) := by decide +kernel
theorem dX5_canBeLearnt_45 : decode cX5_canBeLearnt 45 = .ok (.iconst 1, 1) := by decide +kernel
theorem dX5_canBeLearnt_46 : decode cX5_canBeLearnt 46 = .ok (.iand, 1) := by decide +kernel
theorem dX5_canBeLearnt_47 : decode cX5_canBeLearnt 47 = .ok (.ifCond .ne 7, 3) := by decide +kernel
theorem dX5_canBeLearnt_50 : decode cX5_canBeLearnt 50 = .ok (.iconst 1, 1) := by decide +kernel
theorem dX5_canBeLearnt_51 : decode cX5_canBeLearnt 51 = .ok (.goto 4, 3) := by decide +kernel
theorem dX5_canBeLearnt_54 : decode cX5_canBeLearnt 54 = .ok (.iconst 0, 1) := by decide +kernel
theorem dX5_canBeLearnt_55 : decode cX5_canBeLearnt 55 = .ok (.ireturn, 1) := by decide +kernel
theorem dX5_changesNothing_0 : decode cX5_changesNothing 0 = .ok (.iload_n 1, 1) := by decide +kernel
theorem dX5_changesNothing_1 : decode cX5_changesNothing 1 = .ok (.bipush 14, 2) := by decide +kernel
theorem dX5_changesNothing_3 : decode cX5_changesNothing 3 = .ok (.idiv, 1) := by decide +kernel
theorem dX5_changesNothing_4 : decode cX5_changesNothing 4 = .ok (.istore_n 2, 1) := by decide +kernel
theorem dX5_changesNothing_5 : decode cX5_changesNothing 5 = .ok (.aload_n 0, 1) := by decide +kernel
theorem dX5_changesNothing_6 : decode cX5_changesNothing 6 = .ok (.getfield 11, 3) := by decide +kernel
theorem dX5_changesNothing_9 : decode cX5_changesNothing 9 = .ok (.iload_n 1, 1) := by decide +kernel
theorem dX5_changesNothing_10 : decode cX5_changesNothing 10 = .ok (.invokestatic 70, 3) := by decide +kernel
theorem dX5_changesNothing_13 : decode cX5_changesNothing 13 = .ok (.aload_n 0, 1) := by decide +kernel
theorem dX5_changesNothing_14 : decode cX5_changesNothing 14 = .ok (.getfield 18, 3) := by decide +kernel
theorem dX5_changesNothing_17 : decode cX5_changesNothing 17 = .ok (.iload_n 2, 1) := by decide +kernel
theorem dX5_changesNothing_18 : decode cX5_changesNothing 18 = .ok (.invokestatic 70, 3) := by decide +kernel
theorem dX5_changesNothing_21 : decode cX5_changesNothing 21 = .ok (.if_icmp .ne 26, 3) := by decide +kernel
theorem dX5_changesNothing_24 : decode cX5_changesNothing 24 = .ok (.aload_n 0, 1) := by decide +kernel
theorem dX5_changesNothing_25 : decode cX5_changesNothing 25 = .ok (.getfield 15, 3) := by decide +kernel
theorem dX5_changesNothing_28 : decode cX5_changesNothing 28 = .ok (.iload_n 1, 1) := by decide +kernel
theorem dX5_changesNothing_29 : decode cX5_changesNothing 29 = .ok (.invokestatic 70, 3) := by decide +kernel
theorem dX5_changesNothing_32 : decode cX5_changesNothing 32 = .ok (.aload_n 0, 1) := by decide +kernel
theorem dX5_changesNothing_33 : decode cX5_changesNothing 33 = .ok (.getfield 21, 3) := by decide +kernel
theorem dX5_changesNothing_36 : decode cX5_changesNothing 36 = .ok (.iload_n 2, 1) := by decide +kernel
theorem dX5_changesNothing_37 : decode cX5_changesNothing 37 = .ok (.invokestatic 70, 3) := by decide +kernel
theorem dX5_changesNothing_40 : decode cX5_changesNothing 40 = .ok (.if_icmp .ne 7, 3) := by decide +kernel
theorem dX5_changesNothing_43 : decode cX5_changesNothing 43 = .ok (.iconst 1, 1) := by decide +kernel
theorem dX5_changesNothing_44 : decode cX5_changesNothing 44 = .ok (.goto 4, 3) := by decide +kernel
theorem dX5_changesNothing_47 : decode cX5_changesNothing 47 = .ok (.iconst 0, 1) := by decide +kernel
theorem dX5_changesNothing_48 : decode cX5_changesNothing 48 = .ok (.ireturn, 1) := by decide +kernel
theorem dX5_apply_0 : decode cX5_apply 0 = .ok (.aload_n 0, 1) := by decide +kernel
theorem dX5_apply_1 : decode cX5_apply 1 = .ok (.getfield 28, 3) := by decide +kernel
theorem dX5_apply_4 : decode cX5_apply 4 = .ok (.getfield 48, 3) := by decide +kernel
theorem dX5_apply_7 : decode cX5_apply 7 = .ok (.iload_n 1, 1) := by decide +kernel
theorem dX5_apply_8 : decode cX5_apply 8 = .ok (.bipush 14, 2) := by decide +kernel
theorem dX5_apply_10 : decode cX5_apply 10 = .ok (.idiv, 1) := by decide +kernel
theorem dX5_apply_11 : decode cX5_apply 11 = .ok (.aload_n 0, 1) := by decide +kernel
theorem dX5_apply_12 : decode cX5_apply 12 = .ok (.getfield 11, 3) := by decide +kernel
theorem dX5_apply_15 : decode cX5_apply 15 = .ok (.iload_n 1, 1) := by decide +kernel
theorem dX5_apply_16 : decode cX5_apply 16 = .ok (.invokestatic 70, 3) := by decide +kernel
theorem dX5_apply_19 : decode cX5_apply 19 = .ok (.invokestatic 78, 3) := by decide +kernel
theorem dX5_apply_22 : decode cX5_apply 22 = .ok (.aload_n 0, 1) := by decide +kernel
theorem dX5_apply_23 : decode cX5_apply 23 = .ok (.getfield 28, 3) := by decide +kernel
theorem dX5_apply_26 : decode cX5_apply 26 = .ok (.getfield 53, 3) := by decide +kernel
theorem dX5_apply_29 : decode cX5_apply 29 = .ok (.iload_n 1, 1) := by decide +kernel
theorem dX5_apply_30 : decode cX5_apply 30 = .ok (.bipush 14, 2) := by decide +kernel
theorem dX5_apply_32 : decode cX5_apply 32 = .ok (.idiv, 1) := by decide +kernel
theorem dX5_apply_33 : decode cX5_apply 33 = .ok (.aload_n 0, 1) := by decide +kernel
theorem dX5_apply_34 : decode cX5_apply 34 = .ok (.getfield 15, 3) := by decide +kernel
theorem dX5_apply_37 : decode cX5_apply 37 = .ok (.iload_n 1, 1) := by decide +kernel
theorem dX5_apply_38 : decode cX5_apply 38 = .ok (.invokestatic 70, 3) := by decide +kernel
theorem dX5_apply_41 : decode cX5_apply 41 = .ok (.invokestatic 78, 3) := by decide +kernel
theorem dX5_apply_44 : decode cX5_apply 44 = .ok (.return_, 1) := by decide +kernel
theorem dX5_unlearn_0 : decode cX5_unlearn 0 = .ok (.aload_n 0, 1) := by decide +kernel
theorem dX5_unlearn_1 : decode cX5_unlearn 1 = .ok (.getfield 28, 3) := by decide +kernel
theorem dX5_unlearn_4 : decode cX5_unlearn 4 = .ok (.getfield 48, 3) := by decide +kernel
theorem dX5_unlearn_7 : decode cX5_unlearn 7 = .ok (.iload_n 1, 1) := by decide +kernel
theorem dX5_unlearn_8 : decode cX5_unlearn 8 = .ok (.aload_n 0, 1) := by decide +kernel
theorem dX5_unlearn_9 : decode cX5_unlearn 9 = .ok (.getfield 18, 3) := by decide +kernel
theorem dX5_unlearn_12 : decode cX5_unlearn 12 = .ok (.iload_n 1, 1) := by decide +kernel
theorem dX5_unlearn_13 : decode cX5_unlearn 13 = .ok (.invokestatic 70, 3) := by decide +kernel
theorem dX5_unlearn_16 : decode cX5_unlearn 16 = .ok (.invokestatic 78, 3) := by decide +kernel
theorem dX5_unlearn_19 : decode cX5_unlearn 19 = .ok (.aload_n 0, 1) := by decide +kernel
theorem dX5_unlearn_20 : decode cX5_unlearn 20 = .ok (.getfield 28, 3) := by decide +kernel
theorem dX5_unlearn_23 : decode cX5_unlearn 23 = .ok (.getfield 53, 3) := by decide +kernel
theorem dX5_unlearn_26 : decode cX5_unlearn 26 = .ok (.iload_n 1, 1) := by decide +kernel
theorem dX5_unlearn_27 : decode cX5_unlearn 27 = .ok (.aload_n 0, 1) := by decide +kernel
theorem dX5_unlearn_28 : decode cX5_unlearn 28 = .ok (.getfield 21, 3) := by decide +kernel
theorem dX5_unlearn_31 : decode cX5_unlearn 31 = .ok (.iload_n 1, 1) := by decide +kernel
theorem dX5_unlearn_32 : decode cX5_unlearn 32 = .ok (.invokestatic 70, 3) := by decide +kernel
theorem dX5_unlearn_35 : decode cX5_unlearn 35 = .ok (.invokestatic 78, 3) := by decide +kernel
theorem dX5_unlearn_38 : decode cX5_unlearn 38 = .ok (.return_, 1) := by decide +kernel
theorem dX5_isInTime_0 : decode cX5_isInTime 0 = .ok (.aload_n 0, 1) := by decide +kernel
theorem dX5_isInTime_1 : decode cX5_isInTime 1 = .ok (.getfield 28, 3) := by decide +kernel
theorem dX5_isInTime_4 : decode cX5_isInTime 4 = .ok (.aload_n 0, 1) := by decide +kernel
theorem dX5_isInTime_5 : decode cX5_isInTime 5 = .ok (.getfield 32, 3) := by decide +kernel
theorem dX5_isInTime_8 : decode cX5_isInTime 8 = .ok (.aload_n 0, 1) := by decide +kernel
theorem dX5_isInTime_9 : decode cX5_isInTime 9 = .ok (.getfield 36, 3) := by decide +kernel
theorem dX5_isInTime_12 : decode cX5_isInTime 12 = .ok (.invokevirtual 108, 3) := by decide +kernel
theorem dX5_isInTime_15 : decode cX5_isInTime 15 = .ok (.istore_n 1, 1) := by decide +kernel
theorem dX5_isInTime_16 : decode cX5_isInTime 16 = .ok (.iload_n 1, 1) := by decide +kernel
theorem dX5_isInTime_17 : decode cX5_isInTime 17 = .ok (.iconst (-1), 1) := by decide +kernel
theorem dX5_isInTime_18 : decode cX5_isInTime 18 = .ok (.if_icmp .eq 15, 3) := by decide +kernel
theorem dX5_isInTime_21 : decode cX5_isInTime 21 = .ok (.iload_n 1, 1) := by decide +kernel
theorem dX5_isInTime_22 : decode cX5_isInTime 22 = .ok (.aload_n 0, 1) := by decide +kernel
theorem dX5_isInTime_23 : decode cX5_isInTime 23 = .ok (.getfield 39, 3) := by decide +kernel
theorem dX5_isInTime_26 : decode cX5_isInTime 26 = .ok (.if_icmp .gt 7, 3) := by decide +kernel
theorem dX5_isInTime_29 : decode cX5_isInTime 29 = .ok (.iconst 1, 1) := by decide +kernel
theorem dX5_isInTime_30 : decode cX5_isInTime 30 = .ok (.goto 4, 3) := by decide +kernel
theorem dX5_isInTime_33 : decode cX5_isInTime 33 = .ok (.iconst 0, 1) := by decide +kernel
theorem dX5_isInTime_34 : decode cX5_isInTime 34 = .ok (.ireturn, 1) := by decide +kernel
theorem dX5_answer_0 : decode cX5_answer 0 = .ok (.iload_n 1, 1) := by decide +kernel
theorem dX5_answer_1 : decode cX5_answer 1 = .ok (.tableswitch 96 0 3 #[31, 36, 56, 76], 31) := by decide +kernel
theorem dX5_answer_32 : decode cX5_answer 32 = .ok (.aload_n 0, 1) := by decide +kernel
theorem dX5_answer_33 : decode cX5_answer 33 = .ok (.getfield 58, 3) := by decide +kernel
theorem dX5_answer_36 : decode cX5_answer 36 = .ok (.ireturn, 1) := by decide +kernel
theorem dX5_answer_37 : decode cX5_answer 37 = .ok (.aload_n 0, 1) := by decide +kernel
theorem dX5_answer_38 : decode cX5_answer 38 = .ok (.getfield 58, 3) := by decide +kernel
theorem dX5_answer_41 : decode cX5_answer 41 = .ok (.iconst 1, 1) := by decide +kernel
theorem dX5_answer_42 : decode cX5_answer 42 = .ok (.if_icmp .ge 7, 3) := by decide +kernel
theorem dX5_answer_45 : decode cX5_answer 45 = .ok (.iconst (-1), 1) := by decide +kernel
theorem dX5_answer_46 : decode cX5_answer 46 = .ok (.goto 10, 3) := by decide +kernel
theorem dX5_answer_49 : decode cX5_answer 49 = .ok (.aload_n 0, 1) := by decide +kernel
theorem dX5_answer_50 : decode cX5_answer 50 = .ok (.getfield 82, 3) := by decide +kernel
theorem dX5_answer_53 : decode cX5_answer 53 = .ok (.bipush 14, 2) := by decide +kernel
theorem dX5_answer_55 : decode cX5_answer 55 = .ok (.idiv, 1) := by decide +kernel
theorem dX5_answer_56 : decode cX5_answer 56 = .ok (.ireturn, 1) := by decide +kernel
theorem dX5_answer_57 : decode cX5_answer 57 = .ok (.aload_n 0, 1) := by decide +kernel
theorem dX5_answer_58 : decode cX5_answer 58 = .ok (.getfield 58, 3) := by decide +kernel
theorem dX5_answer_61 : decode cX5_answer 61 = .ok (.iconst 1, 1) := by decide +kernel
theorem dX5_answer_62 : decode cX5_answer 62 = .ok (.if_icmp .ge 7, 3) := by decide +kernel
theorem dX5_answer_65 : decode cX5_answer 65 = .ok (.iconst (-1), 1) := by decide +kernel
theorem dX5_answer_66 : decode cX5_answer 66 = .ok (.goto 10, 3) := by decide +kernel
theorem dX5_answer_69 : decode cX5_answer 69 = .ok (.aload_n 0, 1) := by decide +kernel
theorem dX5_answer_70 : decode cX5_answer 70 = .ok (.getfield 82, 3) := by decide +kernel
theorem dX5_answer_73 : decode cX5_answer 73 = .ok (.bipush 14, 2) := by decide +kernel
theorem dX5_answer_75 : decode cX5_answer 75 = .ok (.irem, 1) := by decide +kernel
theorem dX5_answer_76 : decode cX5_answer 76 = .ok (.ireturn, 1) := by decide +kernel
theorem dX5_answer_77 : decode cX5_answer 77 = .ok (.aload_n 0, 1) := by decide +kernel
theorem dX5_answer_78 : decode cX5_answer 78 = .ok (.getfield 58, 3) := by decide +kernel
theorem dX5_answer_81 : decode cX5_answer 81 = .ok (.iconst 2, 1) := by decide +kernel
theorem dX5_answer_82 : decode cX5_answer 82 = .ok (.if_icmp .ge 7, 3) := by decide +kernel
theorem dX5_answer_85 : decode cX5_answer 85 = .ok (.iconst (-1), 1) := by decide +kernel
theorem dX5_answer_86 : decode cX5_answer 86 = .ok (.goto 10, 3) := by decide +kernel
theorem dX5_answer_89 : decode cX5_answer 89 = .ok (.aload_n 0, 1) := by decide +kernel
theorem dX5_answer_90 : decode cX5_answer 90 = .ok (.getfield 93, 3) := by decide +kernel
theorem dX5_answer_93 : decode cX5_answer 93 = .ok (.bipush 14, 2) := by decide +kernel
theorem dX5_answer_95 : decode cX5_answer 95 = .ok (.idiv, 1) := by decide +kernel
theorem dX5_answer_96 : decode cX5_answer 96 = .ok (.ireturn, 1) := by decide +kernel
theorem dX5_answer_97 : decode cX5_answer 97 = .ok (.aload_n 0, 1) := by decide +kernel
theorem dX5_answer_98 : decode cX5_answer 98 = .ok (.getfield 58, 3) := by decide +kernel
theorem dX5_answer_101 : decode cX5_answer 101 = .ok (.iconst 2, 1) := by decide +kernel
theorem dX5_answer_102 : decode cX5_answer 102 = .ok (.if_icmp .ge 7, 3) := by decide +kernel
theorem dX5_answer_105 : decode cX5_answer 105 = .ok (.iconst (-1), 1) := by decide +kernel
theorem dX5_answer_106 : decode cX5_answer 106 = .ok (.goto 10, 3) := by decide +kernel
theorem dX5_answer_109 : decode cX5_answer 109 = .ok (.aload_n 0, 1) := by decide +kernel
theorem dX5_answer_110 : decode cX5_answer 110 = .ok (.getfield 93, 3) := by decide +kernel
theorem dX5_answer_113 : decode cX5_answer 113 = .ok (.bipush 14, 2) := by decide +kernel
theorem dX5_answer_115 : decode cX5_answer 115 = .ok (.irem, 1) := by decide +kernel
theorem dX5_answer_116 : decode cX5_answer 116 = .ok (.ireturn, 1) := by decide +kernel
theorem dX7_init_0 : decode cX7_init 0 = .ok (.aload_n 0, 1) := by decide +kernel
theorem dX7_init_1 : decode cX7_init 1 = .ok (.invokespecial 3, 3) := by decide +kernel
theorem dX7_init_4 : decode cX7_init 4 = .ok (.aload_n 0, 1) := by decide +kernel
theorem dX7_init_5 : decode cX7_init 5 = .ok (.new 9, 3) := by decide +kernel
theorem dX7_init_8 : decode cX7_init 8 = .ok (.dup, 1) := by decide +kernel
theorem dX7_init_9 : decode cX7_init 9 = .ok (.invokespecial 11, 3) := by decide +kernel
theorem dX7_init_12 : decode cX7_init 12 = .ok (.putfield 12, 3) := by decide +kernel
theorem dX7_init_15 : decode cX7_init 15 = .ok (.aload_n 0, 1) := by decide +kernel
theorem dX7_init_16 : decode cX7_init 16 = .ok (.iconst (-1), 1) := by decide +kernel
theorem dX7_init_17 : decode cX7_init 17 = .ok (.putfield 18, 3) := by decide +kernel
theorem dX7_init_20 : decode cX7_init 20 = .ok (.return_, 1) := by decide +kernel
theorem dX7_read_0 : decode cX7_read 0 = .ok (.aload_n 0, 1) := by decide +kernel
theorem dX7_read_1 : decode cX7_read 1 = .ok (.aload_n 1, 1) := by decide +kernel
theorem dX7_read_2 : decode cX7_read 2 = .ok (.putfield 22, 3) := by decide +kernel
theorem dX7_read_5 : decode cX7_read 5 = .ok (.aload_n 0, 1) := by decide +kernel
theorem dX7_read_6 : decode cX7_read 6 = .ok (.getfield 12, 3) := by decide +kernel
theorem dX7_read_9 : decode cX7_read 9 = .ok (.invokevirtual 26, 3) := by decide +kernel
theorem dX7_read_12 : decode cX7_read 12 = .ok (.aload_n 0, 1) := by decide +kernel
theorem dX7_read_13 : decode cX7_read 13 = .ok (.iconst 0, 1) := by decide +kernel
theorem dX7_read_14 : decode cX7_read 14 = .ok (.putfield 29, 3) := by decide +kernel
theorem dX7_read_17 : decode cX7_read 17 = .ok (.aload_n 0, 1) := by decide +kernel
theorem dX7_read_18 : decode cX7_read 18 = .ok (.iconst (-1), 1) := by decide +kernel
theorem dX7_read_19 : decode cX7_read 19 = .ok (.putfield 18, 3) := by decide +kernel
theorem dX7_read_22 : decode cX7_read 22 = .ok (.aload_n 0, 1) := by decide +kernel
theorem dX7_read_23 : decode cX7_read 23 = .ok (.iconst 0, 1) := by decide +kernel
theorem dX7_read_24 : decode cX7_read 24 = .ok (.putfield 32, 3) := by decide +kernel
theorem dX7_read_27 : decode cX7_read 27 = .ok (.aload_n 0, 1) := by decide +kernel
theorem dX7_read_28 : decode cX7_read 28 = .ok (.iconst 0, 1) := by decide +kernel
theorem dX7_read_29 : decode cX7_read 29 = .ok (.putfield 35, 3) := by decide +kernel
theorem dX7_read_32 : decode cX7_read 32 = .ok (.aload_n 0, 1) := by decide +kernel
theorem dX7_read_33 : decode cX7_read 33 = .ok (.invokevirtual 38, 3) := by decide +kernel
theorem dX7_read_36 : decode cX7_read 36 = .ok (.iconst 0, 1) := by decide +kernel
theorem dX7_read_37 : decode cX7_read 37 = .ok (.istore_n 2, 1) := by decide +kernel
theorem dX7_read_38 : decode cX7_read 38 = .ok (.iload_n 2, 1) := by decide +kernel
theorem dX7_read_39 : decode cX7_read 39 = .ok (.sipush 400, 3) := by decide +kernel
theorem dX7_read_42 : decode cX7_read 42 = .ok (.if_icmp .ge 96, 3) := by decide +kernel
theorem dX7_read_45 : decode cX7_read 45 = .ok (.aload_n 0, 1) := by decide +kernel
theorem dX7_read_46 : decode cX7_read 46 = .ok (.getfield 29, 3) := by decide +kernel
theorem dX7_read_49 : decode cX7_read 49 = .ok (.ifCond .ne 89, 3) := by decide +kernel
theorem dX7_read_52 : decode cX7_read 52 = .ok (.aload_n 0, 1) := by decide +kernel
theorem dX7_read_53 : decode cX7_read 53 = .ok (.getfield 35, 3) := by decide +kernel
theorem dX7_read_56 : decode cX7_read 56 = .ok (.ifCond .le 82, 3) := by decide +kernel
theorem dX7_read_59 : decode cX7_read 59 = .ok (.aload_n 0, 1) := by decide +kernel
theorem dX7_read_60 : decode cX7_read 60 = .ok (.ldc 41, 2) := by decide +kernel
theorem dX7_read_62 : decode cX7_read 62 = .ok (.invokevirtual 43, 3) := by decide +kernel
theorem dX7_read_65 : decode cX7_read 65 = .ok (.ifCond .eq 10, 3) := by decide +kernel
theorem dX7_read_68 : decode cX7_read 68 = .ok (.aload_n 0, 1) := by decide +kernel
theorem dX7_read_69 : decode cX7_read 69 = .ok (.invokevirtual 47, 3) := by decide +kernel
theorem dX7_read_72 : decode cX7_read 72 = .ok (.goto 60, 3) := by decide +kernel
theorem dX7_read_75 : decode cX7_read 75 = .ok (.aload_n 0, 1) := by decide +kernel
theorem dX7_read_76 : decode cX7_read 76 = .ok (.getfield 12, 3) := by decide +kernel
theorem dX7_read_79 : decode cX7_read 79 = .ok (.getfield 50, 3) := by decide +kernel
theorem dX7_read_82 : decode cX7_read 82 = .ok (.ifCond .le 19, 3) := by decide +kernel
theorem dX7_read_85 : decode cX7_read 85 = .ok (.aload_n 0, 1) := by decide +kernel
theorem dX7_read_86 : decode cX7_read 86 = .ok (.ldc 52, 2) := by decide +kernel
theorem dX7_read_88 : decode cX7_read 88 = .ok (.invokevirtual 43, 3) := by decide +kernel
theorem dX7_read_91 : decode cX7_read 91 = .ok (.ifCond .eq 10, 3) := by decide +kernel
theorem dX7_read_94 : decode cX7_read 94 = .ok (.aload_n 0, 1) := by decide +kernel
theorem dX7_read_95 : decode cX7_read 95 = .ok (.invokevirtual 54, 3) := by decide +kernel
theorem dX7_read_98 : decode cX7_read 98 = .ok (.goto 34, 3) := by decide +kernel
theorem dX7_read_101 : decode cX7_read 101 = .ok (.aload_n 0, 1) := by decide +kernel
theorem dX7_read_102 : decode cX7_read 102 = .ok (.getfield 12, 3) := by decide +kernel
theorem dX7_read_105 : decode cX7_read 105 = .ok (.getfield 50, 3) := by decide +kernel
theorem dX7_read_108 : decode cX7_read 108 = .ok (.ifCond .le 19, 3) := by decide +kernel
theorem dX7_read_111 : decode cX7_read 111 = .ok (.aload_n 0, 1) := by decide +kernel
theorem dX7_read_112 : decode cX7_read 112 = .ok (.ldc 57, 2) := by decide +kernel
theorem dX7_read_114 : decode cX7_read 114 = .ok (.invokevirtual 43, 3) := by decide +kernel
theorem dX7_read_117 : decode cX7_read 117 = .ok (.ifCond .eq 10, 3) := by decide +kernel
theorem dX7_read_120 : decode cX7_read 120 = .ok (.aload_n 0, 1) := by decide +kernel
theorem dX7_read_121 : decode cX7_read 121 = .ok (.invokevirtual 59, 3) := by decide +kernel
theorem dX7_read_124 : decode cX7_read 124 = .ok (.goto 8, 3) := by decide +kernel
theorem dX7_read_127 : decode cX7_read 127 = .ok (.aload_n 0, 1) := by decide +kernel
theorem dX7_read_128 : decode cX7_read 128 = .ok (.iconst 1, 1) := by decide +kernel
theorem dX7_read_129 : decode cX7_read 129 = .ok (.invokevirtual 62, 3) := by decide +kernel
theorem dX7_read_132 : decode cX7_read 132 = .ok (.iinc 2 1, 3) := by decide +kernel
theorem dX7_read_135 : decode cX7_read 135 = .ok (.goto (-97), 3) := by decide +kernel
theorem dX7_read_138 : decode cX7_read 138 = .ok (.aload_n 0, 1) := by decide +kernel
theorem dX7_read_139 : decode cX7_read 139 = .ok (.getfield 29, 3) := by decide +kernel
theorem dX7_read_142 : decode cX7_read 142 = .ok (.ireturn, 1) := by decide +kernel
theorem dX7_readPlaces_0 : decode cX7_readPlaces 0 = .ok (.aload_n 0, 1) := by decide +kernel
theorem dX7_readPlaces_1 : decode cX7_readPlaces 1 = .ok (.getfield 12, 3) := by decide +kernel
theorem dX7_readPlaces_4 : decode cX7_readPlaces 4 = .ok (.getfield 50, 3) := by decide +kernel
theorem dX7_readPlaces_7 : decode cX7_readPlaces 7 = .ok (.ifCond .le 9, 3) := by decide +kernel
theorem dX7_readPlaces_10 : decode cX7_readPlaces 10 = .ok (.aload_n 0, 1) := by decide +kernel
theorem dX7_readPlaces_11 : decode cX7_readPlaces 11 = .ok (.iconst 3, 1) := by decide +kernel
theorem dX7_readPlaces_12 : decode cX7_readPlaces 12 = .ok (.invokevirtual 62, 3) := by decide +kernel
theorem dX7_readPlaces_15 : decode cX7_readPlaces 15 = .ok (.return_, 1) := by decide +kernel
theorem dX7_readPlaces_16 : decode cX7_readPlaces 16 = .ok (.aload_n 0, 1) := by decide +kernel
theorem dX7_readPlaces_17 : decode cX7_readPlaces 17 = .ok (.invokevirtual 38, 3) := by decide +kernel
theorem dX7_readPlaces_20 : decode cX7_readPlaces 20 = .ok (.aload_n 0, 1) := by decide +kernel
theorem dX7_readPlaces_21 : decode cX7_readPlaces 21 = .ok (.iconst 1, 1) := by decide +kernel
theorem dX7_readPlaces_22 : decode cX7_readPlaces 22 = .ok (.bipush 10, 2) := by decide +kernel
theorem dX7_readPlaces_24 : decode cX7_readPlaces 24 = .ok (.invokevirtual 66, 3) := by decide +kernel
theorem dX7_readPlaces_27 : decode cX7_readPlaces 27 = .ok (.istore_n 1, 1) := by decide +kernel
theorem dX7_readPlaces_28 : decode cX7_readPlaces 28 = .ok (.aload_n 0, 1) := by decide +kernel
theorem dX7_readPlaces_29 : decode cX7_readPlaces 29 = .ok (.bipush 59, 2) := by decide +kernel
theorem dX7_readPlaces_31 : decode cX7_readPlaces 31 = .ok (.invokevirtual 70, 3) := by decide +kernel
theorem dX7_readPlaces_34 : decode cX7_readPlaces 34 = .ok (.aload_n 0, 1) := by decide +kernel
theorem dX7_readPlaces_35 : decode cX7_readPlaces 35 = .ok (.getfield 12, 3) := by decide +kernel
theorem dX7_readPlaces_38 : decode cX7_readPlaces 38 = .ok (.iload_n 1, 1) := by decide +kernel
theorem dX7_readPlaces_39 : decode cX7_readPlaces 39 = .ok (.putfield 50, 3) := by decide +kernel
theorem dX7_readPlaces_42 : decode cX7_readPlaces 42 = .ok (.return_, 1) := by decide +kernel
theorem dX7_readWay_0 : decode cX7_readWay 0 = .ok (.aload_n 0, 1) := by decide +kernel
theorem dX7_readWay_1 : decode cX7_readWay 1 = .ok (.getfield 12, 3) := by decide +kernel
theorem dX7_readWay_4 : decode cX7_readWay 4 = .ok (.getfield 74, 3) := by decide +kernel
theorem dX7_readWay_7 : decode cX7_readWay 7 = .ok (.bipush 14, 2) := by decide +kernel
theorem dX7_readWay_9 : decode cX7_readWay 9 = .ok (.if_icmp .lt 9, 3) := by decide +kernel
theorem dX7_readWay_12 : decode cX7_readWay 12 = .ok (.aload_n 0, 1) := by decide +kernel
theorem dX7_readWay_13 : decode cX7_readWay 13 = .ok (.iconst 3, 1) := by decide +kernel
theorem dX7_readWay_14 : decode cX7_readWay 14 = .ok (.invokevirtual 62, 3) := by decide +kernel
theorem dX7_readWay_17 : decode cX7_readWay 17 = .ok (.return_, 1) := by decide +kernel
theorem dX7_readWay_18 : decode cX7_readWay 18 = .ok (.aload_n 0, 1) := by decide +kernel
theorem dX7_readWay_19 : decode cX7_readWay 19 = .ok (.invokevirtual 38, 3) := by decide +kernel
theorem dX7_readWay_22 : decode cX7_readWay 22 = .ok (.aload_n 0, 1) := by decide +kernel
theorem dX7_readWay_23 : decode cX7_readWay 23 = .ok (.iconst 0, 1) := by decide +kernel
theorem dX7_readWay_24 : decode cX7_readWay 24 = .ok (.aload_n 0, 1) := by decide +kernel
theorem dX7_readWay_25 : decode cX7_readWay 25 = .ok (.getfield 12, 3) := by decide +kernel
theorem dX7_readWay_28 : decode cX7_readWay 28 = .ok (.getfield 50, 3) := by decide +kernel
theorem dX7_readWay_31 : decode cX7_readWay 31 = .ok (.iconst 1, 1) := by decide +kernel
theorem dX7_readWay_32 : decode cX7_readWay 32 = .ok (.isub, 1) := by decide +kernel
theorem dX7_readWay_33 : decode cX7_readWay 33 = .ok (.invokevirtual 66, 3) := by decide +kernel
theorem dX7_readWay_36 : decode cX7_readWay 36 = .ok (.istore_n 1, 1) := by decide +kernel
theorem dX7_readWay_37 : decode cX7_readWay 37 = .ok (.aload_n 0, 1) := by decide +kernel
theorem dX7_readWay_38 : decode cX7_readWay 38 = .ok (.iconst 0, 1) := by decide +kernel
theorem dX7_readWay_39 : decode cX7_readWay 39 = .ok (.aload_n 0, 1) := by decide +kernel
theorem dX7_readWay_40 : decode cX7_readWay 40 = .ok (.getfield 12, 3) := by decide +kernel
theorem dX7_readWay_43 : decode cX7_readWay 43 = .ok (.getfield 50, 3) := by decide +kernel
theorem dX7_readWay_46 : decode cX7_readWay 46 = .ok (.iconst 1, 1) := by decide +kernel
theorem dX7_readWay_47 : decode cX7_readWay 47 = .ok (.isub, 1) := by decide +kernel
theorem dX7_readWay_48 : decode cX7_readWay 48 = .ok (.invokevirtual 77, 3) := by decide +kernel
theorem dX7_readWay_51 : decode cX7_readWay 51 = .ok (.istore_n 2, 1) := by decide +kernel
theorem dX7_readWay_52 : decode cX7_readWay 52 = .ok (.iload_n 1, 1) := by decide +kernel
theorem dX7_readWay_53 : decode cX7_readWay 53 = .ok (.iload_n 2, 1) := by decide +kernel
theorem dX7_readWay_54 : decode cX7_readWay 54 = .ok (.if_icmp .eq 15, 3) := by decide +kernel
theorem dX7_readWay_57 : decode cX7_readWay 57 = .ok (.aload_n 0, 1) := by decide +kernel
theorem dX7_readWay_58 : decode cX7_readWay 58 = .ok (.getfield 12, 3) := by decide +kernel
theorem dX7_readWay_61 : decode cX7_readWay 61 = .ok (.iload_n 1, 1) := by decide +kernel
theorem dX7_readWay_62 : decode cX7_readWay 62 = .ok (.iload_n 2, 1) := by decide +kernel
theorem dX7_readWay_63 : decode cX7_readWay 63 = .ok (.invokevirtual 80, 3) := by decide +kernel
theorem dX7_readWay_66 : decode cX7_readWay 66 = .ok (.ifCond .eq 8, 3) := by decide +kernel
theorem dX7_readWay_69 : decode cX7_readWay 69 = .ok (.aload_n 0, 1) := by decide +kernel
theorem dX7_readWay_70 : decode cX7_readWay 70 = .ok (.iconst 4, 1) := by decide +kernel
theorem dX7_readWay_71 : decode cX7_readWay 71 = .ok (.invokevirtual 62, 3) := by decide +kernel
theorem dX7_readWay_74 : decode cX7_readWay 74 = .ok (.aload_n 0, 1) := by decide +kernel
theorem dX7_readWay_75 : decode cX7_readWay 75 = .ok (.invokevirtual 38, 3) := by decide +kernel
theorem dX7_readWay_78 : decode cX7_readWay 78 = .ok (.aload_n 0, 1) := by decide +kernel
theorem dX7_readWay_79 : decode cX7_readWay 79 = .ok (.iconst 1, 1) := by decide +kernel
theorem dX7_readWay_80 : decode cX7_readWay 80 = .ok (.bipush 99, 2) := by decide +kernel
theorem dX7_readWay_82 : decode cX7_readWay 82 = .ok (.invokevirtual 66, 3) := by decide +kernel
theorem dX7_readWay_85 : decode cX7_readWay 85 = .ok (.istore_n 3, 1) := by decide +kernel
theorem dX7_readWay_86 : decode cX7_readWay 86 = .ok (.aload_n 0, 1) := by decide +kernel
theorem dX7_readWay_87 : decode cX7_readWay 87 = .ok (.bipush 59, 2) := by decide +kernel
theorem dX7_readWay_89 : decode cX7_readWay 89 = .ok (.invokevirtual 70, 3) := by decide +kernel
theorem dX7_readWay_92 : decode cX7_readWay 92 = .ok (.aload_n 0, 1) := by decide +kernel
theorem dX7_readWay_93 : decode cX7_readWay 93 = .ok (.getfield 12, 3) := by decide +kernel
theorem dX7_readWay_96 : decode cX7_readWay 96 = .ok (.getfield 84, 3) := by decide +kernel
theorem dX7_readWay_99 : decode cX7_readWay 99 = .ok (.aload_n 0, 1) := by decide +kernel
theorem dX7_readWay_100 : decode cX7_readWay 100 = .ok (.getfield 12, 3) := by decide +kernel
theorem dX7_readWay_103 : decode cX7_readWay 103 = .ok (.getfield 74, 3) := by decide +kernel
theorem dX7_readWay_106 : decode cX7_readWay 106 = .ok (.iload_n 1, 1) := by decide +kernel
theorem dX7_readWay_107 : decode cX7_readWay 107 = .ok (.invokestatic 88, 3) := by decide +kernel
theorem dX7_readWay_110 : decode cX7_readWay 110 = .ok (.aload_n 0, 1) := by decide +kernel
theorem dX7_readWay_111 : decode cX7_readWay 111 = .ok (.getfield 12, 3) := by decide +kernel
theorem dX7_readWay_114 : decode cX7_readWay 114 = .ok (.getfield 92, 3) := by decide +kernel
theorem dX7_readWay_117 : decode cX7_readWay 117 = .ok (.aload_n 0, 1) := by decide +kernel
theorem dX7_readWay_118 : decode cX7_readWay 118 = .ok (.getfield 12, 3) := by decide +kernel
theorem dX7_readWay_121 : decode cX7_readWay 121 = .ok (.getfield 74, 3) := by decide +kernel
theorem dX7_readWay_124 : decode cX7_readWay 124 = .ok (.iload_n 2, 1) := by decide +kernel
theorem dX7_readWay_125 : decode cX7_readWay 125 = .ok (.invokestatic 88, 3) := by decide +kernel
theorem dX7_readWay_128 : decode cX7_readWay 128 = .ok (.aload_n 0, 1) := by decide +kernel
theorem dX7_readWay_129 : decode cX7_readWay 129 = .ok (.getfield 12, 3) := by decide +kernel
theorem dX7_readWay_132 : decode cX7_readWay 132 = .ok (.getfield 95, 3) := by decide +kernel
theorem dX7_readWay_135 : decode cX7_readWay 135 = .ok (.aload_n 0, 1) := by decide +kernel
theorem dX7_readWay_136 : decode cX7_readWay 136 = .ok (.getfield 12, 3) := by decide +kernel
theorem dX7_readWay_139 : decode cX7_readWay 139 = .ok (.getfield 74, 3) := by decide +kernel
theorem dX7_readWay_142 : decode cX7_readWay 142 = .ok (.iload_n 3, 1) := by decide +kernel
theorem dX7_readWay_143 : decode cX7_readWay 143 = .ok (.invokestatic 88, 3) := by decide +kernel
theorem dX7_readWay_146 : decode cX7_readWay 146 = .ok (.aload_n 0, 1) := by decide +kernel
theorem dX7_readWay_147 : decode cX7_readWay 147 = .ok (.getfield 12, 3) := by decide +kernel
theorem dX7_readWay_150 : decode cX7_readWay 150 = .ok (.dup, 1) := by decide +kernel
theorem dX7_readWay_151 : decode cX7_readWay 151 = .ok (.getfield 74, 3) := by decide +kernel
theorem dX7_readWay_154 : decode cX7_readWay 154 = .ok (.iconst 1, 1) := by decide +kernel
theorem dX7_readWay_155 : decode cX7_readWay 155 = .ok (.iadd, 1) := by decide +kernel
theorem dX7_readWay_156 : decode cX7_readWay 156 = .ok (.putfield 74, 3) := by decide +kernel
theorem dX7_readWay_159 : decode cX7_readWay 159 = .ok (.return_, 1) := by decide +kernel
theorem dX7_readPerson_0 : decode cX7_readPerson 0 = .ok (.aload_n 0, 1) := by decide +kernel
theorem dX7_readPerson_1 : decode cX7_readPerson 1 = .ok (.getfield 12, 3) := by decide +kernel
theorem dX7_readPerson_4 : decode cX7_readPerson 4 = .ok (.getfield 98, 3) := by decide +kernel
theorem dX7_readPerson_7 : decode cX7_readPerson 7 = .ok (.istore_n 1, 1) := by decide +kernel
theorem dX7_readPerson_8 : decode cX7_readPerson 8 = .ok (.iload_n 1, 1) := by decide +kernel
theorem dX7_readPerson_9 : decode cX7_readPerson 9 = .ok (.bipush 6, 2) := by decide +kernel
theorem dX7_readPerson_11 : decode cX7_readPerson 11 = .ok (.if_icmp .lt 9, 3) := by decide +kernel
theorem dX7_readPerson_14 : decode cX7_readPerson 14 = .ok (.aload_n 0, 1) := by decide +kernel
theorem dX7_readPerson_15 : decode cX7_readPerson 15 = .ok (.iconst 3, 1) := by decide +kernel
theorem dX7_readPerson_16 : decode cX7_readPerson 16 = .ok (.invokevirtual 62, 3) := by decide +kernel
theorem dX7_readPerson_19 : decode cX7_readPerson 19 = .ok (.return_, 1) := by decide +kernel
theorem dX7_readPerson_20 : decode cX7_readPerson 20 = .ok (.aload_n 0, 1) := by decide +kernel
theorem dX7_readPerson_21 : decode cX7_readPerson 21 = .ok (.invokevirtual 38, 3) := by decide +kernel
theorem dX7_readPerson_24 : decode cX7_readPerson 24 = .ok (.aload_n 0, 1) := by decide +kernel
theorem dX7_readPerson_25 : decode cX7_readPerson 25 = .ok (.getfield 12, 3) := by decide +kernel
theorem dX7_readPerson_28 : decode cX7_readPerson 28 = .ok (.getfield 101, 3) := by decide +kernel
theorem dX7_readPerson_31 : decode cX7_readPerson 31 = .ok (.iload_n 1, 1) := by decide +kernel
theorem dX7_readPerson_32 : decode cX7_readPerson 32 = .ok (.aload_n 0, 1) := by decide +kernel
theorem dX7_readPerson_33 : decode cX7_readPerson 33 = .ok (.iconst 0, 1) := by decide +kernel
theorem dX7_readPerson_34 : decode cX7_readPerson 34 = .ok (.aload_n 0, 1) := by decide +kernel
theorem dX7_readPerson_35 : decode cX7_readPerson 35 = .ok (.getfield 12, 3) := by decide +kernel
theorem dX7_readPerson_38 : decode cX7_readPerson 38 = .ok (.getfield 50, 3) := by decide +kernel
theorem dX7_readPerson_41 : decode cX7_readPerson 41 = .ok (.iconst 1, 1) := by decide +kernel
theorem dX7_readPerson_42 : decode cX7_readPerson 42 = .ok (.isub, 1) := by decide +kernel
theorem dX7_readPerson_43 : decode cX7_readPerson 43 = .ok (.invokevirtual 66, 3) := by decide +kernel
theorem dX7_readPerson_46 : decode cX7_readPerson 46 = .ok (.invokestatic 88, 3) := by decide +kernel
theorem dX7_readPerson_49 : decode cX7_readPerson 49 = .ok (.aload_n 0, 1) := by decide +kernel
theorem dX7_readPerson_50 : decode cX7_readPerson 50 = .ok (.getfield 12, 3) := by decide +kernel
theorem dX7_readPerson_53 : decode cX7_readPerson 53 = .ok (.getfield 104, 3) := by decide +kernel
theorem dX7_readPerson_56 : decode cX7_readPerson 56 = .ok (.iload_n 1, 1) := by decide +kernel
theorem dX7_readPerson_57 : decode cX7_readPerson 57 = .ok (.aload_n 0, 1) := by decide +kernel
theorem dX7_readPerson_58 : decode cX7_readPerson 58 = .ok (.iconst 0, 1) := by decide +kernel
theorem dX7_readPerson_59 : decode cX7_readPerson 59 = .ok (.aload_n 0, 1) := by decide +kernel
theorem dX7_readPerson_60 : decode cX7_readPerson 60 = .ok (.getfield 12, 3) := by decide +kernel
theorem dX7_readPerson_63 : decode cX7_readPerson 63 = .ok (.getfield 50, 3) := by decide +kernel
theorem dX7_readPerson_66 : decode cX7_readPerson 66 = .ok (.iconst 1, 1) := by decide +kernel
theorem dX7_readPerson_67 : decode cX7_readPerson 67 = .ok (.isub, 1) := by decide +kernel
theorem dX7_readPerson_68 : decode cX7_readPerson 68 = .ok (.invokevirtual 66, 3) := by decide +kernel
theorem dX7_readPerson_71 : decode cX7_readPerson 71 = .ok (.invokestatic 88, 3) := by decide +kernel
theorem dX7_readPerson_74 : decode cX7_readPerson 74 = .ok (.aload_n 0, 1) := by decide +kernel
theorem dX7_readPerson_75 : decode cX7_readPerson 75 = .ok (.getfield 12, 3) := by decide +kernel
theorem dX7_readPerson_78 : decode cX7_readPerson 78 = .ok (.getfield 107, 3) := by decide +kernel
theorem dX7_readPerson_81 : decode cX7_readPerson 81 = .ok (.iload_n 1, 1) := by decide +kernel
theorem dX7_readPerson_82 : decode cX7_readPerson 82 = .ok (.aload_n 0, 1) := by decide +kernel
theorem dX7_readPerson_83 : decode cX7_readPerson 83 = .ok (.iconst 0, 1) := by decide +kernel
theorem dX7_readPerson_84 : decode cX7_readPerson 84 = .ok (.bipush 99, 2) := by decide +kernel
theorem dX7_readPerson_86 : decode cX7_readPerson 86 = .ok (.invokevirtual 66, 3) := by decide +kernel
theorem dX7_readPerson_89 : decode cX7_readPerson 89 = .ok (.invokestatic 88, 3) := by decide +kernel
theorem dX7_readPerson_92 : decode cX7_readPerson 92 = .ok (.aload_n 0, 1) := by decide +kernel
theorem dX7_readPerson_93 : decode cX7_readPerson 93 = .ok (.getfield 12, 3) := by decide +kernel
theorem dX7_readPerson_96 : decode cX7_readPerson 96 = .ok (.getfield 110, 3) := by decide +kernel
theorem dX7_readPerson_99 : decode cX7_readPerson 99 = .ok (.iload_n 1, 1) := by decide +kernel
theorem dX7_readPerson_100 : decode cX7_readPerson 100 = .ok (.aload_n 0, 1) := by decide +kernel
theorem dX7_readPerson_101 : decode cX7_readPerson 101 = .ok (.invokevirtual 113, 3) := by decide +kernel
theorem dX7_readPerson_104 : decode cX7_readPerson 104 = .ok (.invokestatic 88, 3) := by decide +kernel
theorem dX7_readPerson_107 : decode cX7_readPerson 107 = .ok (.aload_n 0, 1) := by decide +kernel
theorem dX7_readPerson_108 : decode cX7_readPerson 108 = .ok (.getfield 12, 3) := by decide +kernel
theorem dX7_readPerson_111 : decode cX7_readPerson 111 = .ok (.getfield 117, 3) := by decide +kernel
theorem dX7_readPerson_114 : decode cX7_readPerson 114 = .ok (.iload_n 1, 1) := by decide +kernel
theorem dX7_readPerson_115 : decode cX7_readPerson 115 = .ok (.aload_n 0, 1) := by decide +kernel
theorem dX7_readPerson_116 : decode cX7_readPerson 116 = .ok (.ldc 120, 2) := by decide +kernel
theorem dX7_readPerson_118 : decode cX7_readPerson 118 = .ok (.invokevirtual 43, 3) := by decide +kernel
theorem dX7_readPerson_121 : decode cX7_readPerson 121 = .ok (.ifCond .eq 10, 3) := by decide +kernel
theorem dX7_readPerson_124 : decode cX7_readPerson 124 = .ok (.aload_n 0, 1) := by decide +kernel
theorem dX7_readPerson_125 : decode cX7_readPerson 125 = .ok (.invokevirtual 122, 3) := by decide +kernel
theorem dX7_readPerson_128 : decode cX7_readPerson 128 = .ok (.goto 4, 3) := by decide +kernel
theorem dX7_readPerson_131 : decode cX7_readPerson 131 = .ok (.iconst 0, 1) := by decide +kernel
theorem dX7_readPerson_132 : decode cX7_readPerson 132 = .ok (.invokestatic 88, 3) := by decide +kernel
theorem dX7_readPerson_135 : decode cX7_readPerson 135 = .ok (.aload_n 0, 1) := by decide +kernel
theorem dX7_readPerson_136 : decode cX7_readPerson 136 = .ok (.bipush 59, 2) := by decide +kernel
theorem dX7_readPerson_138 : decode cX7_readPerson 138 = .ok (.invokevirtual 70, 3) := by decide +kernel
theorem dX7_readPerson_141 : decode cX7_readPerson 141 = .ok (.aload_n 0, 1) := by decide +kernel
theorem dX7_readPerson_142 : decode cX7_readPerson 142 = .ok (.getfield 12, 3) := by decide +kernel
theorem dX7_readPerson_145 : decode cX7_readPerson 145 = .ok (.dup, 1) := by decide +kernel
theorem dX7_readPerson_146 : decode cX7_readPerson 146 = .ok (.getfield 98, 3) := by decide +kernel
theorem dX7_readPerson_149 : decode cX7_readPerson 149 = .ok (.iconst 1, 1) := by decide +kernel
theorem dX7_readPerson_150 : decode cX7_readPerson 150 = .ok (.iadd, 1) := by decide +kernel
theorem dX7_readPerson_151 : decode cX7_readPerson 151 = .ok (.putfield 98, 3) := by decide +kernel
theorem dX7_readPerson_154 : decode cX7_readPerson 154 = .ok (.return_, 1) := by decide +kernel
theorem dX7_takeHabit_0 : decode cX7_takeHabit 0 = .ok (.aload_n 0, 1) := by decide +kernel
theorem dX7_takeHabit_1 : decode cX7_takeHabit 1 = .ok (.ldc 125, 2) := by decide +kernel
theorem dX7_takeHabit_3 : decode cX7_takeHabit 3 = .ok (.invokevirtual 43, 3) := by decide +kernel
theorem dX7_takeHabit_6 : decode cX7_takeHabit 6 = .ok (.ifCond .eq 7, 3) := by decide +kernel
theorem dX7_takeHabit_9 : decode cX7_takeHabit 9 = .ok (.iconst 0, 1) := by decide +kernel
theorem dX7_takeHabit_10 : decode cX7_takeHabit 10 = .ok (.goto 43, 3) := by decide +kernel
theorem dX7_takeHabit_13 : decode cX7_takeHabit 13 = .ok (.aload_n 0, 1) := by decide +kernel
theorem dX7_takeHabit_14 : decode cX7_takeHabit 14 = .ok (.ldc 127, 2) := by decide +kernel
theorem dX7_takeHabit_16 : decode cX7_takeHabit 16 = .ok (.invokevirtual 43, 3) := by decide +kernel
theorem dX7_takeHabit_19 : decode cX7_takeHabit 19 = .ok (.ifCond .eq 7, 3) := by decide +kernel
theorem dX7_takeHabit_22 : decode cX7_takeHabit 22 = .ok (.iconst 1, 1) := by decide +kernel
theorem dX7_takeHabit_23 : decode cX7_takeHabit 23 = .ok (.goto 30, 3) := by decide +kernel
theorem dX7_takeHabit_26 : decode cX7_takeHabit 26 = .ok (.aload_n 0, 1) := by decide +kernel
theorem dX7_takeHabit_27 : decode cX7_takeHabit 27 = .ok (.ldc 129, 2) := by decide +kernel
theorem dX7_takeHabit_29 : decode cX7_takeHabit 29 = .ok (.invokevirtual 43, 3) := by decide +kernel
theorem dX7_takeHabit_32 : decode cX7_takeHabit 32 = .ok (.ifCond .eq 7, 3) := by decide +kernel
theorem dX7_takeHabit_35 : decode cX7_takeHabit 35 = .ok (.iconst 2, 1) := by decide +kernel
theorem dX7_takeHabit_36 : decode cX7_takeHabit 36 = .ok (.goto 17, 3) := by decide +kernel
theorem dX7_takeHabit_39 : decode cX7_takeHabit 39 = .ok (.aload_n 0, 1) := by decide +kernel
theorem dX7_takeHabit_40 : decode cX7_takeHabit 40 = .ok (.ldc 131, 2) := by decide +kernel
theorem dX7_takeHabit_42 : decode cX7_takeHabit 42 = .ok (.invokevirtual 43, 3) := by decide +kernel
theorem dX7_takeHabit_45 : decode cX7_takeHabit 45 = .ok (.ifCond .eq 7, 3) := by decide +kernel
theorem dX7_takeHabit_48 : decode cX7_takeHabit 48 = .ok (.iconst 3, 1) := by decide +kernel
theorem dX7_takeHabit_49 : decode cX7_takeHabit 49 = .ok (.goto 4, 3) := by decide +kernel
theorem dX7_takeHabit_52 : decode cX7_takeHabit 52 = .ok (.iconst (-1), 1) := by decide +kernel
theorem dX7_takeHabit_53 : decode cX7_takeHabit 53 = .ok (.istore_n 1, 1) := by decide +kernel
theorem dX7_takeHabit_54 : decode cX7_takeHabit 54 = .ok (.iload_n 1, 1) := by decide +kernel
theorem dX7_takeHabit_55 : decode cX7_takeHabit 55 = .ok (.iconst (-1), 1) := by decide +kernel
theorem dX7_takeHabit_56 : decode cX7_takeHabit 56 = .ok (.if_icmp .ne 8, 3) := by decide +kernel
theorem dX7_takeHabit_59 : decode cX7_takeHabit 59 = .ok (.aload_n 0, 1) := by decide +kernel
theorem dX7_takeHabit_60 : decode cX7_takeHabit 60 = .ok (.iconst 1, 1) := by decide +kernel
theorem dX7_takeHabit_61 : decode cX7_takeHabit 61 = .ok (.invokevirtual 62, 3) := by decide +kernel
theorem dX7_takeHabit_64 : decode cX7_takeHabit 64 = .ok (.aload_n 0, 1) := by decide +kernel
theorem dX7_takeHabit_65 : decode cX7_takeHabit 65 = .ok (.invokevirtual 38, 3) := by decide +kernel
theorem dX7_takeHabit_68 : decode cX7_takeHabit 68 = .ok (.iload_n 1, 1) := by decide +kernel
theorem dX7_takeHabit_69 : decode cX7_takeHabit 69 = .ok (.ireturn, 1) := by decide +kernel
theorem dX7_takeKnown_0 : decode cX7_takeKnown 0 = .ok (.iconst 0, 1) := by decide +kernel
theorem dX7_takeKnown_1 : decode cX7_takeKnown 1 = .ok (.istore_n 1, 1) := by decide +kernel
theorem dX7_takeKnown_2 : decode cX7_takeKnown 2 = .ok (.iconst 1, 1) := by decide +kernel
theorem dX7_takeKnown_3 : decode cX7_takeKnown 3 = .ok (.istore_n 2, 1) := by decide +kernel
theorem dX7_takeKnown_4 : decode cX7_takeKnown 4 = .ok (.iconst 0, 1) := by decide +kernel
theorem dX7_takeKnown_5 : decode cX7_takeKnown 5 = .ok (.istore_n 3, 1) := by decide +kernel
theorem dX7_takeKnown_6 : decode cX7_takeKnown 6 = .ok (.iload_n 3, 1) := by decide +kernel
theorem dX7_takeKnown_7 : decode cX7_takeKnown 7 = .ok (.sipush 400, 3) := by decide +kernel
theorem dX7_takeKnown_10 : decode cX7_takeKnown 10 = .ok (.if_icmp .ge 89, 3) := by decide +kernel
theorem dX7_takeKnown_13 : decode cX7_takeKnown 13 = .ok (.iload_n 2, 1) := by decide +kernel
theorem dX7_takeKnown_14 : decode cX7_takeKnown 14 = .ok (.ifCond .eq 85, 3) := by decide +kernel
theorem dX7_takeKnown_17 : decode cX7_takeKnown 17 = .ok (.aload_n 0, 1) := by decide +kernel
theorem dX7_takeKnown_18 : decode cX7_takeKnown 18 = .ok (.getfield 29, 3) := by decide +kernel
theorem dX7_takeKnown_21 : decode cX7_takeKnown 21 = .ok (.ifCond .ne 78, 3) := by decide +kernel
theorem dX7_takeKnown_24 : decode cX7_takeKnown 24 = .ok (.aload_n 0, 1) := by decide +kernel
theorem dX7_takeKnown_25 : decode cX7_takeKnown 25 = .ok (.invokevirtual 38, 3) := by decide +kernel
theorem dX7_takeKnown_28 : decode cX7_takeKnown 28 = .ok (.aload_n 0, 1) := by decide +kernel
theorem dX7_takeKnown_29 : decode cX7_takeKnown 29 = .ok (.iconst 0, 1) := by decide +kernel
theorem dX7_takeKnown_30 : decode cX7_takeKnown 30 = .ok (.aload_n 0, 1) := by decide +kernel
theorem dX7_takeKnown_31 : decode cX7_takeKnown 31 = .ok (.getfield 12, 3) := by decide +kernel
theorem dX7_takeKnown_34 : decode cX7_takeKnown 34 = .ok (.getfield 74, 3) := by decide +kernel
theorem dX7_takeKnown_37 : decode cX7_takeKnown 37 = .ok (.iconst 1, 1) := by decide +kernel
theorem dX7_takeKnown_38 : decode cX7_takeKnown 38 = .ok (.isub, 1) := by decide +kernel
theorem dX7_takeKnown_39 : decode cX7_takeKnown 39 = .ok (.invokevirtual 77, 3) := by decide +kernel
theorem dX7_takeKnown_42 : decode cX7_takeKnown 42 = .ok (.istore 4, 2) := by decide +kernel
theorem dX7_takeKnown_44 : decode cX7_takeKnown 44 = .ok (.iload 4, 2) := by decide +kernel
theorem dX7_takeKnown_46 : decode cX7_takeKnown 46 = .ok (.iconst (-1), 1) := by decide +kernel
theorem dX7_takeKnown_47 : decode cX7_takeKnown 47 = .ok (.if_icmp .eq 18, 3) := by decide +kernel
theorem dX7_takeKnown_50 : decode cX7_takeKnown 50 = .ok (.iload_n 1, 1) := by decide +kernel
theorem dX7_takeKnown_51 : decode cX7_takeKnown 51 = .ok (.iload 4, 2) := by decide +kernel
theorem dX7_takeKnown_53 : decode cX7_takeKnown 53 = .ok (.ishr, 1) := by decide +kernel
theorem dX7_takeKnown_54 : decode cX7_takeKnown 54 = .ok (.iconst 1, 1) := by decide +kernel
theorem dX7_takeKnown_55 : decode cX7_takeKnown 55 = .ok (.iand, 1) := by decide +kernel
theorem dX7_takeKnown_56 : decode cX7_takeKnown 56 = .ok (.iconst 1, 1) := by decide +kernel
theorem dX7_takeKnown_57 : decode cX7_takeKnown 57 = .ok (.if_icmp .ne 8, 3) := by decide +kernel
theorem dX7_takeKnown_60 : decode cX7_takeKnown 60 = .ok (.aload_n 0, 1) := by decide +kernel
theorem dX7_takeKnown_61 : decode cX7_takeKnown 61 = .ok (.iconst 4, 1) := by decide +kernel
theorem dX7_takeKnown_62 : decode cX7_takeKnown 62 = .ok (.invokevirtual 62, 3) := by decide +kernel
theorem dX7_takeKnown_65 : decode cX7_takeKnown 65 = .ok (.iload_n 1, 1) := by decide +kernel
theorem dX7_takeKnown_66 : decode cX7_takeKnown 66 = .ok (.iload 4, 2) := by decide +kernel
theorem dX7_takeKnown_68 : decode cX7_takeKnown 68 = .ok (.iconst (-1), 1) := by decide +kernel
theorem dX7_takeKnown_69 : decode cX7_takeKnown 69 = .ok (.if_icmp .ne 7, 3) := by decide +kernel
theorem dX7_takeKnown_72 : decode cX7_takeKnown 72 = .ok (.iconst 0, 1) := by decide +kernel
theorem dX7_takeKnown_73 : decode cX7_takeKnown 73 = .ok (.goto 7, 3) := by decide +kernel
theorem dX7_takeKnown_76 : decode cX7_takeKnown 76 = .ok (.iconst 1, 1) := by decide +kernel
theorem dX7_takeKnown_77 : decode cX7_takeKnown 77 = .ok (.iload 4, 2) := by decide +kernel
theorem dX7_takeKnown_79 : decode cX7_takeKnown 79 = .ok (.ishl, 1) := by decide +kernel
theorem dX7_takeKnown_80 : decode cX7_takeKnown 80 = .ok (.ior, 1) := by decide +kernel
theorem dX7_takeKnown_81 : decode cX7_takeKnown 81 = .ok (.istore_n 1, 1) := by decide +kernel
theorem dX7_takeKnown_82 : decode cX7_takeKnown 82 = .ok (.aload_n 0, 1) := by decide +kernel
theorem dX7_takeKnown_83 : decode cX7_takeKnown 83 = .ok (.invokevirtual 38, 3) := by decide +kernel
theorem dX7_takeKnown_86 : decode cX7_takeKnown 86 = .ok (.aload_n 0, 1) := by decide +kernel
theorem dX7_takeKnown_87 : decode cX7_takeKnown 87 = .ok (.bipush 44, 2) := by decide +kernel
theorem dX7_takeKnown_89 : decode cX7_takeKnown 89 = .ok (.invokevirtual 133, 3) := by decide +kernel
theorem dX7_takeKnown_92 : decode cX7_takeKnown 92 = .ok (.istore_n 2, 1) := by decide +kernel
theorem dX7_takeKnown_93 : decode cX7_takeKnown 93 = .ok (.iinc 3 1, 3) := by decide +kernel
theorem dX7_takeKnown_96 : decode cX7_takeKnown 96 = .ok (.goto (-90), 3) := by decide +kernel
theorem dX7_takeKnown_99 : decode cX7_takeKnown 99 = .ok (.iload_n 1, 1) := by decide +kernel
theorem dX7_takeKnown_100 : decode cX7_takeKnown 100 = .ok (.ireturn, 1) := by decide +kernel
theorem dX7_takeNumber_0 : decode cX7_takeNumber 0 = .ok (.aload_n 0, 1) := by decide +kernel
theorem dX7_takeNumber_1 : decode cX7_takeNumber 1 = .ok (.iload_n 1, 1) := by decide +kernel
theorem dX7_takeNumber_2 : decode cX7_takeNumber 2 = .ok (.iload_n 2, 1) := by decide +kernel
theorem dX7_takeNumber_3 : decode cX7_takeNumber 3 = .ok (.invokevirtual 77, 3) := by decide +kernel
theorem dX7_takeNumber_6 : decode cX7_takeNumber 6 = .ok (.istore_n 3, 1) := by decide +kernel
theorem dX7_takeNumber_7 : decode cX7_takeNumber 7 = .ok (.aload_n 0, 1) := by decide +kernel
theorem dX7_takeNumber_8 : decode cX7_takeNumber 8 = .ok (.invokevirtual 38, 3) := by decide +kernel
theorem dX7_takeNumber_11 : decode cX7_takeNumber 11 = .ok (.iload_n 3, 1) := by decide +kernel
theorem dX7_takeNumber_12 : decode cX7_takeNumber 12 = .ok (.ireturn, 1) := by decide +kernel
theorem dX7_seeNumber_0 : decode cX7_seeNumber 0 = .ok (.aload_n 0, 1) := by decide +kernel
theorem dX7_seeNumber_1 : decode cX7_seeNumber 1 = .ok (.getfield 137, 3) := by decide +kernel
theorem dX7_seeNumber_4 : decode cX7_seeNumber 4 = .ok (.ifCond .ne 11, 3) := by decide +kernel
theorem dX7_seeNumber_7 : decode cX7_seeNumber 7 = .ok (.aload_n 0, 1) := by decide +kernel
theorem dX7_seeNumber_8 : decode cX7_seeNumber 8 = .ok (.iconst 1, 1) := by decide +kernel
theorem dX7_seeNumber_9 : decode cX7_seeNumber 9 = .ok (.invokevirtual 62, 3) := by decide +kernel
theorem dX7_seeNumber_12 : decode cX7_seeNumber 12 = .ok (.goto 32, 3) := by decide +kernel
theorem dX7_seeNumber_15 : decode cX7_seeNumber 15 = .ok (.aload_n 0, 1) := by decide +kernel
theorem dX7_seeNumber_16 : decode cX7_seeNumber 16 = .ok (.getfield 35, 3) := by decide +kernel
theorem dX7_seeNumber_19 : decode cX7_seeNumber 19 = .ok (.iconst 3, 1) := by decide +kernel
theorem dX7_seeNumber_20 : decode cX7_seeNumber 20 = .ok (.if_icmp .gt 19, 3) := by decide +kernel
theorem dX7_seeNumber_23 : decode cX7_seeNumber 23 = .ok (.aload_n 0, 1) := by decide +kernel
theorem dX7_seeNumber_24 : decode cX7_seeNumber 24 = .ok (.getfield 141, 3) := by decide +kernel
theorem dX7_seeNumber_27 : decode cX7_seeNumber 27 = .ok (.iload_n 1, 1) := by decide +kernel
theorem dX7_seeNumber_28 : decode cX7_seeNumber 28 = .ok (.if_icmp .lt 11, 3) := by decide +kernel
theorem dX7_seeNumber_31 : decode cX7_seeNumber 31 = .ok (.aload_n 0, 1) := by decide +kernel
theorem dX7_seeNumber_32 : decode cX7_seeNumber 32 = .ok (.getfield 141, 3) := by decide +kernel
theorem dX7_seeNumber_35 : decode cX7_seeNumber 35 = .ok (.iload_n 2, 1) := by decide +kernel
theorem dX7_seeNumber_36 : decode cX7_seeNumber 36 = .ok (.if_icmp .le 8, 3) := by decide +kernel
theorem dX7_seeNumber_39 : decode cX7_seeNumber 39 = .ok (.aload_n 0, 1) := by decide +kernel
theorem dX7_seeNumber_40 : decode cX7_seeNumber 40 = .ok (.iconst 2, 1) := by decide +kernel
theorem dX7_seeNumber_41 : decode cX7_seeNumber 41 = .ok (.invokevirtual 62, 3) := by decide +kernel
theorem dX7_seeNumber_44 : decode cX7_seeNumber 44 = .ok (.aload_n 0, 1) := by decide +kernel
theorem dX7_seeNumber_45 : decode cX7_seeNumber 45 = .ok (.getfield 29, 3) := by decide +kernel
theorem dX7_seeNumber_48 : decode cX7_seeNumber 48 = .ok (.ifCond .ne 10, 3) := by decide +kernel
theorem dX7_seeNumber_51 : decode cX7_seeNumber 51 = .ok (.aload_n 0, 1) := by decide +kernel
theorem dX7_seeNumber_52 : decode cX7_seeNumber 52 = .ok (.getfield 141, 3) := by decide +kernel
theorem dX7_seeNumber_55 : decode cX7_seeNumber 55 = .ok (.goto 4, 3) := by decide +kernel
theorem dX7_seeNumber_58 : decode cX7_seeNumber 58 = .ok (.iconst (-1), 1) := by decide +kernel
theorem dX7_seeNumber_59 : decode cX7_seeNumber 59 = .ok (.ireturn, 1) := by decide +kernel
theorem dX7_takeSign_0 : decode cX7_takeSign 0 = .ok (.aload_n 0, 1) := by decide +kernel
theorem dX7_takeSign_1 : decode cX7_takeSign 1 = .ok (.iload_n 1, 1) := by decide +kernel
theorem dX7_takeSign_2 : decode cX7_takeSign 2 = .ok (.invokevirtual 133, 3) := by decide +kernel
theorem dX7_takeSign_5 : decode cX7_takeSign 5 = .ok (.ifCond .ne 8, 3) := by decide +kernel
theorem dX7_takeSign_8 : decode cX7_takeSign 8 = .ok (.aload_n 0, 1) := by decide +kernel
theorem dX7_takeSign_9 : decode cX7_takeSign 9 = .ok (.iconst 1, 1) := by decide +kernel
theorem dX7_takeSign_10 : decode cX7_takeSign 10 = .ok (.invokevirtual 62, 3) := by decide +kernel
theorem dX7_takeSign_13 : decode cX7_takeSign 13 = .ok (.aload_n 0, 1) := by decide +kernel
theorem dX7_takeSign_14 : decode cX7_takeSign 14 = .ok (.invokevirtual 38, 3) := by decide +kernel
theorem dX7_takeSign_17 : decode cX7_takeSign 17 = .ok (.return_, 1) := by decide +kernel
theorem dX7_isSign_0 : decode cX7_isSign 0 = .ok (.aload_n 0, 1) := by decide +kernel
theorem dX7_isSign_1 : decode cX7_isSign 1 = .ok (.getfield 35, 3) := by decide +kernel
theorem dX7_isSign_4 : decode cX7_isSign 4 = .ok (.iconst 1, 1) := by decide +kernel
theorem dX7_isSign_5 : decode cX7_isSign 5 = .ok (.if_icmp .ne 19, 3) := by decide +kernel
theorem dX7_isSign_8 : decode cX7_isSign 8 = .ok (.aload_n 0, 1) := by decide +kernel
theorem dX7_isSign_9 : decode cX7_isSign 9 = .ok (.aload_n 0, 1) := by decide +kernel
theorem dX7_isSign_10 : decode cX7_isSign 10 = .ok (.getfield 32, 3) := by decide +kernel
theorem dX7_isSign_13 : decode cX7_isSign 13 = .ok (.invokevirtual 144, 3) := by decide +kernel
theorem dX7_isSign_16 : decode cX7_isSign 16 = .ok (.iload_n 1, 1) := by decide +kernel
theorem dX7_isSign_17 : decode cX7_isSign 17 = .ok (.if_icmp .ne 7, 3) := by decide +kernel
theorem dX7_isSign_20 : decode cX7_isSign 20 = .ok (.iconst 1, 1) := by decide +kernel
theorem dX7_isSign_21 : decode cX7_isSign 21 = .ok (.goto 4, 3) := by decide +kernel
theorem dX7_isSign_24 : decode cX7_isSign 24 = .ok (.iconst 0, 1) := by decide +kernel
theorem dX7_isSign_25 : decode cX7_isSign 25 = .ok (.ireturn, 1) := by decide +kernel
theorem dX7_isWord_0 : decode cX7_isWord 0 = .ok (.aload_n 0, 1) := by decide +kernel
theorem dX7_isWord_1 : decode cX7_isWord 1 = .ok (.getfield 148, 3) := by decide +kernel
theorem dX7_isWord_4 : decode cX7_isWord 4 = .ok (.ifCond .eq 18, 3) := by decide +kernel
theorem dX7_isWord_7 : decode cX7_isWord 7 = .ok (.aload_n 0, 1) := by decide +kernel
theorem dX7_isWord_8 : decode cX7_isWord 8 = .ok (.getfield 35, 3) := by decide +kernel
theorem dX7_isWord_11 : decode cX7_isWord 11 = .ok (.aload_n 1, 1) := by decide +kernel
theorem dX7_isWord_12 : decode cX7_isWord 12 = .ok (.invokevirtual 151, 3) := by decide +kernel
theorem dX7_isWord_15 : decode cX7_isWord 15 = .ok (.if_icmp .ne 7, 3) := by decide +kernel
theorem dX7_isWord_18 : decode cX7_isWord 18 = .ok (.iconst 1, 1) := by decide +kernel
theorem dX7_isWord_19 : decode cX7_isWord 19 = .ok (.goto 4, 3) := by decide +kernel
theorem dX7_isWord_22 : decode cX7_isWord 22 = .ok (.iconst 0, 1) := by decide +kernel
theorem dX7_isWord_23 : decode cX7_isWord 23 = .ok (.istore_n 2, 1) := by decide +kernel
theorem dX7_isWord_24 : decode cX7_isWord 24 = .ok (.iconst 0, 1) := by decide +kernel
theorem dX7_isWord_25 : decode cX7_isWord 25 = .ok (.istore_n 3, 1) := by decide +kernel
theorem dX7_isWord_26 : decode cX7_isWord 26 = .ok (.iload_n 3, 1) := by decide +kernel
theorem dX7_isWord_27 : decode cX7_isWord 27 = .ok (.aload_n 1, 1) := by decide +kernel
theorem dX7_isWord_28 : decode cX7_isWord 28 = .ok (.invokevirtual 151, 3) := by decide +kernel
theorem dX7_isWord_31 : decode cX7_isWord 31 = .ok (.if_icmp .ge 37, 3) := by decide +kernel
theorem dX7_isWord_34 : decode cX7_isWord 34 = .ok (.iload_n 2, 1) := by decide +kernel
theorem dX7_isWord_35 : decode cX7_isWord 35 = .ok (.ifCond .eq 33, 3) := by decide +kernel
theorem dX7_isWord_38 : decode cX7_isWord 38 = .ok (.aload_n 0, 1) := by decide +kernel
theorem dX7_isWord_39 : decode cX7_isWord 39 = .ok (.aload_n 0, 1) := by decide +kernel
theorem dX7_isWord_40 : decode cX7_isWord 40 = .ok (.getfield 32, 3) := by decide +kernel
theorem dX7_isWord_43 : decode cX7_isWord 43 = .ok (.iload_n 3, 1) := by decide +kernel
theorem dX7_isWord_44 : decode cX7_isWord 44 = .ok (.iadd, 1) := by decide +kernel
theorem dX7_isWord_45 : decode cX7_isWord 45 = .ok (.invokevirtual 144, 3) := by decide +kernel
theorem dX7_isWord_48 : decode cX7_isWord 48 = .ok (.aload_n 1, 1) := by decide +kernel
theorem dX7_isWord_49 : decode cX7_isWord 49 = .ok (.iload_n 3, 1) := by decide +kernel
theorem dX7_isWord_50 : decode cX7_isWord 50 = .ok (.invokevirtual 155, 3) := by decide +kernel
theorem dX7_isWord_53 : decode cX7_isWord 53 = .ok (.if_icmp .ne 7, 3) := by decide +kernel
theorem dX7_isWord_56 : decode cX7_isWord 56 = .ok (.iconst 1, 1) := by decide +kernel
theorem dX7_isWord_57 : decode cX7_isWord 57 = .ok (.goto 4, 3) := by decide +kernel
theorem dX7_isWord_60 : decode cX7_isWord 60 = .ok (.iconst 0, 1) := by decide +kernel
theorem dX7_isWord_61 : decode cX7_isWord 61 = .ok (.istore_n 2, 1) := by decide +kernel
theorem dX7_isWord_62 : decode cX7_isWord 62 = .ok (.iinc 3 1, 3) := by decide +kernel
theorem dX7_isWord_65 : decode cX7_isWord 65 = .ok (.goto (-39), 3) := by decide +kernel
theorem dX7_isWord_68 : decode cX7_isWord 68 = .ok (.iload_n 2, 1) := by decide +kernel
theorem dX7_isWord_69 : decode cX7_isWord 69 = .ok (.ireturn, 1) := by decide +kernel
theorem dX7_blame_0 : decode cX7_blame 0 = .ok (.aload_n 0, 1) := by decide +kernel
theorem dX7_blame_1 : decode cX7_blame 1 = .ok (.getfield 29, 3) := by decide +kernel
theorem dX7_blame_4 : decode cX7_blame 4 = .ok (.ifCond .ne 16, 3) := by decide +kernel
theorem dX7_blame_7 : decode cX7_blame 7 = .ok (.aload_n 0, 1) := by decide +kernel
theorem dX7_blame_8 : decode cX7_blame 8 = .ok (.iload_n 1, 1) := by decide +kernel
theorem dX7_blame_9 : decode cX7_blame 9 = .ok (.putfield 29, 3) := by decide +kernel
theorem dX7_blame_12 : decode cX7_blame 12 = .ok (.aload_n 0, 1) := by decide +kernel
theorem dX7_blame_13 : decode cX7_blame 13 = .ok (.aload_n 0, 1) := by decide +kernel
theorem dX7_blame_14 : decode cX7_blame 14 = .ok (.getfield 32, 3) := by decide +kernel
theorem dX7_blame_17 : decode cX7_blame 17 = .ok (.putfield 18, 3) := by decide +kernel
theorem dX7_blame_20 : decode cX7_blame 20 = .ok (.return_, 1) := by decide +kernel
theorem dX7_step_0 : decode cX7_step 0 = .ok (.aload_n 0, 1) := by decide +kernel
theorem dX7_step_1 : decode cX7_step 1 = .ok (.dup, 1) := by decide +kernel
theorem dX7_step_2 : decode cX7_step 2 = .ok (.getfield 32, 3) := by decide +kernel
theorem dX7_step_5 : decode cX7_step 5 = .ok (.aload_n 0, 1) := by decide +kernel
theorem dX7_step_6 : decode cX7_step 6 = .ok (.getfield 35, 3) := by decide +kernel
theorem dX7_step_9 : decode cX7_step 9 = .ok (.iadd, 1) := by decide +kernel
theorem dX7_step_10 : decode cX7_step 10 = .ok (.putfield 32, 3) := by decide +kernel
theorem dX7_step_13 : decode cX7_step 13 = .ok (.iconst 0, 1) := by decide +kernel
theorem dX7_step_14 : decode cX7_step 14 = .ok (.istore_n 1, 1) := by decide +kernel
theorem dX7_step_15 : decode cX7_step 15 = .ok (.iload_n 1, 1) := by decide +kernel
theorem dX7_step_16 : decode cX7_step 16 = .ok (.sipush 400, 3) := by decide +kernel
theorem dX7_step_19 : decode cX7_step 19 = .ok (.if_icmp .ge 32, 3) := by decide +kernel
theorem dX7_step_22 : decode cX7_step 22 = .ok (.aload_n 0, 1) := by decide +kernel
theorem dX7_step_23 : decode cX7_step 23 = .ok (.aload_n 0, 1) := by decide +kernel
theorem dX7_step_24 : decode cX7_step 24 = .ok (.getfield 32, 3) := by decide +kernel
theorem dX7_step_27 : decode cX7_step 27 = .ok (.invokevirtual 144, 3) := by decide +kernel
theorem dX7_step_30 : decode cX7_step 30 = .ok (.bipush 32, 2) := by decide +kernel
theorem dX7_step_32 : decode cX7_step 32 = .ok (.if_icmp .ne 19, 3) := by decide +kernel
theorem dX7_step_35 : decode cX7_step 35 = .ok (.aload_n 0, 1) := by decide +kernel
theorem dX7_step_36 : decode cX7_step 36 = .ok (.dup, 1) := by decide +kernel
theorem dX7_step_37 : decode cX7_step 37 = .ok (.getfield 32, 3) := by decide +kernel
theorem dX7_step_40 : decode cX7_step 40 = .ok (.iconst 1, 1) := by decide +kernel
theorem dX7_step_41 : decode cX7_step 41 = .ok (.iadd, 1) := by decide +kernel
theorem dX7_step_42 : decode cX7_step 42 = .ok (.putfield 32, 3) := by decide +kernel
theorem dX7_step_45 : decode cX7_step 45 = .ok (.iinc 1 1, 3) := by decide +kernel
theorem dX7_step_48 : decode cX7_step 48 = .ok (.goto (-33), 3) := by decide +kernel
theorem dX7_step_51 : decode cX7_step 51 = .ok (.aload_n 0, 1) := by decide +kernel
theorem dX7_step_52 : decode cX7_step 52 = .ok (.aload_n 0, 1) := by decide +kernel
theorem dX7_step_53 : decode cX7_step 53 = .ok (.aload_n 0, 1) := by decide +kernel
theorem dX7_step_54 : decode cX7_step 54 = .ok (.getfield 32, 3) := by decide +kernel
theorem dX7_step_57 : decode cX7_step 57 = .ok (.invokevirtual 144, 3) := by decide +kernel
theorem dX7_step_60 : decode cX7_step 60 = .ok (.invokestatic 159, 3) := by decide +kernel
theorem dX7_step_63 : decode cX7_step 63 = .ok (.putfield 148, 3) := by decide +kernel
theorem dX7_step_66 : decode cX7_step 66 = .ok (.aload_n 0, 1) := by decide +kernel
theorem dX7_step_67 : decode cX7_step 67 = .ok (.aload_n 0, 1) := by decide +kernel
theorem dX7_step_68 : decode cX7_step 68 = .ok (.aload_n 0, 1) := by decide +kernel
theorem dX7_step_69 : decode cX7_step 69 = .ok (.getfield 32, 3) := by decide +kernel
theorem dX7_step_72 : decode cX7_step 72 = .ok (.invokevirtual 144, 3) := by decide +kernel
theorem dX7_step_75 : decode cX7_step 75 = .ok (.invokestatic 163, 3) := by decide +kernel
theorem dX7_step_78 : decode cX7_step 78 = .ok (.putfield 137, 3) := by decide +kernel
theorem dX7_step_81 : decode cX7_step 81 = .ok (.aload_n 0, 1) := by decide +kernel
theorem dX7_step_82 : decode cX7_step 82 = .ok (.aload_n 0, 1) := by decide +kernel
theorem dX7_step_83 : decode cX7_step 83 = .ok (.aload_n 0, 1) := by decide +kernel
theorem dX7_step_84 : decode cX7_step 84 = .ok (.getfield 32, 3) := by decide +kernel
theorem dX7_step_87 : decode cX7_step 87 = .ok (.invokevirtual 144, 3) := by decide +kernel
theorem dX7_step_90 : decode cX7_step 90 = .ok (.iconst (-1), 1) := by decide +kernel
theorem dX7_step_91 : decode cX7_step 91 = .ok (.if_icmp .ne 7, 3) := by decide +kernel
theorem dX7_step_94 : decode cX7_step 94 = .ok (.iconst 0, 1) := by decide +kernel
theorem dX7_step_95 : decode cX7_step 95 = .ok (.goto 4, 3) := by decide +kernel
theorem dX7_step_98 : decode cX7_step 98 = .ok (.iconst 1, 1) := by decide +kernel
theorem dX7_step_99 : decode cX7_step 99 = .ok (.putfield 35, 3) := by decide +kernel
theorem dX7_step_102 : decode cX7_step 102 = .ok (.aload_n 0, 1) := by decide +kernel
theorem dX7_step_103 : decode cX7_step 103 = .ok (.aload_n 0, 1) := by decide +kernel
theorem dX7_step_104 : decode cX7_step 104 = .ok (.aload_n 0, 1) := by decide +kernel
theorem dX7_step_105 : decode cX7_step 105 = .ok (.getfield 32, 3) := by decide +kernel
theorem dX7_step_108 : decode cX7_step 108 = .ok (.invokevirtual 144, 3) := by decide +kernel
theorem dX7_step_111 : decode cX7_step 111 = .ok (.bipush 48, 2) := by decide +kernel
theorem dX7_step_113 : decode cX7_step 113 = .ok (.isub, 1) := by decide +kernel
theorem dX7_step_114 : decode cX7_step 114 = .ok (.putfield 141, 3) := by decide +kernel
theorem dX7_step_117 : decode cX7_step 117 = .ok (.iconst 1, 1) := by decide +kernel
theorem dX7_step_118 : decode cX7_step 118 = .ok (.istore_n 1, 1) := by decide +kernel
theorem dX7_step_119 : decode cX7_step 119 = .ok (.iload_n 1, 1) := by decide +kernel
theorem dX7_step_120 : decode cX7_step 120 = .ok (.sipush 400, 3) := by decide +kernel
theorem dX7_step_123 : decode cX7_step 123 = .ok (.if_icmp .ge 76, 3) := by decide +kernel
theorem dX7_step_126 : decode cX7_step 126 = .ok (.aload_n 0, 1) := by decide +kernel
theorem dX7_step_127 : decode cX7_step 127 = .ok (.aload_n 0, 1) := by decide +kernel
theorem dX7_step_128 : decode cX7_step 128 = .ok (.aload_n 0, 1) := by decide +kernel
theorem dX7_step_129 : decode cX7_step 129 = .ok (.getfield 32, 3) := by decide +kernel
theorem dX7_step_132 : decode cX7_step 132 = .ok (.iload_n 1, 1) := by decide +kernel
theorem dX7_step_133 : decode cX7_step 133 = .ok (.iadd, 1) := by decide +kernel
theorem dX7_step_134 : decode cX7_step 134 = .ok (.invokevirtual 144, 3) := by decide +kernel
theorem dX7_step_137 : decode cX7_step 137 = .ok (.invokevirtual 166, 3) := by decide +kernel
theorem dX7_step_140 : decode cX7_step 140 = .ok (.ifCond .eq 59, 3) := by decide +kernel
theorem dX7_step_143 : decode cX7_step 143 = .ok (.aload_n 0, 1) := by decide +kernel
theorem dX7_step_144 : decode cX7_step 144 = .ok (.dup, 1) := by decide +kernel
theorem dX7_step_145 : decode cX7_step 145 = .ok (.getfield 35, 3) := by decide +kernel
theorem dX7_step_148 : decode cX7_step 148 = .ok (.iconst 1, 1) := by decide +kernel
theorem dX7_step_149 : decode cX7_step 149 = .ok (.iadd, 1) := by decide +kernel
theorem dX7_step_150 : decode cX7_step 150 = .ok (.putfield 35, 3) := by decide +kernel
theorem dX7_step_153 : decode cX7_step 153 = .ok (.aload_n 0, 1) := by decide +kernel
theorem dX7_step_154 : decode cX7_step 154 = .ok (.aload_n 0, 1) := by decide +kernel
theorem dX7_step_155 : decode cX7_step 155 = .ok (.getfield 35, 3) := by decide +kernel
theorem dX7_step_158 : decode cX7_step 158 = .ok (.iconst 3, 1) := by decide +kernel
theorem dX7_step_159 : decode cX7_step 159 = .ok (.if_icmp .le 10, 3) := by decide +kernel
theorem dX7_step_162 : decode cX7_step 162 = .ok (.aload_n 0, 1) := by decide +kernel
theorem dX7_step_163 : decode cX7_step 163 = .ok (.getfield 141, 3) := by decide +kernel
theorem dX7_step_166 : decode cX7_step 166 = .ok (.goto 24, 3) := by decide +kernel
theorem dX7_step_169 : decode cX7_step 169 = .ok (.aload_n 0, 1) := by decide +kernel
theorem dX7_step_170 : decode cX7_step 170 = .ok (.getfield 141, 3) := by decide +kernel
theorem dX7_step_173 : decode cX7_step 173 = .ok (.bipush 10, 2) := by decide +kernel
theorem dX7_step_175 : decode cX7_step 175 = .ok (.imul, 1) := by decide +kernel
theorem dX7_step_176 : decode cX7_step 176 = .ok (.aload_n 0, 1) := by decide +kernel
theorem dX7_step_177 : decode cX7_step 177 = .ok (.aload_n 0, 1) := by decide +kernel
theorem dX7_step_178 : decode cX7_step 178 = .ok (.getfield 32, 3) := by decide +kernel
theorem dX7_step_181 : decode cX7_step 181 = .ok (.iload_n 1, 1) := by decide +kernel
theorem dX7_step_182 : decode cX7_step 182 = .ok (.iadd, 1) := by decide +kernel
theorem dX7_step_183 : decode cX7_step 183 = .ok (.invokevirtual 144, 3) := by decide +kernel
theorem dX7_step_186 : decode cX7_step 186 = .ok (.iadd, 1) := by decide +kernel
theorem dX7_step_187 : decode cX7_step 187 = .ok (.bipush 48, 2) := by decide +kernel
theorem dX7_step_189 : decode cX7_step 189 = .ok (.isub, 1) := by decide +kernel
theorem dX7_step_190 : decode cX7_step 190 = .ok (.putfield 141, 3) := by decide +kernel
theorem dX7_step_193 : decode cX7_step 193 = .ok (.iinc 1 1, 3) := by decide +kernel
theorem dX7_step_196 : decode cX7_step 196 = .ok (.goto (-77), 3) := by decide +kernel
theorem dX7_step_199 : decode cX7_step 199 = .ok (.return_, 1) := by decide +kernel
theorem dX7_goesOn_0 : decode cX7_goesOn 0 = .ok (.aload_n 0, 1) := by decide +kernel
theorem dX7_goesOn_1 : decode cX7_goesOn 1 = .ok (.getfield 148, 3) := by decide +kernel
theorem dX7_goesOn_4 : decode cX7_goesOn 4 = .ok (.ifCond .eq 10, 3) := by decide +kernel
theorem dX7_goesOn_7 : decode cX7_goesOn 7 = .ok (.iload_n 1, 1) := by decide +kernel
theorem dX7_goesOn_8 : decode cX7_goesOn 8 = .ok (.invokestatic 159, 3) := by decide +kernel
theorem dX7_goesOn_11 : decode cX7_goesOn 11 = .ok (.ifCond .ne 17, 3) := by decide +kernel
theorem dX7_goesOn_14 : decode cX7_goesOn 14 = .ok (.aload_n 0, 1) := by decide +kernel
theorem dX7_goesOn_15 : decode cX7_goesOn 15 = .ok (.getfield 137, 3) := by decide +kernel
theorem dX7_goesOn_18 : decode cX7_goesOn 18 = .ok (.ifCond .eq 14, 3) := by decide +kernel
theorem dX7_goesOn_21 : decode cX7_goesOn 21 = .ok (.iload_n 1, 1) := by decide +kernel
theorem dX7_goesOn_22 : decode cX7_goesOn 22 = .ok (.invokestatic 163, 3) := by decide +kernel
theorem dX7_goesOn_25 : decode cX7_goesOn 25 = .ok (.ifCond .eq 7, 3) := by decide +kernel
theorem dX7_goesOn_28 : decode cX7_goesOn 28 = .ok (.iconst 1, 1) := by decide +kernel
theorem dX7_goesOn_29 : decode cX7_goesOn 29 = .ok (.goto 4, 3) := by decide +kernel
theorem dX7_goesOn_32 : decode cX7_goesOn 32 = .ok (.iconst 0, 1) := by decide +kernel
theorem dX7_goesOn_33 : decode cX7_goesOn 33 = .ok (.ireturn, 1) := by decide +kernel
theorem dX7_byteAt_0 : decode cX7_byteAt 0 = .ok (.aload_n 0, 1) := by decide +kernel
theorem dX7_byteAt_1 : decode cX7_byteAt 1 = .ok (.getfield 22, 3) := by decide +kernel
theorem dX7_byteAt_4 : decode cX7_byteAt 4 = .ok (.ifnull 28, 3) := by decide +kernel
theorem dX7_byteAt_7 : decode cX7_byteAt 7 = .ok (.iload_n 1, 1) := by decide +kernel
theorem dX7_byteAt_8 : decode cX7_byteAt 8 = .ok (.aload_n 0, 1) := by decide +kernel
theorem dX7_byteAt_9 : decode cX7_byteAt 9 = .ok (.getfield 22, 3) := by decide +kernel
theorem dX7_byteAt_12 : decode cX7_byteAt 12 = .ok (.getfield 169, 3) := by decide +kernel
theorem dX7_byteAt_15 : decode cX7_byteAt 15 = .ok (.if_icmp .ge 17, 3) := by decide +kernel
theorem dX7_byteAt_18 : decode cX7_byteAt 18 = .ok (.aload_n 0, 1) := by decide +kernel
theorem dX7_byteAt_19 : decode cX7_byteAt 19 = .ok (.getfield 22, 3) := by decide +kernel
theorem dX7_byteAt_22 : decode cX7_byteAt 22 = .ok (.getfield 172, 3) := by decide +kernel
theorem dX7_byteAt_25 : decode cX7_byteAt 25 = .ok (.iload_n 1, 1) := by decide +kernel
theorem dX7_byteAt_26 : decode cX7_byteAt 26 = .ok (.invokestatic 175, 3) := by decide +kernel
theorem dX7_byteAt_29 : decode cX7_byteAt 29 = .ok (.goto 4, 3) := by decide +kernel
theorem dX7_byteAt_32 : decode cX7_byteAt 32 = .ok (.iconst (-1), 1) := by decide +kernel
theorem dX7_byteAt_33 : decode cX7_byteAt 33 = .ok (.ireturn, 1) := by decide +kernel
theorem dX7_isLetter_0 : decode cX7_isLetter 0 = .ok (.iload_n 0, 1) := by decide +kernel
theorem dX7_isLetter_1 : decode cX7_isLetter 1 = .ok (.bipush 97, 2) := by decide +kernel
theorem dX7_isLetter_3 : decode cX7_isLetter 3 = .ok (.if_icmp .lt 13, 3) := by decide +kernel
theorem dX7_isLetter_6 : decode cX7_isLetter 6 = .ok (.iload_n 0, 1) := by decide +kernel
theorem dX7_isLetter_7 : decode cX7_isLetter 7 = .ok (.bipush 122, 2) := by decide +kernel
theorem dX7_isLetter_9 : decode cX7_isLetter 9 = .ok (.if_icmp .gt 7, 3) := by decide +kernel
theorem dX7_isLetter_12 : decode cX7_isLetter 12 = .ok (.iconst 1, 1) := by decide +kernel
theorem dX7_isLetter_13 : decode cX7_isLetter 13 = .ok (.goto 4, 3) := by decide +kernel
theorem dX7_isLetter_16 : decode cX7_isLetter 16 = .ok (.iconst 0, 1) := by decide +kernel
theorem dX7_isLetter_17 : decode cX7_isLetter 17 = .ok (.ireturn, 1) := by decide +kernel
theorem dX7_isFigure_0 : decode cX7_isFigure 0 = .ok (.iload_n 0, 1) := by decide +kernel
theorem dX7_isFigure_1 : decode cX7_isFigure 1 = .ok (.bipush 48, 2) := by decide +kernel
theorem dX7_isFigure_3 : decode cX7_isFigure 3 = .ok (.if_icmp .lt 13, 3) := by decide +kernel
theorem dX7_isFigure_6 : decode cX7_isFigure 6 = .ok (.iload_n 0, 1) := by decide +kernel
theorem dX7_isFigure_7 : decode cX7_isFigure 7 = .ok (.bipush 57, 2) := by decide +kernel
theorem dX7_isFigure_9 : decode cX7_isFigure 9 = .ok (.if_icmp .gt 7, 3) := by decide +kernel
theorem dX7_isFigure_12 : decode cX7_isFigure 12 = .ok (.iconst 1, 1) := by decide +kernel
theorem dX7_isFigure_13 : decode cX7_isFigure 13 = .ok (.goto 4, 3) := by decide +kernel
theorem dX7_isFigure_16 : decode cX7_isFigure 16 = .ok (.iconst 0, 1) := by decide +kernel
theorem dX7_isFigure_17 : decode cX7_isFigure 17 = .ok (.ireturn, 1) := by decide +kernel
end
section
theorem dX9_init_0 : decode cX9_init 0 = .ok (.aload_n 0, 1) := by decide +kernel
theorem dX9_init_1 : decode cX9_init 1 = .ok (.invokespecial 3, 3) := by decide +kernel
theorem dX9_init_4 : decode cX9_init 4 = .ok (.aload_n 0, 1) := by decide +kernel
theorem dX9_init_5 : decode cX9_init 5 = .ok (.new 9, 3) := by decide +kernel
theorem dX9_init_8 : decode cX9_init 8 = .ok (.dup, 1) := by decide +kernel
theorem dX9_init_9 : decode cX9_init 9 = .ok (.invokespecial 11, 3) := by decide +kernel
theorem dX9_init_12 : decode cX9_init 12 = .ok (.putfield 12, 3) := by decide +kernel
theorem dX9_init_15 : decode cX9_init 15 = .ok (.aload_n 0, 1) := by decide +kernel
theorem dX9_init_16 : decode cX9_init 16 = .ok (.new 16, 3) := by decide +kernel
theorem dX9_init_19 : decode cX9_init 19 = .ok (.dup, 1) := by decide +kernel
theorem dX9_init_20 : decode cX9_init 20 = .ok (.invokespecial 18, 3) := by decide +kernel
theorem dX9_init_23 : decode cX9_init 23 = .ok (.putfield 19, 3) := by decide +kernel
theorem dX9_init_26 : decode cX9_init 26 = .ok (.aload_n 0, 1) := by decide +kernel
theorem dX9_init_27 : decode cX9_init 27 = .ok (.new 23, 3) := by decide +kernel
theorem dX9_init_30 : decode cX9_init 30 = .ok (.dup, 1) := by decide +kernel
theorem dX9_init_31 : decode cX9_init 31 = .ok (.invokespecial 25, 3) := by decide +kernel
theorem dX9_init_34 : decode cX9_init 34 = .ok (.putfield 26, 3) := by decide +kernel
theorem dX9_init_37 : decode cX9_init 37 = .ok (.aload_n 0, 1) := by decide +kernel
theorem dX9_init_38 : decode cX9_init 38 = .ok (.new 30, 3) := by decide +kernel
theorem dX9_init_41 : decode cX9_init 41 = .ok (.dup, 1) := by decide +kernel
theorem dX9_init_42 : decode cX9_init 42 = .ok (.invokespecial 32, 3) := by decide +kernel
theorem dX9_init_45 : decode cX9_init 45 = .ok (.putfield 33, 3) := by decide +kernel
theorem dX9_init_48 : decode cX9_init 48 = .ok (.aload_n 0, 1) := by decide +kernel
theorem dX9_init_49 : decode cX9_init 49 = .ok (.bipush 10, 2) := by decide +kernel
theorem dX9_init_51 : decode cX9_init 51 = .ok (.anewarray 37, 3) := by decide +kernel
theorem dX9_init_54 : decode cX9_init 54 = .ok (.putfield 39, 3) := by decide +kernel
theorem dX9_init_57 : decode cX9_init 57 = .ok (.iconst 0, 1) := by decide +kernel
theorem dX9_init_58 : decode cX9_init 58 = .ok (.istore_n 1, 1) := by decide +kernel
theorem dX9_init_59 : decode cX9_init 59 = .ok (.iload_n 1, 1) := by decide +kernel
theorem dX9_init_60 : decode cX9_init 60 = .ok (.aload_n 0, 1) := by decide +kernel
theorem dX9_init_61 : decode cX9_init 61 = .ok (.getfield 39, 3) := by decide +kernel
theorem dX9_init_64 : decode cX9_init 64 = .ok (.arraylength, 1) := by decide +kernel
theorem dX9_init_65 : decode cX9_init 65 = .ok (.if_icmp .ge 30, 3) := by decide +kernel
theorem dX9_init_68 : decode cX9_init 68 = .ok (.aload_n 0, 1) := by decide +kernel
theorem dX9_init_69 : decode cX9_init 69 = .ok (.getfield 39, 3) := by decide +kernel
theorem dX9_init_72 : decode cX9_init 72 = .ok (.iload_n 1, 1) := by decide +kernel
theorem dX9_init_73 : decode cX9_init 73 = .ok (.new 37, 3) := by decide +kernel
theorem dX9_init_76 : decode cX9_init 76 = .ok (.dup, 1) := by decide +kernel
theorem dX9_init_77 : decode cX9_init 77 = .ok (.aload_n 0, 1) := by decide +kernel
theorem dX9_init_78 : decode cX9_init 78 = .ok (.getfield 26, 3) := by decide +kernel
theorem dX9_init_81 : decode cX9_init 81 = .ok (.aload_n 0, 1) := by decide +kernel
theorem dX9_init_82 : decode cX9_init 82 = .ok (.getfield 33, 3) := by decide +kernel
theorem dX9_init_85 : decode cX9_init 85 = .ok (.invokespecial 43, 3) := by decide +kernel
theorem dX9_init_88 : decode cX9_init 88 = .ok (.aastore, 1) := by decide +kernel
theorem dX9_init_89 : decode cX9_init 89 = .ok (.iinc 1 1, 3) := by decide +kernel
theorem dX9_init_92 : decode cX9_init 92 = .ok (.goto (-33), 3) := by decide +kernel
theorem dX9_init_95 : decode cX9_init 95 = .ok (.aload_n 0, 1) := by decide +kernel
theorem dX9_init_96 : decode cX9_init 96 = .ok (.new 46, 3) := by decide +kernel
theorem dX9_init_99 : decode cX9_init 99 = .ok (.dup, 1) := by decide +kernel
theorem dX9_init_100 : decode cX9_init 100 = .ok (.aload_n 0, 1) := by decide +kernel
theorem dX9_init_101 : decode cX9_init 101 = .ok (.getfield 26, 3) := by decide +kernel
theorem dX9_init_104 : decode cX9_init 104 = .ok (.new 37, 3) := by decide +kernel
theorem dX9_init_107 : decode cX9_init 107 = .ok (.dup, 1) := by decide +kernel
theorem dX9_init_108 : decode cX9_init 108 = .ok (.aload_n 0, 1) := by decide +kernel
theorem dX9_init_109 : decode cX9_init 109 = .ok (.getfield 26, 3) := by decide +kernel
theorem dX9_init_112 : decode cX9_init 112 = .ok (.aload_n 0, 1) := by decide +kernel
theorem dX9_init_113 : decode cX9_init 113 = .ok (.getfield 33, 3) := by decide +kernel
theorem dX9_init_116 : decode cX9_init 116 = .ok (.invokespecial 43, 3) := by decide +kernel
theorem dX9_init_119 : decode cX9_init 119 = .ok (.invokespecial 48, 3) := by decide +kernel
theorem dX9_init_122 : decode cX9_init 122 = .ok (.putfield 51, 3) := by decide +kernel
theorem dX9_init_125 : decode cX9_init 125 = .ok (.aload_n 0, 1) := by decide +kernel
theorem dX9_init_126 : decode cX9_init 126 = .ok (.new 55, 3) := by decide +kernel
theorem dX9_init_129 : decode cX9_init 129 = .ok (.dup, 1) := by decide +kernel
theorem dX9_init_130 : decode cX9_init 130 = .ok (.invokespecial 57, 3) := by decide +kernel
theorem dX9_init_133 : decode cX9_init 133 = .ok (.putfield 58, 3) := by decide +kernel
theorem dX9_init_136 : decode cX9_init 136 = .ok (.aload_n 0, 1) := by decide +kernel
theorem dX9_init_137 : decode cX9_init 137 = .ok (.new 62, 3) := by decide +kernel
theorem dX9_init_140 : decode cX9_init 140 = .ok (.dup, 1) := by decide +kernel
theorem dX9_init_141 : decode cX9_init 141 = .ok (.invokespecial 64, 3) := by decide +kernel
theorem dX9_init_144 : decode cX9_init 144 = .ok (.putfield 65, 3) := by decide +kernel
theorem dX9_init_147 : decode cX9_init 147 = .ok (.aload_n 0, 1) := by decide +kernel
theorem dX9_init_148 : decode cX9_init 148 = .ok (.iconst 2, 1) := by decide +kernel
theorem dX9_init_149 : decode cX9_init 149 = .ok (.anewarray 69, 3) := by decide +kernel
theorem dX9_init_152 : decode cX9_init 152 = .ok (.putfield 71, 3) := by decide +kernel
theorem dX9_init_155 : decode cX9_init 155 = .ok (.iconst 0, 1) := by decide +kernel
theorem dX9_init_156 : decode cX9_init 156 = .ok (.istore_n 1, 1) := by decide +kernel
theorem dX9_init_157 : decode cX9_init 157 = .ok (.iload_n 1, 1) := by decide +kernel
theorem dX9_init_158 : decode cX9_init 158 = .ok (.aload_n 0, 1) := by decide +kernel
theorem dX9_init_159 : decode cX9_init 159 = .ok (.getfield 71, 3) := by decide +kernel
theorem dX9_init_162 : decode cX9_init 162 = .ok (.arraylength, 1) := by decide +kernel
theorem dX9_init_163 : decode cX9_init 163 = .ok (.if_icmp .ge 22, 3) := by decide +kernel
theorem dX9_init_166 : decode cX9_init 166 = .ok (.aload_n 0, 1) := by decide +kernel
theorem dX9_init_167 : decode cX9_init 167 = .ok (.getfield 71, 3) := by decide +kernel
theorem dX9_init_170 : decode cX9_init 170 = .ok (.iload_n 1, 1) := by decide +kernel
theorem dX9_init_171 : decode cX9_init 171 = .ok (.new 69, 3) := by decide +kernel
theorem dX9_init_174 : decode cX9_init 174 = .ok (.dup, 1) := by decide +kernel
theorem dX9_init_175 : decode cX9_init 175 = .ok (.invokespecial 75, 3) := by decide +kernel
theorem dX9_init_178 : decode cX9_init 178 = .ok (.aastore, 1) := by decide +kernel
theorem dX9_init_179 : decode cX9_init 179 = .ok (.iinc 1 1, 3) := by decide +kernel
theorem dX9_init_182 : decode cX9_init 182 = .ok (.goto (-25), 3) := by decide +kernel
theorem dX9_init_185 : decode cX9_init 185 = .ok (.return_, 1) := by decide +kernel
theorem dX9_feed_0 : decode cX9_feed 0 = .ok (.iload_n 1, 1) := by decide +kernel
theorem dX9_feed_1 : decode cX9_feed 1 = .ok (.iconst 1, 1) := by decide +kernel
theorem dX9_feed_2 : decode cX9_feed 2 = .ok (.if_icmp .lt 9, 3) := by decide +kernel
theorem dX9_feed_5 : decode cX9_feed 5 = .ok (.iload_n 1, 1) := by decide +kernel
theorem dX9_feed_6 : decode cX9_feed 6 = .ok (.bipush 8, 2) := by decide +kernel
theorem dX9_feed_8 : decode cX9_feed 8 = .ok (.if_icmp .le 6, 3) := by decide +kernel
theorem dX9_feed_11 : decode cX9_feed 11 = .ok (.ldc 76, 2) := by decide +kernel
theorem dX9_feed_13 : decode cX9_feed 13 = .ok (.ireturn, 1) := by decide +kernel
theorem dX9_feed_14 : decode cX9_feed 14 = .ok (.aload_n 0, 1) := by decide +kernel
theorem dX9_feed_15 : decode cX9_feed 15 = .ok (.getfield 12, 3) := by decide +kernel
theorem dX9_feed_18 : decode cX9_feed 18 = .ok (.getfield 77, 3) := by decide +kernel
theorem dX9_feed_21 : decode cX9_feed 21 = .ok (.iload_n 1, 1) := by decide +kernel
theorem dX9_feed_22 : decode cX9_feed 22 = .ok (.iadd, 1) := by decide +kernel
theorem dX9_feed_23 : decode cX9_feed 23 = .ok (.sipush 400, 3) := by decide +kernel
theorem dX9_feed_26 : decode cX9_feed 26 = .ok (.if_icmp .le 6, 3) := by decide +kernel
theorem dX9_feed_29 : decode cX9_feed 29 = .ok (.ldc 81, 2) := by decide +kernel
theorem dX9_feed_31 : decode cX9_feed 31 = .ok (.ireturn, 1) := by decide +kernel
theorem dX9_feed_32 : decode cX9_feed 32 = .ok (.aload_n 0, 1) := by decide +kernel
theorem dX9_feed_33 : decode cX9_feed 33 = .ok (.getfield 12, 3) := by decide +kernel
theorem dX9_feed_36 : decode cX9_feed 36 = .ok (.iload_n 1, 1) := by decide +kernel
theorem dX9_feed_37 : decode cX9_feed 37 = .ok (.lload_n 2, 1) := by decide +kernel
theorem dX9_feed_38 : decode cX9_feed 38 = .ok (.invokevirtual 82, 3) := by decide +kernel
theorem dX9_feed_41 : decode cX9_feed 41 = .ok (.aload_n 0, 1) := by decide +kernel
theorem dX9_feed_42 : decode cX9_feed 42 = .ok (.getfield 12, 3) := by decide +kernel
theorem dX9_feed_45 : decode cX9_feed 45 = .ok (.getfield 77, 3) := by decide +kernel
theorem dX9_feed_48 : decode cX9_feed 48 = .ok (.ireturn, 1) := by decide +kernel
theorem dX9_land_0 : decode cX9_land 0 = .ok (.aload_n 0, 1) := by decide +kernel
theorem dX9_land_1 : decode cX9_land 1 = .ok (.getfield 19, 3) := by decide +kernel
theorem dX9_land_4 : decode cX9_land 4 = .ok (.aload_n 0, 1) := by decide +kernel
theorem dX9_land_5 : decode cX9_land 5 = .ok (.getfield 12, 3) := by decide +kernel
theorem dX9_land_8 : decode cX9_land 8 = .ok (.invokevirtual 86, 3) := by decide +kernel
theorem dX9_land_11 : decode cX9_land 11 = .ok (.istore_n 1, 1) := by decide +kernel
theorem dX9_land_12 : decode cX9_land 12 = .ok (.aload_n 0, 1) := by decide +kernel
theorem dX9_land_13 : decode cX9_land 13 = .ok (.getfield 12, 3) := by decide +kernel
theorem dX9_land_16 : decode cX9_land 16 = .ok (.iconst 0, 1) := by decide +kernel
theorem dX9_land_17 : decode cX9_land 17 = .ok (.putfield 77, 3) := by decide +kernel
theorem dX9_land_20 : decode cX9_land 20 = .ok (.iload_n 1, 1) := by decide +kernel
theorem dX9_land_21 : decode cX9_land 21 = .ok (.ifCond .eq 8, 3) := by decide +kernel
theorem dX9_land_24 : decode cX9_land 24 = .ok (.bipush (-10), 2) := by decide +kernel
theorem dX9_land_26 : decode cX9_land 26 = .ok (.iload_n 1, 1) := by decide +kernel
theorem dX9_land_27 : decode cX9_land 27 = .ok (.isub, 1) := by decide +kernel
theorem dX9_land_28 : decode cX9_land 28 = .ok (.ireturn, 1) := by decide +kernel
theorem dX9_land_29 : decode cX9_land 29 = .ok (.aload_n 0, 1) := by decide +kernel
theorem dX9_land_30 : decode cX9_land 30 = .ok (.getfield 26, 3) := by decide +kernel
theorem dX9_land_33 : decode cX9_land 33 = .ok (.aload_n 0, 1) := by decide +kernel
theorem dX9_land_34 : decode cX9_land 34 = .ok (.getfield 19, 3) := by decide +kernel
theorem dX9_land_37 : decode cX9_land 37 = .ok (.getfield 90, 3) := by decide +kernel
theorem dX9_land_40 : decode cX9_land 40 = .ok (.invokevirtual 93, 3) := by decide +kernel
theorem dX9_land_43 : decode cX9_land 43 = .ok (.aload_n 0, 1) := by decide +kernel
theorem dX9_land_44 : decode cX9_land 44 = .ok (.getfield 65, 3) := by decide +kernel
theorem dX9_land_47 : decode cX9_land 47 = .ok (.invokevirtual 97, 3) := by decide +kernel
theorem dX9_land_50 : decode cX9_land 50 = .ok (.iconst 0, 1) := by decide +kernel
theorem dX9_land_51 : decode cX9_land 51 = .ok (.istore_n 2, 1) := by decide +kernel
theorem dX9_land_52 : decode cX9_land 52 = .ok (.iload_n 2, 1) := by decide +kernel
theorem dX9_land_53 : decode cX9_land 53 = .ok (.aload_n 0, 1) := by decide +kernel
theorem dX9_land_54 : decode cX9_land 54 = .ok (.getfield 71, 3) := by decide +kernel
theorem dX9_land_57 : decode cX9_land 57 = .ok (.arraylength, 1) := by decide +kernel
theorem dX9_land_58 : decode cX9_land 58 = .ok (.if_icmp .ge 19, 3) := by decide +kernel
theorem dX9_land_61 : decode cX9_land 61 = .ok (.aload_n 0, 1) := by decide +kernel
theorem dX9_land_62 : decode cX9_land 62 = .ok (.getfield 71, 3) := by decide +kernel
theorem dX9_land_65 : decode cX9_land 65 = .ok (.iload_n 2, 1) := by decide +kernel
theorem dX9_land_66 : decode cX9_land 66 = .ok (.aaload, 1) := by decide +kernel
theorem dX9_land_67 : decode cX9_land 67 = .ok (.iconst 0, 1) := by decide +kernel
theorem dX9_land_68 : decode cX9_land 68 = .ok (.putfield 100, 3) := by decide +kernel
theorem dX9_land_71 : decode cX9_land 71 = .ok (.iinc 2 1, 3) := by decide +kernel
theorem dX9_land_74 : decode cX9_land 74 = .ok (.goto (-22), 3) := by decide +kernel
theorem dX9_land_77 : decode cX9_land 77 = .ok (.aload_n 0, 1) := by decide +kernel
theorem dX9_land_78 : decode cX9_land 78 = .ok (.getfield 26, 3) := by decide +kernel
theorem dX9_land_81 : decode cX9_land 81 = .ok (.getfield 104, 3) := by decide +kernel
theorem dX9_land_84 : decode cX9_land 84 = .ok (.ireturn, 1) := by decide +kernel
theorem dX9_fault_0 : decode cX9_fault 0 = .ok (.aload_n 0, 1) := by decide +kernel
theorem dX9_fault_1 : decode cX9_fault 1 = .ok (.getfield 19, 3) := by decide +kernel
theorem dX9_fault_4 : decode cX9_fault 4 = .ok (.getfield 107, 3) := by decide +kernel
theorem dX9_fault_7 : decode cX9_fault 7 = .ok (.ireturn, 1) := by decide +kernel
theorem dX9_told_0 : decode cX9_told 0 = .ok (.iload_n 1, 1) := by decide +kernel
theorem dX9_told_1 : decode cX9_told 1 = .ok (.tableswitch 96 0 6 #[43, 51, 59, 67, 75, 80, 88], 43) := by decide +kernel
theorem dX9_told_44 : decode cX9_told 44 = .ok (.aload_n 0, 1) := by decide +kernel
theorem dX9_told_45 : decode cX9_told 45 = .ok (.getfield 26, 3) := by decide +kernel
theorem dX9_told_48 : decode cX9_told 48 = .ok (.getfield 104, 3) := by decide +kernel
theorem dX9_told_51 : decode cX9_told 51 = .ok (.ireturn, 1) := by decide +kernel
theorem dX9_told_52 : decode cX9_told 52 = .ok (.aload_n 0, 1) := by decide +kernel
theorem dX9_told_53 : decode cX9_told 53 = .ok (.getfield 26, 3) := by decide +kernel
theorem dX9_told_56 : decode cX9_told 56 = .ok (.getfield 110, 3) := by decide +kernel
theorem dX9_told_59 : decode cX9_told 59 = .ok (.ireturn, 1) := by decide +kernel
theorem dX9_told_60 : decode cX9_told 60 = .ok (.aload_n 0, 1) := by decide +kernel
theorem dX9_told_61 : decode cX9_told 61 = .ok (.getfield 26, 3) := by decide +kernel
theorem dX9_told_64 : decode cX9_told 64 = .ok (.getfield 113, 3) := by decide +kernel
theorem dX9_told_67 : decode cX9_told 67 = .ok (.ireturn, 1) := by decide +kernel
theorem dX9_told_68 : decode cX9_told 68 = .ok (.aload_n 0, 1) := by decide +kernel
theorem dX9_told_69 : decode cX9_told 69 = .ok (.getfield 12, 3) := by decide +kernel
theorem dX9_told_72 : decode cX9_told 72 = .ok (.getfield 77, 3) := by decide +kernel
theorem dX9_told_75 : decode cX9_told 75 = .ok (.ireturn, 1) := by decide +kernel
theorem dX9_told_76 : decode cX9_told 76 = .ok (.aload_n 0, 1) := by decide +kernel
theorem dX9_told_77 : decode cX9_told 77 = .ok (.getfield 116, 3) := by decide +kernel
theorem dX9_told_80 : decode cX9_told 80 = .ok (.ireturn, 1) := by decide +kernel
theorem dX9_told_81 : decode cX9_told 81 = .ok (.aload_n 0, 1) := by decide +kernel
theorem dX9_told_82 : decode cX9_told 82 = .ok (.getfield 65, 3) := by decide +kernel
theorem dX9_told_85 : decode cX9_told 85 = .ok (.getfield 119, 3) := by decide +kernel
theorem dX9_told_88 : decode cX9_told 88 = .ok (.ireturn, 1) := by decide +kernel
theorem dX9_told_89 : decode cX9_told 89 = .ok (.aload_n 0, 1) := by decide +kernel
theorem dX9_told_90 : decode cX9_told 90 = .ok (.getfield 65, 3) := by decide +kernel
theorem dX9_told_93 : decode cX9_told 93 = .ok (.getfield 122, 3) := by decide +kernel
theorem dX9_told_96 : decode cX9_told 96 = .ok (.ireturn, 1) := by decide +kernel
theorem dX9_told_97 : decode cX9_told 97 = .ok (.ldc 76, 2) := by decide +kernel
theorem dX9_told_99 : decode cX9_told 99 = .ok (.ireturn, 1) := by decide +kernel
theorem dX9_way_0 : decode cX9_way 0 = .ok (.aload_n 0, 1) := by decide +kernel
theorem dX9_way_1 : decode cX9_way 1 = .ok (.getfield 26, 3) := by decide +kernel
theorem dX9_way_4 : decode cX9_way 4 = .ok (.iload_n 1, 1) := by decide +kernel
theorem dX9_way_5 : decode cX9_way 5 = .ok (.invokevirtual 125, 3) := by decide +kernel
theorem dX9_way_8 : decode cX9_way 8 = .ok (.ifCond .ne 6, 3) := by decide +kernel
theorem dX9_way_11 : decode cX9_way 11 = .ok (.ldc 129, 2) := by decide +kernel
theorem dX9_way_13 : decode cX9_way 13 = .ok (.ireturn, 1) := by decide +kernel
theorem dX9_way_14 : decode cX9_way 14 = .ok (.iload_n 2, 1) := by decide +kernel
theorem dX9_way_15 : decode cX9_way 15 = .ok (.tableswitch 61 0 2 #[25, 37, 49], 25) := by decide +kernel
theorem dX9_way_40 : decode cX9_way 40 = .ok (.aload_n 0, 1) := by decide +kernel
theorem dX9_way_41 : decode cX9_way 41 = .ok (.getfield 26, 3) := by decide +kernel
theorem dX9_way_44 : decode cX9_way 44 = .ok (.getfield 130, 3) := by decide +kernel
theorem dX9_way_47 : decode cX9_way 47 = .ok (.iload_n 1, 1) := by decide +kernel
theorem dX9_way_48 : decode cX9_way 48 = .ok (.invokestatic 134, 3) := by decide +kernel
theorem dX9_way_51 : decode cX9_way 51 = .ok (.ireturn, 1) := by decide +kernel
theorem dX9_way_52 : decode cX9_way 52 = .ok (.aload_n 0, 1) := by decide +kernel
theorem dX9_way_53 : decode cX9_way 53 = .ok (.getfield 26, 3) := by decide +kernel
theorem dX9_way_56 : decode cX9_way 56 = .ok (.getfield 138, 3) := by decide +kernel
theorem dX9_way_59 : decode cX9_way 59 = .ok (.iload_n 1, 1) := by decide +kernel
theorem dX9_way_60 : decode cX9_way 60 = .ok (.invokestatic 134, 3) := by decide +kernel
theorem dX9_way_63 : decode cX9_way 63 = .ok (.ireturn, 1) := by decide +kernel
theorem dX9_way_64 : decode cX9_way 64 = .ok (.aload_n 0, 1) := by decide +kernel
theorem dX9_way_65 : decode cX9_way 65 = .ok (.getfield 26, 3) := by decide +kernel
theorem dX9_way_68 : decode cX9_way 68 = .ok (.getfield 141, 3) := by decide +kernel
theorem dX9_way_71 : decode cX9_way 71 = .ok (.iload_n 1, 1) := by decide +kernel
theorem dX9_way_72 : decode cX9_way 72 = .ok (.invokestatic 134, 3) := by decide +kernel
theorem dX9_way_75 : decode cX9_way 75 = .ok (.ireturn, 1) := by decide +kernel
theorem dX9_way_76 : decode cX9_way 76 = .ok (.ldc 76, 2) := by decide +kernel
theorem dX9_way_78 : decode cX9_way 78 = .ok (.ireturn, 1) := by decide +kernel
theorem dX9_person_0 : decode cX9_person 0 = .ok (.aload_n 0, 1) := by decide +kernel
theorem dX9_person_1 : decode cX9_person 1 = .ok (.getfield 26, 3) := by decide +kernel
theorem dX9_person_4 : decode cX9_person 4 = .ok (.iload_n 1, 1) := by decide +kernel
theorem dX9_person_5 : decode cX9_person 5 = .ok (.invokevirtual 144, 3) := by decide +kernel
theorem dX9_person_8 : decode cX9_person 8 = .ok (.ifCond .ne 6, 3) := by decide +kernel
theorem dX9_person_11 : decode cX9_person 11 = .ok (.ldc 129, 2) := by decide +kernel
theorem dX9_person_13 : decode cX9_person 13 = .ok (.ireturn, 1) := by decide +kernel
theorem dX9_person_14 : decode cX9_person 14 = .ok (.iload_n 2, 1) := by decide +kernel
theorem dX9_person_15 : decode cX9_person 15 = .ok (.tableswitch 93 0 4 #[33, 45, 57, 69, 81], 33) := by decide +kernel
theorem dX9_person_48 : decode cX9_person 48 = .ok (.aload_n 0, 1) := by decide +kernel
theorem dX9_person_49 : decode cX9_person 49 = .ok (.getfield 26, 3) := by decide +kernel
theorem dX9_person_52 : decode cX9_person 52 = .ok (.getfield 147, 3) := by decide +kernel
theorem dX9_person_55 : decode cX9_person 55 = .ok (.iload_n 1, 1) := by decide +kernel
theorem dX9_person_56 : decode cX9_person 56 = .ok (.invokestatic 134, 3) := by decide +kernel
theorem dX9_person_59 : decode cX9_person 59 = .ok (.ireturn, 1) := by decide +kernel
theorem dX9_person_60 : decode cX9_person 60 = .ok (.aload_n 0, 1) := by decide +kernel
theorem dX9_person_61 : decode cX9_person 61 = .ok (.getfield 26, 3) := by decide +kernel
theorem dX9_person_64 : decode cX9_person 64 = .ok (.getfield 150, 3) := by decide +kernel
theorem dX9_person_67 : decode cX9_person 67 = .ok (.iload_n 1, 1) := by decide +kernel
theorem dX9_person_68 : decode cX9_person 68 = .ok (.invokestatic 134, 3) := by decide +kernel
theorem dX9_person_71 : decode cX9_person 71 = .ok (.ireturn, 1) := by decide +kernel
theorem dX9_person_72 : decode cX9_person 72 = .ok (.aload_n 0, 1) := by decide +kernel
theorem dX9_person_73 : decode cX9_person 73 = .ok (.getfield 26, 3) := by decide +kernel
theorem dX9_person_76 : decode cX9_person 76 = .ok (.getfield 153, 3) := by decide +kernel
theorem dX9_person_79 : decode cX9_person 79 = .ok (.iload_n 1, 1) := by decide +kernel
theorem dX9_person_80 : decode cX9_person 80 = .ok (.invokestatic 134, 3) := by decide +kernel
theorem dX9_person_83 : decode cX9_person 83 = .ok (.ireturn, 1) := by decide +kernel
theorem dX9_person_84 : decode cX9_person 84 = .ok (.aload_n 0, 1) := by decide +kernel
theorem dX9_person_85 : decode cX9_person 85 = .ok (.getfield 26, 3) := by decide +kernel
theorem dX9_person_88 : decode cX9_person 88 = .ok (.getfield 156, 3) := by decide +kernel
theorem dX9_person_91 : decode cX9_person 91 = .ok (.iload_n 1, 1) := by decide +kernel
theorem dX9_person_92 : decode cX9_person 92 = .ok (.invokestatic 134, 3) := by decide +kernel
theorem dX9_person_95 : decode cX9_person 95 = .ok (.ireturn, 1) := by decide +kernel
theorem dX9_person_96 : decode cX9_person 96 = .ok (.aload_n 0, 1) := by decide +kernel
theorem dX9_person_97 : decode cX9_person 97 = .ok (.getfield 26, 3) := by decide +kernel
theorem dX9_person_100 : decode cX9_person 100 = .ok (.getfield 159, 3) := by decide +kernel
theorem dX9_person_103 : decode cX9_person 103 = .ok (.iload_n 1, 1) := by decide +kernel
theorem dX9_person_104 : decode cX9_person 104 = .ok (.invokestatic 134, 3) := by decide +kernel
theorem dX9_person_107 : decode cX9_person 107 = .ok (.ireturn, 1) := by decide +kernel
theorem dX9_person_108 : decode cX9_person 108 = .ok (.ldc 76, 2) := by decide +kernel
theorem dX9_person_110 : decode cX9_person 110 = .ok (.ireturn, 1) := by decide +kernel
theorem dX9_far_0 : decode cX9_far 0 = .ok (.aload_n 0, 1) := by decide +kernel
theorem dX9_far_1 : decode cX9_far 1 = .ok (.getfield 26, 3) := by decide +kernel
theorem dX9_far_4 : decode cX9_far 4 = .ok (.iload_n 1, 1) := by decide +kernel
theorem dX9_far_5 : decode cX9_far 5 = .ok (.invokevirtual 162, 3) := by decide +kernel
theorem dX9_far_8 : decode cX9_far 8 = .ok (.ifCond .eq 14, 3) := by decide +kernel
theorem dX9_far_11 : decode cX9_far 11 = .ok (.aload_n 0, 1) := by decide +kernel
theorem dX9_far_12 : decode cX9_far 12 = .ok (.getfield 26, 3) := by decide +kernel
theorem dX9_far_15 : decode cX9_far 15 = .ok (.iload_n 2, 1) := by decide +kernel
theorem dX9_far_16 : decode cX9_far 16 = .ok (.invokevirtual 162, 3) := by decide +kernel
theorem dX9_far_19 : decode cX9_far 19 = .ok (.ifCond .ne 6, 3) := by decide +kernel
theorem dX9_far_22 : decode cX9_far 22 = .ok (.ldc 129, 2) := by decide +kernel
theorem dX9_far_24 : decode cX9_far 24 = .ok (.ireturn, 1) := by decide +kernel
theorem dX9_far_25 : decode cX9_far 25 = .ok (.aload_n 0, 1) := by decide +kernel
theorem dX9_far_26 : decode cX9_far 26 = .ok (.iload_n 1, 1) := by decide +kernel
theorem dX9_far_27 : decode cX9_far 27 = .ok (.iload_n 2, 1) := by decide +kernel
theorem dX9_far_28 : decode cX9_far 28 = .ok (.invokevirtual 165, 3) := by decide +kernel
theorem dX9_far_31 : decode cX9_far 31 = .ok (.ireturn, 1) := by decide +kernel
theorem dX9_law_0 : decode cX9_law 0 = .ok (.iload_n 1, 1) := by decide +kernel
theorem dX9_law_1 : decode cX9_law 1 = .ok (.ifCond .lt 8, 3) := by decide +kernel
theorem dX9_law_4 : decode cX9_law 4 = .ok (.iload_n 1, 1) := by decide +kernel
theorem dX9_law_5 : decode cX9_law 5 = .ok (.iconst 3, 1) := by decide +kernel
theorem dX9_law_6 : decode cX9_law 6 = .ok (.if_icmp .le 6, 3) := by decide +kernel
theorem dX9_law_9 : decode cX9_law 9 = .ok (.ldc 76, 2) := by decide +kernel
theorem dX9_law_11 : decode cX9_law 11 = .ok (.ireturn, 1) := by decide +kernel
theorem dX9_law_12 : decode cX9_law 12 = .ok (.aload_n 0, 1) := by decide +kernel
theorem dX9_law_13 : decode cX9_law 13 = .ok (.getfield 116, 3) := by decide +kernel
theorem dX9_law_16 : decode cX9_law 16 = .ok (.istore_n 2, 1) := by decide +kernel
theorem dX9_law_17 : decode cX9_law 17 = .ok (.aload_n 0, 1) := by decide +kernel
theorem dX9_law_18 : decode cX9_law 18 = .ok (.iload_n 1, 1) := by decide +kernel
theorem dX9_law_19 : decode cX9_law 19 = .ok (.putfield 116, 3) := by decide +kernel
theorem dX9_law_22 : decode cX9_law 22 = .ok (.iload_n 2, 1) := by decide +kernel
theorem dX9_law_23 : decode cX9_law 23 = .ok (.ireturn, 1) := by decide +kernel
theorem dX9_learn_0 : decode cX9_learn 0 = .ok (.aload_n 0, 1) := by decide +kernel
theorem dX9_learn_1 : decode cX9_learn 1 = .ok (.getfield 26, 3) := by decide +kernel
theorem dX9_learn_4 : decode cX9_learn 4 = .ok (.iload_n 1, 1) := by decide +kernel
theorem dX9_learn_5 : decode cX9_learn 5 = .ok (.invokevirtual 144, 3) := by decide +kernel
theorem dX9_learn_8 : decode cX9_learn 8 = .ok (.ifCond .eq 14, 3) := by decide +kernel
theorem dX9_learn_11 : decode cX9_learn 11 = .ok (.aload_n 0, 1) := by decide +kernel
theorem dX9_learn_12 : decode cX9_learn 12 = .ok (.getfield 26, 3) := by decide +kernel
theorem dX9_learn_15 : decode cX9_learn 15 = .ok (.iload_n 2, 1) := by decide +kernel
theorem dX9_learn_16 : decode cX9_learn 16 = .ok (.invokevirtual 125, 3) := by decide +kernel
theorem dX9_learn_19 : decode cX9_learn 19 = .ok (.ifCond .ne 6, 3) := by decide +kernel
theorem dX9_learn_22 : decode cX9_learn 22 = .ok (.ldc 129, 2) := by decide +kernel
theorem dX9_learn_24 : decode cX9_learn 24 = .ok (.ireturn, 1) := by decide +kernel
theorem dX9_learn_25 : decode cX9_learn 25 = .ok (.aload_n 0, 1) := by decide +kernel
theorem dX9_learn_26 : decode cX9_learn 26 = .ok (.getfield 26, 3) := by decide +kernel
theorem dX9_learn_29 : decode cX9_learn 29 = .ok (.getfield 159, 3) := by decide +kernel
theorem dX9_learn_32 : decode cX9_learn 32 = .ok (.iload_n 1, 1) := by decide +kernel
theorem dX9_learn_33 : decode cX9_learn 33 = .ok (.invokestatic 134, 3) := by decide +kernel
theorem dX9_learn_36 : decode cX9_learn 36 = .ok (.istore 4, 2) := by decide +kernel
theorem dX9_learn_38 : decode cX9_learn 38 = .ok (.aload_n 0, 1) := by decide +kernel
theorem dX9_learn_39 : decode cX9_learn 39 = .ok (.getfield 26, 3) := by decide +kernel
theorem dX9_learn_42 : decode cX9_learn 42 = .ok (.getfield 159, 3) := by decide +kernel
theorem dX9_learn_45 : decode cX9_learn 45 = .ok (.iload_n 1, 1) := by decide +kernel
theorem dX9_learn_46 : decode cX9_learn 46 = .ok (.iload_n 3, 1) := by decide +kernel
theorem dX9_learn_47 : decode cX9_learn 47 = .ok (.ifCond .eq 12, 3) := by decide +kernel
theorem dX9_learn_50 : decode cX9_learn 50 = .ok (.iload 4, 2) := by decide +kernel
theorem dX9_learn_52 : decode cX9_learn 52 = .ok (.iconst 1, 1) := by decide +kernel
theorem dX9_learn_53 : decode cX9_learn 53 = .ok (.iload_n 2, 1) := by decide +kernel
theorem dX9_learn_54 : decode cX9_learn 54 = .ok (.ishl, 1) := by decide +kernel
theorem dX9_learn_55 : decode cX9_learn 55 = .ok (.ior, 1) := by decide +kernel
theorem dX9_learn_56 : decode cX9_learn 56 = .ok (.goto 11, 3) := by decide +kernel
theorem dX9_learn_59 : decode cX9_learn 59 = .ok (.iload 4, 2) := by decide +kernel
theorem dX9_learn_61 : decode cX9_learn 61 = .ok (.iconst 1, 1) := by decide +kernel
theorem dX9_learn_62 : decode cX9_learn 62 = .ok (.iload_n 2, 1) := by decide +kernel
theorem dX9_learn_63 : decode cX9_learn 63 = .ok (.ishl, 1) := by decide +kernel
theorem dX9_learn_64 : decode cX9_learn 64 = .ok (.iconst (-1), 1) := by decide +kernel
theorem dX9_learn_65 : decode cX9_learn 65 = .ok (.ixor, 1) := by decide +kernel
theorem dX9_learn_66 : decode cX9_learn 66 = .ok (.iand, 1) := by decide +kernel
theorem dX9_learn_67 : decode cX9_learn 67 = .ok (.invokestatic 169, 3) := by decide +kernel
theorem dX9_learn_70 : decode cX9_learn 70 = .ok (.iload 4, 2) := by decide +kernel
theorem dX9_learn_72 : decode cX9_learn 72 = .ok (.iload_n 2, 1) := by decide +kernel
theorem dX9_learn_73 : decode cX9_learn 73 = .ok (.ishr, 1) := by decide +kernel
theorem dX9_learn_74 : decode cX9_learn 74 = .ok (.iconst 1, 1) := by decide +kernel
theorem dX9_learn_75 : decode cX9_learn 75 = .ok (.iand, 1) := by decide +kernel
theorem dX9_learn_76 : decode cX9_learn 76 = .ok (.ireturn, 1) := by decide +kernel
theorem dX9_habit_0 : decode cX9_habit 0 = .ok (.aload_n 0, 1) := by decide +kernel
theorem dX9_habit_1 : decode cX9_habit 1 = .ok (.getfield 26, 3) := by decide +kernel
theorem dX9_habit_4 : decode cX9_habit 4 = .ok (.iload_n 1, 1) := by decide +kernel
theorem dX9_habit_5 : decode cX9_habit 5 = .ok (.invokevirtual 144, 3) := by decide +kernel
theorem dX9_habit_8 : decode cX9_habit 8 = .ok (.ifCond .ne 6, 3) := by decide +kernel
theorem dX9_habit_11 : decode cX9_habit 11 = .ok (.ldc 129, 2) := by decide +kernel
theorem dX9_habit_13 : decode cX9_habit 13 = .ok (.ireturn, 1) := by decide +kernel
theorem dX9_habit_14 : decode cX9_habit 14 = .ok (.iload_n 2, 1) := by decide +kernel
theorem dX9_habit_15 : decode cX9_habit 15 = .ok (.ifCond .lt 8, 3) := by decide +kernel
theorem dX9_habit_18 : decode cX9_habit 18 = .ok (.iload_n 2, 1) := by decide +kernel
theorem dX9_habit_19 : decode cX9_habit 19 = .ok (.iconst 3, 1) := by decide +kernel
theorem dX9_habit_20 : decode cX9_habit 20 = .ok (.if_icmp .le 6, 3) := by decide +kernel
theorem dX9_habit_23 : decode cX9_habit 23 = .ok (.ldc 76, 2) := by decide +kernel
theorem dX9_habit_25 : decode cX9_habit 25 = .ok (.ireturn, 1) := by decide +kernel
theorem dX9_habit_26 : decode cX9_habit 26 = .ok (.aload_n 0, 1) := by decide +kernel
theorem dX9_habit_27 : decode cX9_habit 27 = .ok (.getfield 26, 3) := by decide +kernel
theorem dX9_habit_30 : decode cX9_habit 30 = .ok (.getfield 156, 3) := by decide +kernel
theorem dX9_habit_33 : decode cX9_habit 33 = .ok (.iload_n 1, 1) := by decide +kernel
theorem dX9_habit_34 : decode cX9_habit 34 = .ok (.invokestatic 134, 3) := by decide +kernel
theorem dX9_habit_37 : decode cX9_habit 37 = .ok (.istore_n 3, 1) := by decide +kernel
theorem dX9_habit_38 : decode cX9_habit 38 = .ok (.aload_n 0, 1) := by decide +kernel
theorem dX9_habit_39 : decode cX9_habit 39 = .ok (.getfield 26, 3) := by decide +kernel
theorem dX9_habit_42 : decode cX9_habit 42 = .ok (.getfield 156, 3) := by decide +kernel
theorem dX9_habit_45 : decode cX9_habit 45 = .ok (.iload_n 1, 1) := by decide +kernel
theorem dX9_habit_46 : decode cX9_habit 46 = .ok (.iload_n 2, 1) := by decide +kernel
theorem dX9_habit_47 : decode cX9_habit 47 = .ok (.invokestatic 169, 3) := by decide +kernel
theorem dX9_habit_50 : decode cX9_habit 50 = .ok (.iload_n 3, 1) := by decide +kernel
theorem dX9_habit_51 : decode cX9_habit 51 = .ok (.ireturn, 1) := by decide +kernel
theorem dX9_route_0 : decode cX9_route 0 = .ok (.aload_n 0, 1) := by decide +kernel
theorem dX9_route_1 : decode cX9_route 1 = .ok (.iload_n 1, 1) := by decide +kernel
theorem dX9_route_2 : decode cX9_route 2 = .ok (.iload_n 2, 1) := by decide +kernel
theorem dX9_route_3 : decode cX9_route 3 = .ok (.iload_n 3, 1) := by decide +kernel
theorem dX9_route_4 : decode cX9_route 4 = .ok (.invokevirtual 173, 3) := by decide +kernel
theorem dX9_route_7 : decode cX9_route 7 = .ok (.ifCond .ne 6, 3) := by decide +kernel
theorem dX9_route_10 : decode cX9_route 10 = .ok (.ldc 129, 2) := by decide +kernel
theorem dX9_route_12 : decode cX9_route 12 = .ok (.ireturn, 1) := by decide +kernel
theorem dX9_route_13 : decode cX9_route 13 = .ok (.aload_n 0, 1) := by decide +kernel
theorem dX9_route_14 : decode cX9_route 14 = .ok (.iload_n 1, 1) := by decide +kernel
theorem dX9_route_15 : decode cX9_route 15 = .ok (.iload_n 2, 1) := by decide +kernel
theorem dX9_route_16 : decode cX9_route 16 = .ok (.iload_n 3, 1) := by decide +kernel
theorem dX9_route_17 : decode cX9_route 17 = .ok (.invokevirtual 177, 3) := by decide +kernel
theorem dX9_route_20 : decode cX9_route 20 = .ok (.iload 4, 2) := by decide +kernel
theorem dX9_route_22 : decode cX9_route 22 = .ok (.iconst (-1), 1) := by decide +kernel
theorem dX9_route_23 : decode cX9_route 23 = .ok (.if_icmp .eq 14, 3) := by decide +kernel
theorem dX9_route_26 : decode cX9_route 26 = .ok (.aload_n 0, 1) := by decide +kernel
theorem dX9_route_27 : decode cX9_route 27 = .ok (.getfield 33, 3) := by decide +kernel
theorem dX9_route_30 : decode cX9_route 30 = .ok (.getfield 181, 3) := by decide +kernel
theorem dX9_route_33 : decode cX9_route 33 = .ok (.iconst (-1), 1) := by decide +kernel
theorem dX9_route_34 : decode cX9_route 34 = .ok (.if_icmp .ne 11, 3) := by decide +kernel
theorem dX9_route_37 : decode cX9_route 37 = .ok (.aload_n 0, 1) := by decide +kernel
theorem dX9_route_38 : decode cX9_route 38 = .ok (.getfield 33, 3) := by decide +kernel
theorem dX9_route_41 : decode cX9_route 41 = .ok (.getfield 181, 3) := by decide +kernel
theorem dX9_route_44 : decode cX9_route 44 = .ok (.ireturn, 1) := by decide +kernel
theorem dX9_route_45 : decode cX9_route 45 = .ok (.iload 4, 2) := by decide +kernel
theorem dX9_route_47 : decode cX9_route 47 = .ok (.bipush (-2), 2) := by decide +kernel
theorem dX9_route_49 : decode cX9_route 49 = .ok (.if_icmp .ne 18, 3) := by decide +kernel
theorem dX9_route_52 : decode cX9_route 52 = .ok (.aload_n 0, 1) := by decide +kernel
theorem dX9_route_53 : decode cX9_route 53 = .ok (.getfield 33, 3) := by decide +kernel
theorem dX9_route_56 : decode cX9_route 56 = .ok (.aload_n 0, 1) := by decide +kernel
theorem dX9_route_57 : decode cX9_route 57 = .ok (.getfield 33, 3) := by decide +kernel
theorem dX9_route_60 : decode cX9_route 60 = .ok (.getfield 181, 3) := by decide +kernel
theorem dX9_route_63 : decode cX9_route 63 = .ok (.invokevirtual 184, 3) := by decide +kernel
theorem dX9_route_66 : decode cX9_route 66 = .ok (.ireturn, 1) := by decide +kernel
theorem dX9_route_67 : decode cX9_route 67 = .ok (.iload 4, 2) := by decide +kernel
theorem dX9_route_69 : decode cX9_route 69 = .ok (.ifCond .lt 29, 3) := by decide +kernel
theorem dX9_route_72 : decode cX9_route 72 = .ok (.iload 4, 2) := by decide +kernel
theorem dX9_route_74 : decode cX9_route 74 = .ok (.aload_n 0, 1) := by decide +kernel
theorem dX9_route_75 : decode cX9_route 75 = .ok (.getfield 33, 3) := by decide +kernel
theorem dX9_route_78 : decode cX9_route 78 = .ok (.getfield 181, 3) := by decide +kernel
theorem dX9_route_81 : decode cX9_route 81 = .ok (.if_icmp .ge 17, 3) := by decide +kernel
theorem dX9_route_84 : decode cX9_route 84 = .ok (.aload_n 0, 1) := by decide +kernel
theorem dX9_route_85 : decode cX9_route 85 = .ok (.getfield 33, 3) := by decide +kernel
theorem dX9_route_88 : decode cX9_route 88 = .ok (.iload 4, 2) := by decide +kernel
theorem dX9_route_90 : decode cX9_route 90 = .ok (.iconst 1, 1) := by decide +kernel
theorem dX9_route_91 : decode cX9_route 91 = .ok (.iadd, 1) := by decide +kernel
theorem dX9_route_92 : decode cX9_route 92 = .ok (.invokevirtual 188, 3) := by decide +kernel
theorem dX9_route_95 : decode cX9_route 95 = .ok (.goto 4, 3) := by decide +kernel
theorem dX9_route_98 : decode cX9_route 98 = .ok (.iconst (-1), 1) := by decide +kernel
theorem dX9_route_99 : decode cX9_route 99 = .ok (.ireturn, 1) := by decide +kernel
theorem dX9_says_0 : decode cX9_says 0 = .ok (.aload_n 0, 1) := by decide +kernel
theorem dX9_says_1 : decode cX9_says 1 = .ok (.iload_n 1, 1) := by decide +kernel
theorem dX9_says_2 : decode cX9_says 2 = .ok (.iload_n 2, 1) := by decide +kernel
theorem dX9_says_3 : decode cX9_says 3 = .ok (.iload_n 3, 1) := by decide +kernel
theorem dX9_says_4 : decode cX9_says 4 = .ok (.invokevirtual 173, 3) := by decide +kernel
theorem dX9_says_7 : decode cX9_says 7 = .ok (.ifCond .ne 6, 3) := by decide +kernel
theorem dX9_says_10 : decode cX9_says 10 = .ok (.ldc 129, 2) := by decide +kernel
theorem dX9_says_12 : decode cX9_says 12 = .ok (.ireturn, 1) := by decide +kernel
theorem dX9_says_13 : decode cX9_says 13 = .ok (.iload 4, 2) := by decide +kernel
theorem dX9_says_15 : decode cX9_says 15 = .ok (.ifCond .lt 9, 3) := by decide +kernel
theorem dX9_says_18 : decode cX9_says 18 = .ok (.iload 4, 2) := by decide +kernel
theorem dX9_says_20 : decode cX9_says 20 = .ok (.iconst 4, 1) := by decide +kernel
theorem dX9_says_21 : decode cX9_says 21 = .ok (.if_icmp .le 6, 3) := by decide +kernel
theorem dX9_says_24 : decode cX9_says 24 = .ok (.ldc 76, 2) := by decide +kernel
theorem dX9_says_26 : decode cX9_says 26 = .ok (.ireturn, 1) := by decide +kernel
theorem dX9_says_27 : decode cX9_says 27 = .ok (.aload_n 0, 1) := by decide +kernel
theorem dX9_says_28 : decode cX9_says 28 = .ok (.iload_n 1, 1) := by decide +kernel
theorem dX9_says_29 : decode cX9_says 29 = .ok (.iload_n 2, 1) := by decide +kernel
theorem dX9_says_30 : decode cX9_says 30 = .ok (.iload_n 3, 1) := by decide +kernel
theorem dX9_says_31 : decode cX9_says 31 = .ok (.invokevirtual 177, 3) := by decide +kernel
theorem dX9_says_34 : decode cX9_says 34 = .ok (.aload_n 0, 1) := by decide +kernel
theorem dX9_says_35 : decode cX9_says 35 = .ok (.getfield 33, 3) := by decide +kernel
theorem dX9_says_38 : decode cX9_says 38 = .ok (.aload_n 0, 1) := by decide +kernel
theorem dX9_says_39 : decode cX9_says 39 = .ok (.getfield 26, 3) := by decide +kernel
theorem dX9_says_42 : decode cX9_says 42 = .ok (.getfield 156, 3) := by decide +kernel
theorem dX9_says_45 : decode cX9_says 45 = .ok (.iload_n 1, 1) := by decide +kernel
theorem dX9_says_46 : decode cX9_says 46 = .ok (.invokestatic 134, 3) := by decide +kernel
theorem dX9_says_49 : decode cX9_says 49 = .ok (.aload_n 0, 1) := by decide +kernel
theorem dX9_says_50 : decode cX9_says 50 = .ok (.getfield 26, 3) := by decide +kernel
theorem dX9_says_53 : decode cX9_says 53 = .ok (.getfield 150, 3) := by decide +kernel
theorem dX9_says_56 : decode cX9_says 56 = .ok (.iload_n 1, 1) := by decide +kernel
theorem dX9_says_57 : decode cX9_says 57 = .ok (.invokestatic 134, 3) := by decide +kernel
theorem dX9_says_60 : decode cX9_says 60 = .ok (.invokevirtual 191, 3) := by decide +kernel
theorem dX9_says_63 : decode cX9_says 63 = .ok (.istore 5, 2) := by decide +kernel
theorem dX9_says_65 : decode cX9_says 65 = .ok (.iload 4, 2) := by decide +kernel
theorem dX9_says_67 : decode cX9_says 67 = .ok (.tableswitch 66 0 3 #[29, 32, 42, 52], 29) := by decide +kernel
theorem dX9_says_96 : decode cX9_says 96 = .ok (.iload 5, 2) := by decide +kernel
theorem dX9_says_98 : decode cX9_says 98 = .ok (.ireturn, 1) := by decide +kernel
theorem dX9_says_99 : decode cX9_says 99 = .ok (.aload_n 0, 1) := by decide +kernel
theorem dX9_says_100 : decode cX9_says 100 = .ok (.getfield 33, 3) := by decide +kernel
theorem dX9_says_103 : decode cX9_says 103 = .ok (.iload 5, 2) := by decide +kernel
theorem dX9_says_105 : decode cX9_says 105 = .ok (.invokevirtual 188, 3) := by decide +kernel
theorem dX9_says_108 : decode cX9_says 108 = .ok (.ireturn, 1) := by decide +kernel
theorem dX9_says_109 : decode cX9_says 109 = .ok (.aload_n 0, 1) := by decide +kernel
theorem dX9_says_110 : decode cX9_says 110 = .ok (.getfield 33, 3) := by decide +kernel
theorem dX9_says_113 : decode cX9_says 113 = .ok (.iload 5, 2) := by decide +kernel
theorem dX9_says_115 : decode cX9_says 115 = .ok (.invokevirtual 184, 3) := by decide +kernel
theorem dX9_says_118 : decode cX9_says 118 = .ok (.ireturn, 1) := by decide +kernel
theorem dX9_says_119 : decode cX9_says 119 = .ok (.aload_n 0, 1) := by decide +kernel
theorem dX9_says_120 : decode cX9_says 120 = .ok (.getfield 33, 3) := by decide +kernel
theorem dX9_says_123 : decode cX9_says 123 = .ok (.aload_n 0, 1) := by decide +kernel
theorem dX9_says_124 : decode cX9_says 124 = .ok (.getfield 116, 3) := by decide +kernel
theorem dX9_says_127 : decode cX9_says 127 = .ok (.iload 5, 2) := by decide +kernel
theorem dX9_says_129 : decode cX9_says 129 = .ok (.invokevirtual 194, 3) := by decide +kernel
theorem dX9_says_132 : decode cX9_says 132 = .ok (.ireturn, 1) := by decide +kernel
theorem dX9_says_133 : decode cX9_says 133 = .ok (.aload_n 0, 1) := by decide +kernel
theorem dX9_says_134 : decode cX9_says 134 = .ok (.getfield 33, 3) := by decide +kernel
theorem dX9_says_137 : decode cX9_says 137 = .ok (.aload_n 0, 1) := by decide +kernel
theorem dX9_says_138 : decode cX9_says 138 = .ok (.getfield 116, 3) := by decide +kernel
theorem dX9_says_141 : decode cX9_says 141 = .ok (.iload 5, 2) := by decide +kernel
theorem dX9_says_143 : decode cX9_says 143 = .ok (.invokevirtual 197, 3) := by decide +kernel
theorem dX9_says_146 : decode cX9_says 146 = .ok (.ireturn, 1) := by decide +kernel
theorem dX9_own_0 : decode cX9_own 0 = .ok (.aload_n 0, 1) := by decide +kernel
theorem dX9_own_1 : decode cX9_own 1 = .ok (.iload_n 1, 1) := by decide +kernel
theorem dX9_own_2 : decode cX9_own 2 = .ok (.iload_n 2, 1) := by decide +kernel
theorem dX9_own_3 : decode cX9_own 3 = .ok (.iload_n 3, 1) := by decide +kernel
theorem dX9_own_4 : decode cX9_own 4 = .ok (.invokevirtual 173, 3) := by decide +kernel
theorem dX9_own_7 : decode cX9_own 7 = .ok (.ifCond .ne 6, 3) := by decide +kernel
theorem dX9_own_10 : decode cX9_own 10 = .ok (.ldc 129, 2) := by decide +kernel
theorem dX9_own_12 : decode cX9_own 12 = .ok (.ireturn, 1) := by decide +kernel
theorem dX9_own_13 : decode cX9_own 13 = .ok (.iload 4, 2) := by decide +kernel
theorem dX9_own_15 : decode cX9_own 15 = .ok (.ifCond .lt 9, 3) := by decide +kernel
theorem dX9_own_18 : decode cX9_own 18 = .ok (.iload 4, 2) := by decide +kernel
theorem dX9_own_20 : decode cX9_own 20 = .ok (.iconst 1, 1) := by decide +kernel
theorem dX9_own_21 : decode cX9_own 21 = .ok (.if_icmp .le 6, 3) := by decide +kernel
theorem dX9_own_24 : decode cX9_own 24 = .ok (.ldc 76, 2) := by decide +kernel
theorem dX9_own_26 : decode cX9_own 26 = .ok (.ireturn, 1) := by decide +kernel
theorem dX9_own_27 : decode cX9_own 27 = .ok (.aload_n 0, 1) := by decide +kernel
theorem dX9_own_28 : decode cX9_own 28 = .ok (.iload_n 1, 1) := by decide +kernel
theorem dX9_own_29 : decode cX9_own 29 = .ok (.iload_n 2, 1) := by decide +kernel
theorem dX9_own_30 : decode cX9_own 30 = .ok (.iload_n 3, 1) := by decide +kernel
theorem dX9_own_31 : decode cX9_own 31 = .ok (.invokevirtual 177, 3) := by decide +kernel
theorem dX9_own_34 : decode cX9_own 34 = .ok (.aload_n 0, 1) := by decide +kernel
theorem dX9_own_35 : decode cX9_own 35 = .ok (.getfield 26, 3) := by decide +kernel
theorem dX9_own_38 : decode cX9_own 38 = .ok (.getfield 150, 3) := by decide +kernel
theorem dX9_own_41 : decode cX9_own 41 = .ok (.iload_n 1, 1) := by decide +kernel
theorem dX9_own_42 : decode cX9_own 42 = .ok (.invokestatic 134, 3) := by decide +kernel
theorem dX9_own_45 : decode cX9_own 45 = .ok (.istore 5, 2) := by decide +kernel
theorem dX9_own_47 : decode cX9_own 47 = .ok (.aload_n 0, 1) := by decide +kernel
theorem dX9_own_48 : decode cX9_own 48 = .ok (.getfield 26, 3) := by decide +kernel
theorem dX9_own_51 : decode cX9_own 51 = .ok (.getfield 153, 3) := by decide +kernel
theorem dX9_own_54 : decode cX9_own 54 = .ok (.iload_n 1, 1) := by decide +kernel
theorem dX9_own_55 : decode cX9_own 55 = .ok (.invokestatic 134, 3) := by decide +kernel
theorem dX9_own_58 : decode cX9_own 58 = .ok (.istore 6, 2) := by decide +kernel
theorem dX9_own_60 : decode cX9_own 60 = .ok (.aload_n 0, 1) := by decide +kernel
theorem dX9_own_61 : decode cX9_own 61 = .ok (.getfield 33, 3) := by decide +kernel
theorem dX9_own_64 : decode cX9_own 64 = .ok (.aload_n 0, 1) := by decide +kernel
theorem dX9_own_65 : decode cX9_own 65 = .ok (.getfield 116, 3) := by decide +kernel
theorem dX9_own_68 : decode cX9_own 68 = .ok (.iload 5, 2) := by decide +kernel
theorem dX9_own_70 : decode cX9_own 70 = .ok (.iload 6, 2) := by decide +kernel
theorem dX9_own_72 : decode cX9_own 72 = .ok (.invokevirtual 200, 3) := by decide +kernel
theorem dX9_own_75 : decode cX9_own 75 = .ok (.istore 7, 2) := by decide +kernel
theorem dX9_own_77 : decode cX9_own 77 = .ok (.iload 4, 2) := by decide +kernel
theorem dX9_own_79 : decode cX9_own 79 = .ok (.ifCond .ne 8, 3) := by decide +kernel
theorem dX9_own_82 : decode cX9_own 82 = .ok (.iload 7, 2) := by decide +kernel
theorem dX9_own_84 : decode cX9_own 84 = .ok (.goto 20, 3) := by decide +kernel
theorem dX9_own_87 : decode cX9_own 87 = .ok (.aload_n 0, 1) := by decide +kernel
theorem dX9_own_88 : decode cX9_own 88 = .ok (.getfield 33, 3) := by decide +kernel
theorem dX9_own_91 : decode cX9_own 91 = .ok (.aload_n 0, 1) := by decide +kernel
theorem dX9_own_92 : decode cX9_own 92 = .ok (.getfield 116, 3) := by decide +kernel
theorem dX9_own_95 : decode cX9_own 95 = .ok (.iload 7, 2) := by decide +kernel
theorem dX9_own_97 : decode cX9_own 97 = .ok (.iload 5, 2) := by decide +kernel
theorem dX9_own_99 : decode cX9_own 99 = .ok (.iload 6, 2) := by decide +kernel
theorem dX9_own_101 : decode cX9_own 101 = .ok (.invokevirtual 204, 3) := by decide +kernel
theorem dX9_own_104 : decode cX9_own 104 = .ok (.ireturn, 1) := by decide +kernel
theorem dX9_led_0 : decode cX9_led 0 = .ok (.aload_n 0, 1) := by decide +kernel
theorem dX9_led_1 : decode cX9_led 1 = .ok (.getfield 26, 3) := by decide +kernel
theorem dX9_led_4 : decode cX9_led 4 = .ok (.iload_n 1, 1) := by decide +kernel
theorem dX9_led_5 : decode cX9_led 5 = .ok (.invokevirtual 162, 3) := by decide +kernel
theorem dX9_led_8 : decode cX9_led 8 = .ok (.ifCond .eq 14, 3) := by decide +kernel
theorem dX9_led_11 : decode cX9_led 11 = .ok (.aload_n 0, 1) := by decide +kernel
theorem dX9_led_12 : decode cX9_led 12 = .ok (.getfield 26, 3) := by decide +kernel
theorem dX9_led_15 : decode cX9_led 15 = .ok (.iload_n 2, 1) := by decide +kernel
theorem dX9_led_16 : decode cX9_led 16 = .ok (.invokevirtual 162, 3) := by decide +kernel
theorem dX9_led_19 : decode cX9_led 19 = .ok (.ifCond .ne 6, 3) := by decide +kernel
theorem dX9_led_22 : decode cX9_led 22 = .ok (.ldc 129, 2) := by decide +kernel
theorem dX9_led_24 : decode cX9_led 24 = .ok (.ireturn, 1) := by decide +kernel
theorem dX9_led_25 : decode cX9_led 25 = .ok (.iload 4, 2) := by decide +kernel
theorem dX9_led_27 : decode cX9_led 27 = .ok (.ifCond .lt 9, 3) := by decide +kernel
theorem dX9_led_30 : decode cX9_led 30 = .ok (.iload 4, 2) := by decide +kernel
theorem dX9_led_32 : decode cX9_led 32 = .ok (.iconst 3, 1) := by decide +kernel
theorem dX9_led_33 : decode cX9_led 33 = .ok (.if_icmp .le 6, 3) := by decide +kernel
theorem dX9_led_36 : decode cX9_led 36 = .ok (.ldc 76, 2) := by decide +kernel
theorem dX9_led_38 : decode cX9_led 38 = .ok (.ireturn, 1) := by decide +kernel
theorem dX9_led_39 : decode cX9_led 39 = .ok (.aload_n 0, 1) := by decide +kernel
theorem dX9_led_40 : decode cX9_led 40 = .ok (.iload_n 2, 1) := by decide +kernel
theorem dX9_led_41 : decode cX9_led 41 = .ok (.iload_n 3, 1) := by decide +kernel
theorem dX9_led_42 : decode cX9_led 42 = .ok (.invokevirtual 208, 3) := by decide +kernel
theorem dX9_led_45 : decode cX9_led 45 = .ok (.astore 5, 2) := by decide +kernel
theorem dX9_led_47 : decode cX9_led 47 = .ok (.aload 5, 2) := by decide +kernel
theorem dX9_led_49 : decode cX9_led 49 = .ok (.iload_n 1, 1) := by decide +kernel
theorem dX9_led_50 : decode cX9_led 50 = .ok (.iload_n 2, 1) := by decide +kernel
theorem dX9_led_51 : decode cX9_led 51 = .ok (.aconst_null, 1) := by decide +kernel
theorem dX9_led_52 : decode cX9_led 52 = .ok (.invokevirtual 212, 3) := by decide +kernel
theorem dX9_led_55 : decode cX9_led 55 = .ok (.iload 4, 2) := by decide +kernel
theorem dX9_led_57 : decode cX9_led 57 = .ok (.tableswitch 54 0 2 #[27, 33, 39], 27) := by decide +kernel
theorem dX9_led_84 : decode cX9_led 84 = .ok (.aload 5, 2) := by decide +kernel
theorem dX9_led_86 : decode cX9_led 86 = .ok (.getfield 216, 3) := by decide +kernel
theorem dX9_led_89 : decode cX9_led 89 = .ok (.ireturn, 1) := by decide +kernel
theorem dX9_led_90 : decode cX9_led 90 = .ok (.aload 5, 2) := by decide +kernel
theorem dX9_led_92 : decode cX9_led 92 = .ok (.getfield 219, 3) := by decide +kernel
theorem dX9_led_95 : decode cX9_led 95 = .ok (.ireturn, 1) := by decide +kernel
theorem dX9_led_96 : decode cX9_led 96 = .ok (.aload 5, 2) := by decide +kernel
theorem dX9_led_98 : decode cX9_led 98 = .ok (.getfield 219, 3) := by decide +kernel
theorem dX9_led_101 : decode cX9_led 101 = .ok (.iload_n 2, 1) := by decide +kernel
theorem dX9_led_102 : decode cX9_led 102 = .ok (.if_icmp .ne 7, 3) := by decide +kernel
theorem dX9_led_105 : decode cX9_led 105 = .ok (.iconst 0, 1) := by decide +kernel
theorem dX9_led_106 : decode cX9_led 106 = .ok (.goto 4, 3) := by decide +kernel
theorem dX9_led_109 : decode cX9_led 109 = .ok (.iconst 1, 1) := by decide +kernel
theorem dX9_led_110 : decode cX9_led 110 = .ok (.ireturn, 1) := by decide +kernel
theorem dX9_led_111 : decode cX9_led 111 = .ok (.aload 5, 2) := by decide +kernel
theorem dX9_led_113 : decode cX9_led 113 = .ok (.getfield 222, 3) := by decide +kernel
theorem dX9_led_116 : decode cX9_led 116 = .ok (.ireturn, 1) := by decide +kernel
theorem dX9_soonest_0 : decode cX9_soonest 0 = .ok (.aload_n 0, 1) := by decide +kernel
theorem dX9_soonest_1 : decode cX9_soonest 1 = .ok (.getfield 26, 3) := by decide +kernel
theorem dX9_soonest_4 : decode cX9_soonest 4 = .ok (.iload_n 1, 1) := by decide +kernel
theorem dX9_soonest_5 : decode cX9_soonest 5 = .ok (.invokevirtual 162, 3) := by decide +kernel
theorem dX9_soonest_8 : decode cX9_soonest 8 = .ok (.ifCond .eq 14, 3) := by decide +kernel
theorem dX9_soonest_11 : decode cX9_soonest 11 = .ok (.aload_n 0, 1) := by decide +kernel
theorem dX9_soonest_12 : decode cX9_soonest 12 = .ok (.getfield 26, 3) := by decide +kernel
theorem dX9_soonest_15 : decode cX9_soonest 15 = .ok (.iload_n 2, 1) := by decide +kernel
theorem dX9_soonest_16 : decode cX9_soonest 16 = .ok (.invokevirtual 162, 3) := by decide +kernel
theorem dX9_soonest_19 : decode cX9_soonest 19 = .ok (.ifCond .ne 6, 3) := by decide +kernel
theorem dX9_soonest_22 : decode cX9_soonest 22 = .ok (.ldc 129, 2) := by decide +kernel
theorem dX9_soonest_24 : decode cX9_soonest 24 = .ok (.ireturn, 1) := by decide +kernel
theorem dX9_soonest_25 : decode cX9_soonest 25 = .ok (.aload_n 0, 1) := by decide +kernel
theorem dX9_soonest_26 : decode cX9_soonest 26 = .ok (.iload_n 2, 1) := by decide +kernel
theorem dX9_soonest_27 : decode cX9_soonest 27 = .ok (.iconst 0, 1) := by decide +kernel
theorem dX9_soonest_28 : decode cX9_soonest 28 = .ok (.invokevirtual 208, 3) := by decide +kernel
theorem dX9_soonest_31 : decode cX9_soonest 31 = .ok (.iload_n 1, 1) := by decide +kernel
theorem dX9_soonest_32 : decode cX9_soonest 32 = .ok (.iload_n 2, 1) := by decide +kernel
theorem dX9_soonest_33 : decode cX9_soonest 33 = .ok (.invokevirtual 225, 3) := by decide +kernel
theorem dX9_soonest_36 : decode cX9_soonest 36 = .ok (.ireturn, 1) := by decide +kernel
theorem dX9_guide_0 : decode cX9_guide 0 = .ok (.aload_n 0, 1) := by decide +kernel
theorem dX9_guide_1 : decode cX9_guide 1 = .ok (.getfield 26, 3) := by decide +kernel
theorem dX9_guide_4 : decode cX9_guide 4 = .ok (.iload_n 1, 1) := by decide +kernel
theorem dX9_guide_5 : decode cX9_guide 5 = .ok (.invokevirtual 162, 3) := by decide +kernel
theorem dX9_guide_8 : decode cX9_guide 8 = .ok (.ifCond .eq 14, 3) := by decide +kernel
theorem dX9_guide_11 : decode cX9_guide 11 = .ok (.aload_n 0, 1) := by decide +kernel
theorem dX9_guide_12 : decode cX9_guide 12 = .ok (.getfield 26, 3) := by decide +kernel
theorem dX9_guide_15 : decode cX9_guide 15 = .ok (.iload_n 2, 1) := by decide +kernel
theorem dX9_guide_16 : decode cX9_guide 16 = .ok (.invokevirtual 162, 3) := by decide +kernel
theorem dX9_guide_19 : decode cX9_guide 19 = .ok (.ifCond .ne 6, 3) := by decide +kernel
theorem dX9_guide_22 : decode cX9_guide 22 = .ok (.ldc 129, 2) := by decide +kernel
theorem dX9_guide_24 : decode cX9_guide 24 = .ok (.ireturn, 1) := by decide +kernel
theorem dX9_guide_25 : decode cX9_guide 25 = .ok (.aload_n 0, 1) := by decide +kernel
theorem dX9_guide_26 : decode cX9_guide 26 = .ok (.iload_n 2, 1) := by decide +kernel
theorem dX9_guide_27 : decode cX9_guide 27 = .ok (.iconst 0, 1) := by decide +kernel
theorem dX9_guide_28 : decode cX9_guide 28 = .ok (.invokevirtual 208, 3) := by decide +kernel
theorem dX9_guide_31 : decode cX9_guide 31 = .ok (.astore 4, 2) := by decide +kernel
theorem dX9_guide_33 : decode cX9_guide 33 = .ok (.aload 4, 2) := by decide +kernel
theorem dX9_guide_35 : decode cX9_guide 35 = .ok (.iload_n 1, 1) := by decide +kernel
theorem dX9_guide_36 : decode cX9_guide 36 = .ok (.iload_n 2, 1) := by decide +kernel
theorem dX9_guide_37 : decode cX9_guide 37 = .ok (.invokevirtual 225, 3) := by decide +kernel
theorem dX9_guide_40 : decode cX9_guide 40 = .ok (.iconst (-1), 1) := by decide +kernel
theorem dX9_guide_41 : decode cX9_guide 41 = .ok (.if_icmp .ne 5, 3) := by decide +kernel
theorem dX9_guide_44 : decode cX9_guide 44 = .ok (.iconst (-1), 1) := by decide +kernel
theorem dX9_guide_45 : decode cX9_guide 45 = .ok (.ireturn, 1) := by decide +kernel
theorem dX9_guide_46 : decode cX9_guide 46 = .ok (.iload_n 3, 1) := by decide +kernel
theorem dX9_guide_47 : decode cX9_guide 47 = .ok (.iconst (-1), 1) := by decide +kernel
theorem dX9_guide_48 : decode cX9_guide 48 = .ok (.if_icmp .ne 12, 3) := by decide +kernel
theorem dX9_guide_51 : decode cX9_guide 51 = .ok (.aload 4, 2) := by decide +kernel
theorem dX9_guide_53 : decode cX9_guide 53 = .ok (.iload_n 1, 1) := by decide +kernel
theorem dX9_guide_54 : decode cX9_guide 54 = .ok (.invokevirtual 228, 3) := by decide +kernel
theorem dX9_guide_57 : decode cX9_guide 57 = .ok (.goto 11, 3) := by decide +kernel
theorem dX9_guide_60 : decode cX9_guide 60 = .ok (.aload 4, 2) := by decide +kernel
theorem dX9_guide_62 : decode cX9_guide 62 = .ok (.iload_n 1, 1) := by decide +kernel
theorem dX9_guide_63 : decode cX9_guide 63 = .ok (.iload_n 2, 1) := by decide +kernel
theorem dX9_guide_64 : decode cX9_guide 64 = .ok (.iload_n 3, 1) := by decide +kernel
theorem dX9_guide_65 : decode cX9_guide 65 = .ok (.invokevirtual 231, 3) := by decide +kernel
theorem dX9_guide_68 : decode cX9_guide 68 = .ok (.ireturn, 1) := by decide +kernel
theorem dX9_lot_0 : decode cX9_lot 0 = .ok (.aload_n 0, 1) := by decide +kernel
theorem dX9_lot_1 : decode cX9_lot 1 = .ok (.getfield 26, 3) := by decide +kernel
theorem dX9_lot_4 : decode cX9_lot 4 = .ok (.iload_n 1, 1) := by decide +kernel
theorem dX9_lot_5 : decode cX9_lot 5 = .ok (.invokevirtual 162, 3) := by decide +kernel
theorem dX9_lot_8 : decode cX9_lot 8 = .ok (.ifCond .eq 14, 3) := by decide +kernel
theorem dX9_lot_11 : decode cX9_lot 11 = .ok (.aload_n 0, 1) := by decide +kernel
theorem dX9_lot_12 : decode cX9_lot 12 = .ok (.getfield 26, 3) := by decide +kernel
theorem dX9_lot_15 : decode cX9_lot 15 = .ok (.iload_n 2, 1) := by decide +kernel
theorem dX9_lot_16 : decode cX9_lot 16 = .ok (.invokevirtual 162, 3) := by decide +kernel
theorem dX9_lot_19 : decode cX9_lot 19 = .ok (.ifCond .ne 6, 3) := by decide +kernel
theorem dX9_lot_22 : decode cX9_lot 22 = .ok (.ldc 129, 2) := by decide +kernel
theorem dX9_lot_24 : decode cX9_lot 24 = .ok (.ireturn, 1) := by decide +kernel
theorem dX9_lot_25 : decode cX9_lot 25 = .ok (.iload_n 3, 1) := by decide +kernel
theorem dX9_lot_26 : decode cX9_lot 26 = .ok (.ifCond .lt 8, 3) := by decide +kernel
theorem dX9_lot_29 : decode cX9_lot 29 = .ok (.iload_n 3, 1) := by decide +kernel
theorem dX9_lot_30 : decode cX9_lot 30 = .ok (.iconst 2, 1) := by decide +kernel
theorem dX9_lot_31 : decode cX9_lot 31 = .ok (.if_icmp .le 6, 3) := by decide +kernel
theorem dX9_lot_34 : decode cX9_lot 34 = .ok (.ldc 76, 2) := by decide +kernel
theorem dX9_lot_36 : decode cX9_lot 36 = .ok (.ireturn, 1) := by decide +kernel
theorem dX9_lot_37 : decode cX9_lot 37 = .ok (.aload_n 0, 1) := by decide +kernel
theorem dX9_lot_38 : decode cX9_lot 38 = .ok (.iload_n 2, 1) := by decide +kernel
theorem dX9_lot_39 : decode cX9_lot 39 = .ok (.iconst 0, 1) := by decide +kernel
theorem dX9_lot_40 : decode cX9_lot 40 = .ok (.invokevirtual 208, 3) := by decide +kernel
theorem dX9_lot_43 : decode cX9_lot 43 = .ok (.astore 4, 2) := by decide +kernel
theorem dX9_lot_45 : decode cX9_lot 45 = .ok (.aload 4, 2) := by decide +kernel
theorem dX9_lot_47 : decode cX9_lot 47 = .ok (.iload_n 1, 1) := by decide +kernel
theorem dX9_lot_48 : decode cX9_lot 48 = .ok (.iload_n 2, 1) := by decide +kernel
theorem dX9_lot_49 : decode cX9_lot 49 = .ok (.invokevirtual 234, 3) := by decide +kernel
theorem dX9_lot_52 : decode cX9_lot 52 = .ok (.iload_n 3, 1) := by decide +kernel
theorem dX9_lot_53 : decode cX9_lot 53 = .ok (.lookupswitch 39 #[(0, 27), (1, 33)], 27) := by decide +kernel
theorem dX9_lot_80 : decode cX9_lot 80 = .ok (.aload 4, 2) := by decide +kernel
theorem dX9_lot_82 : decode cX9_lot 82 = .ok (.getfield 238, 3) := by decide +kernel
theorem dX9_lot_85 : decode cX9_lot 85 = .ok (.ireturn, 1) := by decide +kernel
theorem dX9_lot_86 : decode cX9_lot 86 = .ok (.aload 4, 2) := by decide +kernel
theorem dX9_lot_88 : decode cX9_lot 88 = .ok (.getfield 241, 3) := by decide +kernel
theorem dX9_lot_91 : decode cX9_lot 91 = .ok (.ireturn, 1) := by decide +kernel
theorem dX9_lot_92 : decode cX9_lot 92 = .ok (.aload 4, 2) := by decide +kernel
theorem dX9_lot_94 : decode cX9_lot 94 = .ok (.getfield 244, 3) := by decide +kernel
theorem dX9_lot_97 : decode cX9_lot 97 = .ok (.ldc2_w 248, 3) := by decide +kernel
theorem dX9_lot_100 : decode cX9_lot 100 = .ok (.ldiv, 1) := by decide +kernel
theorem dX9_lot_101 : decode cX9_lot 101 = .ok (.l2i, 1) := by decide +kernel
theorem dX9_lot_102 : decode cX9_lot 102 = .ok (.ireturn, 1) := by decide +kernel
theorem dX9_say_0 : decode cX9_say 0 = .ok (.aload_n 0, 1) := by decide +kernel
theorem dX9_say_1 : decode cX9_say 1 = .ok (.getfield 26, 3) := by decide +kernel
theorem dX9_say_4 : decode cX9_say 4 = .ok (.iload_n 1, 1) := by decide +kernel
theorem dX9_say_5 : decode cX9_say 5 = .ok (.invokevirtual 162, 3) := by decide +kernel
theorem dX9_say_8 : decode cX9_say 8 = .ok (.ifCond .eq 14, 3) := by decide +kernel
theorem dX9_say_11 : decode cX9_say 11 = .ok (.aload_n 0, 1) := by decide +kernel
theorem dX9_say_12 : decode cX9_say 12 = .ok (.getfield 26, 3) := by decide +kernel
theorem dX9_say_15 : decode cX9_say 15 = .ok (.iload_n 2, 1) := by decide +kernel
theorem dX9_say_16 : decode cX9_say 16 = .ok (.invokevirtual 162, 3) := by decide +kernel
theorem dX9_say_19 : decode cX9_say 19 = .ok (.ifCond .ne 6, 3) := by decide +kernel
theorem dX9_say_22 : decode cX9_say 22 = .ok (.ldc 129, 2) := by decide +kernel
theorem dX9_say_24 : decode cX9_say 24 = .ok (.ireturn, 1) := by decide +kernel
theorem dX9_say_25 : decode cX9_say 25 = .ok (.iload_n 3, 1) := by decide +kernel
theorem dX9_say_26 : decode cX9_say 26 = .ok (.ifCond .lt 8, 3) := by decide +kernel
theorem dX9_say_29 : decode cX9_say 29 = .ok (.iload_n 3, 1) := by decide +kernel
theorem dX9_say_30 : decode cX9_say 30 = .ok (.iconst 2, 1) := by decide +kernel
theorem dX9_say_31 : decode cX9_say 31 = .ok (.if_icmp .le 6, 3) := by decide +kernel
theorem dX9_say_34 : decode cX9_say 34 = .ok (.ldc 76, 2) := by decide +kernel
theorem dX9_say_36 : decode cX9_say 36 = .ok (.ireturn, 1) := by decide +kernel
theorem dX9_say_37 : decode cX9_say 37 = .ok (.iconst (-1), 1) := by decide +kernel
theorem dX9_say_38 : decode cX9_say 38 = .ok (.istore 4, 2) := by decide +kernel
theorem dX9_say_40 : decode cX9_say 40 = .ok (.iconst (-1), 1) := by decide +kernel
theorem dX9_say_41 : decode cX9_say 41 = .ok (.istore 5, 2) := by decide +kernel
theorem dX9_say_43 : decode cX9_say 43 = .ok (.iconst (-1), 1) := by decide +kernel
theorem dX9_say_44 : decode cX9_say 44 = .ok (.istore 6, 2) := by decide +kernel
theorem dX9_say_46 : decode cX9_say 46 = .ok (.iconst 0, 1) := by decide +kernel
theorem dX9_say_47 : decode cX9_say 47 = .ok (.istore 7, 2) := by decide +kernel
theorem dX9_say_49 : decode cX9_say 49 = .ok (.iload 7, 2) := by decide +kernel
theorem dX9_say_51 : decode cX9_say 51 = .ok (.aload_n 0, 1) := by decide +kernel
theorem dX9_say_52 : decode cX9_say 52 = .ok (.getfield 26, 3) := by decide +kernel
theorem dX9_say_55 : decode cX9_say 55 = .ok (.getfield 113, 3) := by decide +kernel
theorem dX9_say_58 : decode cX9_say 58 = .ok (.if_icmp .ge 99, 3) := by decide +kernel
theorem dX9_say_61 : decode cX9_say 61 = .ok (.iconst 0, 1) := by decide +kernel
theorem dX9_say_62 : decode cX9_say 62 = .ok (.istore 8, 2) := by decide +kernel
theorem dX9_say_64 : decode cX9_say 64 = .ok (.iload 8, 2) := by decide +kernel
theorem dX9_say_66 : decode cX9_say 66 = .ok (.aload_n 0, 1) := by decide +kernel
theorem dX9_say_67 : decode cX9_say 67 = .ok (.getfield 26, 3) := by decide +kernel
theorem dX9_say_70 : decode cX9_say 70 = .ok (.getfield 104, 3) := by decide +kernel
theorem dX9_say_73 : decode cX9_say 73 = .ok (.if_icmp .ge 78, 3) := by decide +kernel
theorem dX9_say_76 : decode cX9_say 76 = .ok (.aload_n 0, 1) := by decide +kernel
theorem dX9_say_77 : decode cX9_say 77 = .ok (.getfield 26, 3) := by decide +kernel
theorem dX9_say_80 : decode cX9_say 80 = .ok (.getfield 147, 3) := by decide +kernel
theorem dX9_say_83 : decode cX9_say 83 = .ok (.iload 7, 2) := by decide +kernel
theorem dX9_say_85 : decode cX9_say 85 = .ok (.invokestatic 134, 3) := by decide +kernel
theorem dX9_say_88 : decode cX9_say 88 = .ok (.iload_n 1, 1) := by decide +kernel
theorem dX9_say_89 : decode cX9_say 89 = .ok (.if_icmp .ne 22, 3) := by decide +kernel
theorem dX9_say_92 : decode cX9_say 92 = .ok (.iload 8, 2) := by decide +kernel
theorem dX9_say_94 : decode cX9_say 94 = .ok (.iload_n 1, 1) := by decide +kernel
theorem dX9_say_95 : decode cX9_say 95 = .ok (.if_icmp .eq 16, 3) := by decide +kernel
theorem dX9_say_98 : decode cX9_say 98 = .ok (.aload_n 0, 1) := by decide +kernel
theorem dX9_say_99 : decode cX9_say 99 = .ok (.iload_n 2, 1) := by decide +kernel
theorem dX9_say_100 : decode cX9_say 100 = .ok (.iload 7, 2) := by decide +kernel
theorem dX9_say_102 : decode cX9_say 102 = .ok (.iload_n 1, 1) := by decide +kernel
theorem dX9_say_103 : decode cX9_say 103 = .ok (.iload 8, 2) := by decide +kernel
theorem dX9_say_105 : decode cX9_say 105 = .ok (.invokevirtual 250, 3) := by decide +kernel
theorem dX9_say_108 : decode cX9_say 108 = .ok (.goto 4, 3) := by decide +kernel
theorem dX9_say_111 : decode cX9_say 111 = .ok (.iconst (-1), 1) := by decide +kernel
theorem dX9_say_112 : decode cX9_say 112 = .ok (.istore 9, 2) := by decide +kernel
theorem dX9_say_114 : decode cX9_say 114 = .ok (.iload 9, 2) := by decide +kernel
theorem dX9_say_116 : decode cX9_say 116 = .ok (.iconst (-1), 1) := by decide +kernel
theorem dX9_say_117 : decode cX9_say 117 = .ok (.if_icmp .eq 28, 3) := by decide +kernel
theorem dX9_say_120 : decode cX9_say 120 = .ok (.iload 6, 2) := by decide +kernel
theorem dX9_say_122 : decode cX9_say 122 = .ok (.iconst (-1), 1) := by decide +kernel
theorem dX9_say_123 : decode cX9_say 123 = .ok (.if_icmp .eq 10, 3) := by decide +kernel
theorem dX9_say_126 : decode cX9_say 126 = .ok (.iload 9, 2) := by decide +kernel
theorem dX9_say_128 : decode cX9_say 128 = .ok (.iload 6, 2) := by decide +kernel
theorem dX9_say_130 : decode cX9_say 130 = .ok (.if_icmp .ge 15, 3) := by decide +kernel
theorem dX9_say_133 : decode cX9_say 133 = .ok (.iload 7, 2) := by decide +kernel
theorem dX9_say_135 : decode cX9_say 135 = .ok (.istore 4, 2) := by decide +kernel
theorem dX9_say_137 : decode cX9_say 137 = .ok (.iload 8, 2) := by decide +kernel
theorem dX9_say_139 : decode cX9_say 139 = .ok (.istore 5, 2) := by decide +kernel
theorem dX9_say_141 : decode cX9_say 141 = .ok (.iload 9, 2) := by decide +kernel
theorem dX9_say_143 : decode cX9_say 143 = .ok (.istore 6, 2) := by decide +kernel
theorem dX9_say_145 : decode cX9_say 145 = .ok (.iinc 8 1, 3) := by decide +kernel
theorem dX9_say_148 : decode cX9_say 148 = .ok (.goto (-84), 3) := by decide +kernel
theorem dX9_say_151 : decode cX9_say 151 = .ok (.iinc 7 1, 3) := by decide +kernel
theorem dX9_say_154 : decode cX9_say 154 = .ok (.goto (-105), 3) := by decide +kernel
theorem dX9_say_157 : decode cX9_say 157 = .ok (.iload_n 3, 1) := by decide +kernel
theorem dX9_say_158 : decode cX9_say 158 = .ok (.ifCond .ne 8, 3) := by decide +kernel
theorem dX9_say_161 : decode cX9_say 161 = .ok (.iload 4, 2) := by decide +kernel
theorem dX9_say_163 : decode cX9_say 163 = .ok (.goto 15, 3) := by decide +kernel
theorem dX9_say_166 : decode cX9_say 166 = .ok (.iload_n 3, 1) := by decide +kernel
theorem dX9_say_167 : decode cX9_say 167 = .ok (.iconst 1, 1) := by decide +kernel
theorem dX9_say_168 : decode cX9_say 168 = .ok (.if_icmp .ne 8, 3) := by decide +kernel
theorem dX9_say_171 : decode cX9_say 171 = .ok (.iload 5, 2) := by decide +kernel
theorem dX9_say_173 : decode cX9_say 173 = .ok (.goto 5, 3) := by decide +kernel
theorem dX9_say_176 : decode cX9_say 176 = .ok (.iload 6, 2) := by decide +kernel
theorem dX9_say_178 : decode cX9_say 178 = .ok (.ireturn, 1) := by decide +kernel
theorem dX9_learnt_0 : decode cX9_learnt 0 = .ok (.aload_n 0, 1) := by decide +kernel
theorem dX9_learnt_1 : decode cX9_learnt 1 = .ok (.getfield 26, 3) := by decide +kernel
theorem dX9_learnt_4 : decode cX9_learnt 4 = .ok (.iload_n 1, 1) := by decide +kernel
theorem dX9_learnt_5 : decode cX9_learnt 5 = .ok (.invokevirtual 162, 3) := by decide +kernel
theorem dX9_learnt_8 : decode cX9_learnt 8 = .ok (.ifCond .eq 14, 3) := by decide +kernel
theorem dX9_learnt_11 : decode cX9_learnt 11 = .ok (.aload_n 0, 1) := by decide +kernel
theorem dX9_learnt_12 : decode cX9_learnt 12 = .ok (.getfield 26, 3) := by decide +kernel
theorem dX9_learnt_15 : decode cX9_learnt 15 = .ok (.iload_n 2, 1) := by decide +kernel
theorem dX9_learnt_16 : decode cX9_learnt 16 = .ok (.invokevirtual 162, 3) := by decide +kernel
theorem dX9_learnt_19 : decode cX9_learnt 19 = .ok (.ifCond .ne 6, 3) := by decide +kernel
theorem dX9_learnt_22 : decode cX9_learnt 22 = .ok (.ldc 129, 2) := by decide +kernel
theorem dX9_learnt_24 : decode cX9_learnt 24 = .ok (.ireturn, 1) := by decide +kernel
theorem dX9_learnt_25 : decode cX9_learnt 25 = .ok (.iload_n 3, 1) := by decide +kernel
theorem dX9_learnt_26 : decode cX9_learnt 26 = .ok (.ifCond .lt 21, 3) := by decide +kernel
theorem dX9_learnt_29 : decode cX9_learnt 29 = .ok (.iload_n 3, 1) := by decide +kernel
theorem dX9_learnt_30 : decode cX9_learnt 30 = .ok (.sipush 999, 3) := by decide +kernel
theorem dX9_learnt_33 : decode cX9_learnt 33 = .ok (.if_icmp .gt 14, 3) := by decide +kernel
theorem dX9_learnt_36 : decode cX9_learnt 36 = .ok (.iload 4, 2) := by decide +kernel
theorem dX9_learnt_38 : decode cX9_learnt 38 = .ok (.ifCond .lt 9, 3) := by decide +kernel
theorem dX9_learnt_41 : decode cX9_learnt 41 = .ok (.iload 4, 2) := by decide +kernel
theorem dX9_learnt_43 : decode cX9_learnt 43 = .ok (.iconst 4, 1) := by decide +kernel
theorem dX9_learnt_44 : decode cX9_learnt 44 = .ok (.if_icmp .le 6, 3) := by decide +kernel
theorem dX9_learnt_47 : decode cX9_learnt 47 = .ok (.ldc 76, 2) := by decide +kernel
theorem dX9_learnt_49 : decode cX9_learnt 49 = .ok (.ireturn, 1) := by decide +kernel
theorem dX9_learnt_50 : decode cX9_learnt 50 = .ok (.aload_n 0, 1) := by decide +kernel
theorem dX9_learnt_51 : decode cX9_learnt 51 = .ok (.iload_n 1, 1) := by decide +kernel
theorem dX9_learnt_52 : decode cX9_learnt 52 = .ok (.iload_n 2, 1) := by decide +kernel
theorem dX9_learnt_53 : decode cX9_learnt 53 = .ok (.invokevirtual 165, 3) := by decide +kernel
theorem dX9_learnt_56 : decode cX9_learnt 56 = .ok (.istore 5, 2) := by decide +kernel
theorem dX9_learnt_58 : decode cX9_learnt 58 = .ok (.iload 5, 2) := by decide +kernel
theorem dX9_learnt_60 : decode cX9_learnt 60 = .ok (.iconst (-1), 1) := by decide +kernel
theorem dX9_learnt_61 : decode cX9_learnt 61 = .ok (.if_icmp .eq 9, 3) := by decide +kernel
theorem dX9_learnt_64 : decode cX9_learnt 64 = .ok (.iload 5, 2) := by decide +kernel
theorem dX9_learnt_66 : decode cX9_learnt 66 = .ok (.iload_n 3, 1) := by decide +kernel
theorem dX9_learnt_67 : decode cX9_learnt 67 = .ok (.if_icmp .le 5, 3) := by decide +kernel
theorem dX9_learnt_70 : decode cX9_learnt 70 = .ok (.iconst (-1), 1) := by decide +kernel
theorem dX9_learnt_71 : decode cX9_learnt 71 = .ok (.ireturn, 1) := by decide +kernel
theorem dX9_learnt_72 : decode cX9_learnt 72 = .ok (.aload_n 0, 1) := by decide +kernel
theorem dX9_learnt_73 : decode cX9_learnt 73 = .ok (.getfield 51, 3) := by decide +kernel
theorem dX9_learnt_76 : decode cX9_learnt 76 = .ok (.iload_n 1, 1) := by decide +kernel
theorem dX9_learnt_77 : decode cX9_learnt 77 = .ok (.iload_n 2, 1) := by decide +kernel
theorem dX9_learnt_78 : decode cX9_learnt 78 = .ok (.iload_n 3, 1) := by decide +kernel
theorem dX9_learnt_79 : decode cX9_learnt 79 = .ok (.invokevirtual 253, 3) := by decide +kernel
theorem dX9_learnt_82 : decode cX9_learnt 82 = .ok (.aload_n 0, 1) := by decide +kernel
theorem dX9_learnt_83 : decode cX9_learnt 83 = .ok (.getfield 51, 3) := by decide +kernel
theorem dX9_learnt_86 : decode cX9_learnt 86 = .ok (.getfield 256, 3) := by decide +kernel
theorem dX9_learnt_89 : decode cX9_learnt 89 = .ok (.iconst (-1), 1) := by decide +kernel
theorem dX9_learnt_90 : decode cX9_learnt 90 = .ok (.if_icmp .ne 10, 3) := by decide +kernel
theorem dX9_learnt_93 : decode cX9_learnt 93 = .ok (.aload_n 0, 1) := by decide +kernel
theorem dX9_learnt_94 : decode cX9_learnt 94 = .ok (.getfield 51, 3) := by decide +kernel
theorem dX9_learnt_97 : decode cX9_learnt 97 = .ok (.invokevirtual 259, 3) := by decide +kernel
theorem dX9_learnt_100 : decode cX9_learnt 100 = .ok (.aload_n 0, 1) := by decide +kernel
theorem dX9_learnt_101 : decode cX9_learnt 101 = .ok (.getfield 51, 3) := by decide +kernel
theorem dX9_learnt_104 : decode cX9_learnt 104 = .ok (.getfield 256, 3) := by decide +kernel
theorem dX9_learnt_107 : decode cX9_learnt 107 = .ok (.iconst (-1), 1) := by decide +kernel
theorem dX9_learnt_108 : decode cX9_learnt 108 = .ok (.if_icmp .ne 10, 3) := by decide +kernel
theorem dX9_learnt_111 : decode cX9_learnt 111 = .ok (.aload_n 0, 1) := by decide +kernel
theorem dX9_learnt_112 : decode cX9_learnt 112 = .ok (.getfield 51, 3) := by decide +kernel
theorem dX9_learnt_115 : decode cX9_learnt 115 = .ok (.invokevirtual 262, 3) := by decide +kernel
theorem dX9_learnt_118 : decode cX9_learnt 118 = .ok (.aload_n 0, 1) := by decide +kernel
theorem dX9_learnt_119 : decode cX9_learnt 119 = .ok (.getfield 51, 3) := by decide +kernel
theorem dX9_learnt_122 : decode cX9_learnt 122 = .ok (.iload 4, 2) := by decide +kernel
theorem dX9_learnt_124 : decode cX9_learnt 124 = .ok (.invokevirtual 265, 3) := by decide +kernel
theorem dX9_learnt_127 : decode cX9_learnt 127 = .ok (.ireturn, 1) := by decide +kernel
theorem dX9_missing_0 : decode cX9_missing 0 = .ok (.aload_n 0, 1) := by decide +kernel
theorem dX9_missing_1 : decode cX9_missing 1 = .ok (.getfield 26, 3) := by decide +kernel
theorem dX9_missing_4 : decode cX9_missing 4 = .ok (.iload_n 1, 1) := by decide +kernel
theorem dX9_missing_5 : decode cX9_missing 5 = .ok (.invokevirtual 144, 3) := by decide +kernel
theorem dX9_missing_8 : decode cX9_missing 8 = .ok (.ifCond .ne 6, 3) := by decide +kernel
theorem dX9_missing_11 : decode cX9_missing 11 = .ok (.ldc 129, 2) := by decide +kernel
theorem dX9_missing_13 : decode cX9_missing 13 = .ok (.ireturn, 1) := by decide +kernel
theorem dX9_missing_14 : decode cX9_missing 14 = .ok (.iload_n 2, 1) := by decide +kernel
theorem dX9_missing_15 : decode cX9_missing 15 = .ok (.ifCond .lt 10, 3) := by decide +kernel
theorem dX9_missing_18 : decode cX9_missing 18 = .ok (.iload_n 2, 1) := by decide +kernel
theorem dX9_missing_19 : decode cX9_missing 19 = .ok (.sipush 999, 3) := by decide +kernel
theorem dX9_missing_22 : decode cX9_missing 22 = .ok (.if_icmp .le 8, 3) := by decide +kernel
theorem dX9_missing_25 : decode cX9_missing 25 = .ok (.ldc 76, 2) := by decide +kernel
theorem dX9_missing_27 : decode cX9_missing 27 = .ok (.goto 9, 3) := by decide +kernel
theorem dX9_missing_30 : decode cX9_missing 30 = .ok (.aload_n 0, 1) := by decide +kernel
theorem dX9_missing_31 : decode cX9_missing 31 = .ok (.iload_n 1, 1) := by decide +kernel
theorem dX9_missing_32 : decode cX9_missing 32 = .ok (.iload_n 2, 1) := by decide +kernel
theorem dX9_missing_33 : decode cX9_missing 33 = .ok (.invokevirtual 268, 3) := by decide +kernel
theorem dX9_missing_36 : decode cX9_missing 36 = .ok (.ireturn, 1) := by decide +kernel
theorem dX9_lack_0 : decode cX9_lack 0 = .ok (.aload_n 0, 1) := by decide +kernel
theorem dX9_lack_1 : decode cX9_lack 1 = .ok (.getfield 26, 3) := by decide +kernel
theorem dX9_lack_4 : decode cX9_lack 4 = .ok (.iload_n 1, 1) := by decide +kernel
theorem dX9_lack_5 : decode cX9_lack 5 = .ok (.invokevirtual 144, 3) := by decide +kernel
theorem dX9_lack_8 : decode cX9_lack 8 = .ok (.ifCond .ne 6, 3) := by decide +kernel
theorem dX9_lack_11 : decode cX9_lack 11 = .ok (.ldc 129, 2) := by decide +kernel
theorem dX9_lack_13 : decode cX9_lack 13 = .ok (.ireturn, 1) := by decide +kernel
theorem dX9_lack_14 : decode cX9_lack 14 = .ok (.iload_n 2, 1) := by decide +kernel
theorem dX9_lack_15 : decode cX9_lack 15 = .ok (.ifCond .lt 10, 3) := by decide +kernel
theorem dX9_lack_18 : decode cX9_lack 18 = .ok (.iload_n 2, 1) := by decide +kernel
theorem dX9_lack_19 : decode cX9_lack 19 = .ok (.sipush 999, 3) := by decide +kernel
theorem dX9_lack_22 : decode cX9_lack 22 = .ok (.if_icmp .le 6, 3) := by decide +kernel
theorem dX9_lack_25 : decode cX9_lack 25 = .ok (.ldc 76, 2) := by decide +kernel
theorem dX9_lack_27 : decode cX9_lack 27 = .ok (.ireturn, 1) := by decide +kernel
theorem dX9_lack_28 : decode cX9_lack 28 = .ok (.aload_n 0, 1) := by decide +kernel
theorem dX9_lack_29 : decode cX9_lack 29 = .ok (.getfield 65, 3) := by decide +kernel
theorem dX9_lack_32 : decode cX9_lack 32 = .ok (.iload_n 1, 1) := by decide +kernel
theorem dX9_lack_33 : decode cX9_lack 33 = .ok (.iload_n 2, 1) := by decide +kernel
theorem dX9_lack_34 : decode cX9_lack 34 = .ok (.invokevirtual 271, 3) := by decide +kernel
theorem dX9_lack_37 : decode cX9_lack 37 = .ok (.ireturn, 1) := by decide +kernel
theorem dX9_fits_0 : decode cX9_fits 0 = .ok (.iconst 0, 1) := by decide +kernel
theorem dX9_fits_1 : decode cX9_fits 1 = .ok (.istore_n 1, 1) := by decide +kernel
theorem dX9_fits_2 : decode cX9_fits 2 = .ok (.iload_n 1, 1) := by decide +kernel
theorem dX9_fits_3 : decode cX9_fits 3 = .ok (.aload_n 0, 1) := by decide +kernel
theorem dX9_fits_4 : decode cX9_fits 4 = .ok (.getfield 65, 3) := by decide +kernel
theorem dX9_fits_7 : decode cX9_fits 7 = .ok (.getfield 122, 3) := by decide +kernel
theorem dX9_fits_10 : decode cX9_fits 10 = .ok (.if_icmp .ge 40, 3) := by decide +kernel
theorem dX9_fits_13 : decode cX9_fits 13 = .ok (.aload_n 0, 1) := by decide +kernel
theorem dX9_fits_14 : decode cX9_fits 14 = .ok (.aload_n 0, 1) := by decide +kernel
theorem dX9_fits_15 : decode cX9_fits 15 = .ok (.getfield 65, 3) := by decide +kernel
theorem dX9_fits_18 : decode cX9_fits 18 = .ok (.getfield 274, 3) := by decide +kernel
theorem dX9_fits_21 : decode cX9_fits 21 = .ok (.iload_n 1, 1) := by decide +kernel
theorem dX9_fits_22 : decode cX9_fits 22 = .ok (.invokestatic 134, 3) := by decide +kernel
theorem dX9_fits_25 : decode cX9_fits 25 = .ok (.aload_n 0, 1) := by decide +kernel
theorem dX9_fits_26 : decode cX9_fits 26 = .ok (.getfield 65, 3) := by decide +kernel
theorem dX9_fits_29 : decode cX9_fits 29 = .ok (.getfield 277, 3) := by decide +kernel
theorem dX9_fits_32 : decode cX9_fits 32 = .ok (.iload_n 1, 1) := by decide +kernel
theorem dX9_fits_33 : decode cX9_fits 33 = .ok (.invokestatic 134, 3) := by decide +kernel
theorem dX9_fits_36 : decode cX9_fits 36 = .ok (.invokevirtual 268, 3) := by decide +kernel
theorem dX9_fits_39 : decode cX9_fits 39 = .ok (.ifCond .ne 5, 3) := by decide +kernel
theorem dX9_fits_42 : decode cX9_fits 42 = .ok (.iconst 0, 1) := by decide +kernel
theorem dX9_fits_43 : decode cX9_fits 43 = .ok (.ireturn, 1) := by decide +kernel
theorem dX9_fits_44 : decode cX9_fits 44 = .ok (.iinc 1 1, 3) := by decide +kernel
theorem dX9_fits_47 : decode cX9_fits 47 = .ok (.goto (-45), 3) := by decide +kernel
theorem dX9_fits_50 : decode cX9_fits 50 = .ok (.iconst 1, 1) := by decide +kernel
theorem dX9_fits_51 : decode cX9_fits 51 = .ok (.ireturn, 1) := by decide +kernel
theorem dX9_log_0 : decode cX9_log 0 = .ok (.aload_n 0, 1) := by decide +kernel
theorem dX9_log_1 : decode cX9_log 1 = .ok (.getfield 26, 3) := by decide +kernel
theorem dX9_log_4 : decode cX9_log 4 = .ok (.iload_n 1, 1) := by decide +kernel
theorem dX9_log_5 : decode cX9_log 5 = .ok (.invokevirtual 144, 3) := by decide +kernel
theorem dX9_log_8 : decode cX9_log 8 = .ok (.ifCond .eq 26, 3) := by decide +kernel
theorem dX9_log_11 : decode cX9_log 11 = .ok (.aload_n 0, 1) := by decide +kernel
theorem dX9_log_12 : decode cX9_log 12 = .ok (.getfield 26, 3) := by decide +kernel
theorem dX9_log_15 : decode cX9_log 15 = .ok (.iload_n 2, 1) := by decide +kernel
theorem dX9_log_16 : decode cX9_log 16 = .ok (.invokevirtual 162, 3) := by decide +kernel
theorem dX9_log_19 : decode cX9_log 19 = .ok (.ifCond .eq 15, 3) := by decide +kernel
theorem dX9_log_22 : decode cX9_log 22 = .ok (.aload_n 0, 1) := by decide +kernel
theorem dX9_log_23 : decode cX9_log 23 = .ok (.getfield 26, 3) := by decide +kernel
theorem dX9_log_26 : decode cX9_log 26 = .ok (.iload 4, 2) := by decide +kernel
theorem dX9_log_28 : decode cX9_log 28 = .ok (.invokevirtual 162, 3) := by decide +kernel
theorem dX9_log_31 : decode cX9_log 31 = .ok (.ifCond .ne 6, 3) := by decide +kernel
theorem dX9_log_34 : decode cX9_log 34 = .ok (.ldc 129, 2) := by decide +kernel
theorem dX9_log_36 : decode cX9_log 36 = .ok (.ireturn, 1) := by decide +kernel
theorem dX9_log_37 : decode cX9_log 37 = .ok (.iload_n 3, 1) := by decide +kernel
theorem dX9_log_38 : decode cX9_log 38 = .ok (.ifCond .lt 9, 3) := by decide +kernel
theorem dX9_log_41 : decode cX9_log 41 = .ok (.iload_n 3, 1) := by decide +kernel
theorem dX9_log_42 : decode cX9_log 42 = .ok (.bipush 9, 2) := by decide +kernel
theorem dX9_log_44 : decode cX9_log 44 = .ok (.if_icmp .le 6, 3) := by decide +kernel
theorem dX9_log_47 : decode cX9_log 47 = .ok (.ldc 76, 2) := by decide +kernel
theorem dX9_log_49 : decode cX9_log 49 = .ok (.ireturn, 1) := by decide +kernel
theorem dX9_log_50 : decode cX9_log 50 = .ok (.aload_n 0, 1) := by decide +kernel
theorem dX9_log_51 : decode cX9_log 51 = .ok (.getfield 65, 3) := by decide +kernel
theorem dX9_log_54 : decode cX9_log 54 = .ok (.iload_n 1, 1) := by decide +kernel
theorem dX9_log_55 : decode cX9_log 55 = .ok (.iload_n 2, 1) := by decide +kernel
theorem dX9_log_56 : decode cX9_log 56 = .ok (.iload_n 3, 1) := by decide +kernel
theorem dX9_log_57 : decode cX9_log 57 = .ok (.iload 4, 2) := by decide +kernel
theorem dX9_log_59 : decode cX9_log 59 = .ok (.invokevirtual 280, 3) := by decide +kernel
theorem dX9_log_62 : decode cX9_log 62 = .ok (.ireturn, 1) := by decide +kernel
theorem dX9_clear_0 : decode cX9_clear 0 = .ok (.aload_n 0, 1) := by decide +kernel
theorem dX9_clear_1 : decode cX9_clear 1 = .ok (.getfield 65, 3) := by decide +kernel
theorem dX9_clear_4 : decode cX9_clear 4 = .ok (.getfield 119, 3) := by decide +kernel
theorem dX9_clear_7 : decode cX9_clear 7 = .ok (.aload_n 0, 1) := by decide +kernel
theorem dX9_clear_8 : decode cX9_clear 8 = .ok (.getfield 65, 3) := by decide +kernel
theorem dX9_clear_11 : decode cX9_clear 11 = .ok (.getfield 122, 3) := by decide +kernel
theorem dX9_clear_14 : decode cX9_clear 14 = .ok (.iadd, 1) := by decide +kernel
theorem dX9_clear_15 : decode cX9_clear 15 = .ok (.istore_n 1, 1) := by decide +kernel
theorem dX9_clear_16 : decode cX9_clear 16 = .ok (.aload_n 0, 1) := by decide +kernel
theorem dX9_clear_17 : decode cX9_clear 17 = .ok (.getfield 65, 3) := by decide +kernel
theorem dX9_clear_20 : decode cX9_clear 20 = .ok (.invokevirtual 97, 3) := by decide +kernel
theorem dX9_clear_23 : decode cX9_clear 23 = .ok (.iload_n 1, 1) := by decide +kernel
theorem dX9_clear_24 : decode cX9_clear 24 = .ok (.ireturn, 1) := by decide +kernel
theorem dX9_judge_0 : decode cX9_judge 0 = .ok (.iconst 0, 1) := by decide +kernel
theorem dX9_judge_1 : decode cX9_judge 1 = .ok (.istore_n 1, 1) := by decide +kernel
theorem dX9_judge_2 : decode cX9_judge 2 = .ok (.iload_n 1, 1) := by decide +kernel
theorem dX9_judge_3 : decode cX9_judge 3 = .ok (.aload_n 0, 1) := by decide +kernel
theorem dX9_judge_4 : decode cX9_judge 4 = .ok (.getfield 65, 3) := by decide +kernel
theorem dX9_judge_7 : decode cX9_judge 7 = .ok (.getfield 119, 3) := by decide +kernel
theorem dX9_judge_10 : decode cX9_judge 10 = .ok (.if_icmp .ge 115, 3) := by decide +kernel
theorem dX9_judge_13 : decode cX9_judge 13 = .ok (.aload_n 0, 1) := by decide +kernel
theorem dX9_judge_14 : decode cX9_judge 14 = .ok (.getfield 65, 3) := by decide +kernel
theorem dX9_judge_17 : decode cX9_judge 17 = .ok (.getfield 283, 3) := by decide +kernel
theorem dX9_judge_20 : decode cX9_judge 20 = .ok (.iload_n 1, 1) := by decide +kernel
theorem dX9_judge_21 : decode cX9_judge 21 = .ok (.invokestatic 134, 3) := by decide +kernel
theorem dX9_judge_24 : decode cX9_judge 24 = .ok (.istore_n 2, 1) := by decide +kernel
theorem dX9_judge_25 : decode cX9_judge 25 = .ok (.aload_n 0, 1) := by decide +kernel
theorem dX9_judge_26 : decode cX9_judge 26 = .ok (.getfield 65, 3) := by decide +kernel
theorem dX9_judge_29 : decode cX9_judge 29 = .ok (.getfield 285, 3) := by decide +kernel
theorem dX9_judge_32 : decode cX9_judge 32 = .ok (.iload_n 1, 1) := by decide +kernel
theorem dX9_judge_33 : decode cX9_judge 33 = .ok (.invokestatic 134, 3) := by decide +kernel
theorem dX9_judge_36 : decode cX9_judge 36 = .ok (.istore_n 3, 1) := by decide +kernel
theorem dX9_judge_37 : decode cX9_judge 37 = .ok (.aload_n 0, 1) := by decide +kernel
theorem dX9_judge_38 : decode cX9_judge 38 = .ok (.iload_n 2, 1) := by decide +kernel
theorem dX9_judge_39 : decode cX9_judge 39 = .ok (.aload_n 0, 1) := by decide +kernel
theorem dX9_judge_40 : decode cX9_judge 40 = .ok (.getfield 26, 3) := by decide +kernel
theorem dX9_judge_43 : decode cX9_judge 43 = .ok (.getfield 147, 3) := by decide +kernel
theorem dX9_judge_46 : decode cX9_judge 46 = .ok (.iload_n 2, 1) := by decide +kernel
theorem dX9_judge_47 : decode cX9_judge 47 = .ok (.invokestatic 134, 3) := by decide +kernel
theorem dX9_judge_50 : decode cX9_judge 50 = .ok (.aload_n 0, 1) := by decide +kernel
theorem dX9_judge_51 : decode cX9_judge 51 = .ok (.getfield 65, 3) := by decide +kernel
theorem dX9_judge_54 : decode cX9_judge 54 = .ok (.getfield 287, 3) := by decide +kernel
theorem dX9_judge_57 : decode cX9_judge 57 = .ok (.iload_n 1, 1) := by decide +kernel
theorem dX9_judge_58 : decode cX9_judge 58 = .ok (.invokestatic 134, 3) := by decide +kernel
theorem dX9_judge_61 : decode cX9_judge 61 = .ok (.invokevirtual 177, 3) := by decide +kernel
theorem dX9_judge_64 : decode cX9_judge 64 = .ok (.iload_n 3, 1) := by decide +kernel
theorem dX9_judge_65 : decode cX9_judge 65 = .ok (.iconst 0, 1) := by decide +kernel
theorem dX9_judge_66 : decode cX9_judge 66 = .ok (.aload_n 0, 1) := by decide +kernel
theorem dX9_judge_67 : decode cX9_judge 67 = .ok (.getfield 33, 3) := by decide +kernel
theorem dX9_judge_70 : decode cX9_judge 70 = .ok (.getfield 181, 3) := by decide +kernel
theorem dX9_judge_73 : decode cX9_judge 73 = .ok (.invokestatic 290, 3) := by decide +kernel
theorem dX9_judge_76 : decode cX9_judge 76 = .ok (.if_icmp .le 7, 3) := by decide +kernel
theorem dX9_judge_79 : decode cX9_judge 79 = .ok (.iconst 1, 1) := by decide +kernel
theorem dX9_judge_80 : decode cX9_judge 80 = .ok (.goto 4, 3) := by decide +kernel
theorem dX9_judge_83 : decode cX9_judge 83 = .ok (.iconst 0, 1) := by decide +kernel
theorem dX9_judge_84 : decode cX9_judge 84 = .ok (.istore 4, 2) := by decide +kernel
theorem dX9_judge_86 : decode cX9_judge 86 = .ok (.iload 4, 2) := by decide +kernel
theorem dX9_judge_88 : decode cX9_judge 88 = .ok (.ifCond .ne 29, 3) := by decide +kernel
theorem dX9_judge_91 : decode cX9_judge 91 = .ok (.aload_n 0, 1) := by decide +kernel
theorem dX9_judge_92 : decode cX9_judge 92 = .ok (.getfield 33, 3) := by decide +kernel
theorem dX9_judge_95 : decode cX9_judge 95 = .ok (.aload_n 0, 1) := by decide +kernel
theorem dX9_judge_96 : decode cX9_judge 96 = .ok (.getfield 116, 3) := by decide +kernel
theorem dX9_judge_99 : decode cX9_judge 99 = .ok (.iload_n 3, 1) := by decide +kernel
theorem dX9_judge_100 : decode cX9_judge 100 = .ok (.invokevirtual 194, 3) := by decide +kernel
theorem dX9_judge_103 : decode cX9_judge 103 = .ok (.aload_n 0, 1) := by decide +kernel
theorem dX9_judge_104 : decode cX9_judge 104 = .ok (.getfield 65, 3) := by decide +kernel
theorem dX9_judge_107 : decode cX9_judge 107 = .ok (.getfield 295, 3) := by decide +kernel
theorem dX9_judge_110 : decode cX9_judge 110 = .ok (.iload_n 1, 1) := by decide +kernel
theorem dX9_judge_111 : decode cX9_judge 111 = .ok (.invokestatic 134, 3) := by decide +kernel
theorem dX9_judge_114 : decode cX9_judge 114 = .ok (.if_icmp .eq 5, 3) := by decide +kernel
theorem dX9_judge_117 : decode cX9_judge 117 = .ok (.iload_n 1, 1) := by decide +kernel
theorem dX9_judge_118 : decode cX9_judge 118 = .ok (.ireturn, 1) := by decide +kernel
theorem dX9_judge_119 : decode cX9_judge 119 = .ok (.iinc 1 1, 3) := by decide +kernel
theorem dX9_judge_122 : decode cX9_judge 122 = .ok (.goto (-120), 3) := by decide +kernel
theorem dX9_judge_125 : decode cX9_judge 125 = .ok (.iconst (-1), 1) := by decide +kernel
theorem dX9_judge_126 : decode cX9_judge 126 = .ok (.ireturn, 1) := by decide +kernel
theorem dX9_drift_0 : decode cX9_drift 0 = .ok (.iload_n 1, 1) := by decide +kernel
theorem dX9_drift_1 : decode cX9_drift 1 = .ok (.iconst 1, 1) := by decide +kernel
theorem dX9_drift_2 : decode cX9_drift 2 = .ok (.if_icmp .lt 18, 3) := by decide +kernel
theorem dX9_drift_5 : decode cX9_drift 5 = .ok (.iload_n 1, 1) := by decide +kernel
theorem dX9_drift_6 : decode cX9_drift 6 = .ok (.bipush 99, 2) := by decide +kernel
theorem dX9_drift_8 : decode cX9_drift 8 = .ok (.if_icmp .gt 12, 3) := by decide +kernel
theorem dX9_drift_11 : decode cX9_drift 11 = .ok (.iload_n 2, 1) := by decide +kernel
theorem dX9_drift_12 : decode cX9_drift 12 = .ok (.ifCond .lt 8, 3) := by decide +kernel
theorem dX9_drift_15 : decode cX9_drift 15 = .ok (.iload_n 2, 1) := by decide +kernel
theorem dX9_drift_16 : decode cX9_drift 16 = .ok (.iconst 1, 1) := by decide +kernel
theorem dX9_drift_17 : decode cX9_drift 17 = .ok (.if_icmp .le 6, 3) := by decide +kernel
theorem dX9_drift_20 : decode cX9_drift 20 = .ok (.ldc 76, 2) := by decide +kernel
theorem dX9_drift_22 : decode cX9_drift 22 = .ok (.ireturn, 1) := by decide +kernel
theorem dX9_drift_23 : decode cX9_drift 23 = .ok (.aload_n 0, 1) := by decide +kernel
theorem dX9_drift_24 : decode cX9_drift 24 = .ok (.getfield 26, 3) := by decide +kernel
theorem dX9_drift_27 : decode cX9_drift 27 = .ok (.getfield 104, 3) := by decide +kernel
theorem dX9_drift_30 : decode cX9_drift 30 = .ok (.ifCond .ne 7, 3) := by decide +kernel
theorem dX9_drift_33 : decode cX9_drift 33 = .ok (.ldc_w 298, 3) := by decide +kernel
theorem dX9_drift_36 : decode cX9_drift 36 = .ok (.ireturn, 1) := by decide +kernel
theorem dX9_drift_37 : decode cX9_drift 37 = .ok (.iconst 0, 1) := by decide +kernel
theorem dX9_drift_38 : decode cX9_drift 38 = .ok (.istore_n 3, 1) := by decide +kernel
theorem dX9_drift_39 : decode cX9_drift 39 = .ok (.iconst 0, 1) := by decide +kernel
theorem dX9_drift_40 : decode cX9_drift 40 = .ok (.istore 4, 2) := by decide +kernel
theorem dX9_drift_42 : decode cX9_drift 42 = .ok (.iconst 0, 1) := by decide +kernel
theorem dX9_drift_43 : decode cX9_drift 43 = .ok (.istore 5, 2) := by decide +kernel
theorem dX9_drift_45 : decode cX9_drift 45 = .ok (.iconst 0, 1) := by decide +kernel
theorem dX9_drift_46 : decode cX9_drift 46 = .ok (.istore 6, 2) := by decide +kernel
theorem dX9_drift_48 : decode cX9_drift 48 = .ok (.iload 6, 2) := by decide +kernel
theorem dX9_drift_50 : decode cX9_drift 50 = .ok (.iload_n 1, 1) := by decide +kernel
theorem dX9_drift_51 : decode cX9_drift 51 = .ok (.if_icmp .ge 115, 3) := by decide +kernel
theorem dX9_drift_54 : decode cX9_drift 54 = .ok (.aload_n 0, 1) := by decide +kernel
theorem dX9_drift_55 : decode cX9_drift 55 = .ok (.getfield 58, 3) := by decide +kernel
theorem dX9_drift_58 : decode cX9_drift 58 = .ok (.aload_n 0, 1) := by decide +kernel
theorem dX9_drift_59 : decode cX9_drift 59 = .ok (.getfield 26, 3) := by decide +kernel
theorem dX9_drift_62 : decode cX9_drift 62 = .ok (.getfield 104, 3) := by decide +kernel
theorem dX9_drift_65 : decode cX9_drift 65 = .ok (.invokevirtual 299, 3) := by decide +kernel
theorem dX9_drift_68 : decode cX9_drift 68 = .ok (.istore 7, 2) := by decide +kernel
theorem dX9_drift_70 : decode cX9_drift 70 = .ok (.aload_n 0, 1) := by decide +kernel
theorem dX9_drift_71 : decode cX9_drift 71 = .ok (.getfield 58, 3) := by decide +kernel
theorem dX9_drift_74 : decode cX9_drift 74 = .ok (.aload_n 0, 1) := by decide +kernel
theorem dX9_drift_75 : decode cX9_drift 75 = .ok (.getfield 26, 3) := by decide +kernel
theorem dX9_drift_78 : decode cX9_drift 78 = .ok (.getfield 104, 3) := by decide +kernel
theorem dX9_drift_81 : decode cX9_drift 81 = .ok (.invokevirtual 299, 3) := by decide +kernel
theorem dX9_drift_84 : decode cX9_drift 84 = .ok (.istore 8, 2) := by decide +kernel
theorem dX9_drift_86 : decode cX9_drift 86 = .ok (.iload 5, 2) := by decide +kernel
theorem dX9_drift_88 : decode cX9_drift 88 = .ok (.iload 8, 2) := by decide +kernel
theorem dX9_drift_90 : decode cX9_drift 90 = .ok (.ishr, 1) := by decide +kernel
theorem dX9_drift_91 : decode cX9_drift 91 = .ok (.iconst 1, 1) := by decide +kernel
theorem dX9_drift_92 : decode cX9_drift 92 = .ok (.iand, 1) := by decide +kernel
theorem dX9_drift_93 : decode cX9_drift 93 = .ok (.iconst 1, 1) := by decide +kernel
theorem dX9_drift_94 : decode cX9_drift 94 = .ok (.if_icmp .ne 12, 3) := by decide +kernel
theorem dX9_drift_97 : decode cX9_drift 97 = .ok (.aload_n 0, 1) := by decide +kernel
theorem dX9_drift_98 : decode cX9_drift 98 = .ok (.iload 8, 2) := by decide +kernel
theorem dX9_drift_100 : decode cX9_drift 100 = .ok (.invokevirtual 302, 3) := by decide +kernel
theorem dX9_drift_103 : decode cX9_drift 103 = .ok (.goto 10, 3) := by decide +kernel
theorem dX9_drift_106 : decode cX9_drift 106 = .ok (.aload_n 0, 1) := by decide +kernel
theorem dX9_drift_107 : decode cX9_drift 107 = .ok (.iload 8, 2) := by decide +kernel
theorem dX9_drift_109 : decode cX9_drift 109 = .ok (.iconst 0, 1) := by decide +kernel
theorem dX9_drift_110 : decode cX9_drift 110 = .ok (.invokevirtual 208, 3) := by decide +kernel
theorem dX9_drift_113 : decode cX9_drift 113 = .ok (.astore 9, 2) := by decide +kernel
theorem dX9_drift_115 : decode cX9_drift 115 = .ok (.iload 5, 2) := by decide +kernel
theorem dX9_drift_117 : decode cX9_drift 117 = .ok (.iconst 1, 1) := by decide +kernel
theorem dX9_drift_118 : decode cX9_drift 118 = .ok (.iload 8, 2) := by decide +kernel
theorem dX9_drift_120 : decode cX9_drift 120 = .ok (.ishl, 1) := by decide +kernel
theorem dX9_drift_121 : decode cX9_drift 121 = .ok (.ior, 1) := by decide +kernel
theorem dX9_drift_122 : decode cX9_drift 122 = .ok (.istore 5, 2) := by decide +kernel
theorem dX9_drift_124 : decode cX9_drift 124 = .ok (.aload 9, 2) := by decide +kernel
theorem dX9_drift_126 : decode cX9_drift 126 = .ok (.iload 7, 2) := by decide +kernel
theorem dX9_drift_128 : decode cX9_drift 128 = .ok (.iload 8, 2) := by decide +kernel
theorem dX9_drift_130 : decode cX9_drift 130 = .ok (.aload_n 0, 1) := by decide +kernel
theorem dX9_drift_131 : decode cX9_drift 131 = .ok (.getfield 58, 3) := by decide +kernel
theorem dX9_drift_134 : decode cX9_drift 134 = .ok (.invokevirtual 212, 3) := by decide +kernel
theorem dX9_drift_137 : decode cX9_drift 137 = .ok (.aload 9, 2) := by decide +kernel
theorem dX9_drift_139 : decode cX9_drift 139 = .ok (.getfield 219, 3) := by decide +kernel
theorem dX9_drift_142 : decode cX9_drift 142 = .ok (.iload 8, 2) := by decide +kernel
theorem dX9_drift_144 : decode cX9_drift 144 = .ok (.if_icmp .ne 16, 3) := by decide +kernel
theorem dX9_drift_147 : decode cX9_drift 147 = .ok (.iinc 3 1, 3) := by decide +kernel
theorem dX9_drift_150 : decode cX9_drift 150 = .ok (.iload 4, 2) := by decide +kernel
theorem dX9_drift_152 : decode cX9_drift 152 = .ok (.aload 9, 2) := by decide +kernel
theorem dX9_drift_154 : decode cX9_drift 154 = .ok (.getfield 216, 3) := by decide +kernel
theorem dX9_drift_157 : decode cX9_drift 157 = .ok (.iadd, 1) := by decide +kernel
theorem dX9_drift_158 : decode cX9_drift 158 = .ok (.istore 4, 2) := by decide +kernel
theorem dX9_drift_160 : decode cX9_drift 160 = .ok (.iinc 6 1, 3) := by decide +kernel
theorem dX9_drift_163 : decode cX9_drift 163 = .ok (.goto (-115), 3) := by decide +kernel
theorem dX9_drift_166 : decode cX9_drift 166 = .ok (.iload_n 2, 1) := by decide +kernel
theorem dX9_drift_167 : decode cX9_drift 167 = .ok (.ifCond .ne 7, 3) := by decide +kernel
theorem dX9_drift_170 : decode cX9_drift 170 = .ok (.iload_n 3, 1) := by decide +kernel
theorem dX9_drift_171 : decode cX9_drift 171 = .ok (.goto 5, 3) := by decide +kernel
theorem dX9_drift_174 : decode cX9_drift 174 = .ok (.iload 4, 2) := by decide +kernel
theorem dX9_drift_176 : decode cX9_drift 176 = .ok (.ireturn, 1) := by decide +kernel
theorem dX9_seed_0 : decode cX9_seed 0 = .ok (.iload_n 1, 1) := by decide +kernel
theorem dX9_seed_1 : decode cX9_seed 1 = .ok (.ifCond .ge 6, 3) := by decide +kernel
theorem dX9_seed_4 : decode cX9_seed 4 = .ok (.ldc 76, 2) := by decide +kernel
theorem dX9_seed_6 : decode cX9_seed 6 = .ok (.ireturn, 1) := by decide +kernel
theorem dX9_seed_7 : decode cX9_seed 7 = .ok (.aload_n 0, 1) := by decide +kernel
theorem dX9_seed_8 : decode cX9_seed 8 = .ok (.getfield 58, 3) := by decide +kernel
theorem dX9_seed_11 : decode cX9_seed 11 = .ok (.getfield 306, 3) := by decide +kernel
theorem dX9_seed_14 : decode cX9_seed 14 = .ok (.istore_n 2, 1) := by decide +kernel
theorem dX9_seed_15 : decode cX9_seed 15 = .ok (.aload_n 0, 1) := by decide +kernel
theorem dX9_seed_16 : decode cX9_seed 16 = .ok (.getfield 58, 3) := by decide +kernel
theorem dX9_seed_19 : decode cX9_seed 19 = .ok (.iload_n 1, 1) := by decide +kernel
theorem dX9_seed_20 : decode cX9_seed 20 = .ok (.putfield 306, 3) := by decide +kernel
theorem dX9_seed_23 : decode cX9_seed 23 = .ok (.iload_n 2, 1) := by decide +kernel
theorem dX9_seed_24 : decode cX9_seed 24 = .ok (.ireturn, 1) := by decide +kernel
theorem dX9_keep_0 : decode cX9_keep 0 = .ok (.iload_n 1, 1) := by decide +kernel
theorem dX9_keep_1 : decode cX9_keep 1 = .ok (.ifCond .lt 12, 3) := by decide +kernel
theorem dX9_keep_4 : decode cX9_keep 4 = .ok (.iload_n 1, 1) := by decide +kernel
theorem dX9_keep_5 : decode cX9_keep 5 = .ok (.aload_n 0, 1) := by decide +kernel
theorem dX9_keep_6 : decode cX9_keep 6 = .ok (.getfield 71, 3) := by decide +kernel
theorem dX9_keep_9 : decode cX9_keep 9 = .ok (.arraylength, 1) := by decide +kernel
theorem dX9_keep_10 : decode cX9_keep 10 = .ok (.if_icmp .lt 6, 3) := by decide +kernel
theorem dX9_keep_13 : decode cX9_keep 13 = .ok (.ldc 129, 2) := by decide +kernel
theorem dX9_keep_15 : decode cX9_keep 15 = .ok (.ireturn, 1) := by decide +kernel
theorem dX9_keep_16 : decode cX9_keep 16 = .ok (.aload_n 0, 1) := by decide +kernel
theorem dX9_keep_17 : decode cX9_keep 17 = .ok (.getfield 71, 3) := by decide +kernel
theorem dX9_keep_20 : decode cX9_keep 20 = .ok (.iload_n 1, 1) := by decide +kernel
theorem dX9_keep_21 : decode cX9_keep 21 = .ok (.aaload, 1) := by decide +kernel
theorem dX9_keep_22 : decode cX9_keep 22 = .ok (.astore_n 2, 1) := by decide +kernel
theorem dX9_keep_23 : decode cX9_keep 23 = .ok (.aload_n 0, 1) := by decide +kernel
theorem dX9_keep_24 : decode cX9_keep 24 = .ok (.getfield 26, 3) := by decide +kernel
theorem dX9_keep_27 : decode cX9_keep 27 = .ok (.getfield 159, 3) := by decide +kernel
theorem dX9_keep_30 : decode cX9_keep 30 = .ok (.aload_n 2, 1) := by decide +kernel
theorem dX9_keep_31 : decode cX9_keep 31 = .ok (.getfield 309, 3) := by decide +kernel
theorem dX9_keep_34 : decode cX9_keep 34 = .ok (.invokestatic 310, 3) := by decide +kernel
theorem dX9_keep_37 : decode cX9_keep 37 = .ok (.aload_n 0, 1) := by decide +kernel
theorem dX9_keep_38 : decode cX9_keep 38 = .ok (.getfield 26, 3) := by decide +kernel
theorem dX9_keep_41 : decode cX9_keep 41 = .ok (.getfield 156, 3) := by decide +kernel
theorem dX9_keep_44 : decode cX9_keep 44 = .ok (.aload_n 2, 1) := by decide +kernel
theorem dX9_keep_45 : decode cX9_keep 45 = .ok (.getfield 314, 3) := by decide +kernel
theorem dX9_keep_48 : decode cX9_keep 48 = .ok (.invokestatic 310, 3) := by decide +kernel
theorem dX9_keep_51 : decode cX9_keep 51 = .ok (.aload_n 2, 1) := by decide +kernel
theorem dX9_keep_52 : decode cX9_keep 52 = .ok (.aload_n 0, 1) := by decide +kernel
theorem dX9_keep_53 : decode cX9_keep 53 = .ok (.getfield 116, 3) := by decide +kernel
theorem dX9_keep_56 : decode cX9_keep 56 = .ok (.putfield 315, 3) := by decide +kernel
theorem dX9_keep_59 : decode cX9_keep 59 = .ok (.aload_n 2, 1) := by decide +kernel
theorem dX9_keep_60 : decode cX9_keep 60 = .ok (.aload_n 0, 1) := by decide +kernel
theorem dX9_keep_61 : decode cX9_keep 61 = .ok (.getfield 58, 3) := by decide +kernel
theorem dX9_keep_64 : decode cX9_keep 64 = .ok (.getfield 306, 3) := by decide +kernel
theorem dX9_keep_67 : decode cX9_keep 67 = .ok (.putfield 316, 3) := by decide +kernel
theorem dX9_keep_70 : decode cX9_keep 70 = .ok (.aload_n 2, 1) := by decide +kernel
theorem dX9_keep_71 : decode cX9_keep 71 = .ok (.iconst 1, 1) := by decide +kernel
theorem dX9_keep_72 : decode cX9_keep 72 = .ok (.putfield 100, 3) := by decide +kernel
theorem dX9_keep_75 : decode cX9_keep 75 = .ok (.iconst 1, 1) := by decide +kernel
theorem dX9_keep_76 : decode cX9_keep 76 = .ok (.ireturn, 1) := by decide +kernel
theorem dX9_goBack_0 : decode cX9_goBack 0 = .ok (.iload_n 1, 1) := by decide +kernel
theorem dX9_goBack_1 : decode cX9_goBack 1 = .ok (.ifCond .lt 12, 3) := by decide +kernel
theorem dX9_goBack_4 : decode cX9_goBack 4 = .ok (.iload_n 1, 1) := by decide +kernel
theorem dX9_goBack_5 : decode cX9_goBack 5 = .ok (.aload_n 0, 1) := by decide +kernel
theorem dX9_goBack_6 : decode cX9_goBack 6 = .ok (.getfield 71, 3) := by decide +kernel
theorem dX9_goBack_9 : decode cX9_goBack 9 = .ok (.arraylength, 1) := by decide +kernel
theorem dX9_goBack_10 : decode cX9_goBack 10 = .ok (.if_icmp .lt 6, 3) := by decide +kernel
theorem dX9_goBack_13 : decode cX9_goBack 13 = .ok (.ldc 129, 2) := by decide +kernel
theorem dX9_goBack_15 : decode cX9_goBack 15 = .ok (.ireturn, 1) := by decide +kernel
theorem dX9_goBack_16 : decode cX9_goBack 16 = .ok (.aload_n 0, 1) := by decide +kernel
theorem dX9_goBack_17 : decode cX9_goBack 17 = .ok (.getfield 71, 3) := by decide +kernel
theorem dX9_goBack_20 : decode cX9_goBack 20 = .ok (.iload_n 1, 1) := by decide +kernel
theorem dX9_goBack_21 : decode cX9_goBack 21 = .ok (.aaload, 1) := by decide +kernel
theorem dX9_goBack_22 : decode cX9_goBack 22 = .ok (.astore_n 2, 1) := by decide +kernel
theorem dX9_goBack_23 : decode cX9_goBack 23 = .ok (.aload_n 2, 1) := by decide +kernel
theorem dX9_goBack_24 : decode cX9_goBack 24 = .ok (.getfield 100, 3) := by decide +kernel
theorem dX9_goBack_27 : decode cX9_goBack 27 = .ok (.ifCond .ne 7, 3) := by decide +kernel
theorem dX9_goBack_30 : decode cX9_goBack 30 = .ok (.ldc_w 298, 3) := by decide +kernel
theorem dX9_goBack_33 : decode cX9_goBack 33 = .ok (.ireturn, 1) := by decide +kernel
theorem dX9_goBack_34 : decode cX9_goBack 34 = .ok (.aload_n 2, 1) := by decide +kernel
theorem dX9_goBack_35 : decode cX9_goBack 35 = .ok (.getfield 309, 3) := by decide +kernel
theorem dX9_goBack_38 : decode cX9_goBack 38 = .ok (.aload_n 0, 1) := by decide +kernel
theorem dX9_goBack_39 : decode cX9_goBack 39 = .ok (.getfield 26, 3) := by decide +kernel
theorem dX9_goBack_42 : decode cX9_goBack 42 = .ok (.getfield 159, 3) := by decide +kernel
theorem dX9_goBack_45 : decode cX9_goBack 45 = .ok (.invokestatic 310, 3) := by decide +kernel
theorem dX9_goBack_48 : decode cX9_goBack 48 = .ok (.aload_n 2, 1) := by decide +kernel
theorem dX9_goBack_49 : decode cX9_goBack 49 = .ok (.getfield 314, 3) := by decide +kernel
theorem dX9_goBack_52 : decode cX9_goBack 52 = .ok (.aload_n 0, 1) := by decide +kernel
theorem dX9_goBack_53 : decode cX9_goBack 53 = .ok (.getfield 26, 3) := by decide +kernel
theorem dX9_goBack_56 : decode cX9_goBack 56 = .ok (.getfield 156, 3) := by decide +kernel
theorem dX9_goBack_59 : decode cX9_goBack 59 = .ok (.invokestatic 310, 3) := by decide +kernel
theorem dX9_goBack_62 : decode cX9_goBack 62 = .ok (.aload_n 0, 1) := by decide +kernel
theorem dX9_goBack_63 : decode cX9_goBack 63 = .ok (.aload_n 2, 1) := by decide +kernel
theorem dX9_goBack_64 : decode cX9_goBack 64 = .ok (.getfield 315, 3) := by decide +kernel
theorem dX9_goBack_67 : decode cX9_goBack 67 = .ok (.putfield 116, 3) := by decide +kernel
theorem dX9_goBack_70 : decode cX9_goBack 70 = .ok (.aload_n 0, 1) := by decide +kernel
theorem dX9_goBack_71 : decode cX9_goBack 71 = .ok (.getfield 58, 3) := by decide +kernel
theorem dX9_goBack_74 : decode cX9_goBack 74 = .ok (.aload_n 2, 1) := by decide +kernel
theorem dX9_goBack_75 : decode cX9_goBack 75 = .ok (.getfield 316, 3) := by decide +kernel
theorem dX9_goBack_78 : decode cX9_goBack 78 = .ok (.putfield 306, 3) := by decide +kernel
theorem dX9_goBack_81 : decode cX9_goBack 81 = .ok (.iconst 1, 1) := by decide +kernel
theorem dX9_goBack_82 : decode cX9_goBack 82 = .ok (.ireturn, 1) := by decide +kernel
theorem dX9_canAsk_0 : decode cX9_canAsk 0 = .ok (.aload_n 0, 1) := by decide +kernel
theorem dX9_canAsk_1 : decode cX9_canAsk 1 = .ok (.getfield 26, 3) := by decide +kernel
theorem dX9_canAsk_4 : decode cX9_canAsk 4 = .ok (.iload_n 1, 1) := by decide +kernel
theorem dX9_canAsk_5 : decode cX9_canAsk 5 = .ok (.invokevirtual 144, 3) := by decide +kernel
theorem dX9_canAsk_8 : decode cX9_canAsk 8 = .ok (.ifCond .eq 29, 3) := by decide +kernel
theorem dX9_canAsk_11 : decode cX9_canAsk 11 = .ok (.aload_n 0, 1) := by decide +kernel
theorem dX9_canAsk_12 : decode cX9_canAsk 12 = .ok (.getfield 26, 3) := by decide +kernel
theorem dX9_canAsk_15 : decode cX9_canAsk 15 = .ok (.iload_n 2, 1) := by decide +kernel
theorem dX9_canAsk_16 : decode cX9_canAsk 16 = .ok (.invokevirtual 162, 3) := by decide +kernel
theorem dX9_canAsk_19 : decode cX9_canAsk 19 = .ok (.ifCond .eq 18, 3) := by decide +kernel
theorem dX9_canAsk_22 : decode cX9_canAsk 22 = .ok (.aload_n 0, 1) := by decide +kernel
theorem dX9_canAsk_23 : decode cX9_canAsk 23 = .ok (.getfield 26, 3) := by decide +kernel
theorem dX9_canAsk_26 : decode cX9_canAsk 26 = .ok (.iload_n 3, 1) := by decide +kernel
theorem dX9_canAsk_27 : decode cX9_canAsk 27 = .ok (.invokevirtual 162, 3) := by decide +kernel
theorem dX9_canAsk_30 : decode cX9_canAsk 30 = .ok (.ifCond .eq 7, 3) := by decide +kernel
theorem dX9_canAsk_33 : decode cX9_canAsk 33 = .ok (.iconst 1, 1) := by decide +kernel
theorem dX9_canAsk_34 : decode cX9_canAsk 34 = .ok (.goto 4, 3) := by decide +kernel
theorem dX9_canAsk_37 : decode cX9_canAsk 37 = .ok (.iconst 0, 1) := by decide +kernel
theorem dX9_canAsk_38 : decode cX9_canAsk 38 = .ok (.ireturn, 1) := by decide +kernel
theorem dX9_seekFor_0 : decode cX9_seekFor 0 = .ok (.aload_n 0, 1) := by decide +kernel
theorem dX9_seekFor_1 : decode cX9_seekFor 1 = .ok (.getfield 33, 3) := by decide +kernel
theorem dX9_seekFor_4 : decode cX9_seekFor 4 = .ok (.aload_n 0, 1) := by decide +kernel
theorem dX9_seekFor_5 : decode cX9_seekFor 5 = .ok (.getfield 26, 3) := by decide +kernel
theorem dX9_seekFor_8 : decode cX9_seekFor 8 = .ok (.aload_n 0, 1) := by decide +kernel
theorem dX9_seekFor_9 : decode cX9_seekFor 9 = .ok (.getfield 26, 3) := by decide +kernel
theorem dX9_seekFor_12 : decode cX9_seekFor 12 = .ok (.getfield 159, 3) := by decide +kernel
theorem dX9_seekFor_15 : decode cX9_seekFor 15 = .ok (.iload_n 1, 1) := by decide +kernel
theorem dX9_seekFor_16 : decode cX9_seekFor 16 = .ok (.invokestatic 134, 3) := by decide +kernel
theorem dX9_seekFor_19 : decode cX9_seekFor 19 = .ok (.iload_n 2, 1) := by decide +kernel
theorem dX9_seekFor_20 : decode cX9_seekFor 20 = .ok (.iload_n 3, 1) := by decide +kernel
theorem dX9_seekFor_21 : decode cX9_seekFor 21 = .ok (.invokevirtual 318, 3) := by decide +kernel
theorem dX9_seekFor_24 : decode cX9_seekFor 24 = .ok (.return_, 1) := by decide +kernel
theorem dX9_farBetween_0 : decode cX9_farBetween 0 = .ok (.aload_n 0, 1) := by decide +kernel
theorem dX9_farBetween_1 : decode cX9_farBetween 1 = .ok (.getfield 33, 3) := by decide +kernel
theorem dX9_farBetween_4 : decode cX9_farBetween 4 = .ok (.aload_n 0, 1) := by decide +kernel
theorem dX9_farBetween_5 : decode cX9_farBetween 5 = .ok (.getfield 26, 3) := by decide +kernel
theorem dX9_farBetween_8 : decode cX9_farBetween 8 = .ok (.iconst 1, 1) := by decide +kernel
theorem dX9_farBetween_9 : decode cX9_farBetween 9 = .ok (.aload_n 0, 1) := by decide +kernel
theorem dX9_farBetween_10 : decode cX9_farBetween 10 = .ok (.getfield 26, 3) := by decide +kernel
theorem dX9_farBetween_13 : decode cX9_farBetween 13 = .ok (.getfield 110, 3) := by decide +kernel
theorem dX9_farBetween_16 : decode cX9_farBetween 16 = .ok (.ishl, 1) := by decide +kernel
theorem dX9_farBetween_17 : decode cX9_farBetween 17 = .ok (.iconst 1, 1) := by decide +kernel
theorem dX9_farBetween_18 : decode cX9_farBetween 18 = .ok (.isub, 1) := by decide +kernel
theorem dX9_farBetween_19 : decode cX9_farBetween 19 = .ok (.iload_n 1, 1) := by decide +kernel
theorem dX9_farBetween_20 : decode cX9_farBetween 20 = .ok (.iload_n 2, 1) := by decide +kernel
theorem dX9_farBetween_21 : decode cX9_farBetween 21 = .ok (.invokevirtual 318, 3) := by decide +kernel
theorem dX9_farBetween_24 : decode cX9_farBetween 24 = .ok (.aload_n 0, 1) := by decide +kernel
theorem dX9_farBetween_25 : decode cX9_farBetween 25 = .ok (.getfield 33, 3) := by decide +kernel
theorem dX9_farBetween_28 : decode cX9_farBetween 28 = .ok (.getfield 181, 3) := by decide +kernel
theorem dX9_farBetween_31 : decode cX9_farBetween 31 = .ok (.iconst (-1), 1) := by decide +kernel
theorem dX9_farBetween_32 : decode cX9_farBetween 32 = .ok (.if_icmp .ne 7, 3) := by decide +kernel
theorem dX9_farBetween_35 : decode cX9_farBetween 35 = .ok (.iconst (-1), 1) := by decide +kernel
theorem dX9_farBetween_36 : decode cX9_farBetween 36 = .ok (.goto 17, 3) := by decide +kernel
theorem dX9_farBetween_39 : decode cX9_farBetween 39 = .ok (.aload_n 0, 1) := by decide +kernel
theorem dX9_farBetween_40 : decode cX9_farBetween 40 = .ok (.getfield 33, 3) := by decide +kernel
theorem dX9_farBetween_43 : decode cX9_farBetween 43 = .ok (.aload_n 0, 1) := by decide +kernel
theorem dX9_farBetween_44 : decode cX9_farBetween 44 = .ok (.getfield 33, 3) := by decide +kernel
theorem dX9_farBetween_47 : decode cX9_farBetween 47 = .ok (.getfield 181, 3) := by decide +kernel
theorem dX9_farBetween_50 : decode cX9_farBetween 50 = .ok (.invokevirtual 184, 3) := by decide +kernel
theorem dX9_farBetween_53 : decode cX9_farBetween 53 = .ok (.ireturn, 1) := by decide +kernel
theorem dX9_guidesTo_0 : decode cX9_guidesTo 0 = .ok (.aload_n 0, 1) := by decide +kernel
theorem dX9_guidesTo_1 : decode cX9_guidesTo 1 = .ok (.getfield 39, 3) := by decide +kernel
theorem dX9_guidesTo_4 : decode cX9_guidesTo 4 = .ok (.iload_n 1, 1) := by decide +kernel
theorem dX9_guidesTo_5 : decode cX9_guidesTo 5 = .ok (.ifCond .lt 16, 3) := by decide +kernel
theorem dX9_guidesTo_8 : decode cX9_guidesTo 8 = .ok (.iload_n 1, 1) := by decide +kernel
theorem dX9_guidesTo_9 : decode cX9_guidesTo 9 = .ok (.aload_n 0, 1) := by decide +kernel
theorem dX9_guidesTo_10 : decode cX9_guidesTo 10 = .ok (.getfield 39, 3) := by decide +kernel
theorem dX9_guidesTo_13 : decode cX9_guidesTo 13 = .ok (.arraylength, 1) := by decide +kernel
theorem dX9_guidesTo_14 : decode cX9_guidesTo 14 = .ok (.if_icmp .ge 7, 3) := by decide +kernel
theorem dX9_guidesTo_17 : decode cX9_guidesTo 17 = .ok (.iload_n 1, 1) := by decide +kernel
theorem dX9_guidesTo_18 : decode cX9_guidesTo 18 = .ok (.goto 4, 3) := by decide +kernel
theorem dX9_guidesTo_21 : decode cX9_guidesTo 21 = .ok (.iconst 0, 1) := by decide +kernel
theorem dX9_guidesTo_22 : decode cX9_guidesTo 22 = .ok (.aaload, 1) := by decide +kernel
theorem dX9_guidesTo_23 : decode cX9_guidesTo 23 = .ok (.areturn, 1) := by decide +kernel
theorem dX9_gathered_0 : decode cX9_gathered 0 = .ok (.aload_n 0, 1) := by decide +kernel
theorem dX9_gathered_1 : decode cX9_gathered 1 = .ok (.iload_n 1, 1) := by decide +kernel
theorem dX9_gathered_2 : decode cX9_gathered 2 = .ok (.invokevirtual 302, 3) := by decide +kernel
theorem dX9_gathered_5 : decode cX9_gathered 5 = .ok (.astore_n 3, 1) := by decide +kernel
theorem dX9_gathered_6 : decode cX9_gathered 6 = .ok (.aload_n 3, 1) := by decide +kernel
theorem dX9_gathered_7 : decode cX9_gathered 7 = .ok (.iload_n 1, 1) := by decide +kernel
theorem dX9_gathered_8 : decode cX9_gathered 8 = .ok (.iload_n 2, 1) := by decide +kernel
theorem dX9_gathered_9 : decode cX9_gathered 9 = .ok (.aload_n 0, 1) := by decide +kernel
theorem dX9_gathered_10 : decode cX9_gathered 10 = .ok (.getfield 116, 3) := by decide +kernel
theorem dX9_gathered_13 : decode cX9_gathered 13 = .ok (.invokevirtual 322, 3) := by decide +kernel
theorem dX9_gathered_16 : decode cX9_gathered 16 = .ok (.aload_n 3, 1) := by decide +kernel
theorem dX9_gathered_17 : decode cX9_gathered 17 = .ok (.areturn, 1) := by decide +kernel
theorem dX9_minutesIfLedTo_0 : decode cX9_minutesIfLedTo 0 = .ok (.aload_n 0, 1) := by decide +kernel
theorem dX9_minutesIfLedTo_1 : decode cX9_minutesIfLedTo 1 = .ok (.iload_n 2, 1) := by decide +kernel
theorem dX9_minutesIfLedTo_2 : decode cX9_minutesIfLedTo 2 = .ok (.iload_n 3, 1) := by decide +kernel
theorem dX9_minutesIfLedTo_3 : decode cX9_minutesIfLedTo 3 = .ok (.iload 4, 2) := by decide +kernel
theorem dX9_minutesIfLedTo_5 : decode cX9_minutesIfLedTo 5 = .ok (.invokevirtual 177, 3) := by decide +kernel
theorem dX9_minutesIfLedTo_8 : decode cX9_minutesIfLedTo 8 = .ok (.aload_n 0, 1) := by decide +kernel
theorem dX9_minutesIfLedTo_9 : decode cX9_minutesIfLedTo 9 = .ok (.getfield 33, 3) := by decide +kernel
theorem dX9_minutesIfLedTo_12 : decode cX9_minutesIfLedTo 12 = .ok (.aload_n 0, 1) := by decide +kernel
theorem dX9_minutesIfLedTo_13 : decode cX9_minutesIfLedTo 13 = .ok (.getfield 116, 3) := by decide +kernel
theorem dX9_minutesIfLedTo_16 : decode cX9_minutesIfLedTo 16 = .ok (.aload_n 0, 1) := by decide +kernel
theorem dX9_minutesIfLedTo_17 : decode cX9_minutesIfLedTo 17 = .ok (.getfield 26, 3) := by decide +kernel
theorem dX9_minutesIfLedTo_20 : decode cX9_minutesIfLedTo 20 = .ok (.getfield 150, 3) := by decide +kernel
theorem dX9_minutesIfLedTo_23 : decode cX9_minutesIfLedTo 23 = .ok (.iload_n 2, 1) := by decide +kernel
theorem dX9_minutesIfLedTo_24 : decode cX9_minutesIfLedTo 24 = .ok (.invokestatic 134, 3) := by decide +kernel
theorem dX9_minutesIfLedTo_27 : decode cX9_minutesIfLedTo 27 = .ok (.aload_n 0, 1) := by decide +kernel
theorem dX9_minutesIfLedTo_28 : decode cX9_minutesIfLedTo 28 = .ok (.getfield 26, 3) := by decide +kernel
theorem dX9_minutesIfLedTo_31 : decode cX9_minutesIfLedTo 31 = .ok (.getfield 153, 3) := by decide +kernel
theorem dX9_minutesIfLedTo_34 : decode cX9_minutesIfLedTo 34 = .ok (.iload_n 2, 1) := by decide +kernel
theorem dX9_minutesIfLedTo_35 : decode cX9_minutesIfLedTo 35 = .ok (.invokestatic 134, 3) := by decide +kernel
theorem dX9_minutesIfLedTo_38 : decode cX9_minutesIfLedTo 38 = .ok (.invokevirtual 200, 3) := by decide +kernel
theorem dX9_minutesIfLedTo_41 : decode cX9_minutesIfLedTo 41 = .ok (.istore 5, 2) := by decide +kernel
theorem dX9_minutesIfLedTo_43 : decode cX9_minutesIfLedTo 43 = .ok (.iload 5, 2) := by decide +kernel
theorem dX9_minutesIfLedTo_45 : decode cX9_minutesIfLedTo 45 = .ok (.ifCond .le 28, 3) := by decide +kernel
theorem dX9_minutesIfLedTo_48 : decode cX9_minutesIfLedTo 48 = .ok (.aload_n 0, 1) := by decide +kernel
theorem dX9_minutesIfLedTo_49 : decode cX9_minutesIfLedTo 49 = .ok (.getfield 33, 3) := by decide +kernel
theorem dX9_minutesIfLedTo_52 : decode cX9_minutesIfLedTo 52 = .ok (.iload 5, 2) := by decide +kernel
theorem dX9_minutesIfLedTo_54 : decode cX9_minutesIfLedTo 54 = .ok (.invokevirtual 188, 3) := by decide +kernel
theorem dX9_minutesIfLedTo_57 : decode cX9_minutesIfLedTo 57 = .ok (.iload_n 1, 1) := by decide +kernel
theorem dX9_minutesIfLedTo_58 : decode cX9_minutesIfLedTo 58 = .ok (.if_icmp .ne 15, 3) := by decide +kernel
theorem dX9_minutesIfLedTo_61 : decode cX9_minutesIfLedTo 61 = .ok (.aload_n 0, 1) := by decide +kernel
theorem dX9_minutesIfLedTo_62 : decode cX9_minutesIfLedTo 62 = .ok (.getfield 33, 3) := by decide +kernel
theorem dX9_minutesIfLedTo_65 : decode cX9_minutesIfLedTo 65 = .ok (.iload 5, 2) := by decide +kernel
theorem dX9_minutesIfLedTo_67 : decode cX9_minutesIfLedTo 67 = .ok (.invokevirtual 184, 3) := by decide +kernel
theorem dX9_minutesIfLedTo_70 : decode cX9_minutesIfLedTo 70 = .ok (.goto 4, 3) := by decide +kernel
theorem dX9_minutesIfLedTo_73 : decode cX9_minutesIfLedTo 73 = .ok (.iconst (-1), 1) := by decide +kernel
theorem dX9_minutesIfLedTo_74 : decode cX9_minutesIfLedTo 74 = .ok (.ireturn, 1) := by decide +kernel
theorem dX9_askedFor_0 : decode cX9_askedFor 0 = .ok (.iconst 0, 1) := by decide +kernel
theorem dX9_askedFor_1 : decode cX9_askedFor 1 = .ok (.istore_n 3, 1) := by decide +kernel
theorem dX9_askedFor_2 : decode cX9_askedFor 2 = .ok (.aload_n 0, 1) := by decide +kernel
theorem dX9_askedFor_3 : decode cX9_askedFor 3 = .ok (.getfield 26, 3) := by decide +kernel
theorem dX9_askedFor_6 : decode cX9_askedFor 6 = .ok (.getfield 147, 3) := by decide +kernel
theorem dX9_askedFor_9 : decode cX9_askedFor 9 = .ok (.iload_n 1, 1) := by decide +kernel
theorem dX9_askedFor_10 : decode cX9_askedFor 10 = .ok (.invokestatic 134, 3) := by decide +kernel
theorem dX9_askedFor_13 : decode cX9_askedFor 13 = .ok (.istore 4, 2) := by decide +kernel
theorem dX9_askedFor_15 : decode cX9_askedFor 15 = .ok (.iconst 0, 1) := by decide +kernel
theorem dX9_askedFor_16 : decode cX9_askedFor 16 = .ok (.istore 5, 2) := by decide +kernel
theorem dX9_askedFor_18 : decode cX9_askedFor 18 = .ok (.iload 5, 2) := by decide +kernel
theorem dX9_askedFor_20 : decode cX9_askedFor 20 = .ok (.aload_n 0, 1) := by decide +kernel
theorem dX9_askedFor_21 : decode cX9_askedFor 21 = .ok (.getfield 26, 3) := by decide +kernel
theorem dX9_askedFor_24 : decode cX9_askedFor 24 = .ok (.getfield 104, 3) := by decide +kernel
theorem dX9_askedFor_27 : decode cX9_askedFor 27 = .ok (.if_icmp .ge 57, 3) := by decide +kernel
theorem dX9_askedFor_30 : decode cX9_askedFor 30 = .ok (.aload_n 0, 1) := by decide +kernel
theorem dX9_askedFor_31 : decode cX9_askedFor 31 = .ok (.iload_n 1, 1) := by decide +kernel
theorem dX9_askedFor_32 : decode cX9_askedFor 32 = .ok (.iload 4, 2) := by decide +kernel
theorem dX9_askedFor_34 : decode cX9_askedFor 34 = .ok (.iload 5, 2) := by decide +kernel
theorem dX9_askedFor_36 : decode cX9_askedFor 36 = .ok (.invokevirtual 177, 3) := by decide +kernel
theorem dX9_askedFor_39 : decode cX9_askedFor 39 = .ok (.aload_n 0, 1) := by decide +kernel
theorem dX9_askedFor_40 : decode cX9_askedFor 40 = .ok (.getfield 33, 3) := by decide +kernel
theorem dX9_askedFor_43 : decode cX9_askedFor 43 = .ok (.getfield 181, 3) := by decide +kernel
theorem dX9_askedFor_46 : decode cX9_askedFor 46 = .ok (.ifCond .le 32, 3) := by decide +kernel
theorem dX9_askedFor_49 : decode cX9_askedFor 49 = .ok (.aload_n 0, 1) := by decide +kernel
theorem dX9_askedFor_50 : decode cX9_askedFor 50 = .ok (.getfield 33, 3) := by decide +kernel
theorem dX9_askedFor_53 : decode cX9_askedFor 53 = .ok (.aload_n 0, 1) := by decide +kernel
theorem dX9_askedFor_54 : decode cX9_askedFor 54 = .ok (.getfield 116, 3) := by decide +kernel
theorem dX9_askedFor_57 : decode cX9_askedFor 57 = .ok (.aload_n 0, 1) := by decide +kernel
theorem dX9_askedFor_58 : decode cX9_askedFor 58 = .ok (.getfield 33, 3) := by decide +kernel
theorem dX9_askedFor_61 : decode cX9_askedFor 61 = .ok (.getfield 181, 3) := by decide +kernel
theorem dX9_askedFor_64 : decode cX9_askedFor 64 = .ok (.invokevirtual 197, 3) := by decide +kernel
theorem dX9_askedFor_67 : decode cX9_askedFor 67 = .ok (.iload_n 2, 1) := by decide +kernel
theorem dX9_askedFor_68 : decode cX9_askedFor 68 = .ok (.if_icmp .ne 10, 3) := by decide +kernel
theorem dX9_askedFor_71 : decode cX9_askedFor 71 = .ok (.iload_n 3, 1) := by decide +kernel
theorem dX9_askedFor_72 : decode cX9_askedFor 72 = .ok (.iconst 1, 1) := by decide +kernel
theorem dX9_askedFor_73 : decode cX9_askedFor 73 = .ok (.iload 5, 2) := by decide +kernel
theorem dX9_askedFor_75 : decode cX9_askedFor 75 = .ok (.ishl, 1) := by decide +kernel
theorem dX9_askedFor_76 : decode cX9_askedFor 76 = .ok (.ior, 1) := by decide +kernel
theorem dX9_askedFor_77 : decode cX9_askedFor 77 = .ok (.istore_n 3, 1) := by decide +kernel
theorem dX9_askedFor_78 : decode cX9_askedFor 78 = .ok (.iinc 5 1, 3) := by decide +kernel
theorem dX9_askedFor_81 : decode cX9_askedFor 81 = .ok (.goto (-63), 3) := by decide +kernel
theorem dX9_askedFor_84 : decode cX9_askedFor 84 = .ok (.iload_n 3, 1) := by decide +kernel
theorem dX9_askedFor_85 : decode cX9_askedFor 85 = .ok (.ireturn, 1) := by decide +kernel
theorem dX9_at_0 : decode cX9_at 0 = .ok (.iload_n 1, 1) := by decide +kernel
theorem dX9_at_1 : decode cX9_at 1 = .ok (.ifCond .lt 15, 3) := by decide +kernel
theorem dX9_at_4 : decode cX9_at 4 = .ok (.iload_n 1, 1) := by decide +kernel
theorem dX9_at_5 : decode cX9_at 5 = .ok (.aload_n 0, 1) := by decide +kernel
theorem dX9_at_6 : decode cX9_at 6 = .ok (.arraylength, 1) := by decide +kernel
theorem dX9_at_7 : decode cX9_at 7 = .ok (.if_icmp .ge 9, 3) := by decide +kernel
theorem dX9_at_10 : decode cX9_at 10 = .ok (.aload_n 0, 1) := by decide +kernel
theorem dX9_at_11 : decode cX9_at 11 = .ok (.iload_n 1, 1) := by decide +kernel
theorem dX9_at_12 : decode cX9_at 12 = .ok (.iaload, 1) := by decide +kernel
theorem dX9_at_13 : decode cX9_at 13 = .ok (.goto 4, 3) := by decide +kernel
theorem dX9_at_16 : decode cX9_at 16 = .ok (.iconst (-1), 1) := by decide +kernel
theorem dX9_at_17 : decode cX9_at 17 = .ok (.ireturn, 1) := by decide +kernel
theorem dX9_put_0 : decode cX9_put 0 = .ok (.iload_n 1, 1) := by decide +kernel
theorem dX9_put_1 : decode cX9_put 1 = .ok (.ifCond .lt 13, 3) := by decide +kernel
theorem dX9_put_4 : decode cX9_put 4 = .ok (.iload_n 1, 1) := by decide +kernel
theorem dX9_put_5 : decode cX9_put 5 = .ok (.aload_n 0, 1) := by decide +kernel
theorem dX9_put_6 : decode cX9_put 6 = .ok (.arraylength, 1) := by decide +kernel
theorem dX9_put_7 : decode cX9_put 7 = .ok (.if_icmp .ge 7, 3) := by decide +kernel
theorem dX9_put_10 : decode cX9_put 10 = .ok (.aload_n 0, 1) := by decide +kernel
theorem dX9_put_11 : decode cX9_put 11 = .ok (.iload_n 1, 1) := by decide +kernel
theorem dX9_put_12 : decode cX9_put 12 = .ok (.iload_n 2, 1) := by decide +kernel
theorem dX9_put_13 : decode cX9_put 13 = .ok (.iastore, 1) := by decide +kernel
theorem dX9_put_14 : decode cX9_put 14 = .ok (.return_, 1) := by decide +kernel
theorem dX9_copy_0 : decode cX9_copy 0 = .ok (.aload_n 0, 1) := by decide +kernel
theorem dX9_copy_1 : decode cX9_copy 1 = .ok (.iconst 0, 1) := by decide +kernel
theorem dX9_copy_2 : decode cX9_copy 2 = .ok (.aload_n 1, 1) := by decide +kernel
theorem dX9_copy_3 : decode cX9_copy 3 = .ok (.iconst 0, 1) := by decide +kernel
theorem dX9_copy_4 : decode cX9_copy 4 = .ok (.aload_n 0, 1) := by decide +kernel
theorem dX9_copy_5 : decode cX9_copy 5 = .ok (.arraylength, 1) := by decide +kernel
theorem dX9_copy_6 : decode cX9_copy 6 = .ok (.aload_n 1, 1) := by decide +kernel
theorem dX9_copy_7 : decode cX9_copy 7 = .ok (.arraylength, 1) := by decide +kernel
theorem dX9_copy_8 : decode cX9_copy 8 = .ok (.invokestatic 326, 3) := by decide +kernel
theorem dX9_copy_11 : decode cX9_copy 11 = .ok (.invokestatic 329, 3) := by decide +kernel
theorem dX9_copy_14 : decode cX9_copy 14 = .ok (.return_, 1) := by decide +kernel
end
section
theorem dX10_init_0 : decode cX10_init 0 = .ok (.aload_n 0, 1) := by decide +kernel
theorem dX10_init_1 : decode cX10_init 1 = .ok (.invokespecial 1, 3) := by decide +kernel
theorem dX10_init_4 : decode cX10_init 4 = .ok (.aload_n 0, 1) := by decide +kernel
theorem dX10_init_5 : decode cX10_init 5 = .ok (.bipush 14, 2) := by decide +kernel
theorem dX10_init_7 : decode cX10_init 7 = .ok (.newarray .int, 2) := by decide +kernel
theorem dX10_init_9 : decode cX10_init 9 = .ok (.putfield 7, 3) := by decide +kernel
theorem dX10_init_12 : decode cX10_init 12 = .ok (.aload_n 0, 1) := by decide +kernel
theorem dX10_init_13 : decode cX10_init 13 = .ok (.bipush 14, 2) := by decide +kernel
theorem dX10_init_15 : decode cX10_init 15 = .ok (.newarray .int, 2) := by decide +kernel
theorem dX10_init_17 : decode cX10_init 17 = .ok (.putfield 13, 3) := by decide +kernel
theorem dX10_init_20 : decode cX10_init 20 = .ok (.aload_n 0, 1) := by decide +kernel
theorem dX10_init_21 : decode cX10_init 21 = .ok (.bipush 14, 2) := by decide +kernel
theorem dX10_init_23 : decode cX10_init 23 = .ok (.newarray .int, 2) := by decide +kernel
theorem dX10_init_25 : decode cX10_init 25 = .ok (.putfield 16, 3) := by decide +kernel
theorem dX10_init_28 : decode cX10_init 28 = .ok (.aload_n 0, 1) := by decide +kernel
theorem dX10_init_29 : decode cX10_init 29 = .ok (.bipush 6, 2) := by decide +kernel
theorem dX10_init_31 : decode cX10_init 31 = .ok (.newarray .int, 2) := by decide +kernel
theorem dX10_init_33 : decode cX10_init 33 = .ok (.putfield 19, 3) := by decide +kernel
theorem dX10_init_36 : decode cX10_init 36 = .ok (.aload_n 0, 1) := by decide +kernel
theorem dX10_init_37 : decode cX10_init 37 = .ok (.bipush 6, 2) := by decide +kernel
theorem dX10_init_39 : decode cX10_init 39 = .ok (.newarray .int, 2) := by decide +kernel
theorem dX10_init_41 : decode cX10_init 41 = .ok (.putfield 22, 3) := by decide +kernel
theorem dX10_init_44 : decode cX10_init 44 = .ok (.aload_n 0, 1) := by decide +kernel
theorem dX10_init_45 : decode cX10_init 45 = .ok (.bipush 6, 2) := by decide +kernel
theorem dX10_init_47 : decode cX10_init 47 = .ok (.newarray .int, 2) := by decide +kernel
theorem dX10_init_49 : decode cX10_init 49 = .ok (.putfield 25, 3) := by decide +kernel
theorem dX10_init_52 : decode cX10_init 52 = .ok (.aload_n 0, 1) := by decide +kernel
theorem dX10_init_53 : decode cX10_init 53 = .ok (.bipush 6, 2) := by decide +kernel
theorem dX10_init_55 : decode cX10_init 55 = .ok (.newarray .int, 2) := by decide +kernel
theorem dX10_init_57 : decode cX10_init 57 = .ok (.putfield 28, 3) := by decide +kernel
theorem dX10_init_60 : decode cX10_init 60 = .ok (.aload_n 0, 1) := by decide +kernel
theorem dX10_init_61 : decode cX10_init 61 = .ok (.bipush 6, 2) := by decide +kernel
theorem dX10_init_63 : decode cX10_init 63 = .ok (.newarray .int, 2) := by decide +kernel
theorem dX10_init_65 : decode cX10_init 65 = .ok (.putfield 31, 3) := by decide +kernel
theorem dX10_init_68 : decode cX10_init 68 = .ok (.aload_n 0, 1) := by decide +kernel
theorem dX10_init_69 : decode cX10_init 69 = .ok (.sipush 400, 3) := by decide +kernel
theorem dX10_init_72 : decode cX10_init 72 = .ok (.newarray .int, 2) := by decide +kernel
theorem dX10_init_74 : decode cX10_init 74 = .ok (.putfield 34, 3) := by decide +kernel
theorem dX10_init_77 : decode cX10_init 77 = .ok (.aload_n 0, 1) := by decide +kernel
theorem dX10_init_78 : decode cX10_init 78 = .ok (.iconst (-1), 1) := by decide +kernel
theorem dX10_init_79 : decode cX10_init 79 = .ok (.putfield 37, 3) := by decide +kernel
theorem dX10_init_82 : decode cX10_init 82 = .ok (.aload_n 0, 1) := by decide +kernel
theorem dX10_init_83 : decode cX10_init 83 = .ok (.bipush 14, 2) := by decide +kernel
theorem dX10_init_85 : decode cX10_init 85 = .ok (.newarray .int, 2) := by decide +kernel
theorem dX10_init_87 : decode cX10_init 87 = .ok (.putfield 41, 3) := by decide +kernel
theorem dX10_init_90 : decode cX10_init 90 = .ok (.aload_n 0, 1) := by decide +kernel
theorem dX10_init_91 : decode cX10_init 91 = .ok (.bipush 14, 2) := by decide +kernel
theorem dX10_init_93 : decode cX10_init 93 = .ok (.newarray .int, 2) := by decide +kernel
theorem dX10_init_95 : decode cX10_init 95 = .ok (.putfield 44, 3) := by decide +kernel
theorem dX10_init_98 : decode cX10_init 98 = .ok (.aload_n 0, 1) := by decide +kernel
theorem dX10_init_99 : decode cX10_init 99 = .ok (.bipush 14, 2) := by decide +kernel
theorem dX10_init_101 : decode cX10_init 101 = .ok (.newarray .int, 2) := by decide +kernel
theorem dX10_init_103 : decode cX10_init 103 = .ok (.putfield 47, 3) := by decide +kernel
theorem dX10_init_106 : decode cX10_init 106 = .ok (.aload_n 0, 1) := by decide +kernel
theorem dX10_init_107 : decode cX10_init 107 = .ok (.bipush 6, 2) := by decide +kernel
theorem dX10_init_109 : decode cX10_init 109 = .ok (.newarray .int, 2) := by decide +kernel
theorem dX10_init_111 : decode cX10_init 111 = .ok (.putfield 50, 3) := by decide +kernel
theorem dX10_init_114 : decode cX10_init 114 = .ok (.aload_n 0, 1) := by decide +kernel
theorem dX10_init_115 : decode cX10_init 115 = .ok (.bipush 6, 2) := by decide +kernel
theorem dX10_init_117 : decode cX10_init 117 = .ok (.newarray .int, 2) := by decide +kernel
theorem dX10_init_119 : decode cX10_init 119 = .ok (.putfield 53, 3) := by decide +kernel
theorem dX10_init_122 : decode cX10_init 122 = .ok (.aload_n 0, 1) := by decide +kernel
theorem dX10_init_123 : decode cX10_init 123 = .ok (.bipush 6, 2) := by decide +kernel
theorem dX10_init_125 : decode cX10_init 125 = .ok (.newarray .int, 2) := by decide +kernel
theorem dX10_init_127 : decode cX10_init 127 = .ok (.putfield 56, 3) := by decide +kernel
theorem dX10_init_130 : decode cX10_init 130 = .ok (.aload_n 0, 1) := by decide +kernel
theorem dX10_init_131 : decode cX10_init 131 = .ok (.bipush 6, 2) := by decide +kernel
theorem dX10_init_133 : decode cX10_init 133 = .ok (.newarray .int, 2) := by decide +kernel
theorem dX10_init_135 : decode cX10_init 135 = .ok (.putfield 59, 3) := by decide +kernel
theorem dX10_init_138 : decode cX10_init 138 = .ok (.aload_n 0, 1) := by decide +kernel
theorem dX10_init_139 : decode cX10_init 139 = .ok (.bipush 6, 2) := by decide +kernel
theorem dX10_init_141 : decode cX10_init 141 = .ok (.newarray .int, 2) := by decide +kernel
theorem dX10_init_143 : decode cX10_init 143 = .ok (.putfield 62, 3) := by decide +kernel
theorem dX10_init_146 : decode cX10_init 146 = .ok (.aload_n 0, 1) := by decide +kernel
theorem dX10_init_147 : decode cX10_init 147 = .ok (.bipush 10, 2) := by decide +kernel
theorem dX10_init_149 : decode cX10_init 149 = .ok (.newarray .int, 2) := by decide +kernel
theorem dX10_init_151 : decode cX10_init 151 = .ok (.putfield 65, 3) := by decide +kernel
theorem dX10_init_154 : decode cX10_init 154 = .ok (.aload_n 0, 1) := by decide +kernel
theorem dX10_init_155 : decode cX10_init 155 = .ok (.bipush 10, 2) := by decide +kernel
theorem dX10_init_157 : decode cX10_init 157 = .ok (.newarray .int, 2) := by decide +kernel
theorem dX10_init_159 : decode cX10_init 159 = .ok (.putfield 68, 3) := by decide +kernel
theorem dX10_init_162 : decode cX10_init 162 = .ok (.aload_n 0, 1) := by decide +kernel
theorem dX10_init_163 : decode cX10_init 163 = .ok (.bipush 10, 2) := by decide +kernel
theorem dX10_init_165 : decode cX10_init 165 = .ok (.newarray .int, 2) := by decide +kernel
theorem dX10_init_167 : decode cX10_init 167 = .ok (.putfield 71, 3) := by decide +kernel
theorem dX10_init_170 : decode cX10_init 170 = .ok (.aload_n 0, 1) := by decide +kernel
theorem dX10_init_171 : decode cX10_init 171 = .ok (.bipush 6, 2) := by decide +kernel
theorem dX10_init_173 : decode cX10_init 173 = .ok (.newarray .int, 2) := by decide +kernel
theorem dX10_init_175 : decode cX10_init 175 = .ok (.putfield 74, 3) := by decide +kernel
theorem dX10_init_178 : decode cX10_init 178 = .ok (.aload_n 0, 1) := by decide +kernel
theorem dX10_init_179 : decode cX10_init 179 = .ok (.bipush 6, 2) := by decide +kernel
theorem dX10_init_181 : decode cX10_init 181 = .ok (.newarray .int, 2) := by decide +kernel
theorem dX10_init_183 : decode cX10_init 183 = .ok (.putfield 77, 3) := by decide +kernel
theorem dX10_init_186 : decode cX10_init 186 = .ok (.aload_n 0, 1) := by decide +kernel
theorem dX10_init_187 : decode cX10_init 187 = .ok (.sipush 640, 3) := by decide +kernel
theorem dX10_init_190 : decode cX10_init 190 = .ok (.newarray .int, 2) := by decide +kernel
theorem dX10_init_192 : decode cX10_init 192 = .ok (.putfield 80, 3) := by decide +kernel
theorem dX10_init_195 : decode cX10_init 195 = .ok (.aload_n 0, 1) := by decide +kernel
theorem dX10_init_196 : decode cX10_init 196 = .ok (.sipush 2000, 3) := by decide +kernel
theorem dX10_init_199 : decode cX10_init 199 = .ok (.newarray .int, 2) := by decide +kernel
theorem dX10_init_201 : decode cX10_init 201 = .ok (.putfield 83, 3) := by decide +kernel
theorem dX10_init_204 : decode cX10_init 204 = .ok (.aload_n 0, 1) := by decide +kernel
theorem dX10_init_205 : decode cX10_init 205 = .ok (.sipush 2000, 3) := by decide +kernel
theorem dX10_init_208 : decode cX10_init 208 = .ok (.newarray .int, 2) := by decide +kernel
theorem dX10_init_210 : decode cX10_init 210 = .ok (.putfield 86, 3) := by decide +kernel
theorem dX10_init_213 : decode cX10_init 213 = .ok (.aload_n 0, 1) := by decide +kernel
theorem dX10_init_214 : decode cX10_init 214 = .ok (.sipush 2000, 3) := by decide +kernel
theorem dX10_init_217 : decode cX10_init 217 = .ok (.newarray .int, 2) := by decide +kernel
theorem dX10_init_219 : decode cX10_init 219 = .ok (.putfield 89, 3) := by decide +kernel
theorem dX10_init_222 : decode cX10_init 222 = .ok (.aload_n 0, 1) := by decide +kernel
theorem dX10_init_223 : decode cX10_init 223 = .ok (.sipush 2000, 3) := by decide +kernel
theorem dX10_init_226 : decode cX10_init 226 = .ok (.newarray .long, 2) := by decide +kernel
theorem dX10_init_228 : decode cX10_init 228 = .ok (.putfield 92, 3) := by decide +kernel
theorem dX10_init_231 : decode cX10_init 231 = .ok (.aload_n 0, 1) := by decide +kernel
theorem dX10_init_232 : decode cX10_init 232 = .ok (.bipush 8, 2) := by decide +kernel
theorem dX10_init_234 : decode cX10_init 234 = .ok (.newarray .int, 2) := by decide +kernel
theorem dX10_init_236 : decode cX10_init 236 = .ok (.putfield 96, 3) := by decide +kernel
theorem dX10_init_239 : decode cX10_init 239 = .ok (.aload_n 0, 1) := by decide +kernel
theorem dX10_init_240 : decode cX10_init 240 = .ok (.bipush 8, 2) := by decide +kernel
theorem dX10_init_242 : decode cX10_init 242 = .ok (.newarray .int, 2) := by decide +kernel
theorem dX10_init_244 : decode cX10_init 244 = .ok (.putfield 99, 3) := by decide +kernel
theorem dX10_init_247 : decode cX10_init 247 = .ok (.aload_n 0, 1) := by decide +kernel
theorem dX10_init_248 : decode cX10_init 248 = .ok (.bipush 30, 2) := by decide +kernel
theorem dX10_init_250 : decode cX10_init 250 = .ok (.newarray .int, 2) := by decide +kernel
theorem dX10_init_252 : decode cX10_init 252 = .ok (.putfield 102, 3) := by decide +kernel
theorem dX10_init_255 : decode cX10_init 255 = .ok (.aload_n 0, 1) := by decide +kernel
theorem dX10_init_256 : decode cX10_init 256 = .ok (.bipush 30, 2) := by decide +kernel
theorem dX10_init_258 : decode cX10_init 258 = .ok (.newarray .int, 2) := by decide +kernel
theorem dX10_init_260 : decode cX10_init 260 = .ok (.putfield 105, 3) := by decide +kernel
theorem dX10_init_263 : decode cX10_init 263 = .ok (.aload_n 0, 1) := by decide +kernel
theorem dX10_init_264 : decode cX10_init 264 = .ok (.bipush 30, 2) := by decide +kernel
theorem dX10_init_266 : decode cX10_init 266 = .ok (.newarray .int, 2) := by decide +kernel
theorem dX10_init_268 : decode cX10_init 268 = .ok (.putfield 108, 3) := by decide +kernel
theorem dX10_init_271 : decode cX10_init 271 = .ok (.aload_n 0, 1) := by decide +kernel
theorem dX10_init_272 : decode cX10_init 272 = .ok (.bipush 30, 2) := by decide +kernel
theorem dX10_init_274 : decode cX10_init 274 = .ok (.newarray .int, 2) := by decide +kernel
theorem dX10_init_276 : decode cX10_init 276 = .ok (.putfield 111, 3) := by decide +kernel
theorem dX10_init_279 : decode cX10_init 279 = .ok (.aload_n 0, 1) := by decide +kernel
theorem dX10_init_280 : decode cX10_init 280 = .ok (.bipush 40, 2) := by decide +kernel
theorem dX10_init_282 : decode cX10_init 282 = .ok (.newarray .int, 2) := by decide +kernel
theorem dX10_init_284 : decode cX10_init 284 = .ok (.putfield 114, 3) := by decide +kernel
theorem dX10_init_287 : decode cX10_init 287 = .ok (.aload_n 0, 1) := by decide +kernel
theorem dX10_init_288 : decode cX10_init 288 = .ok (.iconst 2, 1) := by decide +kernel
theorem dX10_init_289 : decode cX10_init 289 = .ok (.newarray .boolean, 2) := by decide +kernel
theorem dX10_init_291 : decode cX10_init 291 = .ok (.putfield 117, 3) := by decide +kernel
theorem dX10_init_294 : decode cX10_init 294 = .ok (.aload_n 0, 1) := by decide +kernel
theorem dX10_init_295 : decode cX10_init 295 = .ok (.iconst 0, 1) := by decide +kernel
theorem dX10_init_296 : decode cX10_init 296 = .ok (.putfield 121, 3) := by decide +kernel
theorem dX10_init_299 : decode cX10_init 299 = .ok (.return_, 1) := by decide +kernel
theorem dX10_in_0 : decode cX10_in 0 = .ok (.lload_n 0, 1) := by decide +kernel
theorem dX10_in_1 : decode cX10_in 1 = .ok (.lload_n 2, 1) := by decide +kernel
theorem dX10_in_2 : decode cX10_in 2 = .ok (.lcmp, 1) := by decide +kernel
theorem dX10_in_3 : decode cX10_in 3 = .ok (.ifCond .lt 14, 3) := by decide +kernel
theorem dX10_in_6 : decode cX10_in 6 = .ok (.lload_n 0, 1) := by decide +kernel
theorem dX10_in_7 : decode cX10_in 7 = .ok (.lload 4, 2) := by decide +kernel
theorem dX10_in_9 : decode cX10_in 9 = .ok (.lcmp, 1) := by decide +kernel
theorem dX10_in_10 : decode cX10_in 10 = .ok (.ifCond .gt 7, 3) := by decide +kernel
theorem dX10_in_13 : decode cX10_in 13 = .ok (.iconst 1, 1) := by decide +kernel
theorem dX10_in_14 : decode cX10_in 14 = .ok (.goto 4, 3) := by decide +kernel
theorem dX10_in_17 : decode cX10_in 17 = .ok (.iconst 0, 1) := by decide +kernel
theorem dX10_in_18 : decode cX10_in 18 = .ok (.ireturn, 1) := by decide +kernel
theorem dX10_has_0 : decode cX10_has 0 = .ok (.iload_n 0, 1) := by decide +kernel
theorem dX10_has_1 : decode cX10_has 1 = .ok (.iload_n 1, 1) := by decide +kernel
theorem dX10_has_2 : decode cX10_has 2 = .ok (.ishr, 1) := by decide +kernel
theorem dX10_has_3 : decode cX10_has 3 = .ok (.iconst 1, 1) := by decide +kernel
theorem dX10_has_4 : decode cX10_has 4 = .ok (.iand, 1) := by decide +kernel
theorem dX10_has_5 : decode cX10_has 5 = .ok (.iconst 1, 1) := by decide +kernel
theorem dX10_has_6 : decode cX10_has 6 = .ok (.if_icmp .ne 7, 3) := by decide +kernel
theorem dX10_has_9 : decode cX10_has 9 = .ok (.iconst 1, 1) := by decide +kernel
theorem dX10_has_10 : decode cX10_has 10 = .ok (.goto 4, 3) := by decide +kernel
theorem dX10_has_13 : decode cX10_has 13 = .ok (.iconst 0, 1) := by decide +kernel
theorem dX10_has_14 : decode cX10_has 14 = .ok (.ireturn, 1) := by decide +kernel
theorem dX10_isPlace_0 : decode cX10_isPlace 0 = .ok (.iload_n 1, 1) := by decide +kernel
theorem dX10_isPlace_1 : decode cX10_isPlace 1 = .ok (.i2l, 1) := by decide +kernel
theorem dX10_isPlace_2 : decode cX10_isPlace 2 = .ok (.lconst 0, 1) := by decide +kernel
theorem dX10_isPlace_3 : decode cX10_isPlace 3 = .ok (.aload_n 0, 1) := by decide +kernel
theorem dX10_isPlace_4 : decode cX10_isPlace 4 = .ok (.getfield 121, 3) := by decide +kernel
theorem dX10_isPlace_7 : decode cX10_isPlace 7 = .ok (.iconst 1, 1) := by decide +kernel
theorem dX10_isPlace_8 : decode cX10_isPlace 8 = .ok (.isub, 1) := by decide +kernel
theorem dX10_isPlace_9 : decode cX10_isPlace 9 = .ok (.i2l, 1) := by decide +kernel
theorem dX10_isPlace_10 : decode cX10_isPlace 10 = .ok (.invokestatic 124, 3) := by decide +kernel
theorem dX10_isPlace_13 : decode cX10_isPlace 13 = .ok (.ireturn, 1) := by decide +kernel
theorem dX10_isWay_0 : decode cX10_isWay 0 = .ok (.iload_n 1, 1) := by decide +kernel
theorem dX10_isWay_1 : decode cX10_isWay 1 = .ok (.i2l, 1) := by decide +kernel
theorem dX10_isWay_2 : decode cX10_isWay 2 = .ok (.lconst 0, 1) := by decide +kernel
theorem dX10_isWay_3 : decode cX10_isWay 3 = .ok (.aload_n 0, 1) := by decide +kernel
theorem dX10_isWay_4 : decode cX10_isWay 4 = .ok (.getfield 128, 3) := by decide +kernel
theorem dX10_isWay_7 : decode cX10_isWay 7 = .ok (.iconst 1, 1) := by decide +kernel
theorem dX10_isWay_8 : decode cX10_isWay 8 = .ok (.isub, 1) := by decide +kernel
theorem dX10_isWay_9 : decode cX10_isWay 9 = .ok (.i2l, 1) := by decide +kernel
theorem dX10_isWay_10 : decode cX10_isWay 10 = .ok (.invokestatic 124, 3) := by decide +kernel
theorem dX10_isWay_13 : decode cX10_isWay 13 = .ok (.ireturn, 1) := by decide +kernel
theorem dX10_isPerson_0 : decode cX10_isPerson 0 = .ok (.iload_n 1, 1) := by decide +kernel
theorem dX10_isPerson_1 : decode cX10_isPerson 1 = .ok (.i2l, 1) := by decide +kernel
theorem dX10_isPerson_2 : decode cX10_isPerson 2 = .ok (.lconst 0, 1) := by decide +kernel
theorem dX10_isPerson_3 : decode cX10_isPerson 3 = .ok (.aload_n 0, 1) := by decide +kernel
theorem dX10_isPerson_4 : decode cX10_isPerson 4 = .ok (.getfield 131, 3) := by decide +kernel
theorem dX10_isPerson_7 : decode cX10_isPerson 7 = .ok (.iconst 1, 1) := by decide +kernel
theorem dX10_isPerson_8 : decode cX10_isPerson 8 = .ok (.isub, 1) := by decide +kernel
theorem dX10_isPerson_9 : decode cX10_isPerson 9 = .ok (.i2l, 1) := by decide +kernel
theorem dX10_isPerson_10 : decode cX10_isPerson 10 = .ok (.invokestatic 124, 3) := by decide +kernel
theorem dX10_isPerson_13 : decode cX10_isPerson 13 = .ok (.ireturn, 1) := by decide +kernel
theorem dX10_feed_0 : decode cX10_feed 0 = .ok (.iload_n 1, 1) := by decide +kernel
theorem dX10_feed_1 : decode cX10_feed 1 = .ok (.i2l, 1) := by decide +kernel
theorem dX10_feed_2 : decode cX10_feed 2 = .ok (.lconst 1, 1) := by decide +kernel
theorem dX10_feed_3 : decode cX10_feed 3 = .ok (.ldc2_w 134, 3) := by decide +kernel
theorem dX10_feed_6 : decode cX10_feed 6 = .ok (.invokestatic 124, 3) := by decide +kernel
theorem dX10_feed_9 : decode cX10_feed 9 = .ok (.ifCond .ne 6, 3) := by decide +kernel
theorem dX10_feed_12 : decode cX10_feed 12 = .ok (.ldc 136, 2) := by decide +kernel
theorem dX10_feed_14 : decode cX10_feed 14 = .ok (.ireturn, 1) := by decide +kernel
theorem dX10_feed_15 : decode cX10_feed 15 = .ok (.aload_n 0, 1) := by decide +kernel
theorem dX10_feed_16 : decode cX10_feed 16 = .ok (.getfield 137, 3) := by decide +kernel
theorem dX10_feed_19 : decode cX10_feed 19 = .ok (.iload_n 1, 1) := by decide +kernel
theorem dX10_feed_20 : decode cX10_feed 20 = .ok (.iadd, 1) := by decide +kernel
theorem dX10_feed_21 : decode cX10_feed 21 = .ok (.sipush 400, 3) := by decide +kernel
theorem dX10_feed_24 : decode cX10_feed 24 = .ok (.if_icmp .le 6, 3) := by decide +kernel
theorem dX10_feed_27 : decode cX10_feed 27 = .ok (.ldc 140, 2) := by decide +kernel
theorem dX10_feed_29 : decode cX10_feed 29 = .ok (.ireturn, 1) := by decide +kernel
theorem dX10_feed_30 : decode cX10_feed 30 = .ok (.iload_n 1, 1) := by decide +kernel
theorem dX10_feed_31 : decode cX10_feed 31 = .ok (.iconst 1, 1) := by decide +kernel
theorem dX10_feed_32 : decode cX10_feed 32 = .ok (.isub, 1) := by decide +kernel
theorem dX10_feed_33 : decode cX10_feed 33 = .ok (.istore 4, 2) := by decide +kernel
theorem dX10_feed_35 : decode cX10_feed 35 = .ok (.iload 4, 2) := by decide +kernel
theorem dX10_feed_37 : decode cX10_feed 37 = .ok (.ifCond .lt 40, 3) := by decide +kernel
theorem dX10_feed_40 : decode cX10_feed 40 = .ok (.aload_n 0, 1) := by decide +kernel
theorem dX10_feed_41 : decode cX10_feed 41 = .ok (.getfield 34, 3) := by decide +kernel
theorem dX10_feed_44 : decode cX10_feed 44 = .ok (.aload_n 0, 1) := by decide +kernel
theorem dX10_feed_45 : decode cX10_feed 45 = .ok (.getfield 137, 3) := by decide +kernel
theorem dX10_feed_48 : decode cX10_feed 48 = .ok (.lload_n 2, 1) := by decide +kernel
theorem dX10_feed_49 : decode cX10_feed 49 = .ok (.bipush 8, 2) := by decide +kernel
theorem dX10_feed_51 : decode cX10_feed 51 = .ok (.iload 4, 2) := by decide +kernel
theorem dX10_feed_53 : decode cX10_feed 53 = .ok (.imul, 1) := by decide +kernel
theorem dX10_feed_54 : decode cX10_feed 54 = .ok (.lshr, 1) := by decide +kernel
theorem dX10_feed_55 : decode cX10_feed 55 = .ok (.ldc2_w 141, 3) := by decide +kernel
theorem dX10_feed_58 : decode cX10_feed 58 = .ok (.land, 1) := by decide +kernel
theorem dX10_feed_59 : decode cX10_feed 59 = .ok (.l2i, 1) := by decide +kernel
theorem dX10_feed_60 : decode cX10_feed 60 = .ok (.iastore, 1) := by decide +kernel
theorem dX10_feed_61 : decode cX10_feed 61 = .ok (.aload_n 0, 1) := by decide +kernel
theorem dX10_feed_62 : decode cX10_feed 62 = .ok (.dup, 1) := by decide +kernel
theorem dX10_feed_63 : decode cX10_feed 63 = .ok (.getfield 137, 3) := by decide +kernel
theorem dX10_feed_66 : decode cX10_feed 66 = .ok (.iconst 1, 1) := by decide +kernel
theorem dX10_feed_67 : decode cX10_feed 67 = .ok (.iadd, 1) := by decide +kernel
theorem dX10_feed_68 : decode cX10_feed 68 = .ok (.putfield 137, 3) := by decide +kernel
theorem dX10_feed_71 : decode cX10_feed 71 = .ok (.iinc 4 (-1), 3) := by decide +kernel
theorem dX10_feed_74 : decode cX10_feed 74 = .ok (.goto (-39), 3) := by decide +kernel
theorem dX10_feed_77 : decode cX10_feed 77 = .ok (.aload_n 0, 1) := by decide +kernel
theorem dX10_feed_78 : decode cX10_feed 78 = .ok (.getfield 137, 3) := by decide +kernel
theorem dX10_feed_81 : decode cX10_feed 81 = .ok (.ireturn, 1) := by decide +kernel
theorem dX10_here_0 : decode cX10_here 0 = .ok (.aload_n 0, 1) := by decide +kernel
theorem dX10_here_1 : decode cX10_here 1 = .ok (.getfield 143, 3) := by decide +kernel
theorem dX10_here_4 : decode cX10_here 4 = .ok (.aload_n 0, 1) := by decide +kernel
theorem dX10_here_5 : decode cX10_here 5 = .ok (.getfield 137, 3) := by decide +kernel
theorem dX10_here_8 : decode cX10_here 8 = .ok (.if_icmp .ge 30, 3) := by decide +kernel
theorem dX10_here_11 : decode cX10_here 11 = .ok (.aload_n 0, 1) := by decide +kernel
theorem dX10_here_12 : decode cX10_here 12 = .ok (.getfield 34, 3) := by decide +kernel
theorem dX10_here_15 : decode cX10_here 15 = .ok (.aload_n 0, 1) := by decide +kernel
theorem dX10_here_16 : decode cX10_here 16 = .ok (.getfield 143, 3) := by decide +kernel
theorem dX10_here_19 : decode cX10_here 19 = .ok (.iaload, 1) := by decide +kernel
theorem dX10_here_20 : decode cX10_here 20 = .ok (.bipush 32, 2) := by decide +kernel
theorem dX10_here_22 : decode cX10_here 22 = .ok (.if_icmp .ne 16, 3) := by decide +kernel
theorem dX10_here_25 : decode cX10_here 25 = .ok (.aload_n 0, 1) := by decide +kernel
theorem dX10_here_26 : decode cX10_here 26 = .ok (.dup, 1) := by decide +kernel
theorem dX10_here_27 : decode cX10_here 27 = .ok (.getfield 143, 3) := by decide +kernel
theorem dX10_here_30 : decode cX10_here 30 = .ok (.iconst 1, 1) := by decide +kernel
theorem dX10_here_31 : decode cX10_here 31 = .ok (.iadd, 1) := by decide +kernel
theorem dX10_here_32 : decode cX10_here 32 = .ok (.putfield 143, 3) := by decide +kernel
theorem dX10_here_35 : decode cX10_here 35 = .ok (.goto (-35), 3) := by decide +kernel
theorem dX10_here_38 : decode cX10_here 38 = .ok (.aload_n 0, 1) := by decide +kernel
theorem dX10_here_39 : decode cX10_here 39 = .ok (.getfield 143, 3) := by decide +kernel
theorem dX10_here_42 : decode cX10_here 42 = .ok (.aload_n 0, 1) := by decide +kernel
theorem dX10_here_43 : decode cX10_here 43 = .ok (.getfield 137, 3) := by decide +kernel
theorem dX10_here_46 : decode cX10_here 46 = .ok (.if_icmp .ge 15, 3) := by decide +kernel
theorem dX10_here_49 : decode cX10_here 49 = .ok (.aload_n 0, 1) := by decide +kernel
theorem dX10_here_50 : decode cX10_here 50 = .ok (.getfield 34, 3) := by decide +kernel
theorem dX10_here_53 : decode cX10_here 53 = .ok (.aload_n 0, 1) := by decide +kernel
theorem dX10_here_54 : decode cX10_here 54 = .ok (.getfield 143, 3) := by decide +kernel
theorem dX10_here_57 : decode cX10_here 57 = .ok (.iaload, 1) := by decide +kernel
theorem dX10_here_58 : decode cX10_here 58 = .ok (.goto 4, 3) := by decide +kernel
theorem dX10_here_61 : decode cX10_here 61 = .ok (.iconst (-1), 1) := by decide +kernel
theorem dX10_here_62 : decode cX10_here 62 = .ok (.ireturn, 1) := by decide +kernel
theorem dX10_fails_0 : decode cX10_fails 0 = .ok (.aload_n 0, 1) := by decide +kernel
theorem dX10_fails_1 : decode cX10_fails 1 = .ok (.iload_n 2, 1) := by decide +kernel
theorem dX10_fails_2 : decode cX10_fails 2 = .ok (.putfield 37, 3) := by decide +kernel
theorem dX10_fails_5 : decode cX10_fails 5 = .ok (.iload_n 1, 1) := by decide +kernel
theorem dX10_fails_6 : decode cX10_fails 6 = .ok (.ireturn, 1) := by decide +kernel
theorem dX10_readWord_0 : decode cX10_readWord 0 = .ok (.aload_n 0, 1) := by decide +kernel
theorem dX10_readWord_1 : decode cX10_readWord 1 = .ok (.invokevirtual 146, 3) := by decide +kernel
theorem dX10_readWord_4 : decode cX10_readWord 4 = .ok (.istore_n 1, 1) := by decide +kernel
theorem dX10_readWord_5 : decode cX10_readWord 5 = .ok (.aload_n 0, 1) := by decide +kernel
theorem dX10_readWord_6 : decode cX10_readWord 6 = .ok (.lconst 0, 1) := by decide +kernel
theorem dX10_readWord_7 : decode cX10_readWord 7 = .ok (.putfield 150, 3) := by decide +kernel
theorem dX10_readWord_10 : decode cX10_readWord 10 = .ok (.aload_n 0, 1) := by decide +kernel
theorem dX10_readWord_11 : decode cX10_readWord 11 = .ok (.aload_n 0, 1) := by decide +kernel
theorem dX10_readWord_12 : decode cX10_readWord 12 = .ok (.getfield 143, 3) := by decide +kernel
theorem dX10_readWord_15 : decode cX10_readWord 15 = .ok (.putfield 154, 3) := by decide +kernel
theorem dX10_readWord_18 : decode cX10_readWord 18 = .ok (.aload_n 0, 1) := by decide +kernel
theorem dX10_readWord_19 : decode cX10_readWord 19 = .ok (.getfield 154, 3) := by decide +kernel
theorem dX10_readWord_22 : decode cX10_readWord 22 = .ok (.aload_n 0, 1) := by decide +kernel
theorem dX10_readWord_23 : decode cX10_readWord 23 = .ok (.getfield 137, 3) := by decide +kernel
theorem dX10_readWord_26 : decode cX10_readWord 26 = .ok (.if_icmp .ge 82, 3) := by decide +kernel
theorem dX10_readWord_29 : decode cX10_readWord 29 = .ok (.aload_n 0, 1) := by decide +kernel
theorem dX10_readWord_30 : decode cX10_readWord 30 = .ok (.getfield 34, 3) := by decide +kernel
theorem dX10_readWord_33 : decode cX10_readWord 33 = .ok (.aload_n 0, 1) := by decide +kernel
theorem dX10_readWord_34 : decode cX10_readWord 34 = .ok (.getfield 154, 3) := by decide +kernel
theorem dX10_readWord_37 : decode cX10_readWord 37 = .ok (.iaload, 1) := by decide +kernel
theorem dX10_readWord_38 : decode cX10_readWord 38 = .ok (.i2l, 1) := by decide +kernel
theorem dX10_readWord_39 : decode cX10_readWord 39 = .ok (.ldc2_w 157, 3) := by decide +kernel
theorem dX10_readWord_42 : decode cX10_readWord 42 = .ok (.ldc2_w 159, 3) := by decide +kernel
theorem dX10_readWord_45 : decode cX10_readWord 45 = .ok (.invokestatic 124, 3) := by decide +kernel
theorem dX10_readWord_48 : decode cX10_readWord 48 = .ok (.ifCond .eq 60, 3) := by decide +kernel
theorem dX10_readWord_51 : decode cX10_readWord 51 = .ok (.aload_n 0, 1) := by decide +kernel
theorem dX10_readWord_52 : decode cX10_readWord 52 = .ok (.aload_n 0, 1) := by decide +kernel
theorem dX10_readWord_53 : decode cX10_readWord 53 = .ok (.getfield 150, 3) := by decide +kernel
theorem dX10_readWord_56 : decode cX10_readWord 56 = .ok (.ldc2_w 161, 3) := by decide +kernel
theorem dX10_readWord_59 : decode cX10_readWord 59 = .ok (.lcmp, 1) := by decide +kernel
theorem dX10_readWord_60 : decode cX10_readWord 60 = .ok (.ifCond .le 9, 3) := by decide +kernel
theorem dX10_readWord_63 : decode cX10_readWord 63 = .ok (.ldc2_w 163, 3) := by decide +kernel
theorem dX10_readWord_66 : decode cX10_readWord 66 = .ok (.goto 26, 3) := by decide +kernel
theorem dX10_readWord_69 : decode cX10_readWord 69 = .ok (.ldc2_w 165, 3) := by decide +kernel
theorem dX10_readWord_72 : decode cX10_readWord 72 = .ok (.aload_n 0, 1) := by decide +kernel
theorem dX10_readWord_73 : decode cX10_readWord 73 = .ok (.getfield 150, 3) := by decide +kernel
theorem dX10_readWord_76 : decode cX10_readWord 76 = .ok (.lmul, 1) := by decide +kernel
theorem dX10_readWord_77 : decode cX10_readWord 77 = .ok (.aload_n 0, 1) := by decide +kernel
theorem dX10_readWord_78 : decode cX10_readWord 78 = .ok (.getfield 34, 3) := by decide +kernel
theorem dX10_readWord_81 : decode cX10_readWord 81 = .ok (.aload_n 0, 1) := by decide +kernel
theorem dX10_readWord_82 : decode cX10_readWord 82 = .ok (.getfield 154, 3) := by decide +kernel
theorem dX10_readWord_85 : decode cX10_readWord 85 = .ok (.iaload, 1) := by decide +kernel
theorem dX10_readWord_86 : decode cX10_readWord 86 = .ok (.i2l, 1) := by decide +kernel
theorem dX10_readWord_87 : decode cX10_readWord 87 = .ok (.ladd, 1) := by decide +kernel
theorem dX10_readWord_88 : decode cX10_readWord 88 = .ok (.ldc2_w 167, 3) := by decide +kernel
theorem dX10_readWord_91 : decode cX10_readWord 91 = .ok (.lsub, 1) := by decide +kernel
theorem dX10_readWord_92 : decode cX10_readWord 92 = .ok (.putfield 150, 3) := by decide +kernel
theorem dX10_readWord_95 : decode cX10_readWord 95 = .ok (.aload_n 0, 1) := by decide +kernel
theorem dX10_readWord_96 : decode cX10_readWord 96 = .ok (.dup, 1) := by decide +kernel
theorem dX10_readWord_97 : decode cX10_readWord 97 = .ok (.getfield 154, 3) := by decide +kernel
theorem dX10_readWord_100 : decode cX10_readWord 100 = .ok (.iconst 1, 1) := by decide +kernel
theorem dX10_readWord_101 : decode cX10_readWord 101 = .ok (.iadd, 1) := by decide +kernel
theorem dX10_readWord_102 : decode cX10_readWord 102 = .ok (.putfield 154, 3) := by decide +kernel
theorem dX10_readWord_105 : decode cX10_readWord 105 = .ok (.goto (-87), 3) := by decide +kernel
theorem dX10_readWord_108 : decode cX10_readWord 108 = .ok (.return_, 1) := by decide +kernel
theorem dX10_code_0 : decode cX10_code 0 = .ok (.ldc2_w 165, 3) := by decide +kernel
theorem dX10_code_3 : decode cX10_code 3 = .ok (.ldc2_w 165, 3) := by decide +kernel
theorem dX10_code_6 : decode cX10_code 6 = .ok (.iload_n 0, 1) := by decide +kernel
theorem dX10_code_7 : decode cX10_code 7 = .ok (.i2l, 1) := by decide +kernel
theorem dX10_code_8 : decode cX10_code 8 = .ok (.ldc2_w 167, 3) := by decide +kernel
theorem dX10_code_11 : decode cX10_code 11 = .ok (.lsub, 1) := by decide +kernel
theorem dX10_code_12 : decode cX10_code 12 = .ok (.lmul, 1) := by decide +kernel
theorem dX10_code_13 : decode cX10_code 13 = .ok (.iload_n 1, 1) := by decide +kernel
theorem dX10_code_14 : decode cX10_code 14 = .ok (.i2l, 1) := by decide +kernel
theorem dX10_code_15 : decode cX10_code 15 = .ok (.ladd, 1) := by decide +kernel
theorem dX10_code_16 : decode cX10_code 16 = .ok (.ldc2_w 167, 3) := by decide +kernel
theorem dX10_code_19 : decode cX10_code 19 = .ok (.lsub, 1) := by decide +kernel
theorem dX10_code_20 : decode cX10_code 20 = .ok (.lmul, 1) := by decide +kernel
theorem dX10_code_21 : decode cX10_code 21 = .ok (.iload_n 2, 1) := by decide +kernel
theorem dX10_code_22 : decode cX10_code 22 = .ok (.i2l, 1) := by decide +kernel
theorem dX10_code_23 : decode cX10_code 23 = .ok (.ladd, 1) := by decide +kernel
theorem dX10_code_24 : decode cX10_code 24 = .ok (.ldc2_w 167, 3) := by decide +kernel
theorem dX10_code_27 : decode cX10_code 27 = .ok (.lsub, 1) := by decide +kernel
theorem dX10_code_28 : decode cX10_code 28 = .ok (.lreturn, 1) := by decide +kernel
theorem dX10_longer_0 : decode cX10_longer 0 = .ok (.iload_n 3, 1) := by decide +kernel
theorem dX10_longer_1 : decode cX10_longer 1 = .ok (.ifCond .ne 18, 3) := by decide +kernel
theorem dX10_longer_4 : decode cX10_longer 4 = .ok (.ldc2_w 165, 3) := by decide +kernel
theorem dX10_longer_7 : decode cX10_longer 7 = .ok (.lload_n 0, 1) := by decide +kernel
theorem dX10_longer_8 : decode cX10_longer 8 = .ok (.lmul, 1) := by decide +kernel
theorem dX10_longer_9 : decode cX10_longer 9 = .ok (.iload_n 2, 1) := by decide +kernel
theorem dX10_longer_10 : decode cX10_longer 10 = .ok (.i2l, 1) := by decide +kernel
theorem dX10_longer_11 : decode cX10_longer 11 = .ok (.ladd, 1) := by decide +kernel
theorem dX10_longer_12 : decode cX10_longer 12 = .ok (.ldc2_w 167, 3) := by decide +kernel
theorem dX10_longer_15 : decode cX10_longer 15 = .ok (.lsub, 1) := by decide +kernel
theorem dX10_longer_16 : decode cX10_longer 16 = .ok (.goto 26, 3) := by decide +kernel
theorem dX10_longer_19 : decode cX10_longer 19 = .ok (.ldc2_w 165, 3) := by decide +kernel
theorem dX10_longer_22 : decode cX10_longer 22 = .ok (.ldc2_w 165, 3) := by decide +kernel
theorem dX10_longer_25 : decode cX10_longer 25 = .ok (.lload_n 0, 1) := by decide +kernel
theorem dX10_longer_26 : decode cX10_longer 26 = .ok (.lmul, 1) := by decide +kernel
theorem dX10_longer_27 : decode cX10_longer 27 = .ok (.iload_n 2, 1) := by decide +kernel
theorem dX10_longer_28 : decode cX10_longer 28 = .ok (.i2l, 1) := by decide +kernel
theorem dX10_longer_29 : decode cX10_longer 29 = .ok (.ladd, 1) := by decide +kernel
theorem dX10_longer_30 : decode cX10_longer 30 = .ok (.ldc2_w 167, 3) := by decide +kernel
theorem dX10_longer_33 : decode cX10_longer 33 = .ok (.lsub, 1) := by decide +kernel
theorem dX10_longer_34 : decode cX10_longer 34 = .ok (.lmul, 1) := by decide +kernel
theorem dX10_longer_35 : decode cX10_longer 35 = .ok (.iload_n 3, 1) := by decide +kernel
theorem dX10_longer_36 : decode cX10_longer 36 = .ok (.i2l, 1) := by decide +kernel
theorem dX10_longer_37 : decode cX10_longer 37 = .ok (.ladd, 1) := by decide +kernel
theorem dX10_longer_38 : decode cX10_longer 38 = .ok (.ldc2_w 167, 3) := by decide +kernel
theorem dX10_longer_41 : decode cX10_longer 41 = .ok (.lsub, 1) := by decide +kernel
theorem dX10_longer_42 : decode cX10_longer 42 = .ok (.lreturn, 1) := by decide +kernel
theorem dX10_takeNumber_0 : decode cX10_takeNumber 0 = .ok (.aload_n 0, 1) := by decide +kernel
theorem dX10_takeNumber_1 : decode cX10_takeNumber 1 = .ok (.invokevirtual 146, 3) := by decide +kernel
theorem dX10_takeNumber_4 : decode cX10_takeNumber 4 = .ok (.istore_n 3, 1) := by decide +kernel
theorem dX10_takeNumber_5 : decode cX10_takeNumber 5 = .ok (.iload_n 3, 1) := by decide +kernel
theorem dX10_takeNumber_6 : decode cX10_takeNumber 6 = .ok (.i2l, 1) := by decide +kernel
theorem dX10_takeNumber_7 : decode cX10_takeNumber 7 = .ok (.ldc2_w 169, 3) := by decide +kernel
theorem dX10_takeNumber_10 : decode cX10_takeNumber 10 = .ok (.ldc2_w 171, 3) := by decide +kernel
theorem dX10_takeNumber_13 : decode cX10_takeNumber 13 = .ok (.invokestatic 124, 3) := by decide +kernel
theorem dX10_takeNumber_16 : decode cX10_takeNumber 16 = .ok (.ifCond .ne 13, 3) := by decide +kernel
theorem dX10_takeNumber_19 : decode cX10_takeNumber 19 = .ok (.aload_n 0, 1) := by decide +kernel
theorem dX10_takeNumber_20 : decode cX10_takeNumber 20 = .ok (.iconst 1, 1) := by decide +kernel
theorem dX10_takeNumber_21 : decode cX10_takeNumber 21 = .ok (.aload_n 0, 1) := by decide +kernel
theorem dX10_takeNumber_22 : decode cX10_takeNumber 22 = .ok (.getfield 143, 3) := by decide +kernel
theorem dX10_takeNumber_25 : decode cX10_takeNumber 25 = .ok (.invokevirtual 173, 3) := by decide +kernel
theorem dX10_takeNumber_28 : decode cX10_takeNumber 28 = .ok (.ireturn, 1) := by decide +kernel
theorem dX10_takeNumber_29 : decode cX10_takeNumber 29 = .ok (.aload_n 0, 1) := by decide +kernel
theorem dX10_takeNumber_30 : decode cX10_takeNumber 30 = .ok (.aload_n 0, 1) := by decide +kernel
theorem dX10_takeNumber_31 : decode cX10_takeNumber 31 = .ok (.getfield 143, 3) := by decide +kernel
theorem dX10_takeNumber_34 : decode cX10_takeNumber 34 = .ok (.putfield 177, 3) := by decide +kernel
theorem dX10_takeNumber_37 : decode cX10_takeNumber 37 = .ok (.aload_n 0, 1) := by decide +kernel
theorem dX10_takeNumber_38 : decode cX10_takeNumber 38 = .ok (.iconst 0, 1) := by decide +kernel
theorem dX10_takeNumber_39 : decode cX10_takeNumber 39 = .ok (.putfield 180, 3) := by decide +kernel
theorem dX10_takeNumber_42 : decode cX10_takeNumber 42 = .ok (.aload_n 0, 1) := by decide +kernel
theorem dX10_takeNumber_43 : decode cX10_takeNumber 43 = .ok (.getfield 143, 3) := by decide +kernel
theorem dX10_takeNumber_46 : decode cX10_takeNumber 46 = .ok (.aload_n 0, 1) := by decide +kernel
theorem dX10_takeNumber_47 : decode cX10_takeNumber 47 = .ok (.getfield 137, 3) := by decide +kernel
theorem dX10_takeNumber_50 : decode cX10_takeNumber 50 = .ok (.if_icmp .ge 79, 3) := by decide +kernel
theorem dX10_takeNumber_53 : decode cX10_takeNumber 53 = .ok (.aload_n 0, 1) := by decide +kernel
theorem dX10_takeNumber_54 : decode cX10_takeNumber 54 = .ok (.getfield 34, 3) := by decide +kernel
theorem dX10_takeNumber_57 : decode cX10_takeNumber 57 = .ok (.aload_n 0, 1) := by decide +kernel
theorem dX10_takeNumber_58 : decode cX10_takeNumber 58 = .ok (.getfield 143, 3) := by decide +kernel
theorem dX10_takeNumber_61 : decode cX10_takeNumber 61 = .ok (.iaload, 1) := by decide +kernel
theorem dX10_takeNumber_62 : decode cX10_takeNumber 62 = .ok (.i2l, 1) := by decide +kernel
theorem dX10_takeNumber_63 : decode cX10_takeNumber 63 = .ok (.ldc2_w 169, 3) := by decide +kernel
theorem dX10_takeNumber_66 : decode cX10_takeNumber 66 = .ok (.ldc2_w 171, 3) := by decide +kernel
theorem dX10_takeNumber_69 : decode cX10_takeNumber 69 = .ok (.invokestatic 124, 3) := by decide +kernel
theorem dX10_takeNumber_72 : decode cX10_takeNumber 72 = .ok (.ifCond .eq 57, 3) := by decide +kernel
theorem dX10_takeNumber_75 : decode cX10_takeNumber 75 = .ok (.aload_n 0, 1) := by decide +kernel
theorem dX10_takeNumber_76 : decode cX10_takeNumber 76 = .ok (.aload_n 0, 1) := by decide +kernel
theorem dX10_takeNumber_77 : decode cX10_takeNumber 77 = .ok (.getfield 180, 3) := by decide +kernel
theorem dX10_takeNumber_80 : decode cX10_takeNumber 80 = .ok (.sipush 10000, 3) := by decide +kernel
theorem dX10_takeNumber_83 : decode cX10_takeNumber 83 = .ok (.if_icmp .le 10, 3) := by decide +kernel
theorem dX10_takeNumber_86 : decode cX10_takeNumber 86 = .ok (.aload_n 0, 1) := by decide +kernel
theorem dX10_takeNumber_87 : decode cX10_takeNumber 87 = .ok (.getfield 180, 3) := by decide +kernel
theorem dX10_takeNumber_90 : decode cX10_takeNumber 90 = .ok (.goto 23, 3) := by decide +kernel
theorem dX10_takeNumber_93 : decode cX10_takeNumber 93 = .ok (.bipush 10, 2) := by decide +kernel
theorem dX10_takeNumber_95 : decode cX10_takeNumber 95 = .ok (.aload_n 0, 1) := by decide +kernel
theorem dX10_takeNumber_96 : decode cX10_takeNumber 96 = .ok (.getfield 180, 3) := by decide +kernel
theorem dX10_takeNumber_99 : decode cX10_takeNumber 99 = .ok (.imul, 1) := by decide +kernel
theorem dX10_takeNumber_100 : decode cX10_takeNumber 100 = .ok (.aload_n 0, 1) := by decide +kernel
theorem dX10_takeNumber_101 : decode cX10_takeNumber 101 = .ok (.getfield 34, 3) := by decide +kernel
theorem dX10_takeNumber_104 : decode cX10_takeNumber 104 = .ok (.aload_n 0, 1) := by decide +kernel
theorem dX10_takeNumber_105 : decode cX10_takeNumber 105 = .ok (.getfield 143, 3) := by decide +kernel
theorem dX10_takeNumber_108 : decode cX10_takeNumber 108 = .ok (.iaload, 1) := by decide +kernel
theorem dX10_takeNumber_109 : decode cX10_takeNumber 109 = .ok (.iadd, 1) := by decide +kernel
theorem dX10_takeNumber_110 : decode cX10_takeNumber 110 = .ok (.bipush 48, 2) := by decide +kernel
theorem dX10_takeNumber_112 : decode cX10_takeNumber 112 = .ok (.isub, 1) := by decide +kernel
theorem dX10_takeNumber_113 : decode cX10_takeNumber 113 = .ok (.putfield 180, 3) := by decide +kernel
theorem dX10_takeNumber_116 : decode cX10_takeNumber 116 = .ok (.aload_n 0, 1) := by decide +kernel
theorem dX10_takeNumber_117 : decode cX10_takeNumber 117 = .ok (.dup, 1) := by decide +kernel
theorem dX10_takeNumber_118 : decode cX10_takeNumber 118 = .ok (.getfield 143, 3) := by decide +kernel
theorem dX10_takeNumber_121 : decode cX10_takeNumber 121 = .ok (.iconst 1, 1) := by decide +kernel
theorem dX10_takeNumber_122 : decode cX10_takeNumber 122 = .ok (.iadd, 1) := by decide +kernel
theorem dX10_takeNumber_123 : decode cX10_takeNumber 123 = .ok (.putfield 143, 3) := by decide +kernel
theorem dX10_takeNumber_126 : decode cX10_takeNumber 126 = .ok (.goto (-84), 3) := by decide +kernel
theorem dX10_takeNumber_129 : decode cX10_takeNumber 129 = .ok (.aload_n 0, 1) := by decide +kernel
theorem dX10_takeNumber_130 : decode cX10_takeNumber 130 = .ok (.getfield 143, 3) := by decide +kernel
theorem dX10_takeNumber_133 : decode cX10_takeNumber 133 = .ok (.aload_n 0, 1) := by decide +kernel
theorem dX10_takeNumber_134 : decode cX10_takeNumber 134 = .ok (.getfield 177, 3) := by decide +kernel
theorem dX10_takeNumber_137 : decode cX10_takeNumber 137 = .ok (.isub, 1) := by decide +kernel
theorem dX10_takeNumber_138 : decode cX10_takeNumber 138 = .ok (.iconst 3, 1) := by decide +kernel
theorem dX10_takeNumber_139 : decode cX10_takeNumber 139 = .ok (.if_icmp .gt 18, 3) := by decide +kernel
theorem dX10_takeNumber_142 : decode cX10_takeNumber 142 = .ok (.aload_n 0, 1) := by decide +kernel
theorem dX10_takeNumber_143 : decode cX10_takeNumber 143 = .ok (.getfield 180, 3) := by decide +kernel
theorem dX10_takeNumber_146 : decode cX10_takeNumber 146 = .ok (.i2l, 1) := by decide +kernel
theorem dX10_takeNumber_147 : decode cX10_takeNumber 147 = .ok (.iload_n 1, 1) := by decide +kernel
theorem dX10_takeNumber_148 : decode cX10_takeNumber 148 = .ok (.i2l, 1) := by decide +kernel
theorem dX10_takeNumber_149 : decode cX10_takeNumber 149 = .ok (.iload_n 2, 1) := by decide +kernel
theorem dX10_takeNumber_150 : decode cX10_takeNumber 150 = .ok (.i2l, 1) := by decide +kernel
theorem dX10_takeNumber_151 : decode cX10_takeNumber 151 = .ok (.invokestatic 124, 3) := by decide +kernel
theorem dX10_takeNumber_154 : decode cX10_takeNumber 154 = .ok (.ifCond .ne 15, 3) := by decide +kernel
theorem dX10_takeNumber_157 : decode cX10_takeNumber 157 = .ok (.aload_n 0, 1) := by decide +kernel
theorem dX10_takeNumber_158 : decode cX10_takeNumber 158 = .ok (.iconst 2, 1) := by decide +kernel
theorem dX10_takeNumber_159 : decode cX10_takeNumber 159 = .ok (.aload_n 0, 1) := by decide +kernel
theorem dX10_takeNumber_160 : decode cX10_takeNumber 160 = .ok (.getfield 177, 3) := by decide +kernel
theorem dX10_takeNumber_163 : decode cX10_takeNumber 163 = .ok (.invokevirtual 173, 3) := by decide +kernel
theorem dX10_takeNumber_166 : decode cX10_takeNumber 166 = .ok (.goto 4, 3) := by decide +kernel
theorem dX10_takeNumber_169 : decode cX10_takeNumber 169 = .ok (.iconst 0, 1) := by decide +kernel
theorem dX10_takeNumber_170 : decode cX10_takeNumber 170 = .ok (.ireturn, 1) := by decide +kernel
theorem dX10_into_0 : decode cX10_into 0 = .ok (.aload_n 0, 1) := by decide +kernel
theorem dX10_into_1 : decode cX10_into 1 = .ok (.iload_n 3, 1) := by decide +kernel
theorem dX10_into_2 : decode cX10_into 2 = .ok (.iload 4, 2) := by decide +kernel
theorem dX10_into_4 : decode cX10_into 4 = .ok (.invokevirtual 183, 3) := by decide +kernel
theorem dX10_into_7 : decode cX10_into 7 = .ok (.istore 5, 2) := by decide +kernel
theorem dX10_into_9 : decode cX10_into 9 = .ok (.aload_n 1, 1) := by decide +kernel
theorem dX10_into_10 : decode cX10_into 10 = .ok (.iload_n 2, 1) := by decide +kernel
theorem dX10_into_11 : decode cX10_into 11 = .ok (.aload_n 0, 1) := by decide +kernel
theorem dX10_into_12 : decode cX10_into 12 = .ok (.getfield 180, 3) := by decide +kernel
theorem dX10_into_15 : decode cX10_into 15 = .ok (.iastore, 1) := by decide +kernel
theorem dX10_into_16 : decode cX10_into 16 = .ok (.iload 5, 2) := by decide +kernel
theorem dX10_into_18 : decode cX10_into 18 = .ok (.ireturn, 1) := by decide +kernel
theorem dX10_takeWay_0 : decode cX10_takeWay 0 = .ok (.aload_n 0, 1) := by decide +kernel
theorem dX10_takeWay_1 : decode cX10_takeWay 1 = .ok (.getfield 186, 3) := by decide +kernel
theorem dX10_takeWay_4 : decode cX10_takeWay 4 = .ok (.istore_n 1, 1) := by decide +kernel
theorem dX10_takeWay_5 : decode cX10_takeWay 5 = .ok (.aload_n 0, 1) := by decide +kernel
theorem dX10_takeWay_6 : decode cX10_takeWay 6 = .ok (.aload_n 0, 1) := by decide +kernel
theorem dX10_takeWay_7 : decode cX10_takeWay 7 = .ok (.getfield 41, 3) := by decide +kernel
theorem dX10_takeWay_10 : decode cX10_takeWay 10 = .ok (.iload_n 1, 1) := by decide +kernel
theorem dX10_takeWay_11 : decode cX10_takeWay 11 = .ok (.iconst 0, 1) := by decide +kernel
theorem dX10_takeWay_12 : decode cX10_takeWay 12 = .ok (.aload_n 0, 1) := by decide +kernel
theorem dX10_takeWay_13 : decode cX10_takeWay 13 = .ok (.getfield 189, 3) := by decide +kernel
theorem dX10_takeWay_16 : decode cX10_takeWay 16 = .ok (.iconst 1, 1) := by decide +kernel
theorem dX10_takeWay_17 : decode cX10_takeWay 17 = .ok (.isub, 1) := by decide +kernel
theorem dX10_takeWay_18 : decode cX10_takeWay 18 = .ok (.invokevirtual 192, 3) := by decide +kernel
theorem dX10_takeWay_21 : decode cX10_takeWay 21 = .ok (.istore_n 2, 1) := by decide +kernel
theorem dX10_takeWay_22 : decode cX10_takeWay 22 = .ok (.iload_n 2, 1) := by decide +kernel
theorem dX10_takeWay_23 : decode cX10_takeWay 23 = .ok (.ifCond .le 7, 3) := by decide +kernel
theorem dX10_takeWay_26 : decode cX10_takeWay 26 = .ok (.iload_n 2, 1) := by decide +kernel
theorem dX10_takeWay_27 : decode cX10_takeWay 27 = .ok (.goto 19, 3) := by decide +kernel
theorem dX10_takeWay_30 : decode cX10_takeWay 30 = .ok (.aload_n 0, 1) := by decide +kernel
theorem dX10_takeWay_31 : decode cX10_takeWay 31 = .ok (.aload_n 0, 1) := by decide +kernel
theorem dX10_takeWay_32 : decode cX10_takeWay 32 = .ok (.getfield 44, 3) := by decide +kernel
theorem dX10_takeWay_35 : decode cX10_takeWay 35 = .ok (.iload_n 1, 1) := by decide +kernel
theorem dX10_takeWay_36 : decode cX10_takeWay 36 = .ok (.iconst 0, 1) := by decide +kernel
theorem dX10_takeWay_37 : decode cX10_takeWay 37 = .ok (.aload_n 0, 1) := by decide +kernel
theorem dX10_takeWay_38 : decode cX10_takeWay 38 = .ok (.getfield 189, 3) := by decide +kernel
theorem dX10_takeWay_41 : decode cX10_takeWay 41 = .ok (.iconst 1, 1) := by decide +kernel
theorem dX10_takeWay_42 : decode cX10_takeWay 42 = .ok (.isub, 1) := by decide +kernel
theorem dX10_takeWay_43 : decode cX10_takeWay 43 = .ok (.invokevirtual 192, 3) := by decide +kernel
theorem dX10_takeWay_46 : decode cX10_takeWay 46 = .ok (.istore_n 2, 1) := by decide +kernel
theorem dX10_takeWay_47 : decode cX10_takeWay 47 = .ok (.iload_n 2, 1) := by decide +kernel
theorem dX10_takeWay_48 : decode cX10_takeWay 48 = .ok (.ifCond .le 5, 3) := by decide +kernel
theorem dX10_takeWay_51 : decode cX10_takeWay 51 = .ok (.iload_n 2, 1) := by decide +kernel
theorem dX10_takeWay_52 : decode cX10_takeWay 52 = .ok (.ireturn, 1) := by decide +kernel
theorem dX10_takeWay_53 : decode cX10_takeWay 53 = .ok (.aload_n 0, 1) := by decide +kernel
theorem dX10_takeWay_54 : decode cX10_takeWay 54 = .ok (.getfield 41, 3) := by decide +kernel
theorem dX10_takeWay_57 : decode cX10_takeWay 57 = .ok (.iload_n 1, 1) := by decide +kernel
theorem dX10_takeWay_58 : decode cX10_takeWay 58 = .ok (.iaload, 1) := by decide +kernel
theorem dX10_takeWay_59 : decode cX10_takeWay 59 = .ok (.aload_n 0, 1) := by decide +kernel
theorem dX10_takeWay_60 : decode cX10_takeWay 60 = .ok (.getfield 44, 3) := by decide +kernel
theorem dX10_takeWay_63 : decode cX10_takeWay 63 = .ok (.iload_n 1, 1) := by decide +kernel
theorem dX10_takeWay_64 : decode cX10_takeWay 64 = .ok (.iaload, 1) := by decide +kernel
theorem dX10_takeWay_65 : decode cX10_takeWay 65 = .ok (.if_icmp .ne 7, 3) := by decide +kernel
theorem dX10_takeWay_68 : decode cX10_takeWay 68 = .ok (.iconst 1, 1) := by decide +kernel
theorem dX10_takeWay_69 : decode cX10_takeWay 69 = .ok (.goto 4, 3) := by decide +kernel
theorem dX10_takeWay_72 : decode cX10_takeWay 72 = .ok (.iconst 0, 1) := by decide +kernel
theorem dX10_takeWay_73 : decode cX10_takeWay 73 = .ok (.istore_n 3, 1) := by decide +kernel
theorem dX10_takeWay_74 : decode cX10_takeWay 74 = .ok (.iconst 0, 1) := by decide +kernel
theorem dX10_takeWay_75 : decode cX10_takeWay 75 = .ok (.istore 4, 2) := by decide +kernel
theorem dX10_takeWay_77 : decode cX10_takeWay 77 = .ok (.iload 4, 2) := by decide +kernel
theorem dX10_takeWay_79 : decode cX10_takeWay 79 = .ok (.iload_n 1, 1) := by decide +kernel
theorem dX10_takeWay_80 : decode cX10_takeWay 80 = .ok (.if_icmp .ge 83, 3) := by decide +kernel
theorem dX10_takeWay_83 : decode cX10_takeWay 83 = .ok (.iload_n 3, 1) := by decide +kernel
theorem dX10_takeWay_84 : decode cX10_takeWay 84 = .ok (.ifCond .ne 67, 3) := by decide +kernel
theorem dX10_takeWay_87 : decode cX10_takeWay 87 = .ok (.aload_n 0, 1) := by decide +kernel
theorem dX10_takeWay_88 : decode cX10_takeWay 88 = .ok (.getfield 41, 3) := by decide +kernel
theorem dX10_takeWay_91 : decode cX10_takeWay 91 = .ok (.iload 4, 2) := by decide +kernel
theorem dX10_takeWay_93 : decode cX10_takeWay 93 = .ok (.iaload, 1) := by decide +kernel
theorem dX10_takeWay_94 : decode cX10_takeWay 94 = .ok (.aload_n 0, 1) := by decide +kernel
theorem dX10_takeWay_95 : decode cX10_takeWay 95 = .ok (.getfield 41, 3) := by decide +kernel
theorem dX10_takeWay_98 : decode cX10_takeWay 98 = .ok (.iload_n 1, 1) := by decide +kernel
theorem dX10_takeWay_99 : decode cX10_takeWay 99 = .ok (.iaload, 1) := by decide +kernel
theorem dX10_takeWay_100 : decode cX10_takeWay 100 = .ok (.if_icmp .ne 19, 3) := by decide +kernel
theorem dX10_takeWay_103 : decode cX10_takeWay 103 = .ok (.aload_n 0, 1) := by decide +kernel
theorem dX10_takeWay_104 : decode cX10_takeWay 104 = .ok (.getfield 44, 3) := by decide +kernel
theorem dX10_takeWay_107 : decode cX10_takeWay 107 = .ok (.iload 4, 2) := by decide +kernel
theorem dX10_takeWay_109 : decode cX10_takeWay 109 = .ok (.iaload, 1) := by decide +kernel
theorem dX10_takeWay_110 : decode cX10_takeWay 110 = .ok (.aload_n 0, 1) := by decide +kernel
theorem dX10_takeWay_111 : decode cX10_takeWay 111 = .ok (.getfield 44, 3) := by decide +kernel
theorem dX10_takeWay_114 : decode cX10_takeWay 114 = .ok (.iload_n 1, 1) := by decide +kernel
theorem dX10_takeWay_115 : decode cX10_takeWay 115 = .ok (.iaload, 1) := by decide +kernel
theorem dX10_takeWay_116 : decode cX10_takeWay 116 = .ok (.if_icmp .eq 35, 3) := by decide +kernel
theorem dX10_takeWay_119 : decode cX10_takeWay 119 = .ok (.aload_n 0, 1) := by decide +kernel
theorem dX10_takeWay_120 : decode cX10_takeWay 120 = .ok (.getfield 41, 3) := by decide +kernel
theorem dX10_takeWay_123 : decode cX10_takeWay 123 = .ok (.iload 4, 2) := by decide +kernel
theorem dX10_takeWay_125 : decode cX10_takeWay 125 = .ok (.iaload, 1) := by decide +kernel
theorem dX10_takeWay_126 : decode cX10_takeWay 126 = .ok (.aload_n 0, 1) := by decide +kernel
theorem dX10_takeWay_127 : decode cX10_takeWay 127 = .ok (.getfield 44, 3) := by decide +kernel
theorem dX10_takeWay_130 : decode cX10_takeWay 130 = .ok (.iload_n 1, 1) := by decide +kernel
theorem dX10_takeWay_131 : decode cX10_takeWay 131 = .ok (.iaload, 1) := by decide +kernel
theorem dX10_takeWay_132 : decode cX10_takeWay 132 = .ok (.if_icmp .ne 23, 3) := by decide +kernel
theorem dX10_takeWay_135 : decode cX10_takeWay 135 = .ok (.aload_n 0, 1) := by decide +kernel
theorem dX10_takeWay_136 : decode cX10_takeWay 136 = .ok (.getfield 44, 3) := by decide +kernel
theorem dX10_takeWay_139 : decode cX10_takeWay 139 = .ok (.iload 4, 2) := by decide +kernel
theorem dX10_takeWay_141 : decode cX10_takeWay 141 = .ok (.iaload, 1) := by decide +kernel
theorem dX10_takeWay_142 : decode cX10_takeWay 142 = .ok (.aload_n 0, 1) := by decide +kernel
theorem dX10_takeWay_143 : decode cX10_takeWay 143 = .ok (.getfield 41, 3) := by decide +kernel
theorem dX10_takeWay_146 : decode cX10_takeWay 146 = .ok (.iload_n 1, 1) := by decide +kernel
theorem dX10_takeWay_147 : decode cX10_takeWay 147 = .ok (.iaload, 1) := by decide +kernel
theorem dX10_takeWay_148 : decode cX10_takeWay 148 = .ok (.if_icmp .ne 7, 3) := by decide +kernel
theorem dX10_takeWay_151 : decode cX10_takeWay 151 = .ok (.iconst 1, 1) := by decide +kernel
theorem dX10_takeWay_152 : decode cX10_takeWay 152 = .ok (.goto 4, 3) := by decide +kernel
theorem dX10_takeWay_155 : decode cX10_takeWay 155 = .ok (.iconst 0, 1) := by decide +kernel
theorem dX10_takeWay_156 : decode cX10_takeWay 156 = .ok (.istore_n 3, 1) := by decide +kernel
theorem dX10_takeWay_157 : decode cX10_takeWay 157 = .ok (.iinc 4 1, 3) := by decide +kernel
theorem dX10_takeWay_160 : decode cX10_takeWay 160 = .ok (.goto (-83), 3) := by decide +kernel
theorem dX10_takeWay_163 : decode cX10_takeWay 163 = .ok (.aload_n 0, 1) := by decide +kernel
theorem dX10_takeWay_164 : decode cX10_takeWay 164 = .ok (.dup, 1) := by decide +kernel
theorem dX10_takeWay_165 : decode cX10_takeWay 165 = .ok (.getfield 186, 3) := by decide +kernel
theorem dX10_takeWay_168 : decode cX10_takeWay 168 = .ok (.iconst 1, 1) := by decide +kernel
theorem dX10_takeWay_169 : decode cX10_takeWay 169 = .ok (.iadd, 1) := by decide +kernel
theorem dX10_takeWay_170 : decode cX10_takeWay 170 = .ok (.putfield 186, 3) := by decide +kernel
theorem dX10_takeWay_173 : decode cX10_takeWay 173 = .ok (.iload_n 3, 1) := by decide +kernel
theorem dX10_takeWay_174 : decode cX10_takeWay 174 = .ok (.ifCond .eq 15, 3) := by decide +kernel
theorem dX10_takeWay_177 : decode cX10_takeWay 177 = .ok (.aload_n 0, 1) := by decide +kernel
theorem dX10_takeWay_178 : decode cX10_takeWay 178 = .ok (.iconst 4, 1) := by decide +kernel
theorem dX10_takeWay_179 : decode cX10_takeWay 179 = .ok (.aload_n 0, 1) := by decide +kernel
theorem dX10_takeWay_180 : decode cX10_takeWay 180 = .ok (.getfield 177, 3) := by decide +kernel
theorem dX10_takeWay_183 : decode cX10_takeWay 183 = .ok (.invokevirtual 173, 3) := by decide +kernel
theorem dX10_takeWay_186 : decode cX10_takeWay 186 = .ok (.goto 15, 3) := by decide +kernel
theorem dX10_takeWay_189 : decode cX10_takeWay 189 = .ok (.aload_n 0, 1) := by decide +kernel
theorem dX10_takeWay_190 : decode cX10_takeWay 190 = .ok (.aload_n 0, 1) := by decide +kernel
theorem dX10_takeWay_191 : decode cX10_takeWay 191 = .ok (.getfield 47, 3) := by decide +kernel
theorem dX10_takeWay_194 : decode cX10_takeWay 194 = .ok (.iload_n 1, 1) := by decide +kernel
theorem dX10_takeWay_195 : decode cX10_takeWay 195 = .ok (.iconst 1, 1) := by decide +kernel
theorem dX10_takeWay_196 : decode cX10_takeWay 196 = .ok (.bipush 99, 2) := by decide +kernel
theorem dX10_takeWay_198 : decode cX10_takeWay 198 = .ok (.invokevirtual 192, 3) := by decide +kernel
theorem dX10_takeWay_201 : decode cX10_takeWay 201 = .ok (.ireturn, 1) := by decide +kernel
theorem dX10_takeHabit_0 : decode cX10_takeHabit 0 = .ok (.aload_n 0, 1) := by decide +kernel
theorem dX10_takeHabit_1 : decode cX10_takeHabit 1 = .ok (.invokevirtual 196, 3) := by decide +kernel
theorem dX10_takeHabit_4 : decode cX10_takeHabit 4 = .ok (.aload_n 0, 1) := by decide +kernel
theorem dX10_takeHabit_5 : decode cX10_takeHabit 5 = .ok (.getfield 150, 3) := by decide +kernel
theorem dX10_takeHabit_8 : decode cX10_takeHabit 8 = .ok (.bipush 115, 2) := by decide +kernel
theorem dX10_takeHabit_10 : decode cX10_takeHabit 10 = .ok (.bipush 105, 2) := by decide +kernel
theorem dX10_takeHabit_12 : decode cX10_takeHabit 12 = .ok (.bipush 108, 2) := by decide +kernel
theorem dX10_takeHabit_14 : decode cX10_takeHabit 14 = .ok (.invokestatic 199, 3) := by decide +kernel
theorem dX10_takeHabit_17 : decode cX10_takeHabit 17 = .ok (.bipush 101, 2) := by decide +kernel
theorem dX10_takeHabit_19 : decode cX10_takeHabit 19 = .ok (.bipush 110, 2) := by decide +kernel
theorem dX10_takeHabit_21 : decode cX10_takeHabit 21 = .ok (.invokestatic 203, 3) := by decide +kernel
theorem dX10_takeHabit_24 : decode cX10_takeHabit 24 = .ok (.bipush 116, 2) := by decide +kernel
theorem dX10_takeHabit_26 : decode cX10_takeHabit 26 = .ok (.iconst 0, 1) := by decide +kernel
theorem dX10_takeHabit_27 : decode cX10_takeHabit 27 = .ok (.invokestatic 203, 3) := by decide +kernel
theorem dX10_takeHabit_30 : decode cX10_takeHabit 30 = .ok (.lcmp, 1) := by decide +kernel
theorem dX10_takeHabit_31 : decode cX10_takeHabit 31 = .ok (.ifCond .ne 7, 3) := by decide +kernel
theorem dX10_takeHabit_34 : decode cX10_takeHabit 34 = .ok (.iconst 0, 1) := by decide +kernel
theorem dX10_takeHabit_35 : decode cX10_takeHabit 35 = .ok (.goto 94, 3) := by decide +kernel
theorem dX10_takeHabit_38 : decode cX10_takeHabit 38 = .ok (.aload_n 0, 1) := by decide +kernel
theorem dX10_takeHabit_39 : decode cX10_takeHabit 39 = .ok (.getfield 150, 3) := by decide +kernel
theorem dX10_takeHabit_42 : decode cX10_takeHabit 42 = .ok (.bipush 102, 2) := by decide +kernel
theorem dX10_takeHabit_44 : decode cX10_takeHabit 44 = .ok (.bipush 105, 2) := by decide +kernel
theorem dX10_takeHabit_46 : decode cX10_takeHabit 46 = .ok (.bipush 114, 2) := by decide +kernel
theorem dX10_takeHabit_48 : decode cX10_takeHabit 48 = .ok (.invokestatic 199, 3) := by decide +kernel
theorem dX10_takeHabit_51 : decode cX10_takeHabit 51 = .ok (.bipush 115, 2) := by decide +kernel
theorem dX10_takeHabit_53 : decode cX10_takeHabit 53 = .ok (.bipush 116, 2) := by decide +kernel
theorem dX10_takeHabit_55 : decode cX10_takeHabit 55 = .ok (.invokestatic 203, 3) := by decide +kernel
theorem dX10_takeHabit_58 : decode cX10_takeHabit 58 = .ok (.lcmp, 1) := by decide +kernel
theorem dX10_takeHabit_59 : decode cX10_takeHabit 59 = .ok (.ifCond .ne 7, 3) := by decide +kernel
theorem dX10_takeHabit_62 : decode cX10_takeHabit 62 = .ok (.iconst 1, 1) := by decide +kernel
theorem dX10_takeHabit_63 : decode cX10_takeHabit 63 = .ok (.goto 66, 3) := by decide +kernel
theorem dX10_takeHabit_66 : decode cX10_takeHabit 66 = .ok (.aload_n 0, 1) := by decide +kernel
theorem dX10_takeHabit_67 : decode cX10_takeHabit 67 = .ok (.getfield 150, 3) := by decide +kernel
theorem dX10_takeHabit_70 : decode cX10_takeHabit 70 = .ok (.bipush 101, 2) := by decide +kernel
theorem dX10_takeHabit_72 : decode cX10_takeHabit 72 = .ok (.bipush 114, 2) := by decide +kernel
theorem dX10_takeHabit_74 : decode cX10_takeHabit 74 = .ok (.bipush 114, 2) := by decide +kernel
theorem dX10_takeHabit_76 : decode cX10_takeHabit 76 = .ok (.invokestatic 199, 3) := by decide +kernel
theorem dX10_takeHabit_79 : decode cX10_takeHabit 79 = .ok (.bipush 97, 2) := by decide +kernel
theorem dX10_takeHabit_81 : decode cX10_takeHabit 81 = .ok (.bipush 110, 2) := by decide +kernel
theorem dX10_takeHabit_83 : decode cX10_takeHabit 83 = .ok (.invokestatic 203, 3) := by decide +kernel
theorem dX10_takeHabit_86 : decode cX10_takeHabit 86 = .ok (.bipush 100, 2) := by decide +kernel
theorem dX10_takeHabit_88 : decode cX10_takeHabit 88 = .ok (.iconst 0, 1) := by decide +kernel
theorem dX10_takeHabit_89 : decode cX10_takeHabit 89 = .ok (.invokestatic 203, 3) := by decide +kernel
theorem dX10_takeHabit_92 : decode cX10_takeHabit 92 = .ok (.lcmp, 1) := by decide +kernel
theorem dX10_takeHabit_93 : decode cX10_takeHabit 93 = .ok (.ifCond .ne 7, 3) := by decide +kernel
theorem dX10_takeHabit_96 : decode cX10_takeHabit 96 = .ok (.iconst 2, 1) := by decide +kernel
theorem dX10_takeHabit_97 : decode cX10_takeHabit 97 = .ok (.goto 32, 3) := by decide +kernel
theorem dX10_takeHabit_100 : decode cX10_takeHabit 100 = .ok (.aload_n 0, 1) := by decide +kernel
theorem dX10_takeHabit_101 : decode cX10_takeHabit 101 = .ok (.getfield 150, 3) := by decide +kernel
theorem dX10_takeHabit_104 : decode cX10_takeHabit 104 = .ok (.bipush 119, 2) := by decide +kernel
theorem dX10_takeHabit_106 : decode cX10_takeHabit 106 = .ok (.bipush 104, 2) := by decide +kernel
theorem dX10_takeHabit_108 : decode cX10_takeHabit 108 = .ok (.bipush 111, 2) := by decide +kernel
theorem dX10_takeHabit_110 : decode cX10_takeHabit 110 = .ok (.invokestatic 199, 3) := by decide +kernel
theorem dX10_takeHabit_113 : decode cX10_takeHabit 113 = .ok (.bipush 108, 2) := by decide +kernel
theorem dX10_takeHabit_115 : decode cX10_takeHabit 115 = .ok (.bipush 101, 2) := by decide +kernel
theorem dX10_takeHabit_117 : decode cX10_takeHabit 117 = .ok (.invokestatic 203, 3) := by decide +kernel
theorem dX10_takeHabit_120 : decode cX10_takeHabit 120 = .ok (.lcmp, 1) := by decide +kernel
theorem dX10_takeHabit_121 : decode cX10_takeHabit 121 = .ok (.ifCond .ne 7, 3) := by decide +kernel
theorem dX10_takeHabit_124 : decode cX10_takeHabit 124 = .ok (.iconst 3, 1) := by decide +kernel
theorem dX10_takeHabit_125 : decode cX10_takeHabit 125 = .ok (.goto 4, 3) := by decide +kernel
theorem dX10_takeHabit_128 : decode cX10_takeHabit 128 = .ok (.iconst (-1), 1) := by decide +kernel
theorem dX10_takeHabit_129 : decode cX10_takeHabit 129 = .ok (.istore_n 1, 1) := by decide +kernel
theorem dX10_takeHabit_130 : decode cX10_takeHabit 130 = .ok (.iload_n 1, 1) := by decide +kernel
theorem dX10_takeHabit_131 : decode cX10_takeHabit 131 = .ok (.ifCond .ge 13, 3) := by decide +kernel
theorem dX10_takeHabit_134 : decode cX10_takeHabit 134 = .ok (.aload_n 0, 1) := by decide +kernel
theorem dX10_takeHabit_135 : decode cX10_takeHabit 135 = .ok (.iconst 1, 1) := by decide +kernel
theorem dX10_takeHabit_136 : decode cX10_takeHabit 136 = .ok (.aload_n 0, 1) := by decide +kernel
theorem dX10_takeHabit_137 : decode cX10_takeHabit 137 = .ok (.getfield 143, 3) := by decide +kernel
theorem dX10_takeHabit_140 : decode cX10_takeHabit 140 = .ok (.invokevirtual 173, 3) := by decide +kernel
theorem dX10_takeHabit_143 : decode cX10_takeHabit 143 = .ok (.ireturn, 1) := by decide +kernel
theorem dX10_takeHabit_144 : decode cX10_takeHabit 144 = .ok (.aload_n 0, 1) := by decide +kernel
theorem dX10_takeHabit_145 : decode cX10_takeHabit 145 = .ok (.getfield 59, 3) := by decide +kernel
theorem dX10_takeHabit_148 : decode cX10_takeHabit 148 = .ok (.aload_n 0, 1) := by decide +kernel
theorem dX10_takeHabit_149 : decode cX10_takeHabit 149 = .ok (.getfield 207, 3) := by decide +kernel
theorem dX10_takeHabit_152 : decode cX10_takeHabit 152 = .ok (.iload_n 1, 1) := by decide +kernel
theorem dX10_takeHabit_153 : decode cX10_takeHabit 153 = .ok (.iastore, 1) := by decide +kernel
theorem dX10_takeHabit_154 : decode cX10_takeHabit 154 = .ok (.aload_n 0, 1) := by decide +kernel
theorem dX10_takeHabit_155 : decode cX10_takeHabit 155 = .ok (.aload_n 0, 1) := by decide +kernel
theorem dX10_takeHabit_156 : decode cX10_takeHabit 156 = .ok (.getfield 154, 3) := by decide +kernel
theorem dX10_takeHabit_159 : decode cX10_takeHabit 159 = .ok (.putfield 143, 3) := by decide +kernel
theorem dX10_takeHabit_162 : decode cX10_takeHabit 162 = .ok (.iconst 0, 1) := by decide +kernel
theorem dX10_takeHabit_163 : decode cX10_takeHabit 163 = .ok (.ireturn, 1) := by decide +kernel
theorem dX10_takeKnows_0 : decode cX10_takeKnows 0 = .ok (.iconst 1, 1) := by decide +kernel
theorem dX10_takeKnows_1 : decode cX10_takeKnows 1 = .ok (.istore_n 1, 1) := by decide +kernel
theorem dX10_takeKnows_2 : decode cX10_takeKnows 2 = .ok (.iload_n 1, 1) := by decide +kernel
theorem dX10_takeKnows_3 : decode cX10_takeKnows 3 = .ok (.ifCond .eq 104, 3) := by decide +kernel
theorem dX10_takeKnows_6 : decode cX10_takeKnows 6 = .ok (.aload_n 0, 1) := by decide +kernel
theorem dX10_takeKnows_7 : decode cX10_takeKnows 7 = .ok (.iconst 0, 1) := by decide +kernel
theorem dX10_takeKnows_8 : decode cX10_takeKnows 8 = .ok (.aload_n 0, 1) := by decide +kernel
theorem dX10_takeKnows_9 : decode cX10_takeKnows 9 = .ok (.getfield 186, 3) := by decide +kernel
theorem dX10_takeKnows_12 : decode cX10_takeKnows 12 = .ok (.iconst 1, 1) := by decide +kernel
theorem dX10_takeKnows_13 : decode cX10_takeKnows 13 = .ok (.isub, 1) := by decide +kernel
theorem dX10_takeKnows_14 : decode cX10_takeKnows 14 = .ok (.invokevirtual 183, 3) := by decide +kernel
theorem dX10_takeKnows_17 : decode cX10_takeKnows 17 = .ok (.istore_n 2, 1) := by decide +kernel
theorem dX10_takeKnows_18 : decode cX10_takeKnows 18 = .ok (.iload_n 2, 1) := by decide +kernel
theorem dX10_takeKnows_19 : decode cX10_takeKnows 19 = .ok (.ifCond .le 5, 3) := by decide +kernel
theorem dX10_takeKnows_22 : decode cX10_takeKnows 22 = .ok (.iload_n 2, 1) := by decide +kernel
theorem dX10_takeKnows_23 : decode cX10_takeKnows 23 = .ok (.ireturn, 1) := by decide +kernel
theorem dX10_takeKnows_24 : decode cX10_takeKnows 24 = .ok (.aload_n 0, 1) := by decide +kernel
theorem dX10_takeKnows_25 : decode cX10_takeKnows 25 = .ok (.getfield 62, 3) := by decide +kernel
theorem dX10_takeKnows_28 : decode cX10_takeKnows 28 = .ok (.aload_n 0, 1) := by decide +kernel
theorem dX10_takeKnows_29 : decode cX10_takeKnows 29 = .ok (.getfield 207, 3) := by decide +kernel
theorem dX10_takeKnows_32 : decode cX10_takeKnows 32 = .ok (.iaload, 1) := by decide +kernel
theorem dX10_takeKnows_33 : decode cX10_takeKnows 33 = .ok (.aload_n 0, 1) := by decide +kernel
theorem dX10_takeKnows_34 : decode cX10_takeKnows 34 = .ok (.getfield 180, 3) := by decide +kernel
theorem dX10_takeKnows_37 : decode cX10_takeKnows 37 = .ok (.invokestatic 210, 3) := by decide +kernel
theorem dX10_takeKnows_40 : decode cX10_takeKnows 40 = .ok (.ifCond .eq 13, 3) := by decide +kernel
theorem dX10_takeKnows_43 : decode cX10_takeKnows 43 = .ok (.aload_n 0, 1) := by decide +kernel
theorem dX10_takeKnows_44 : decode cX10_takeKnows 44 = .ok (.iconst 4, 1) := by decide +kernel
theorem dX10_takeKnows_45 : decode cX10_takeKnows 45 = .ok (.aload_n 0, 1) := by decide +kernel
theorem dX10_takeKnows_46 : decode cX10_takeKnows 46 = .ok (.getfield 177, 3) := by decide +kernel
theorem dX10_takeKnows_49 : decode cX10_takeKnows 49 = .ok (.invokevirtual 173, 3) := by decide +kernel
theorem dX10_takeKnows_52 : decode cX10_takeKnows 52 = .ok (.ireturn, 1) := by decide +kernel
theorem dX10_takeKnows_53 : decode cX10_takeKnows 53 = .ok (.aload_n 0, 1) := by decide +kernel
theorem dX10_takeKnows_54 : decode cX10_takeKnows 54 = .ok (.getfield 62, 3) := by decide +kernel
theorem dX10_takeKnows_57 : decode cX10_takeKnows 57 = .ok (.aload_n 0, 1) := by decide +kernel
theorem dX10_takeKnows_58 : decode cX10_takeKnows 58 = .ok (.getfield 207, 3) := by decide +kernel
theorem dX10_takeKnows_61 : decode cX10_takeKnows 61 = .ok (.dup2, 1) := by decide +kernel
theorem dX10_takeKnows_62 : decode cX10_takeKnows 62 = .ok (.iaload, 1) := by decide +kernel
theorem dX10_takeKnows_63 : decode cX10_takeKnows 63 = .ok (.iconst 1, 1) := by decide +kernel
theorem dX10_takeKnows_64 : decode cX10_takeKnows 64 = .ok (.aload_n 0, 1) := by decide +kernel
theorem dX10_takeKnows_65 : decode cX10_takeKnows 65 = .ok (.getfield 180, 3) := by decide +kernel
theorem dX10_takeKnows_68 : decode cX10_takeKnows 68 = .ok (.ishl, 1) := by decide +kernel
theorem dX10_takeKnows_69 : decode cX10_takeKnows 69 = .ok (.ior, 1) := by decide +kernel
theorem dX10_takeKnows_70 : decode cX10_takeKnows 70 = .ok (.iastore, 1) := by decide +kernel
theorem dX10_takeKnows_71 : decode cX10_takeKnows 71 = .ok (.aload_n 0, 1) := by decide +kernel
theorem dX10_takeKnows_72 : decode cX10_takeKnows 72 = .ok (.invokevirtual 146, 3) := by decide +kernel
theorem dX10_takeKnows_75 : decode cX10_takeKnows 75 = .ok (.bipush 44, 2) := by decide +kernel
theorem dX10_takeKnows_77 : decode cX10_takeKnows 77 = .ok (.if_icmp .ne 7, 3) := by decide +kernel
theorem dX10_takeKnows_80 : decode cX10_takeKnows 80 = .ok (.iconst 1, 1) := by decide +kernel
theorem dX10_takeKnows_81 : decode cX10_takeKnows 81 = .ok (.goto 4, 3) := by decide +kernel
theorem dX10_takeKnows_84 : decode cX10_takeKnows 84 = .ok (.iconst 0, 1) := by decide +kernel
theorem dX10_takeKnows_85 : decode cX10_takeKnows 85 = .ok (.istore_n 1, 1) := by decide +kernel
theorem dX10_takeKnows_86 : decode cX10_takeKnows 86 = .ok (.aload_n 0, 1) := by decide +kernel
theorem dX10_takeKnows_87 : decode cX10_takeKnows 87 = .ok (.dup, 1) := by decide +kernel
theorem dX10_takeKnows_88 : decode cX10_takeKnows 88 = .ok (.getfield 143, 3) := by decide +kernel
theorem dX10_takeKnows_91 : decode cX10_takeKnows 91 = .ok (.iload_n 1, 1) := by decide +kernel
theorem dX10_takeKnows_92 : decode cX10_takeKnows 92 = .ok (.ifCond .eq 7, 3) := by decide +kernel
theorem dX10_takeKnows_95 : decode cX10_takeKnows 95 = .ok (.iconst 1, 1) := by decide +kernel
theorem dX10_takeKnows_96 : decode cX10_takeKnows 96 = .ok (.goto 4, 3) := by decide +kernel
theorem dX10_takeKnows_99 : decode cX10_takeKnows 99 = .ok (.iconst 0, 1) := by decide +kernel
theorem dX10_takeKnows_100 : decode cX10_takeKnows 100 = .ok (.iadd, 1) := by decide +kernel
theorem dX10_takeKnows_101 : decode cX10_takeKnows 101 = .ok (.putfield 143, 3) := by decide +kernel
theorem dX10_takeKnows_104 : decode cX10_takeKnows 104 = .ok (.goto (-102), 3) := by decide +kernel
theorem dX10_takeKnows_107 : decode cX10_takeKnows 107 = .ok (.iconst 0, 1) := by decide +kernel
theorem dX10_takeKnows_108 : decode cX10_takeKnows 108 = .ok (.ireturn, 1) := by decide +kernel
theorem dX10_takePerson_0 : decode cX10_takePerson 0 = .ok (.aload_n 0, 1) := by decide +kernel
theorem dX10_takePerson_1 : decode cX10_takePerson 1 = .ok (.getfield 207, 3) := by decide +kernel
theorem dX10_takePerson_4 : decode cX10_takePerson 4 = .ok (.istore_n 1, 1) := by decide +kernel
theorem dX10_takePerson_5 : decode cX10_takePerson 5 = .ok (.aload_n 0, 1) := by decide +kernel
theorem dX10_takePerson_6 : decode cX10_takePerson 6 = .ok (.getfield 62, 3) := by decide +kernel
theorem dX10_takePerson_9 : decode cX10_takePerson 9 = .ok (.iload_n 1, 1) := by decide +kernel
theorem dX10_takePerson_10 : decode cX10_takePerson 10 = .ok (.iconst 0, 1) := by decide +kernel
theorem dX10_takePerson_11 : decode cX10_takePerson 11 = .ok (.iastore, 1) := by decide +kernel
theorem dX10_takePerson_12 : decode cX10_takePerson 12 = .ok (.aload_n 0, 1) := by decide +kernel
theorem dX10_takePerson_13 : decode cX10_takePerson 13 = .ok (.aload_n 0, 1) := by decide +kernel
theorem dX10_takePerson_14 : decode cX10_takePerson 14 = .ok (.getfield 50, 3) := by decide +kernel
theorem dX10_takePerson_17 : decode cX10_takePerson 17 = .ok (.iload_n 1, 1) := by decide +kernel
theorem dX10_takePerson_18 : decode cX10_takePerson 18 = .ok (.iconst 0, 1) := by decide +kernel
theorem dX10_takePerson_19 : decode cX10_takePerson 19 = .ok (.aload_n 0, 1) := by decide +kernel
theorem dX10_takePerson_20 : decode cX10_takePerson 20 = .ok (.getfield 189, 3) := by decide +kernel
theorem dX10_takePerson_23 : decode cX10_takePerson 23 = .ok (.iconst 1, 1) := by decide +kernel
theorem dX10_takePerson_24 : decode cX10_takePerson 24 = .ok (.isub, 1) := by decide +kernel
theorem dX10_takePerson_25 : decode cX10_takePerson 25 = .ok (.invokevirtual 192, 3) := by decide +kernel
theorem dX10_takePerson_28 : decode cX10_takePerson 28 = .ok (.istore_n 2, 1) := by decide +kernel
theorem dX10_takePerson_29 : decode cX10_takePerson 29 = .ok (.iload_n 2, 1) := by decide +kernel
theorem dX10_takePerson_30 : decode cX10_takePerson 30 = .ok (.ifCond .le 7, 3) := by decide +kernel
theorem dX10_takePerson_33 : decode cX10_takePerson 33 = .ok (.iload_n 2, 1) := by decide +kernel
theorem dX10_takePerson_34 : decode cX10_takePerson 34 = .ok (.goto 19, 3) := by decide +kernel
theorem dX10_takePerson_37 : decode cX10_takePerson 37 = .ok (.aload_n 0, 1) := by decide +kernel
theorem dX10_takePerson_38 : decode cX10_takePerson 38 = .ok (.aload_n 0, 1) := by decide +kernel
theorem dX10_takePerson_39 : decode cX10_takePerson 39 = .ok (.getfield 53, 3) := by decide +kernel
theorem dX10_takePerson_42 : decode cX10_takePerson 42 = .ok (.iload_n 1, 1) := by decide +kernel
theorem dX10_takePerson_43 : decode cX10_takePerson 43 = .ok (.iconst 0, 1) := by decide +kernel
theorem dX10_takePerson_44 : decode cX10_takePerson 44 = .ok (.aload_n 0, 1) := by decide +kernel
theorem dX10_takePerson_45 : decode cX10_takePerson 45 = .ok (.getfield 189, 3) := by decide +kernel
theorem dX10_takePerson_48 : decode cX10_takePerson 48 = .ok (.iconst 1, 1) := by decide +kernel
theorem dX10_takePerson_49 : decode cX10_takePerson 49 = .ok (.isub, 1) := by decide +kernel
theorem dX10_takePerson_50 : decode cX10_takePerson 50 = .ok (.invokevirtual 192, 3) := by decide +kernel
theorem dX10_takePerson_53 : decode cX10_takePerson 53 = .ok (.istore_n 2, 1) := by decide +kernel
theorem dX10_takePerson_54 : decode cX10_takePerson 54 = .ok (.iload_n 2, 1) := by decide +kernel
theorem dX10_takePerson_55 : decode cX10_takePerson 55 = .ok (.ifCond .le 7, 3) := by decide +kernel
theorem dX10_takePerson_58 : decode cX10_takePerson 58 = .ok (.iload_n 2, 1) := by decide +kernel
theorem dX10_takePerson_59 : decode cX10_takePerson 59 = .ok (.goto 15, 3) := by decide +kernel
theorem dX10_takePerson_62 : decode cX10_takePerson 62 = .ok (.aload_n 0, 1) := by decide +kernel
theorem dX10_takePerson_63 : decode cX10_takePerson 63 = .ok (.aload_n 0, 1) := by decide +kernel
theorem dX10_takePerson_64 : decode cX10_takePerson 64 = .ok (.getfield 56, 3) := by decide +kernel
theorem dX10_takePerson_67 : decode cX10_takePerson 67 = .ok (.iload_n 1, 1) := by decide +kernel
theorem dX10_takePerson_68 : decode cX10_takePerson 68 = .ok (.iconst 0, 1) := by decide +kernel
theorem dX10_takePerson_69 : decode cX10_takePerson 69 = .ok (.bipush 99, 2) := by decide +kernel
theorem dX10_takePerson_71 : decode cX10_takePerson 71 = .ok (.invokevirtual 192, 3) := by decide +kernel
theorem dX10_takePerson_74 : decode cX10_takePerson 74 = .ok (.istore_n 2, 1) := by decide +kernel
theorem dX10_takePerson_75 : decode cX10_takePerson 75 = .ok (.iload_n 2, 1) := by decide +kernel
theorem dX10_takePerson_76 : decode cX10_takePerson 76 = .ok (.ifCond .le 7, 3) := by decide +kernel
theorem dX10_takePerson_79 : decode cX10_takePerson 79 = .ok (.iload_n 2, 1) := by decide +kernel
theorem dX10_takePerson_80 : decode cX10_takePerson 80 = .ok (.goto 7, 3) := by decide +kernel
theorem dX10_takePerson_83 : decode cX10_takePerson 83 = .ok (.aload_n 0, 1) := by decide +kernel
theorem dX10_takePerson_84 : decode cX10_takePerson 84 = .ok (.invokevirtual 214, 3) := by decide +kernel
theorem dX10_takePerson_87 : decode cX10_takePerson 87 = .ok (.istore_n 2, 1) := by decide +kernel
theorem dX10_takePerson_88 : decode cX10_takePerson 88 = .ok (.iload_n 2, 1) := by decide +kernel
theorem dX10_takePerson_89 : decode cX10_takePerson 89 = .ok (.ifCond .ne 44, 3) := by decide +kernel
theorem dX10_takePerson_92 : decode cX10_takePerson 92 = .ok (.aload_n 0, 1) := by decide +kernel
theorem dX10_takePerson_93 : decode cX10_takePerson 93 = .ok (.invokevirtual 196, 3) := by decide +kernel
theorem dX10_takePerson_96 : decode cX10_takePerson 96 = .ok (.aload_n 0, 1) := by decide +kernel
theorem dX10_takePerson_97 : decode cX10_takePerson 97 = .ok (.getfield 150, 3) := by decide +kernel
theorem dX10_takePerson_100 : decode cX10_takePerson 100 = .ok (.bipush 107, 2) := by decide +kernel
theorem dX10_takePerson_102 : decode cX10_takePerson 102 = .ok (.bipush 110, 2) := by decide +kernel
theorem dX10_takePerson_104 : decode cX10_takePerson 104 = .ok (.bipush 111, 2) := by decide +kernel
theorem dX10_takePerson_106 : decode cX10_takePerson 106 = .ok (.invokestatic 199, 3) := by decide +kernel
theorem dX10_takePerson_109 : decode cX10_takePerson 109 = .ok (.bipush 119, 2) := by decide +kernel
theorem dX10_takePerson_111 : decode cX10_takePerson 111 = .ok (.bipush 115, 2) := by decide +kernel
theorem dX10_takePerson_113 : decode cX10_takePerson 113 = .ok (.invokestatic 203, 3) := by decide +kernel
theorem dX10_takePerson_116 : decode cX10_takePerson 116 = .ok (.lcmp, 1) := by decide +kernel
theorem dX10_takePerson_117 : decode cX10_takePerson 117 = .ok (.ifCond .ne 16, 3) := by decide +kernel
theorem dX10_takePerson_120 : decode cX10_takePerson 120 = .ok (.aload_n 0, 1) := by decide +kernel
theorem dX10_takePerson_121 : decode cX10_takePerson 121 = .ok (.aload_n 0, 1) := by decide +kernel
theorem dX10_takePerson_122 : decode cX10_takePerson 122 = .ok (.getfield 154, 3) := by decide +kernel
theorem dX10_takePerson_125 : decode cX10_takePerson 125 = .ok (.putfield 143, 3) := by decide +kernel
theorem dX10_takePerson_128 : decode cX10_takePerson 128 = .ok (.aload_n 0, 1) := by decide +kernel
theorem dX10_takePerson_129 : decode cX10_takePerson 129 = .ok (.invokevirtual 217, 3) := by decide +kernel
theorem dX10_takePerson_132 : decode cX10_takePerson 132 = .ok (.istore_n 2, 1) := by decide +kernel
theorem dX10_takePerson_133 : decode cX10_takePerson 133 = .ok (.aload_n 0, 1) := by decide +kernel
theorem dX10_takePerson_134 : decode cX10_takePerson 134 = .ok (.dup, 1) := by decide +kernel
theorem dX10_takePerson_135 : decode cX10_takePerson 135 = .ok (.getfield 207, 3) := by decide +kernel
theorem dX10_takePerson_138 : decode cX10_takePerson 138 = .ok (.iconst 1, 1) := by decide +kernel
theorem dX10_takePerson_139 : decode cX10_takePerson 139 = .ok (.iadd, 1) := by decide +kernel
theorem dX10_takePerson_140 : decode cX10_takePerson 140 = .ok (.putfield 207, 3) := by decide +kernel
theorem dX10_takePerson_143 : decode cX10_takePerson 143 = .ok (.iload_n 2, 1) := by decide +kernel
theorem dX10_takePerson_144 : decode cX10_takePerson 144 = .ok (.ireturn, 1) := by decide +kernel
theorem dX10_takeClause_0 : decode cX10_takeClause 0 = .ok (.aload_n 0, 1) := by decide +kernel
theorem dX10_takeClause_1 : decode cX10_takeClause 1 = .ok (.invokevirtual 196, 3) := by decide +kernel
theorem dX10_takeClause_4 : decode cX10_takeClause 4 = .ok (.aload_n 0, 1) := by decide +kernel
theorem dX10_takeClause_5 : decode cX10_takeClause 5 = .ok (.getfield 150, 3) := by decide +kernel
theorem dX10_takeClause_8 : decode cX10_takeClause 8 = .ok (.bipush 112, 2) := by decide +kernel
theorem dX10_takeClause_10 : decode cX10_takeClause 10 = .ok (.bipush 108, 2) := by decide +kernel
theorem dX10_takeClause_12 : decode cX10_takeClause 12 = .ok (.bipush 97, 2) := by decide +kernel
theorem dX10_takeClause_14 : decode cX10_takeClause 14 = .ok (.invokestatic 199, 3) := by decide +kernel
theorem dX10_takeClause_17 : decode cX10_takeClause 17 = .ok (.bipush 99, 2) := by decide +kernel
theorem dX10_takeClause_19 : decode cX10_takeClause 19 = .ok (.bipush 101, 2) := by decide +kernel
theorem dX10_takeClause_21 : decode cX10_takeClause 21 = .ok (.invokestatic 203, 3) := by decide +kernel
theorem dX10_takeClause_24 : decode cX10_takeClause 24 = .ok (.bipush 115, 2) := by decide +kernel
theorem dX10_takeClause_26 : decode cX10_takeClause 26 = .ok (.iconst 0, 1) := by decide +kernel
theorem dX10_takeClause_27 : decode cX10_takeClause 27 = .ok (.invokestatic 203, 3) := by decide +kernel
theorem dX10_takeClause_30 : decode cX10_takeClause 30 = .ok (.lcmp, 1) := by decide +kernel
theorem dX10_takeClause_31 : decode cX10_takeClause 31 = .ok (.ifCond .ne 7, 3) := by decide +kernel
theorem dX10_takeClause_34 : decode cX10_takeClause 34 = .ok (.iconst 0, 1) := by decide +kernel
theorem dX10_takeClause_35 : decode cX10_takeClause 35 = .ok (.goto 59, 3) := by decide +kernel
theorem dX10_takeClause_38 : decode cX10_takeClause 38 = .ok (.aload_n 0, 1) := by decide +kernel
theorem dX10_takeClause_39 : decode cX10_takeClause 39 = .ok (.getfield 150, 3) := by decide +kernel
theorem dX10_takeClause_42 : decode cX10_takeClause 42 = .ok (.bipush 119, 2) := by decide +kernel
theorem dX10_takeClause_44 : decode cX10_takeClause 44 = .ok (.bipush 97, 2) := by decide +kernel
theorem dX10_takeClause_46 : decode cX10_takeClause 46 = .ok (.bipush 121, 2) := by decide +kernel
theorem dX10_takeClause_48 : decode cX10_takeClause 48 = .ok (.invokestatic 199, 3) := by decide +kernel
theorem dX10_takeClause_51 : decode cX10_takeClause 51 = .ok (.lcmp, 1) := by decide +kernel
theorem dX10_takeClause_52 : decode cX10_takeClause 52 = .ok (.ifCond .ne 7, 3) := by decide +kernel
theorem dX10_takeClause_55 : decode cX10_takeClause 55 = .ok (.iconst 1, 1) := by decide +kernel
theorem dX10_takeClause_56 : decode cX10_takeClause 56 = .ok (.goto 38, 3) := by decide +kernel
theorem dX10_takeClause_59 : decode cX10_takeClause 59 = .ok (.aload_n 0, 1) := by decide +kernel
theorem dX10_takeClause_60 : decode cX10_takeClause 60 = .ok (.getfield 150, 3) := by decide +kernel
theorem dX10_takeClause_63 : decode cX10_takeClause 63 = .ok (.bipush 112, 2) := by decide +kernel
theorem dX10_takeClause_65 : decode cX10_takeClause 65 = .ok (.bipush 101, 2) := by decide +kernel
theorem dX10_takeClause_67 : decode cX10_takeClause 67 = .ok (.bipush 114, 2) := by decide +kernel
theorem dX10_takeClause_69 : decode cX10_takeClause 69 = .ok (.invokestatic 199, 3) := by decide +kernel
theorem dX10_takeClause_72 : decode cX10_takeClause 72 = .ok (.bipush 115, 2) := by decide +kernel
theorem dX10_takeClause_74 : decode cX10_takeClause 74 = .ok (.bipush 111, 2) := by decide +kernel
theorem dX10_takeClause_76 : decode cX10_takeClause 76 = .ok (.invokestatic 203, 3) := by decide +kernel
theorem dX10_takeClause_79 : decode cX10_takeClause 79 = .ok (.bipush 110, 2) := by decide +kernel
theorem dX10_takeClause_81 : decode cX10_takeClause 81 = .ok (.iconst 0, 1) := by decide +kernel
theorem dX10_takeClause_82 : decode cX10_takeClause 82 = .ok (.invokestatic 203, 3) := by decide +kernel
theorem dX10_takeClause_85 : decode cX10_takeClause 85 = .ok (.lcmp, 1) := by decide +kernel
theorem dX10_takeClause_86 : decode cX10_takeClause 86 = .ok (.ifCond .ne 7, 3) := by decide +kernel
theorem dX10_takeClause_89 : decode cX10_takeClause 89 = .ok (.iconst 2, 1) := by decide +kernel
theorem dX10_takeClause_90 : decode cX10_takeClause 90 = .ok (.goto 4, 3) := by decide +kernel
theorem dX10_takeClause_93 : decode cX10_takeClause 93 = .ok (.iconst (-1), 1) := by decide +kernel
theorem dX10_takeClause_94 : decode cX10_takeClause 94 = .ok (.istore_n 1, 1) := by decide +kernel
theorem dX10_takeClause_95 : decode cX10_takeClause 95 = .ok (.iload_n 1, 1) := by decide +kernel
theorem dX10_takeClause_96 : decode cX10_takeClause 96 = .ok (.ifCond .lt 14, 3) := by decide +kernel
theorem dX10_takeClause_99 : decode cX10_takeClause 99 = .ok (.iload_n 1, 1) := by decide +kernel
theorem dX10_takeClause_100 : decode cX10_takeClause 100 = .ok (.ifCond .le 20, 3) := by decide +kernel
theorem dX10_takeClause_103 : decode cX10_takeClause 103 = .ok (.aload_n 0, 1) := by decide +kernel
theorem dX10_takeClause_104 : decode cX10_takeClause 104 = .ok (.getfield 189, 3) := by decide +kernel
theorem dX10_takeClause_107 : decode cX10_takeClause 107 = .ok (.ifCond .ne 13, 3) := by decide +kernel
theorem dX10_takeClause_110 : decode cX10_takeClause 110 = .ok (.aload_n 0, 1) := by decide +kernel
theorem dX10_takeClause_111 : decode cX10_takeClause 111 = .ok (.iconst 1, 1) := by decide +kernel
theorem dX10_takeClause_112 : decode cX10_takeClause 112 = .ok (.aload_n 0, 1) := by decide +kernel
theorem dX10_takeClause_113 : decode cX10_takeClause 113 = .ok (.getfield 143, 3) := by decide +kernel
theorem dX10_takeClause_116 : decode cX10_takeClause 116 = .ok (.invokevirtual 173, 3) := by decide +kernel
theorem dX10_takeClause_119 : decode cX10_takeClause 119 = .ok (.ireturn, 1) := by decide +kernel
theorem dX10_takeClause_120 : decode cX10_takeClause 120 = .ok (.iload_n 1, 1) := by decide +kernel
theorem dX10_takeClause_121 : decode cX10_takeClause 121 = .ok (.ifCond .ne 13, 3) := by decide +kernel
theorem dX10_takeClause_124 : decode cX10_takeClause 124 = .ok (.aload_n 0, 1) := by decide +kernel
theorem dX10_takeClause_125 : decode cX10_takeClause 125 = .ok (.getfield 189, 3) := by decide +kernel
theorem dX10_takeClause_128 : decode cX10_takeClause 128 = .ok (.ifCond .le 42, 3) := by decide +kernel
theorem dX10_takeClause_131 : decode cX10_takeClause 131 = .ok (.goto 29, 3) := by decide +kernel
theorem dX10_takeClause_134 : decode cX10_takeClause 134 = .ok (.iload_n 1, 1) := by decide +kernel
theorem dX10_takeClause_135 : decode cX10_takeClause 135 = .ok (.iconst 1, 1) := by decide +kernel
theorem dX10_takeClause_136 : decode cX10_takeClause 136 = .ok (.if_icmp .ne 15, 3) := by decide +kernel
theorem dX10_takeClause_139 : decode cX10_takeClause 139 = .ok (.aload_n 0, 1) := by decide +kernel
theorem dX10_takeClause_140 : decode cX10_takeClause 140 = .ok (.getfield 186, 3) := by decide +kernel
theorem dX10_takeClause_143 : decode cX10_takeClause 143 = .ok (.bipush 14, 2) := by decide +kernel
theorem dX10_takeClause_145 : decode cX10_takeClause 145 = .ok (.if_icmp .ne 25, 3) := by decide +kernel
theorem dX10_takeClause_148 : decode cX10_takeClause 148 = .ok (.goto 12, 3) := by decide +kernel
theorem dX10_takeClause_151 : decode cX10_takeClause 151 = .ok (.aload_n 0, 1) := by decide +kernel
theorem dX10_takeClause_152 : decode cX10_takeClause 152 = .ok (.getfield 207, 3) := by decide +kernel
theorem dX10_takeClause_155 : decode cX10_takeClause 155 = .ok (.bipush 6, 2) := by decide +kernel
theorem dX10_takeClause_157 : decode cX10_takeClause 157 = .ok (.if_icmp .ne 13, 3) := by decide +kernel
theorem dX10_takeClause_160 : decode cX10_takeClause 160 = .ok (.aload_n 0, 1) := by decide +kernel
theorem dX10_takeClause_161 : decode cX10_takeClause 161 = .ok (.iconst 3, 1) := by decide +kernel
theorem dX10_takeClause_162 : decode cX10_takeClause 162 = .ok (.aload_n 0, 1) := by decide +kernel
theorem dX10_takeClause_163 : decode cX10_takeClause 163 = .ok (.getfield 143, 3) := by decide +kernel
theorem dX10_takeClause_166 : decode cX10_takeClause 166 = .ok (.invokevirtual 173, 3) := by decide +kernel
theorem dX10_takeClause_169 : decode cX10_takeClause 169 = .ok (.ireturn, 1) := by decide +kernel
theorem dX10_takeClause_170 : decode cX10_takeClause 170 = .ok (.aload_n 0, 1) := by decide +kernel
theorem dX10_takeClause_171 : decode cX10_takeClause 171 = .ok (.aload_n 0, 1) := by decide +kernel
theorem dX10_takeClause_172 : decode cX10_takeClause 172 = .ok (.getfield 154, 3) := by decide +kernel
theorem dX10_takeClause_175 : decode cX10_takeClause 175 = .ok (.putfield 143, 3) := by decide +kernel
theorem dX10_takeClause_178 : decode cX10_takeClause 178 = .ok (.iconst 0, 1) := by decide +kernel
theorem dX10_takeClause_179 : decode cX10_takeClause 179 = .ok (.istore_n 2, 1) := by decide +kernel
theorem dX10_takeClause_180 : decode cX10_takeClause 180 = .ok (.iload_n 1, 1) := by decide +kernel
theorem dX10_takeClause_181 : decode cX10_takeClause 181 = .ok (.ifCond .ne 22, 3) := by decide +kernel
theorem dX10_takeClause_184 : decode cX10_takeClause 184 = .ok (.aload_n 0, 1) := by decide +kernel
theorem dX10_takeClause_185 : decode cX10_takeClause 185 = .ok (.iconst 1, 1) := by decide +kernel
theorem dX10_takeClause_186 : decode cX10_takeClause 186 = .ok (.bipush 10, 2) := by decide +kernel
theorem dX10_takeClause_188 : decode cX10_takeClause 188 = .ok (.invokevirtual 183, 3) := by decide +kernel
theorem dX10_takeClause_191 : decode cX10_takeClause 191 = .ok (.istore_n 2, 1) := by decide +kernel
theorem dX10_takeClause_192 : decode cX10_takeClause 192 = .ok (.aload_n 0, 1) := by decide +kernel
theorem dX10_takeClause_193 : decode cX10_takeClause 193 = .ok (.aload_n 0, 1) := by decide +kernel
theorem dX10_takeClause_194 : decode cX10_takeClause 194 = .ok (.getfield 180, 3) := by decide +kernel
theorem dX10_takeClause_197 : decode cX10_takeClause 197 = .ok (.putfield 189, 3) := by decide +kernel
theorem dX10_takeClause_200 : decode cX10_takeClause 200 = .ok (.goto 20, 3) := by decide +kernel
theorem dX10_takeClause_203 : decode cX10_takeClause 203 = .ok (.iload_n 1, 1) := by decide +kernel
theorem dX10_takeClause_204 : decode cX10_takeClause 204 = .ok (.iconst 1, 1) := by decide +kernel
theorem dX10_takeClause_205 : decode cX10_takeClause 205 = .ok (.if_icmp .ne 10, 3) := by decide +kernel
theorem dX10_takeClause_208 : decode cX10_takeClause 208 = .ok (.aload_n 0, 1) := by decide +kernel
theorem dX10_takeClause_209 : decode cX10_takeClause 209 = .ok (.invokevirtual 220, 3) := by decide +kernel
theorem dX10_takeClause_212 : decode cX10_takeClause 212 = .ok (.goto 7, 3) := by decide +kernel
theorem dX10_takeClause_215 : decode cX10_takeClause 215 = .ok (.aload_n 0, 1) := by decide +kernel
theorem dX10_takeClause_216 : decode cX10_takeClause 216 = .ok (.invokevirtual 223, 3) := by decide +kernel
theorem dX10_takeClause_219 : decode cX10_takeClause 219 = .ok (.istore_n 2, 1) := by decide +kernel
theorem dX10_takeClause_220 : decode cX10_takeClause 220 = .ok (.iload_n 2, 1) := by decide +kernel
theorem dX10_takeClause_221 : decode cX10_takeClause 221 = .ok (.ifCond .ne 22, 3) := by decide +kernel
theorem dX10_takeClause_224 : decode cX10_takeClause 224 = .ok (.aload_n 0, 1) := by decide +kernel
theorem dX10_takeClause_225 : decode cX10_takeClause 225 = .ok (.invokevirtual 146, 3) := by decide +kernel
theorem dX10_takeClause_228 : decode cX10_takeClause 228 = .ok (.bipush 59, 2) := by decide +kernel
theorem dX10_takeClause_230 : decode cX10_takeClause 230 = .ok (.if_icmp .eq 13, 3) := by decide +kernel
theorem dX10_takeClause_233 : decode cX10_takeClause 233 = .ok (.aload_n 0, 1) := by decide +kernel
theorem dX10_takeClause_234 : decode cX10_takeClause 234 = .ok (.iconst 1, 1) := by decide +kernel
theorem dX10_takeClause_235 : decode cX10_takeClause 235 = .ok (.aload_n 0, 1) := by decide +kernel
theorem dX10_takeClause_236 : decode cX10_takeClause 236 = .ok (.getfield 143, 3) := by decide +kernel
theorem dX10_takeClause_239 : decode cX10_takeClause 239 = .ok (.invokevirtual 173, 3) := by decide +kernel
theorem dX10_takeClause_242 : decode cX10_takeClause 242 = .ok (.ireturn, 1) := by decide +kernel
theorem dX10_takeClause_243 : decode cX10_takeClause 243 = .ok (.aload_n 0, 1) := by decide +kernel
theorem dX10_takeClause_244 : decode cX10_takeClause 244 = .ok (.dup, 1) := by decide +kernel
theorem dX10_takeClause_245 : decode cX10_takeClause 245 = .ok (.getfield 143, 3) := by decide +kernel
theorem dX10_takeClause_248 : decode cX10_takeClause 248 = .ok (.iconst 1, 1) := by decide +kernel
theorem dX10_takeClause_249 : decode cX10_takeClause 249 = .ok (.iadd, 1) := by decide +kernel
theorem dX10_takeClause_250 : decode cX10_takeClause 250 = .ok (.putfield 143, 3) := by decide +kernel
theorem dX10_takeClause_253 : decode cX10_takeClause 253 = .ok (.iload_n 2, 1) := by decide +kernel
theorem dX10_takeClause_254 : decode cX10_takeClause 254 = .ok (.ireturn, 1) := by decide +kernel
theorem dX10_land_0 : decode cX10_land 0 = .ok (.aload_n 0, 1) := by decide +kernel
theorem dX10_land_1 : decode cX10_land 1 = .ok (.iconst (-1), 1) := by decide +kernel
theorem dX10_land_2 : decode cX10_land 2 = .ok (.putfield 37, 3) := by decide +kernel
theorem dX10_land_5 : decode cX10_land 5 = .ok (.aload_n 0, 1) := by decide +kernel
theorem dX10_land_6 : decode cX10_land 6 = .ok (.iconst 0, 1) := by decide +kernel
theorem dX10_land_7 : decode cX10_land 7 = .ok (.putfield 143, 3) := by decide +kernel
theorem dX10_land_10 : decode cX10_land 10 = .ok (.aload_n 0, 1) := by decide +kernel
theorem dX10_land_11 : decode cX10_land 11 = .ok (.iconst 0, 1) := by decide +kernel
theorem dX10_land_12 : decode cX10_land 12 = .ok (.putfield 189, 3) := by decide +kernel
theorem dX10_land_15 : decode cX10_land 15 = .ok (.aload_n 0, 1) := by decide +kernel
theorem dX10_land_16 : decode cX10_land 16 = .ok (.iconst 0, 1) := by decide +kernel
theorem dX10_land_17 : decode cX10_land 17 = .ok (.putfield 186, 3) := by decide +kernel
theorem dX10_land_20 : decode cX10_land 20 = .ok (.aload_n 0, 1) := by decide +kernel
theorem dX10_land_21 : decode cX10_land 21 = .ok (.iconst 0, 1) := by decide +kernel
theorem dX10_land_22 : decode cX10_land 22 = .ok (.putfield 207, 3) := by decide +kernel
theorem dX10_land_25 : decode cX10_land 25 = .ok (.iconst 0, 1) := by decide +kernel
theorem dX10_land_26 : decode cX10_land 26 = .ok (.istore_n 1, 1) := by decide +kernel
theorem dX10_land_27 : decode cX10_land 27 = .ok (.iload_n 1, 1) := by decide +kernel
theorem dX10_land_28 : decode cX10_land 28 = .ok (.ifCond .ne 18, 3) := by decide +kernel
theorem dX10_land_31 : decode cX10_land 31 = .ok (.aload_n 0, 1) := by decide +kernel
theorem dX10_land_32 : decode cX10_land 32 = .ok (.invokevirtual 146, 3) := by decide +kernel
theorem dX10_land_35 : decode cX10_land 35 = .ok (.ifCond .lt 11, 3) := by decide +kernel
theorem dX10_land_38 : decode cX10_land 38 = .ok (.aload_n 0, 1) := by decide +kernel
theorem dX10_land_39 : decode cX10_land 39 = .ok (.invokevirtual 226, 3) := by decide +kernel
theorem dX10_land_42 : decode cX10_land 42 = .ok (.istore_n 1, 1) := by decide +kernel
theorem dX10_land_43 : decode cX10_land 43 = .ok (.goto (-16), 3) := by decide +kernel
theorem dX10_land_46 : decode cX10_land 46 = .ok (.aload_n 0, 1) := by decide +kernel
theorem dX10_land_47 : decode cX10_land 47 = .ok (.iconst 0, 1) := by decide +kernel
theorem dX10_land_48 : decode cX10_land 48 = .ok (.putfield 137, 3) := by decide +kernel
theorem dX10_land_51 : decode cX10_land 51 = .ok (.iload_n 1, 1) := by decide +kernel
theorem dX10_land_52 : decode cX10_land 52 = .ok (.ifCond .le 8, 3) := by decide +kernel
theorem dX10_land_55 : decode cX10_land 55 = .ok (.bipush (-10), 2) := by decide +kernel
theorem dX10_land_57 : decode cX10_land 57 = .ok (.iload_n 1, 1) := by decide +kernel
theorem dX10_land_58 : decode cX10_land 58 = .ok (.isub, 1) := by decide +kernel
theorem dX10_land_59 : decode cX10_land 59 = .ok (.ireturn, 1) := by decide +kernel
theorem dX10_land_60 : decode cX10_land 60 = .ok (.aload_n 0, 1) := by decide +kernel
theorem dX10_land_61 : decode cX10_land 61 = .ok (.aload_n 0, 1) := by decide +kernel
theorem dX10_land_62 : decode cX10_land 62 = .ok (.getfield 189, 3) := by decide +kernel
theorem dX10_land_65 : decode cX10_land 65 = .ok (.putfield 121, 3) := by decide +kernel
theorem dX10_land_68 : decode cX10_land 68 = .ok (.aload_n 0, 1) := by decide +kernel
theorem dX10_land_69 : decode cX10_land 69 = .ok (.aload_n 0, 1) := by decide +kernel
theorem dX10_land_70 : decode cX10_land 70 = .ok (.getfield 186, 3) := by decide +kernel
theorem dX10_land_73 : decode cX10_land 73 = .ok (.putfield 128, 3) := by decide +kernel
theorem dX10_land_76 : decode cX10_land 76 = .ok (.aload_n 0, 1) := by decide +kernel
theorem dX10_land_77 : decode cX10_land 77 = .ok (.aload_n 0, 1) := by decide +kernel
theorem dX10_land_78 : decode cX10_land 78 = .ok (.getfield 207, 3) := by decide +kernel
theorem dX10_land_81 : decode cX10_land 81 = .ok (.putfield 131, 3) := by decide +kernel
theorem dX10_land_84 : decode cX10_land 84 = .ok (.iconst 0, 1) := by decide +kernel
theorem dX10_land_85 : decode cX10_land 85 = .ok (.istore_n 2, 1) := by decide +kernel
theorem dX10_land_86 : decode cX10_land 86 = .ok (.iload_n 2, 1) := by decide +kernel
theorem dX10_land_87 : decode cX10_land 87 = .ok (.bipush 14, 2) := by decide +kernel
theorem dX10_land_89 : decode cX10_land 89 = .ok (.if_icmp .ge 45, 3) := by decide +kernel
theorem dX10_land_92 : decode cX10_land 92 = .ok (.aload_n 0, 1) := by decide +kernel
theorem dX10_land_93 : decode cX10_land 93 = .ok (.getfield 7, 3) := by decide +kernel
theorem dX10_land_96 : decode cX10_land 96 = .ok (.iload_n 2, 1) := by decide +kernel
theorem dX10_land_97 : decode cX10_land 97 = .ok (.aload_n 0, 1) := by decide +kernel
theorem dX10_land_98 : decode cX10_land 98 = .ok (.getfield 41, 3) := by decide +kernel
theorem dX10_land_101 : decode cX10_land 101 = .ok (.iload_n 2, 1) := by decide +kernel
theorem dX10_land_102 : decode cX10_land 102 = .ok (.iaload, 1) := by decide +kernel
theorem dX10_land_103 : decode cX10_land 103 = .ok (.iastore, 1) := by decide +kernel
theorem dX10_land_104 : decode cX10_land 104 = .ok (.aload_n 0, 1) := by decide +kernel
theorem dX10_land_105 : decode cX10_land 105 = .ok (.getfield 13, 3) := by decide +kernel
theorem dX10_land_108 : decode cX10_land 108 = .ok (.iload_n 2, 1) := by decide +kernel
theorem dX10_land_109 : decode cX10_land 109 = .ok (.aload_n 0, 1) := by decide +kernel
theorem dX10_land_110 : decode cX10_land 110 = .ok (.getfield 44, 3) := by decide +kernel
theorem dX10_land_113 : decode cX10_land 113 = .ok (.iload_n 2, 1) := by decide +kernel
theorem dX10_land_114 : decode cX10_land 114 = .ok (.iaload, 1) := by decide +kernel
theorem dX10_land_115 : decode cX10_land 115 = .ok (.iastore, 1) := by decide +kernel
theorem dX10_land_116 : decode cX10_land 116 = .ok (.aload_n 0, 1) := by decide +kernel
theorem dX10_land_117 : decode cX10_land 117 = .ok (.getfield 16, 3) := by decide +kernel
theorem dX10_land_120 : decode cX10_land 120 = .ok (.iload_n 2, 1) := by decide +kernel
theorem dX10_land_121 : decode cX10_land 121 = .ok (.aload_n 0, 1) := by decide +kernel
theorem dX10_land_122 : decode cX10_land 122 = .ok (.getfield 47, 3) := by decide +kernel
theorem dX10_land_125 : decode cX10_land 125 = .ok (.iload_n 2, 1) := by decide +kernel
theorem dX10_land_126 : decode cX10_land 126 = .ok (.iaload, 1) := by decide +kernel
theorem dX10_land_127 : decode cX10_land 127 = .ok (.iastore, 1) := by decide +kernel
theorem dX10_land_128 : decode cX10_land 128 = .ok (.iinc 2 1, 3) := by decide +kernel
theorem dX10_land_131 : decode cX10_land 131 = .ok (.goto (-45), 3) := by decide +kernel
theorem dX10_land_134 : decode cX10_land 134 = .ok (.iconst 0, 1) := by decide +kernel
theorem dX10_land_135 : decode cX10_land 135 = .ok (.istore_n 2, 1) := by decide +kernel
theorem dX10_land_136 : decode cX10_land 136 = .ok (.iload_n 2, 1) := by decide +kernel
theorem dX10_land_137 : decode cX10_land 137 = .ok (.bipush 6, 2) := by decide +kernel
theorem dX10_land_139 : decode cX10_land 139 = .ok (.if_icmp .ge 69, 3) := by decide +kernel
theorem dX10_land_142 : decode cX10_land 142 = .ok (.aload_n 0, 1) := by decide +kernel
theorem dX10_land_143 : decode cX10_land 143 = .ok (.getfield 19, 3) := by decide +kernel
theorem dX10_land_146 : decode cX10_land 146 = .ok (.iload_n 2, 1) := by decide +kernel
theorem dX10_land_147 : decode cX10_land 147 = .ok (.aload_n 0, 1) := by decide +kernel
theorem dX10_land_148 : decode cX10_land 148 = .ok (.getfield 50, 3) := by decide +kernel
theorem dX10_land_151 : decode cX10_land 151 = .ok (.iload_n 2, 1) := by decide +kernel
theorem dX10_land_152 : decode cX10_land 152 = .ok (.iaload, 1) := by decide +kernel
theorem dX10_land_153 : decode cX10_land 153 = .ok (.iastore, 1) := by decide +kernel
theorem dX10_land_154 : decode cX10_land 154 = .ok (.aload_n 0, 1) := by decide +kernel
theorem dX10_land_155 : decode cX10_land 155 = .ok (.getfield 22, 3) := by decide +kernel
theorem dX10_land_158 : decode cX10_land 158 = .ok (.iload_n 2, 1) := by decide +kernel
theorem dX10_land_159 : decode cX10_land 159 = .ok (.aload_n 0, 1) := by decide +kernel
theorem dX10_land_160 : decode cX10_land 160 = .ok (.getfield 53, 3) := by decide +kernel
theorem dX10_land_163 : decode cX10_land 163 = .ok (.iload_n 2, 1) := by decide +kernel
theorem dX10_land_164 : decode cX10_land 164 = .ok (.iaload, 1) := by decide +kernel
theorem dX10_land_165 : decode cX10_land 165 = .ok (.iastore, 1) := by decide +kernel
theorem dX10_land_166 : decode cX10_land 166 = .ok (.aload_n 0, 1) := by decide +kernel
theorem dX10_land_167 : decode cX10_land 167 = .ok (.getfield 25, 3) := by decide +kernel
theorem dX10_land_170 : decode cX10_land 170 = .ok (.iload_n 2, 1) := by decide +kernel
theorem dX10_land_171 : decode cX10_land 171 = .ok (.aload_n 0, 1) := by decide +kernel
theorem dX10_land_172 : decode cX10_land 172 = .ok (.getfield 56, 3) := by decide +kernel
theorem dX10_land_175 : decode cX10_land 175 = .ok (.iload_n 2, 1) := by decide +kernel
theorem dX10_land_176 : decode cX10_land 176 = .ok (.iaload, 1) := by decide +kernel
theorem dX10_land_177 : decode cX10_land 177 = .ok (.iastore, 1) := by decide +kernel
theorem dX10_land_178 : decode cX10_land 178 = .ok (.aload_n 0, 1) := by decide +kernel
theorem dX10_land_179 : decode cX10_land 179 = .ok (.getfield 28, 3) := by decide +kernel
theorem dX10_land_182 : decode cX10_land 182 = .ok (.iload_n 2, 1) := by decide +kernel
theorem dX10_land_183 : decode cX10_land 183 = .ok (.aload_n 0, 1) := by decide +kernel
theorem dX10_land_184 : decode cX10_land 184 = .ok (.getfield 59, 3) := by decide +kernel
theorem dX10_land_187 : decode cX10_land 187 = .ok (.iload_n 2, 1) := by decide +kernel
theorem dX10_land_188 : decode cX10_land 188 = .ok (.iaload, 1) := by decide +kernel
theorem dX10_land_189 : decode cX10_land 189 = .ok (.iastore, 1) := by decide +kernel
theorem dX10_land_190 : decode cX10_land 190 = .ok (.aload_n 0, 1) := by decide +kernel
theorem dX10_land_191 : decode cX10_land 191 = .ok (.getfield 31, 3) := by decide +kernel
theorem dX10_land_194 : decode cX10_land 194 = .ok (.iload_n 2, 1) := by decide +kernel
theorem dX10_land_195 : decode cX10_land 195 = .ok (.aload_n 0, 1) := by decide +kernel
theorem dX10_land_196 : decode cX10_land 196 = .ok (.getfield 62, 3) := by decide +kernel
theorem dX10_land_199 : decode cX10_land 199 = .ok (.iload_n 2, 1) := by decide +kernel
theorem dX10_land_200 : decode cX10_land 200 = .ok (.iaload, 1) := by decide +kernel
theorem dX10_land_201 : decode cX10_land 201 = .ok (.iastore, 1) := by decide +kernel
theorem dX10_land_202 : decode cX10_land 202 = .ok (.iinc 2 1, 3) := by decide +kernel
theorem dX10_land_205 : decode cX10_land 205 = .ok (.goto (-69), 3) := by decide +kernel
theorem dX10_land_208 : decode cX10_land 208 = .ok (.aload_n 0, 1) := by decide +kernel
theorem dX10_land_209 : decode cX10_land 209 = .ok (.iconst 0, 1) := by decide +kernel
theorem dX10_land_210 : decode cX10_land 210 = .ok (.putfield 229, 3) := by decide +kernel
theorem dX10_land_213 : decode cX10_land 213 = .ok (.aload_n 0, 1) := by decide +kernel
theorem dX10_land_214 : decode cX10_land 214 = .ok (.iconst 0, 1) := by decide +kernel
theorem dX10_land_215 : decode cX10_land 215 = .ok (.putfield 232, 3) := by decide +kernel
theorem dX10_land_218 : decode cX10_land 218 = .ok (.aload_n 0, 1) := by decide +kernel
theorem dX10_land_219 : decode cX10_land 219 = .ok (.getfield 117, 3) := by decide +kernel
theorem dX10_land_222 : decode cX10_land 222 = .ok (.iconst 0, 1) := by decide +kernel
theorem dX10_land_223 : decode cX10_land 223 = .ok (.iconst 0, 1) := by decide +kernel
theorem dX10_land_224 : decode cX10_land 224 = .ok (.bastore, 1) := by decide +kernel
theorem dX10_land_225 : decode cX10_land 225 = .ok (.aload_n 0, 1) := by decide +kernel
theorem dX10_land_226 : decode cX10_land 226 = .ok (.getfield 117, 3) := by decide +kernel
theorem dX10_land_229 : decode cX10_land 229 = .ok (.iconst 1, 1) := by decide +kernel
theorem dX10_land_230 : decode cX10_land 230 = .ok (.iconst 0, 1) := by decide +kernel
theorem dX10_land_231 : decode cX10_land 231 = .ok (.bastore, 1) := by decide +kernel
theorem dX10_land_232 : decode cX10_land 232 = .ok (.aload_n 0, 1) := by decide +kernel
theorem dX10_land_233 : decode cX10_land 233 = .ok (.getfield 121, 3) := by decide +kernel
theorem dX10_land_236 : decode cX10_land 236 = .ok (.ireturn, 1) := by decide +kernel
theorem dX10_fault_0 : decode cX10_fault 0 = .ok (.aload_n 0, 1) := by decide +kernel
theorem dX10_fault_1 : decode cX10_fault 1 = .ok (.getfield 37, 3) := by decide +kernel
theorem dX10_fault_4 : decode cX10_fault 4 = .ok (.ireturn, 1) := by decide +kernel
theorem dX10_told_0 : decode cX10_told 0 = .ok (.iload_n 1, 1) := by decide +kernel
theorem dX10_told_1 : decode cX10_told 1 = .ok (.tableswitch 78 0 6 #[43, 48, 53, 58, 63, 68, 73], 43) := by decide +kernel
theorem dX10_told_44 : decode cX10_told 44 = .ok (.aload_n 0, 1) := by decide +kernel
theorem dX10_told_45 : decode cX10_told 45 = .ok (.getfield 121, 3) := by decide +kernel
theorem dX10_told_48 : decode cX10_told 48 = .ok (.ireturn, 1) := by decide +kernel
theorem dX10_told_49 : decode cX10_told 49 = .ok (.aload_n 0, 1) := by decide +kernel
theorem dX10_told_50 : decode cX10_told 50 = .ok (.getfield 128, 3) := by decide +kernel
theorem dX10_told_53 : decode cX10_told 53 = .ok (.ireturn, 1) := by decide +kernel
theorem dX10_told_54 : decode cX10_told 54 = .ok (.aload_n 0, 1) := by decide +kernel
theorem dX10_told_55 : decode cX10_told 55 = .ok (.getfield 131, 3) := by decide +kernel
theorem dX10_told_58 : decode cX10_told 58 = .ok (.ireturn, 1) := by decide +kernel
theorem dX10_told_59 : decode cX10_told 59 = .ok (.aload_n 0, 1) := by decide +kernel
theorem dX10_told_60 : decode cX10_told 60 = .ok (.getfield 137, 3) := by decide +kernel
theorem dX10_told_63 : decode cX10_told 63 = .ok (.ireturn, 1) := by decide +kernel
theorem dX10_told_64 : decode cX10_told 64 = .ok (.aload_n 0, 1) := by decide +kernel
theorem dX10_told_65 : decode cX10_told 65 = .ok (.getfield 235, 3) := by decide +kernel
theorem dX10_told_68 : decode cX10_told 68 = .ok (.ireturn, 1) := by decide +kernel
theorem dX10_told_69 : decode cX10_told 69 = .ok (.aload_n 0, 1) := by decide +kernel
theorem dX10_told_70 : decode cX10_told 70 = .ok (.getfield 229, 3) := by decide +kernel
theorem dX10_told_73 : decode cX10_told 73 = .ok (.ireturn, 1) := by decide +kernel
theorem dX10_told_74 : decode cX10_told 74 = .ok (.aload_n 0, 1) := by decide +kernel
theorem dX10_told_75 : decode cX10_told 75 = .ok (.getfield 232, 3) := by decide +kernel
theorem dX10_told_78 : decode cX10_told 78 = .ok (.ireturn, 1) := by decide +kernel
theorem dX10_told_79 : decode cX10_told 79 = .ok (.ldc 136, 2) := by decide +kernel
theorem dX10_told_81 : decode cX10_told 81 = .ok (.ireturn, 1) := by decide +kernel
theorem dX10_way_0 : decode cX10_way 0 = .ok (.aload_n 0, 1) := by decide +kernel
theorem dX10_way_1 : decode cX10_way 1 = .ok (.iload_n 1, 1) := by decide +kernel
theorem dX10_way_2 : decode cX10_way 2 = .ok (.invokevirtual 238, 3) := by decide +kernel
theorem dX10_way_5 : decode cX10_way 5 = .ok (.ifCond .ne 6, 3) := by decide +kernel
theorem dX10_way_8 : decode cX10_way 8 = .ok (.ldc 242, 2) := by decide +kernel
theorem dX10_way_10 : decode cX10_way 10 = .ok (.ireturn, 1) := by decide +kernel
theorem dX10_way_11 : decode cX10_way 11 = .ok (.iload_n 2, 1) := by decide +kernel
theorem dX10_way_12 : decode cX10_way 12 = .ok (.ifCond .ne 12, 3) := by decide +kernel
theorem dX10_way_15 : decode cX10_way 15 = .ok (.aload_n 0, 1) := by decide +kernel
theorem dX10_way_16 : decode cX10_way 16 = .ok (.getfield 7, 3) := by decide +kernel
theorem dX10_way_19 : decode cX10_way 19 = .ok (.iload_n 1, 1) := by decide +kernel
theorem dX10_way_20 : decode cX10_way 20 = .ok (.iaload, 1) := by decide +kernel
theorem dX10_way_21 : decode cX10_way 21 = .ok (.goto 33, 3) := by decide +kernel
theorem dX10_way_24 : decode cX10_way 24 = .ok (.iload_n 2, 1) := by decide +kernel
theorem dX10_way_25 : decode cX10_way 25 = .ok (.iconst 1, 1) := by decide +kernel
theorem dX10_way_26 : decode cX10_way 26 = .ok (.if_icmp .ne 12, 3) := by decide +kernel
theorem dX10_way_29 : decode cX10_way 29 = .ok (.aload_n 0, 1) := by decide +kernel
theorem dX10_way_30 : decode cX10_way 30 = .ok (.getfield 13, 3) := by decide +kernel
theorem dX10_way_33 : decode cX10_way 33 = .ok (.iload_n 1, 1) := by decide +kernel
theorem dX10_way_34 : decode cX10_way 34 = .ok (.iaload, 1) := by decide +kernel
theorem dX10_way_35 : decode cX10_way 35 = .ok (.goto 19, 3) := by decide +kernel
theorem dX10_way_38 : decode cX10_way 38 = .ok (.iload_n 2, 1) := by decide +kernel
theorem dX10_way_39 : decode cX10_way 39 = .ok (.iconst 2, 1) := by decide +kernel
theorem dX10_way_40 : decode cX10_way 40 = .ok (.if_icmp .ne 12, 3) := by decide +kernel
theorem dX10_way_43 : decode cX10_way 43 = .ok (.aload_n 0, 1) := by decide +kernel
theorem dX10_way_44 : decode cX10_way 44 = .ok (.getfield 16, 3) := by decide +kernel
theorem dX10_way_47 : decode cX10_way 47 = .ok (.iload_n 1, 1) := by decide +kernel
theorem dX10_way_48 : decode cX10_way 48 = .ok (.iaload, 1) := by decide +kernel
theorem dX10_way_49 : decode cX10_way 49 = .ok (.goto 5, 3) := by decide +kernel
theorem dX10_way_52 : decode cX10_way 52 = .ok (.ldc 136, 2) := by decide +kernel
theorem dX10_way_54 : decode cX10_way 54 = .ok (.ireturn, 1) := by decide +kernel
theorem dX10_person_0 : decode cX10_person 0 = .ok (.aload_n 0, 1) := by decide +kernel
theorem dX10_person_1 : decode cX10_person 1 = .ok (.iload_n 1, 1) := by decide +kernel
theorem dX10_person_2 : decode cX10_person 2 = .ok (.invokevirtual 243, 3) := by decide +kernel
theorem dX10_person_5 : decode cX10_person 5 = .ok (.ifCond .ne 6, 3) := by decide +kernel
theorem dX10_person_8 : decode cX10_person 8 = .ok (.ldc 242, 2) := by decide +kernel
theorem dX10_person_10 : decode cX10_person 10 = .ok (.ireturn, 1) := by decide +kernel
theorem dX10_person_11 : decode cX10_person 11 = .ok (.iload_n 2, 1) := by decide +kernel
theorem dX10_person_12 : decode cX10_person 12 = .ok (.tableswitch 71 0 4 #[36, 43, 50, 57, 64], 36) := by decide +kernel
theorem dX10_person_48 : decode cX10_person 48 = .ok (.aload_n 0, 1) := by decide +kernel
theorem dX10_person_49 : decode cX10_person 49 = .ok (.getfield 19, 3) := by decide +kernel
theorem dX10_person_52 : decode cX10_person 52 = .ok (.iload_n 1, 1) := by decide +kernel
theorem dX10_person_53 : decode cX10_person 53 = .ok (.iaload, 1) := by decide +kernel
theorem dX10_person_54 : decode cX10_person 54 = .ok (.ireturn, 1) := by decide +kernel
theorem dX10_person_55 : decode cX10_person 55 = .ok (.aload_n 0, 1) := by decide +kernel
theorem dX10_person_56 : decode cX10_person 56 = .ok (.getfield 22, 3) := by decide +kernel
theorem dX10_person_59 : decode cX10_person 59 = .ok (.iload_n 1, 1) := by decide +kernel
theorem dX10_person_60 : decode cX10_person 60 = .ok (.iaload, 1) := by decide +kernel
theorem dX10_person_61 : decode cX10_person 61 = .ok (.ireturn, 1) := by decide +kernel
theorem dX10_person_62 : decode cX10_person 62 = .ok (.aload_n 0, 1) := by decide +kernel
theorem dX10_person_63 : decode cX10_person 63 = .ok (.getfield 25, 3) := by decide +kernel
theorem dX10_person_66 : decode cX10_person 66 = .ok (.iload_n 1, 1) := by decide +kernel
theorem dX10_person_67 : decode cX10_person 67 = .ok (.iaload, 1) := by decide +kernel
theorem dX10_person_68 : decode cX10_person 68 = .ok (.ireturn, 1) := by decide +kernel
theorem dX10_person_69 : decode cX10_person 69 = .ok (.aload_n 0, 1) := by decide +kernel
theorem dX10_person_70 : decode cX10_person 70 = .ok (.getfield 28, 3) := by decide +kernel
theorem dX10_person_73 : decode cX10_person 73 = .ok (.iload_n 1, 1) := by decide +kernel
theorem dX10_person_74 : decode cX10_person 74 = .ok (.iaload, 1) := by decide +kernel
theorem dX10_person_75 : decode cX10_person 75 = .ok (.ireturn, 1) := by decide +kernel
theorem dX10_person_76 : decode cX10_person 76 = .ok (.aload_n 0, 1) := by decide +kernel
theorem dX10_person_77 : decode cX10_person 77 = .ok (.getfield 31, 3) := by decide +kernel
theorem dX10_person_80 : decode cX10_person 80 = .ok (.iload_n 1, 1) := by decide +kernel
theorem dX10_person_81 : decode cX10_person 81 = .ok (.iaload, 1) := by decide +kernel
theorem dX10_person_82 : decode cX10_person 82 = .ok (.ireturn, 1) := by decide +kernel
theorem dX10_person_83 : decode cX10_person 83 = .ok (.ldc 136, 2) := by decide +kernel
theorem dX10_person_85 : decode cX10_person 85 = .ok (.ireturn, 1) := by decide +kernel
theorem dX10_law_0 : decode cX10_law 0 = .ok (.iload_n 1, 1) := by decide +kernel
theorem dX10_law_1 : decode cX10_law 1 = .ok (.i2l, 1) := by decide +kernel
theorem dX10_law_2 : decode cX10_law 2 = .ok (.lconst 0, 1) := by decide +kernel
theorem dX10_law_3 : decode cX10_law 3 = .ok (.ldc2_w 246, 3) := by decide +kernel
theorem dX10_law_6 : decode cX10_law 6 = .ok (.invokestatic 124, 3) := by decide +kernel
theorem dX10_law_9 : decode cX10_law 9 = .ok (.ifCond .ne 6, 3) := by decide +kernel
theorem dX10_law_12 : decode cX10_law 12 = .ok (.ldc 136, 2) := by decide +kernel
theorem dX10_law_14 : decode cX10_law 14 = .ok (.ireturn, 1) := by decide +kernel
theorem dX10_law_15 : decode cX10_law 15 = .ok (.aload_n 0, 1) := by decide +kernel
theorem dX10_law_16 : decode cX10_law 16 = .ok (.getfield 235, 3) := by decide +kernel
theorem dX10_law_19 : decode cX10_law 19 = .ok (.istore_n 2, 1) := by decide +kernel
theorem dX10_law_20 : decode cX10_law 20 = .ok (.aload_n 0, 1) := by decide +kernel
theorem dX10_law_21 : decode cX10_law 21 = .ok (.iload_n 1, 1) := by decide +kernel
theorem dX10_law_22 : decode cX10_law 22 = .ok (.putfield 235, 3) := by decide +kernel
theorem dX10_law_25 : decode cX10_law 25 = .ok (.iload_n 2, 1) := by decide +kernel
theorem dX10_law_26 : decode cX10_law 26 = .ok (.ireturn, 1) := by decide +kernel
theorem dX10_learn_0 : decode cX10_learn 0 = .ok (.aload_n 0, 1) := by decide +kernel
theorem dX10_learn_1 : decode cX10_learn 1 = .ok (.iload_n 1, 1) := by decide +kernel
theorem dX10_learn_2 : decode cX10_learn 2 = .ok (.invokevirtual 243, 3) := by decide +kernel
theorem dX10_learn_5 : decode cX10_learn 5 = .ok (.ifCond .eq 11, 3) := by decide +kernel
theorem dX10_learn_8 : decode cX10_learn 8 = .ok (.aload_n 0, 1) := by decide +kernel
theorem dX10_learn_9 : decode cX10_learn 9 = .ok (.iload_n 2, 1) := by decide +kernel
theorem dX10_learn_10 : decode cX10_learn 10 = .ok (.invokevirtual 238, 3) := by decide +kernel
theorem dX10_learn_13 : decode cX10_learn 13 = .ok (.ifCond .ne 6, 3) := by decide +kernel
theorem dX10_learn_16 : decode cX10_learn 16 = .ok (.ldc 242, 2) := by decide +kernel
theorem dX10_learn_18 : decode cX10_learn 18 = .ok (.ireturn, 1) := by decide +kernel
theorem dX10_learn_19 : decode cX10_learn 19 = .ok (.aload_n 0, 1) := by decide +kernel
theorem dX10_learn_20 : decode cX10_learn 20 = .ok (.getfield 31, 3) := by decide +kernel
theorem dX10_learn_23 : decode cX10_learn 23 = .ok (.iload_n 1, 1) := by decide +kernel
theorem dX10_learn_24 : decode cX10_learn 24 = .ok (.iaload, 1) := by decide +kernel
theorem dX10_learn_25 : decode cX10_learn 25 = .ok (.iload_n 2, 1) := by decide +kernel
theorem dX10_learn_26 : decode cX10_learn 26 = .ok (.ishr, 1) := by decide +kernel
theorem dX10_learn_27 : decode cX10_learn 27 = .ok (.iconst 1, 1) := by decide +kernel
theorem dX10_learn_28 : decode cX10_learn 28 = .ok (.iand, 1) := by decide +kernel
theorem dX10_learn_29 : decode cX10_learn 29 = .ok (.istore 4, 2) := by decide +kernel
theorem dX10_learn_31 : decode cX10_learn 31 = .ok (.aload_n 0, 1) := by decide +kernel
theorem dX10_learn_32 : decode cX10_learn 32 = .ok (.getfield 31, 3) := by decide +kernel
theorem dX10_learn_35 : decode cX10_learn 35 = .ok (.iload_n 1, 1) := by decide +kernel
theorem dX10_learn_36 : decode cX10_learn 36 = .ok (.iload_n 3, 1) := by decide +kernel
theorem dX10_learn_37 : decode cX10_learn 37 = .ok (.ifCond .eq 16, 3) := by decide +kernel
theorem dX10_learn_40 : decode cX10_learn 40 = .ok (.aload_n 0, 1) := by decide +kernel
theorem dX10_learn_41 : decode cX10_learn 41 = .ok (.getfield 31, 3) := by decide +kernel
theorem dX10_learn_44 : decode cX10_learn 44 = .ok (.iload_n 1, 1) := by decide +kernel
theorem dX10_learn_45 : decode cX10_learn 45 = .ok (.iaload, 1) := by decide +kernel
theorem dX10_learn_46 : decode cX10_learn 46 = .ok (.iconst 1, 1) := by decide +kernel
theorem dX10_learn_47 : decode cX10_learn 47 = .ok (.iload_n 2, 1) := by decide +kernel
theorem dX10_learn_48 : decode cX10_learn 48 = .ok (.ishl, 1) := by decide +kernel
theorem dX10_learn_49 : decode cX10_learn 49 = .ok (.ior, 1) := by decide +kernel
theorem dX10_learn_50 : decode cX10_learn 50 = .ok (.goto 15, 3) := by decide +kernel
theorem dX10_learn_53 : decode cX10_learn 53 = .ok (.aload_n 0, 1) := by decide +kernel
theorem dX10_learn_54 : decode cX10_learn 54 = .ok (.getfield 31, 3) := by decide +kernel
theorem dX10_learn_57 : decode cX10_learn 57 = .ok (.iload_n 1, 1) := by decide +kernel
theorem dX10_learn_58 : decode cX10_learn 58 = .ok (.iaload, 1) := by decide +kernel
theorem dX10_learn_59 : decode cX10_learn 59 = .ok (.iconst 1, 1) := by decide +kernel
theorem dX10_learn_60 : decode cX10_learn 60 = .ok (.iload_n 2, 1) := by decide +kernel
theorem dX10_learn_61 : decode cX10_learn 61 = .ok (.ishl, 1) := by decide +kernel
theorem dX10_learn_62 : decode cX10_learn 62 = .ok (.iconst (-1), 1) := by decide +kernel
theorem dX10_learn_63 : decode cX10_learn 63 = .ok (.ixor, 1) := by decide +kernel
theorem dX10_learn_64 : decode cX10_learn 64 = .ok (.iand, 1) := by decide +kernel
theorem dX10_learn_65 : decode cX10_learn 65 = .ok (.iastore, 1) := by decide +kernel
theorem dX10_learn_66 : decode cX10_learn 66 = .ok (.iload 4, 2) := by decide +kernel
theorem dX10_learn_68 : decode cX10_learn 68 = .ok (.ireturn, 1) := by decide +kernel
theorem dX10_habit_0 : decode cX10_habit 0 = .ok (.aload_n 0, 1) := by decide +kernel
theorem dX10_habit_1 : decode cX10_habit 1 = .ok (.iload_n 1, 1) := by decide +kernel
theorem dX10_habit_2 : decode cX10_habit 2 = .ok (.invokevirtual 243, 3) := by decide +kernel
theorem dX10_habit_5 : decode cX10_habit 5 = .ok (.ifCond .ne 6, 3) := by decide +kernel
theorem dX10_habit_8 : decode cX10_habit 8 = .ok (.ldc 242, 2) := by decide +kernel
theorem dX10_habit_10 : decode cX10_habit 10 = .ok (.ireturn, 1) := by decide +kernel
theorem dX10_habit_11 : decode cX10_habit 11 = .ok (.iload_n 2, 1) := by decide +kernel
theorem dX10_habit_12 : decode cX10_habit 12 = .ok (.i2l, 1) := by decide +kernel
theorem dX10_habit_13 : decode cX10_habit 13 = .ok (.lconst 0, 1) := by decide +kernel
theorem dX10_habit_14 : decode cX10_habit 14 = .ok (.ldc2_w 246, 3) := by decide +kernel
theorem dX10_habit_17 : decode cX10_habit 17 = .ok (.invokestatic 124, 3) := by decide +kernel
theorem dX10_habit_20 : decode cX10_habit 20 = .ok (.ifCond .ne 6, 3) := by decide +kernel
theorem dX10_habit_23 : decode cX10_habit 23 = .ok (.ldc 136, 2) := by decide +kernel
theorem dX10_habit_25 : decode cX10_habit 25 = .ok (.ireturn, 1) := by decide +kernel
theorem dX10_habit_26 : decode cX10_habit 26 = .ok (.aload_n 0, 1) := by decide +kernel
theorem dX10_habit_27 : decode cX10_habit 27 = .ok (.getfield 28, 3) := by decide +kernel
theorem dX10_habit_30 : decode cX10_habit 30 = .ok (.iload_n 1, 1) := by decide +kernel
theorem dX10_habit_31 : decode cX10_habit 31 = .ok (.iaload, 1) := by decide +kernel
theorem dX10_habit_32 : decode cX10_habit 32 = .ok (.istore_n 3, 1) := by decide +kernel
theorem dX10_habit_33 : decode cX10_habit 33 = .ok (.aload_n 0, 1) := by decide +kernel
theorem dX10_habit_34 : decode cX10_habit 34 = .ok (.getfield 28, 3) := by decide +kernel
theorem dX10_habit_37 : decode cX10_habit 37 = .ok (.iload_n 1, 1) := by decide +kernel
theorem dX10_habit_38 : decode cX10_habit 38 = .ok (.iload_n 2, 1) := by decide +kernel
theorem dX10_habit_39 : decode cX10_habit 39 = .ok (.iastore, 1) := by decide +kernel
theorem dX10_habit_40 : decode cX10_habit 40 = .ok (.iload_n 3, 1) := by decide +kernel
theorem dX10_habit_41 : decode cX10_habit 41 = .ok (.ireturn, 1) := by decide +kernel
theorem dX10_findNeeds_0 : decode cX10_findNeeds 0 = .ok (.iconst 0, 1) := by decide +kernel
theorem dX10_findNeeds_1 : decode cX10_findNeeds 1 = .ok (.istore_n 3, 1) := by decide +kernel
theorem dX10_findNeeds_2 : decode cX10_findNeeds 2 = .ok (.iload_n 3, 1) := by decide +kernel
theorem dX10_findNeeds_3 : decode cX10_findNeeds 3 = .ok (.bipush 10, 2) := by decide +kernel
theorem dX10_findNeeds_5 : decode cX10_findNeeds 5 = .ok (.if_icmp .ge 26, 3) := by decide +kernel
theorem dX10_findNeeds_8 : decode cX10_findNeeds 8 = .ok (.aload_n 0, 1) := by decide +kernel
theorem dX10_findNeeds_9 : decode cX10_findNeeds 9 = .ok (.getfield 65, 3) := by decide +kernel
theorem dX10_findNeeds_12 : decode cX10_findNeeds 12 = .ok (.iload_n 3, 1) := by decide +kernel
theorem dX10_findNeeds_13 : decode cX10_findNeeds 13 = .ok (.iload_n 3, 1) := by decide +kernel
theorem dX10_findNeeds_14 : decode cX10_findNeeds 14 = .ok (.iload_n 2, 1) := by decide +kernel
theorem dX10_findNeeds_15 : decode cX10_findNeeds 15 = .ok (.if_icmp .ne 7, 3) := by decide +kernel
theorem dX10_findNeeds_18 : decode cX10_findNeeds 18 = .ok (.iconst 0, 1) := by decide +kernel
theorem dX10_findNeeds_19 : decode cX10_findNeeds 19 = .ok (.goto 5, 3) := by decide +kernel
theorem dX10_findNeeds_22 : decode cX10_findNeeds 22 = .ok (.ldc 248, 2) := by decide +kernel
theorem dX10_findNeeds_24 : decode cX10_findNeeds 24 = .ok (.iastore, 1) := by decide +kernel
theorem dX10_findNeeds_25 : decode cX10_findNeeds 25 = .ok (.iinc 3 1, 3) := by decide +kernel
theorem dX10_findNeeds_28 : decode cX10_findNeeds 28 = .ok (.goto (-26), 3) := by decide +kernel
theorem dX10_findNeeds_31 : decode cX10_findNeeds 31 = .ok (.iconst 1, 1) := by decide +kernel
theorem dX10_findNeeds_32 : decode cX10_findNeeds 32 = .ok (.istore_n 3, 1) := by decide +kernel
theorem dX10_findNeeds_33 : decode cX10_findNeeds 33 = .ok (.iload_n 3, 1) := by decide +kernel
theorem dX10_findNeeds_34 : decode cX10_findNeeds 34 = .ok (.ifCond .eq 225, 3) := by decide +kernel
theorem dX10_findNeeds_37 : decode cX10_findNeeds 37 = .ok (.iconst 0, 1) := by decide +kernel
theorem dX10_findNeeds_38 : decode cX10_findNeeds 38 = .ok (.istore_n 3, 1) := by decide +kernel
theorem dX10_findNeeds_39 : decode cX10_findNeeds 39 = .ok (.iconst 0, 1) := by decide +kernel
theorem dX10_findNeeds_40 : decode cX10_findNeeds 40 = .ok (.istore 4, 2) := by decide +kernel
theorem dX10_findNeeds_42 : decode cX10_findNeeds 42 = .ok (.iload 4, 2) := by decide +kernel
theorem dX10_findNeeds_44 : decode cX10_findNeeds 44 = .ok (.aload_n 0, 1) := by decide +kernel
theorem dX10_findNeeds_45 : decode cX10_findNeeds 45 = .ok (.getfield 128, 3) := by decide +kernel
theorem dX10_findNeeds_48 : decode cX10_findNeeds 48 = .ok (.if_icmp .ge 208, 3) := by decide +kernel
theorem dX10_findNeeds_51 : decode cX10_findNeeds 51 = .ok (.iload_n 1, 1) := by decide +kernel
theorem dX10_findNeeds_52 : decode cX10_findNeeds 52 = .ok (.iload 4, 2) := by decide +kernel
theorem dX10_findNeeds_54 : decode cX10_findNeeds 54 = .ok (.invokestatic 210, 3) := by decide +kernel
theorem dX10_findNeeds_57 : decode cX10_findNeeds 57 = .ok (.ifCond .eq 193, 3) := by decide +kernel
theorem dX10_findNeeds_60 : decode cX10_findNeeds 60 = .ok (.aload_n 0, 1) := by decide +kernel
theorem dX10_findNeeds_61 : decode cX10_findNeeds 61 = .ok (.getfield 65, 3) := by decide +kernel
theorem dX10_findNeeds_64 : decode cX10_findNeeds 64 = .ok (.aload_n 0, 1) := by decide +kernel
theorem dX10_findNeeds_65 : decode cX10_findNeeds 65 = .ok (.getfield 13, 3) := by decide +kernel
theorem dX10_findNeeds_68 : decode cX10_findNeeds 68 = .ok (.iload 4, 2) := by decide +kernel
theorem dX10_findNeeds_70 : decode cX10_findNeeds 70 = .ok (.iaload, 1) := by decide +kernel
theorem dX10_findNeeds_71 : decode cX10_findNeeds 71 = .ok (.iaload, 1) := by decide +kernel
theorem dX10_findNeeds_72 : decode cX10_findNeeds 72 = .ok (.bipush 16, 2) := by decide +kernel
theorem dX10_findNeeds_74 : decode cX10_findNeeds 74 = .ok (.aload_n 0, 1) := by decide +kernel
theorem dX10_findNeeds_75 : decode cX10_findNeeds 75 = .ok (.getfield 16, 3) := by decide +kernel
theorem dX10_findNeeds_78 : decode cX10_findNeeds 78 = .ok (.iload 4, 2) := by decide +kernel
theorem dX10_findNeeds_80 : decode cX10_findNeeds 80 = .ok (.iaload, 1) := by decide +kernel
theorem dX10_findNeeds_81 : decode cX10_findNeeds 81 = .ok (.imul, 1) := by decide +kernel
theorem dX10_findNeeds_82 : decode cX10_findNeeds 82 = .ok (.iadd, 1) := by decide +kernel
theorem dX10_findNeeds_83 : decode cX10_findNeeds 83 = .ok (.iconst 1, 1) := by decide +kernel
theorem dX10_findNeeds_84 : decode cX10_findNeeds 84 = .ok (.iadd, 1) := by decide +kernel
theorem dX10_findNeeds_85 : decode cX10_findNeeds 85 = .ok (.istore 5, 2) := by decide +kernel
theorem dX10_findNeeds_87 : decode cX10_findNeeds 87 = .ok (.aload_n 0, 1) := by decide +kernel
theorem dX10_findNeeds_88 : decode cX10_findNeeds 88 = .ok (.getfield 65, 3) := by decide +kernel
theorem dX10_findNeeds_91 : decode cX10_findNeeds 91 = .ok (.aload_n 0, 1) := by decide +kernel
theorem dX10_findNeeds_92 : decode cX10_findNeeds 92 = .ok (.getfield 7, 3) := by decide +kernel
theorem dX10_findNeeds_95 : decode cX10_findNeeds 95 = .ok (.iload 4, 2) := by decide +kernel
theorem dX10_findNeeds_97 : decode cX10_findNeeds 97 = .ok (.iaload, 1) := by decide +kernel
theorem dX10_findNeeds_98 : decode cX10_findNeeds 98 = .ok (.iaload, 1) := by decide +kernel
theorem dX10_findNeeds_99 : decode cX10_findNeeds 99 = .ok (.bipush 16, 2) := by decide +kernel
theorem dX10_findNeeds_101 : decode cX10_findNeeds 101 = .ok (.aload_n 0, 1) := by decide +kernel
theorem dX10_findNeeds_102 : decode cX10_findNeeds 102 = .ok (.getfield 16, 3) := by decide +kernel
theorem dX10_findNeeds_105 : decode cX10_findNeeds 105 = .ok (.iload 4, 2) := by decide +kernel
theorem dX10_findNeeds_107 : decode cX10_findNeeds 107 = .ok (.iaload, 1) := by decide +kernel
theorem dX10_findNeeds_108 : decode cX10_findNeeds 108 = .ok (.imul, 1) := by decide +kernel
theorem dX10_findNeeds_109 : decode cX10_findNeeds 109 = .ok (.iadd, 1) := by decide +kernel
theorem dX10_findNeeds_110 : decode cX10_findNeeds 110 = .ok (.iconst 1, 1) := by decide +kernel
theorem dX10_findNeeds_111 : decode cX10_findNeeds 111 = .ok (.iadd, 1) := by decide +kernel
theorem dX10_findNeeds_112 : decode cX10_findNeeds 112 = .ok (.istore 6, 2) := by decide +kernel
theorem dX10_findNeeds_114 : decode cX10_findNeeds 114 = .ok (.iload_n 3, 1) := by decide +kernel
theorem dX10_findNeeds_115 : decode cX10_findNeeds 115 = .ok (.ifCond .ne 37, 3) := by decide +kernel
theorem dX10_findNeeds_118 : decode cX10_findNeeds 118 = .ok (.iload 5, 2) := by decide +kernel
theorem dX10_findNeeds_120 : decode cX10_findNeeds 120 = .ok (.aload_n 0, 1) := by decide +kernel
theorem dX10_findNeeds_121 : decode cX10_findNeeds 121 = .ok (.getfield 65, 3) := by decide +kernel
theorem dX10_findNeeds_124 : decode cX10_findNeeds 124 = .ok (.aload_n 0, 1) := by decide +kernel
theorem dX10_findNeeds_125 : decode cX10_findNeeds 125 = .ok (.getfield 7, 3) := by decide +kernel
theorem dX10_findNeeds_128 : decode cX10_findNeeds 128 = .ok (.iload 4, 2) := by decide +kernel
theorem dX10_findNeeds_130 : decode cX10_findNeeds 130 = .ok (.iaload, 1) := by decide +kernel
theorem dX10_findNeeds_131 : decode cX10_findNeeds 131 = .ok (.iaload, 1) := by decide +kernel
theorem dX10_findNeeds_132 : decode cX10_findNeeds 132 = .ok (.if_icmp .lt 20, 3) := by decide +kernel
theorem dX10_findNeeds_135 : decode cX10_findNeeds 135 = .ok (.iload 6, 2) := by decide +kernel
theorem dX10_findNeeds_137 : decode cX10_findNeeds 137 = .ok (.aload_n 0, 1) := by decide +kernel
theorem dX10_findNeeds_138 : decode cX10_findNeeds 138 = .ok (.getfield 65, 3) := by decide +kernel
theorem dX10_findNeeds_141 : decode cX10_findNeeds 141 = .ok (.aload_n 0, 1) := by decide +kernel
theorem dX10_findNeeds_142 : decode cX10_findNeeds 142 = .ok (.getfield 13, 3) := by decide +kernel
theorem dX10_findNeeds_145 : decode cX10_findNeeds 145 = .ok (.iload 4, 2) := by decide +kernel
theorem dX10_findNeeds_147 : decode cX10_findNeeds 147 = .ok (.iaload, 1) := by decide +kernel
theorem dX10_findNeeds_148 : decode cX10_findNeeds 148 = .ok (.iaload, 1) := by decide +kernel
theorem dX10_findNeeds_149 : decode cX10_findNeeds 149 = .ok (.if_icmp .ge 7, 3) := by decide +kernel
theorem dX10_findNeeds_152 : decode cX10_findNeeds 152 = .ok (.iconst 1, 1) := by decide +kernel
theorem dX10_findNeeds_153 : decode cX10_findNeeds 153 = .ok (.goto 4, 3) := by decide +kernel
theorem dX10_findNeeds_156 : decode cX10_findNeeds 156 = .ok (.iconst 0, 1) := by decide +kernel
theorem dX10_findNeeds_157 : decode cX10_findNeeds 157 = .ok (.istore_n 3, 1) := by decide +kernel
theorem dX10_findNeeds_158 : decode cX10_findNeeds 158 = .ok (.aload_n 0, 1) := by decide +kernel
theorem dX10_findNeeds_159 : decode cX10_findNeeds 159 = .ok (.getfield 65, 3) := by decide +kernel
theorem dX10_findNeeds_162 : decode cX10_findNeeds 162 = .ok (.aload_n 0, 1) := by decide +kernel
theorem dX10_findNeeds_163 : decode cX10_findNeeds 163 = .ok (.getfield 7, 3) := by decide +kernel
theorem dX10_findNeeds_166 : decode cX10_findNeeds 166 = .ok (.iload 4, 2) := by decide +kernel
theorem dX10_findNeeds_168 : decode cX10_findNeeds 168 = .ok (.iaload, 1) := by decide +kernel
theorem dX10_findNeeds_169 : decode cX10_findNeeds 169 = .ok (.iload 5, 2) := by decide +kernel
theorem dX10_findNeeds_171 : decode cX10_findNeeds 171 = .ok (.aload_n 0, 1) := by decide +kernel
theorem dX10_findNeeds_172 : decode cX10_findNeeds 172 = .ok (.getfield 65, 3) := by decide +kernel
theorem dX10_findNeeds_175 : decode cX10_findNeeds 175 = .ok (.aload_n 0, 1) := by decide +kernel
theorem dX10_findNeeds_176 : decode cX10_findNeeds 176 = .ok (.getfield 7, 3) := by decide +kernel
theorem dX10_findNeeds_179 : decode cX10_findNeeds 179 = .ok (.iload 4, 2) := by decide +kernel
theorem dX10_findNeeds_181 : decode cX10_findNeeds 181 = .ok (.iaload, 1) := by decide +kernel
theorem dX10_findNeeds_182 : decode cX10_findNeeds 182 = .ok (.iaload, 1) := by decide +kernel
theorem dX10_findNeeds_183 : decode cX10_findNeeds 183 = .ok (.if_icmp .ge 8, 3) := by decide +kernel
theorem dX10_findNeeds_186 : decode cX10_findNeeds 186 = .ok (.iload 5, 2) := by decide +kernel
theorem dX10_findNeeds_188 : decode cX10_findNeeds 188 = .ok (.goto 15, 3) := by decide +kernel
theorem dX10_findNeeds_191 : decode cX10_findNeeds 191 = .ok (.aload_n 0, 1) := by decide +kernel
theorem dX10_findNeeds_192 : decode cX10_findNeeds 192 = .ok (.getfield 65, 3) := by decide +kernel
theorem dX10_findNeeds_195 : decode cX10_findNeeds 195 = .ok (.aload_n 0, 1) := by decide +kernel
theorem dX10_findNeeds_196 : decode cX10_findNeeds 196 = .ok (.getfield 7, 3) := by decide +kernel
theorem dX10_findNeeds_199 : decode cX10_findNeeds 199 = .ok (.iload 4, 2) := by decide +kernel
theorem dX10_findNeeds_201 : decode cX10_findNeeds 201 = .ok (.iaload, 1) := by decide +kernel
theorem dX10_findNeeds_202 : decode cX10_findNeeds 202 = .ok (.iaload, 1) := by decide +kernel
theorem dX10_findNeeds_203 : decode cX10_findNeeds 203 = .ok (.iastore, 1) := by decide +kernel
theorem dX10_findNeeds_204 : decode cX10_findNeeds 204 = .ok (.aload_n 0, 1) := by decide +kernel
theorem dX10_findNeeds_205 : decode cX10_findNeeds 205 = .ok (.getfield 65, 3) := by decide +kernel
theorem dX10_findNeeds_208 : decode cX10_findNeeds 208 = .ok (.aload_n 0, 1) := by decide +kernel
theorem dX10_findNeeds_209 : decode cX10_findNeeds 209 = .ok (.getfield 13, 3) := by decide +kernel
theorem dX10_findNeeds_212 : decode cX10_findNeeds 212 = .ok (.iload 4, 2) := by decide +kernel
theorem dX10_findNeeds_214 : decode cX10_findNeeds 214 = .ok (.iaload, 1) := by decide +kernel
theorem dX10_findNeeds_215 : decode cX10_findNeeds 215 = .ok (.iload 6, 2) := by decide +kernel
theorem dX10_findNeeds_217 : decode cX10_findNeeds 217 = .ok (.aload_n 0, 1) := by decide +kernel
theorem dX10_findNeeds_218 : decode cX10_findNeeds 218 = .ok (.getfield 65, 3) := by decide +kernel
theorem dX10_findNeeds_221 : decode cX10_findNeeds 221 = .ok (.aload_n 0, 1) := by decide +kernel
theorem dX10_findNeeds_222 : decode cX10_findNeeds 222 = .ok (.getfield 13, 3) := by decide +kernel
theorem dX10_findNeeds_225 : decode cX10_findNeeds 225 = .ok (.iload 4, 2) := by decide +kernel
theorem dX10_findNeeds_227 : decode cX10_findNeeds 227 = .ok (.iaload, 1) := by decide +kernel
theorem dX10_findNeeds_228 : decode cX10_findNeeds 228 = .ok (.iaload, 1) := by decide +kernel
theorem dX10_findNeeds_229 : decode cX10_findNeeds 229 = .ok (.if_icmp .ge 8, 3) := by decide +kernel
theorem dX10_findNeeds_232 : decode cX10_findNeeds 232 = .ok (.iload 6, 2) := by decide +kernel
theorem dX10_findNeeds_234 : decode cX10_findNeeds 234 = .ok (.goto 15, 3) := by decide +kernel
theorem dX10_findNeeds_237 : decode cX10_findNeeds 237 = .ok (.aload_n 0, 1) := by decide +kernel
theorem dX10_findNeeds_238 : decode cX10_findNeeds 238 = .ok (.getfield 65, 3) := by decide +kernel
theorem dX10_findNeeds_241 : decode cX10_findNeeds 241 = .ok (.aload_n 0, 1) := by decide +kernel
theorem dX10_findNeeds_242 : decode cX10_findNeeds 242 = .ok (.getfield 13, 3) := by decide +kernel
theorem dX10_findNeeds_245 : decode cX10_findNeeds 245 = .ok (.iload 4, 2) := by decide +kernel
theorem dX10_findNeeds_247 : decode cX10_findNeeds 247 = .ok (.iaload, 1) := by decide +kernel
theorem dX10_findNeeds_248 : decode cX10_findNeeds 248 = .ok (.iaload, 1) := by decide +kernel
theorem dX10_findNeeds_249 : decode cX10_findNeeds 249 = .ok (.iastore, 1) := by decide +kernel
theorem dX10_findNeeds_250 : decode cX10_findNeeds 250 = .ok (.iinc 4 1, 3) := by decide +kernel
theorem dX10_findNeeds_253 : decode cX10_findNeeds 253 = .ok (.goto (-211), 3) := by decide +kernel
theorem dX10_findNeeds_256 : decode cX10_findNeeds 256 = .ok (.goto (-223), 3) := by decide +kernel
theorem dX10_findNeeds_259 : decode cX10_findNeeds 259 = .ok (.return_, 1) := by decide +kernel
theorem dX10_findRoute_0 : decode cX10_findRoute 0 = .ok (.aload_n 0, 1) := by decide +kernel
theorem dX10_findRoute_1 : decode cX10_findRoute 1 = .ok (.iload_n 1, 1) := by decide +kernel
theorem dX10_findRoute_2 : decode cX10_findRoute 2 = .ok (.iload_n 3, 1) := by decide +kernel
theorem dX10_findRoute_3 : decode cX10_findRoute 3 = .ok (.invokevirtual 249, 3) := by decide +kernel
theorem dX10_findRoute_6 : decode cX10_findRoute 6 = .ok (.aload_n 0, 1) := by decide +kernel
theorem dX10_findRoute_7 : decode cX10_findRoute 7 = .ok (.iconst (-1), 1) := by decide +kernel
theorem dX10_findRoute_8 : decode cX10_findRoute 8 = .ok (.putfield 253, 3) := by decide +kernel
theorem dX10_findRoute_11 : decode cX10_findRoute 11 = .ok (.aload_n 0, 1) := by decide +kernel
theorem dX10_findRoute_12 : decode cX10_findRoute 12 = .ok (.getfield 65, 3) := by decide +kernel
theorem dX10_findRoute_15 : decode cX10_findRoute 15 = .ok (.iload_n 2, 1) := by decide +kernel
theorem dX10_findRoute_16 : decode cX10_findRoute 16 = .ok (.iaload, 1) := by decide +kernel
theorem dX10_findRoute_17 : decode cX10_findRoute 17 = .ok (.ldc 248, 2) := by decide +kernel
theorem dX10_findRoute_19 : decode cX10_findRoute 19 = .ok (.if_icmp .lt 5, 3) := by decide +kernel
theorem dX10_findRoute_22 : decode cX10_findRoute 22 = .ok (.iconst (-1), 1) := by decide +kernel
theorem dX10_findRoute_23 : decode cX10_findRoute 23 = .ok (.ireturn, 1) := by decide +kernel
theorem dX10_findRoute_24 : decode cX10_findRoute 24 = .ok (.aload_n 0, 1) := by decide +kernel
theorem dX10_findRoute_25 : decode cX10_findRoute 25 = .ok (.iconst 0, 1) := by decide +kernel
theorem dX10_findRoute_26 : decode cX10_findRoute 26 = .ok (.putfield 253, 3) := by decide +kernel
theorem dX10_findRoute_29 : decode cX10_findRoute 29 = .ok (.iload_n 2, 1) := by decide +kernel
theorem dX10_findRoute_30 : decode cX10_findRoute 30 = .ok (.istore 4, 2) := by decide +kernel
theorem dX10_findRoute_32 : decode cX10_findRoute 32 = .ok (.iconst 0, 1) := by decide +kernel
theorem dX10_findRoute_33 : decode cX10_findRoute 33 = .ok (.istore 5, 2) := by decide +kernel
theorem dX10_findRoute_35 : decode cX10_findRoute 35 = .ok (.iload 4, 2) := by decide +kernel
theorem dX10_findRoute_37 : decode cX10_findRoute 37 = .ok (.iload_n 3, 1) := by decide +kernel
theorem dX10_findRoute_38 : decode cX10_findRoute 38 = .ok (.if_icmp .eq 212, 3) := by decide +kernel
theorem dX10_findRoute_41 : decode cX10_findRoute 41 = .ok (.bipush 10, 2) := by decide +kernel
theorem dX10_findRoute_43 : decode cX10_findRoute 43 = .ok (.istore 6, 2) := by decide +kernel
theorem dX10_findRoute_45 : decode cX10_findRoute 45 = .ok (.iconst 0, 1) := by decide +kernel
theorem dX10_findRoute_46 : decode cX10_findRoute 46 = .ok (.istore 7, 2) := by decide +kernel
theorem dX10_findRoute_48 : decode cX10_findRoute 48 = .ok (.iconst 0, 1) := by decide +kernel
theorem dX10_findRoute_49 : decode cX10_findRoute 49 = .ok (.istore 8, 2) := by decide +kernel
theorem dX10_findRoute_51 : decode cX10_findRoute 51 = .ok (.iload 8, 2) := by decide +kernel
theorem dX10_findRoute_53 : decode cX10_findRoute 53 = .ok (.aload_n 0, 1) := by decide +kernel
theorem dX10_findRoute_54 : decode cX10_findRoute 54 = .ok (.getfield 128, 3) := by decide +kernel
theorem dX10_findRoute_57 : decode cX10_findRoute 57 = .ok (.if_icmp .ge 147, 3) := by decide +kernel
theorem dX10_findRoute_60 : decode cX10_findRoute 60 = .ok (.aload_n 0, 1) := by decide +kernel
theorem dX10_findRoute_61 : decode cX10_findRoute 61 = .ok (.getfield 7, 3) := by decide +kernel
theorem dX10_findRoute_64 : decode cX10_findRoute 64 = .ok (.iload 8, 2) := by decide +kernel
theorem dX10_findRoute_66 : decode cX10_findRoute 66 = .ok (.iaload, 1) := by decide +kernel
theorem dX10_findRoute_67 : decode cX10_findRoute 67 = .ok (.iload 4, 2) := by decide +kernel
theorem dX10_findRoute_69 : decode cX10_findRoute 69 = .ok (.if_icmp .ne 13, 3) := by decide +kernel
theorem dX10_findRoute_72 : decode cX10_findRoute 72 = .ok (.aload_n 0, 1) := by decide +kernel
theorem dX10_findRoute_73 : decode cX10_findRoute 73 = .ok (.getfield 13, 3) := by decide +kernel
theorem dX10_findRoute_76 : decode cX10_findRoute 76 = .ok (.iload 8, 2) := by decide +kernel
theorem dX10_findRoute_78 : decode cX10_findRoute 78 = .ok (.iaload, 1) := by decide +kernel
theorem dX10_findRoute_79 : decode cX10_findRoute 79 = .ok (.goto 26, 3) := by decide +kernel
theorem dX10_findRoute_82 : decode cX10_findRoute 82 = .ok (.aload_n 0, 1) := by decide +kernel
theorem dX10_findRoute_83 : decode cX10_findRoute 83 = .ok (.getfield 13, 3) := by decide +kernel
theorem dX10_findRoute_86 : decode cX10_findRoute 86 = .ok (.iload 8, 2) := by decide +kernel
theorem dX10_findRoute_88 : decode cX10_findRoute 88 = .ok (.iaload, 1) := by decide +kernel
theorem dX10_findRoute_89 : decode cX10_findRoute 89 = .ok (.iload 4, 2) := by decide +kernel
theorem dX10_findRoute_91 : decode cX10_findRoute 91 = .ok (.if_icmp .ne 13, 3) := by decide +kernel
theorem dX10_findRoute_94 : decode cX10_findRoute 94 = .ok (.aload_n 0, 1) := by decide +kernel
theorem dX10_findRoute_95 : decode cX10_findRoute 95 = .ok (.getfield 7, 3) := by decide +kernel
theorem dX10_findRoute_98 : decode cX10_findRoute 98 = .ok (.iload 8, 2) := by decide +kernel
theorem dX10_findRoute_100 : decode cX10_findRoute 100 = .ok (.iaload, 1) := by decide +kernel
theorem dX10_findRoute_101 : decode cX10_findRoute 101 = .ok (.goto 4, 3) := by decide +kernel
theorem dX10_findRoute_104 : decode cX10_findRoute 104 = .ok (.iconst (-1), 1) := by decide +kernel
theorem dX10_findRoute_105 : decode cX10_findRoute 105 = .ok (.istore 9, 2) := by decide +kernel
theorem dX10_findRoute_107 : decode cX10_findRoute 107 = .ok (.iload 9, 2) := by decide +kernel
theorem dX10_findRoute_109 : decode cX10_findRoute 109 = .ok (.ifCond .lt 53, 3) := by decide +kernel
theorem dX10_findRoute_112 : decode cX10_findRoute 112 = .ok (.iload_n 1, 1) := by decide +kernel
theorem dX10_findRoute_113 : decode cX10_findRoute 113 = .ok (.iload 8, 2) := by decide +kernel
theorem dX10_findRoute_115 : decode cX10_findRoute 115 = .ok (.invokestatic 210, 3) := by decide +kernel
theorem dX10_findRoute_118 : decode cX10_findRoute 118 = .ok (.ifCond .eq 44, 3) := by decide +kernel
theorem dX10_findRoute_121 : decode cX10_findRoute 121 = .ok (.aload_n 0, 1) := by decide +kernel
theorem dX10_findRoute_122 : decode cX10_findRoute 122 = .ok (.getfield 65, 3) := by decide +kernel
theorem dX10_findRoute_125 : decode cX10_findRoute 125 = .ok (.iload 9, 2) := by decide +kernel
theorem dX10_findRoute_127 : decode cX10_findRoute 127 = .ok (.iaload, 1) := by decide +kernel
theorem dX10_findRoute_128 : decode cX10_findRoute 128 = .ok (.bipush 16, 2) := by decide +kernel
theorem dX10_findRoute_130 : decode cX10_findRoute 130 = .ok (.aload_n 0, 1) := by decide +kernel
theorem dX10_findRoute_131 : decode cX10_findRoute 131 = .ok (.getfield 16, 3) := by decide +kernel
theorem dX10_findRoute_134 : decode cX10_findRoute 134 = .ok (.iload 8, 2) := by decide +kernel
theorem dX10_findRoute_136 : decode cX10_findRoute 136 = .ok (.iaload, 1) := by decide +kernel
theorem dX10_findRoute_137 : decode cX10_findRoute 137 = .ok (.imul, 1) := by decide +kernel
theorem dX10_findRoute_138 : decode cX10_findRoute 138 = .ok (.iadd, 1) := by decide +kernel
theorem dX10_findRoute_139 : decode cX10_findRoute 139 = .ok (.iconst 1, 1) := by decide +kernel
theorem dX10_findRoute_140 : decode cX10_findRoute 140 = .ok (.iadd, 1) := by decide +kernel
theorem dX10_findRoute_141 : decode cX10_findRoute 141 = .ok (.aload_n 0, 1) := by decide +kernel
theorem dX10_findRoute_142 : decode cX10_findRoute 142 = .ok (.getfield 65, 3) := by decide +kernel
theorem dX10_findRoute_145 : decode cX10_findRoute 145 = .ok (.iload 4, 2) := by decide +kernel
theorem dX10_findRoute_147 : decode cX10_findRoute 147 = .ok (.iaload, 1) := by decide +kernel
theorem dX10_findRoute_148 : decode cX10_findRoute 148 = .ok (.if_icmp .ne 14, 3) := by decide +kernel
theorem dX10_findRoute_151 : decode cX10_findRoute 151 = .ok (.iload 9, 2) := by decide +kernel
theorem dX10_findRoute_153 : decode cX10_findRoute 153 = .ok (.iload 6, 2) := by decide +kernel
theorem dX10_findRoute_155 : decode cX10_findRoute 155 = .ok (.if_icmp .ge 7, 3) := by decide +kernel
theorem dX10_findRoute_158 : decode cX10_findRoute 158 = .ok (.iconst 1, 1) := by decide +kernel
theorem dX10_findRoute_159 : decode cX10_findRoute 159 = .ok (.goto 4, 3) := by decide +kernel
theorem dX10_findRoute_162 : decode cX10_findRoute 162 = .ok (.iconst 0, 1) := by decide +kernel
theorem dX10_findRoute_163 : decode cX10_findRoute 163 = .ok (.istore 10, 2) := by decide +kernel
theorem dX10_findRoute_165 : decode cX10_findRoute 165 = .ok (.iload 10, 2) := by decide +kernel
theorem dX10_findRoute_167 : decode cX10_findRoute 167 = .ok (.ifCond .eq 8, 3) := by decide +kernel
theorem dX10_findRoute_170 : decode cX10_findRoute 170 = .ok (.iload 9, 2) := by decide +kernel
theorem dX10_findRoute_172 : decode cX10_findRoute 172 = .ok (.goto 5, 3) := by decide +kernel
theorem dX10_findRoute_175 : decode cX10_findRoute 175 = .ok (.iload 6, 2) := by decide +kernel
theorem dX10_findRoute_177 : decode cX10_findRoute 177 = .ok (.istore 6, 2) := by decide +kernel
theorem dX10_findRoute_179 : decode cX10_findRoute 179 = .ok (.iload 10, 2) := by decide +kernel
theorem dX10_findRoute_181 : decode cX10_findRoute 181 = .ok (.ifCond .eq 13, 3) := by decide +kernel
theorem dX10_findRoute_184 : decode cX10_findRoute 184 = .ok (.aload_n 0, 1) := by decide +kernel
theorem dX10_findRoute_185 : decode cX10_findRoute 185 = .ok (.getfield 16, 3) := by decide +kernel
theorem dX10_findRoute_188 : decode cX10_findRoute 188 = .ok (.iload 8, 2) := by decide +kernel
theorem dX10_findRoute_190 : decode cX10_findRoute 190 = .ok (.iaload, 1) := by decide +kernel
theorem dX10_findRoute_191 : decode cX10_findRoute 191 = .ok (.goto 5, 3) := by decide +kernel
theorem dX10_findRoute_194 : decode cX10_findRoute 194 = .ok (.iload 7, 2) := by decide +kernel
theorem dX10_findRoute_196 : decode cX10_findRoute 196 = .ok (.istore 7, 2) := by decide +kernel
theorem dX10_findRoute_198 : decode cX10_findRoute 198 = .ok (.iinc 8 1, 3) := by decide +kernel
theorem dX10_findRoute_201 : decode cX10_findRoute 201 = .ok (.goto (-150), 3) := by decide +kernel
theorem dX10_findRoute_204 : decode cX10_findRoute 204 = .ok (.iload 5, 2) := by decide +kernel
theorem dX10_findRoute_206 : decode cX10_findRoute 206 = .ok (.iload 7, 2) := by decide +kernel
theorem dX10_findRoute_208 : decode cX10_findRoute 208 = .ok (.iadd, 1) := by decide +kernel
theorem dX10_findRoute_209 : decode cX10_findRoute 209 = .ok (.istore 5, 2) := by decide +kernel
theorem dX10_findRoute_211 : decode cX10_findRoute 211 = .ok (.iload 6, 2) := by decide +kernel
theorem dX10_findRoute_213 : decode cX10_findRoute 213 = .ok (.istore 4, 2) := by decide +kernel
theorem dX10_findRoute_215 : decode cX10_findRoute 215 = .ok (.aload_n 0, 1) := by decide +kernel
theorem dX10_findRoute_216 : decode cX10_findRoute 216 = .ok (.getfield 68, 3) := by decide +kernel
theorem dX10_findRoute_219 : decode cX10_findRoute 219 = .ok (.aload_n 0, 1) := by decide +kernel
theorem dX10_findRoute_220 : decode cX10_findRoute 220 = .ok (.getfield 253, 3) := by decide +kernel
theorem dX10_findRoute_223 : decode cX10_findRoute 223 = .ok (.iload 4, 2) := by decide +kernel
theorem dX10_findRoute_225 : decode cX10_findRoute 225 = .ok (.iastore, 1) := by decide +kernel
theorem dX10_findRoute_226 : decode cX10_findRoute 226 = .ok (.aload_n 0, 1) := by decide +kernel
theorem dX10_findRoute_227 : decode cX10_findRoute 227 = .ok (.getfield 71, 3) := by decide +kernel
theorem dX10_findRoute_230 : decode cX10_findRoute 230 = .ok (.aload_n 0, 1) := by decide +kernel
theorem dX10_findRoute_231 : decode cX10_findRoute 231 = .ok (.getfield 253, 3) := by decide +kernel
theorem dX10_findRoute_234 : decode cX10_findRoute 234 = .ok (.iload 5, 2) := by decide +kernel
theorem dX10_findRoute_236 : decode cX10_findRoute 236 = .ok (.iastore, 1) := by decide +kernel
theorem dX10_findRoute_237 : decode cX10_findRoute 237 = .ok (.aload_n 0, 1) := by decide +kernel
theorem dX10_findRoute_238 : decode cX10_findRoute 238 = .ok (.dup, 1) := by decide +kernel
theorem dX10_findRoute_239 : decode cX10_findRoute 239 = .ok (.getfield 253, 3) := by decide +kernel
theorem dX10_findRoute_242 : decode cX10_findRoute 242 = .ok (.iconst 1, 1) := by decide +kernel
theorem dX10_findRoute_243 : decode cX10_findRoute 243 = .ok (.iadd, 1) := by decide +kernel
theorem dX10_findRoute_244 : decode cX10_findRoute 244 = .ok (.putfield 253, 3) := by decide +kernel
theorem dX10_findRoute_247 : decode cX10_findRoute 247 = .ok (.goto (-212), 3) := by decide +kernel
theorem dX10_findRoute_250 : decode cX10_findRoute 250 = .ok (.aload_n 0, 1) := by decide +kernel
theorem dX10_findRoute_251 : decode cX10_findRoute 251 = .ok (.getfield 253, 3) := by decide +kernel
theorem dX10_findRoute_254 : decode cX10_findRoute 254 = .ok (.ireturn, 1) := by decide +kernel
theorem dX10_far_0 : decode cX10_far 0 = .ok (.aload_n 0, 1) := by decide +kernel
theorem dX10_far_1 : decode cX10_far 1 = .ok (.iload_n 1, 1) := by decide +kernel
theorem dX10_far_2 : decode cX10_far 2 = .ok (.invokevirtual 256, 3) := by decide +kernel
theorem dX10_far_5 : decode cX10_far 5 = .ok (.ifCond .eq 11, 3) := by decide +kernel
theorem dX10_far_8 : decode cX10_far 8 = .ok (.aload_n 0, 1) := by decide +kernel
theorem dX10_far_9 : decode cX10_far 9 = .ok (.iload_n 2, 1) := by decide +kernel
theorem dX10_far_10 : decode cX10_far 10 = .ok (.invokevirtual 256, 3) := by decide +kernel
theorem dX10_far_13 : decode cX10_far 13 = .ok (.ifCond .ne 6, 3) := by decide +kernel
theorem dX10_far_16 : decode cX10_far 16 = .ok (.ldc 242, 2) := by decide +kernel
theorem dX10_far_18 : decode cX10_far 18 = .ok (.ireturn, 1) := by decide +kernel
theorem dX10_far_19 : decode cX10_far 19 = .ok (.aload_n 0, 1) := by decide +kernel
theorem dX10_far_20 : decode cX10_far 20 = .ok (.iconst 1, 1) := by decide +kernel
theorem dX10_far_21 : decode cX10_far 21 = .ok (.aload_n 0, 1) := by decide +kernel
theorem dX10_far_22 : decode cX10_far 22 = .ok (.getfield 128, 3) := by decide +kernel
theorem dX10_far_25 : decode cX10_far 25 = .ok (.ishl, 1) := by decide +kernel
theorem dX10_far_26 : decode cX10_far 26 = .ok (.iconst 1, 1) := by decide +kernel
theorem dX10_far_27 : decode cX10_far 27 = .ok (.isub, 1) := by decide +kernel
theorem dX10_far_28 : decode cX10_far 28 = .ok (.iload_n 2, 1) := by decide +kernel
theorem dX10_far_29 : decode cX10_far 29 = .ok (.invokevirtual 249, 3) := by decide +kernel
theorem dX10_far_32 : decode cX10_far 32 = .ok (.aload_n 0, 1) := by decide +kernel
theorem dX10_far_33 : decode cX10_far 33 = .ok (.getfield 65, 3) := by decide +kernel
theorem dX10_far_36 : decode cX10_far 36 = .ok (.iload_n 1, 1) := by decide +kernel
theorem dX10_far_37 : decode cX10_far 37 = .ok (.iaload, 1) := by decide +kernel
theorem dX10_far_38 : decode cX10_far 38 = .ok (.ldc 248, 2) := by decide +kernel
theorem dX10_far_40 : decode cX10_far 40 = .ok (.if_icmp .lt 7, 3) := by decide +kernel
theorem dX10_far_43 : decode cX10_far 43 = .ok (.iconst (-1), 1) := by decide +kernel
theorem dX10_far_44 : decode cX10_far 44 = .ok (.goto 12, 3) := by decide +kernel
theorem dX10_far_47 : decode cX10_far 47 = .ok (.aload_n 0, 1) := by decide +kernel
theorem dX10_far_48 : decode cX10_far 48 = .ok (.getfield 65, 3) := by decide +kernel
theorem dX10_far_51 : decode cX10_far 51 = .ok (.iload_n 1, 1) := by decide +kernel
theorem dX10_far_52 : decode cX10_far 52 = .ok (.iaload, 1) := by decide +kernel
theorem dX10_far_53 : decode cX10_far 53 = .ok (.bipush 16, 2) := by decide +kernel
theorem dX10_far_55 : decode cX10_far 55 = .ok (.idiv, 1) := by decide +kernel
theorem dX10_far_56 : decode cX10_far 56 = .ok (.ireturn, 1) := by decide +kernel
theorem dX10_isAsked_0 : decode cX10_isAsked 0 = .ok (.aload_n 0, 1) := by decide +kernel
theorem dX10_isAsked_1 : decode cX10_isAsked 1 = .ok (.iload_n 1, 1) := by decide +kernel
theorem dX10_isAsked_2 : decode cX10_isAsked 2 = .ok (.invokevirtual 243, 3) := by decide +kernel
theorem dX10_isAsked_5 : decode cX10_isAsked 5 = .ok (.ifCond .eq 23, 3) := by decide +kernel
theorem dX10_isAsked_8 : decode cX10_isAsked 8 = .ok (.aload_n 0, 1) := by decide +kernel
theorem dX10_isAsked_9 : decode cX10_isAsked 9 = .ok (.iload_n 2, 1) := by decide +kernel
theorem dX10_isAsked_10 : decode cX10_isAsked 10 = .ok (.invokevirtual 256, 3) := by decide +kernel
theorem dX10_isAsked_13 : decode cX10_isAsked 13 = .ok (.ifCond .eq 15, 3) := by decide +kernel
theorem dX10_isAsked_16 : decode cX10_isAsked 16 = .ok (.aload_n 0, 1) := by decide +kernel
theorem dX10_isAsked_17 : decode cX10_isAsked 17 = .ok (.iload_n 3, 1) := by decide +kernel
theorem dX10_isAsked_18 : decode cX10_isAsked 18 = .ok (.invokevirtual 256, 3) := by decide +kernel
theorem dX10_isAsked_21 : decode cX10_isAsked 21 = .ok (.ifCond .eq 7, 3) := by decide +kernel
theorem dX10_isAsked_24 : decode cX10_isAsked 24 = .ok (.iconst 1, 1) := by decide +kernel
theorem dX10_isAsked_25 : decode cX10_isAsked 25 = .ok (.goto 4, 3) := by decide +kernel
theorem dX10_isAsked_28 : decode cX10_isAsked 28 = .ok (.iconst 0, 1) := by decide +kernel
theorem dX10_isAsked_29 : decode cX10_isAsked 29 = .ok (.ireturn, 1) := by decide +kernel
theorem dX10_route_0 : decode cX10_route 0 = .ok (.aload_n 0, 1) := by decide +kernel
theorem dX10_route_1 : decode cX10_route 1 = .ok (.iload_n 1, 1) := by decide +kernel
theorem dX10_route_2 : decode cX10_route 2 = .ok (.iload_n 2, 1) := by decide +kernel
theorem dX10_route_3 : decode cX10_route 3 = .ok (.iload_n 3, 1) := by decide +kernel
theorem dX10_route_4 : decode cX10_route 4 = .ok (.invokevirtual 259, 3) := by decide +kernel
theorem dX10_route_7 : decode cX10_route 7 = .ok (.ifCond .ne 6, 3) := by decide +kernel
theorem dX10_route_10 : decode cX10_route 10 = .ok (.ldc 242, 2) := by decide +kernel
theorem dX10_route_12 : decode cX10_route 12 = .ok (.ireturn, 1) := by decide +kernel
theorem dX10_route_13 : decode cX10_route 13 = .ok (.aload_n 0, 1) := by decide +kernel
theorem dX10_route_14 : decode cX10_route 14 = .ok (.aload_n 0, 1) := by decide +kernel
theorem dX10_route_15 : decode cX10_route 15 = .ok (.getfield 31, 3) := by decide +kernel
theorem dX10_route_18 : decode cX10_route 18 = .ok (.iload_n 1, 1) := by decide +kernel
theorem dX10_route_19 : decode cX10_route 19 = .ok (.iaload, 1) := by decide +kernel
theorem dX10_route_20 : decode cX10_route 20 = .ok (.iload_n 2, 1) := by decide +kernel
theorem dX10_route_21 : decode cX10_route 21 = .ok (.iload_n 3, 1) := by decide +kernel
theorem dX10_route_22 : decode cX10_route 22 = .ok (.invokevirtual 263, 3) := by decide +kernel
theorem dX10_route_25 : decode cX10_route 25 = .ok (.istore 5, 2) := by decide +kernel
theorem dX10_route_27 : decode cX10_route 27 = .ok (.iload 5, 2) := by decide +kernel
theorem dX10_route_29 : decode cX10_route 29 = .ok (.ifCond .lt 9, 3) := by decide +kernel
theorem dX10_route_32 : decode cX10_route 32 = .ok (.iload 4, 2) := by decide +kernel
theorem dX10_route_34 : decode cX10_route 34 = .ok (.iconst (-1), 1) := by decide +kernel
theorem dX10_route_35 : decode cX10_route 35 = .ok (.if_icmp .ne 6, 3) := by decide +kernel
theorem dX10_route_38 : decode cX10_route 38 = .ok (.iload 5, 2) := by decide +kernel
theorem dX10_route_40 : decode cX10_route 40 = .ok (.ireturn, 1) := by decide +kernel
theorem dX10_route_41 : decode cX10_route 41 = .ok (.iload 4, 2) := by decide +kernel
theorem dX10_route_43 : decode cX10_route 43 = .ok (.bipush (-2), 2) := by decide +kernel
theorem dX10_route_45 : decode cX10_route 45 = .ok (.if_icmp .ne 24, 3) := by decide +kernel
theorem dX10_route_48 : decode cX10_route 48 = .ok (.iload 5, 2) := by decide +kernel
theorem dX10_route_50 : decode cX10_route 50 = .ok (.ifCond .ne 7, 3) := by decide +kernel
theorem dX10_route_53 : decode cX10_route 53 = .ok (.iconst 0, 1) := by decide +kernel
theorem dX10_route_54 : decode cX10_route 54 = .ok (.goto 41, 3) := by decide +kernel
theorem dX10_route_57 : decode cX10_route 57 = .ok (.aload_n 0, 1) := by decide +kernel
theorem dX10_route_58 : decode cX10_route 58 = .ok (.getfield 71, 3) := by decide +kernel
theorem dX10_route_61 : decode cX10_route 61 = .ok (.iload 5, 2) := by decide +kernel
theorem dX10_route_63 : decode cX10_route 63 = .ok (.iconst 1, 1) := by decide +kernel
theorem dX10_route_64 : decode cX10_route 64 = .ok (.isub, 1) := by decide +kernel
theorem dX10_route_65 : decode cX10_route 65 = .ok (.iaload, 1) := by decide +kernel
theorem dX10_route_66 : decode cX10_route 66 = .ok (.goto 29, 3) := by decide +kernel
theorem dX10_route_69 : decode cX10_route 69 = .ok (.iload 4, 2) := by decide +kernel
theorem dX10_route_71 : decode cX10_route 71 = .ok (.i2l, 1) := by decide +kernel
theorem dX10_route_72 : decode cX10_route 72 = .ok (.lconst 0, 1) := by decide +kernel
theorem dX10_route_73 : decode cX10_route 73 = .ok (.iload 5, 2) := by decide +kernel
theorem dX10_route_75 : decode cX10_route 75 = .ok (.iconst 1, 1) := by decide +kernel
theorem dX10_route_76 : decode cX10_route 76 = .ok (.isub, 1) := by decide +kernel
theorem dX10_route_77 : decode cX10_route 77 = .ok (.i2l, 1) := by decide +kernel
theorem dX10_route_78 : decode cX10_route 78 = .ok (.invokestatic 124, 3) := by decide +kernel
theorem dX10_route_81 : decode cX10_route 81 = .ok (.ifCond .eq 13, 3) := by decide +kernel
theorem dX10_route_84 : decode cX10_route 84 = .ok (.aload_n 0, 1) := by decide +kernel
theorem dX10_route_85 : decode cX10_route 85 = .ok (.getfield 68, 3) := by decide +kernel
theorem dX10_route_88 : decode cX10_route 88 = .ok (.iload 4, 2) := by decide +kernel
theorem dX10_route_90 : decode cX10_route 90 = .ok (.iaload, 1) := by decide +kernel
theorem dX10_route_91 : decode cX10_route 91 = .ok (.goto 4, 3) := by decide +kernel
theorem dX10_route_94 : decode cX10_route 94 = .ok (.iconst (-1), 1) := by decide +kernel
theorem dX10_route_95 : decode cX10_route 95 = .ok (.ireturn, 1) := by decide +kernel
theorem dX10_endOf_0 : decode cX10_endOf 0 = .ok (.iload_n 2, 1) := by decide +kernel
theorem dX10_endOf_1 : decode cX10_endOf 1 = .ok (.ifCond .ne 7, 3) := by decide +kernel
theorem dX10_endOf_4 : decode cX10_endOf 4 = .ok (.iload_n 1, 1) := by decide +kernel
theorem dX10_endOf_5 : decode cX10_endOf 5 = .ok (.goto 11, 3) := by decide +kernel
theorem dX10_endOf_8 : decode cX10_endOf 8 = .ok (.aload_n 0, 1) := by decide +kernel
theorem dX10_endOf_9 : decode cX10_endOf 9 = .ok (.getfield 68, 3) := by decide +kernel
theorem dX10_endOf_12 : decode cX10_endOf 12 = .ok (.iload_n 2, 1) := by decide +kernel
theorem dX10_endOf_13 : decode cX10_endOf 13 = .ok (.iconst 1, 1) := by decide +kernel
theorem dX10_endOf_14 : decode cX10_endOf 14 = .ok (.isub, 1) := by decide +kernel
theorem dX10_endOf_15 : decode cX10_endOf 15 = .ok (.iaload, 1) := by decide +kernel
theorem dX10_endOf_16 : decode cX10_endOf 16 = .ok (.ireturn, 1) := by decide +kernel
theorem dX10_longOf_0 : decode cX10_longOf 0 = .ok (.iload_n 1, 1) := by decide +kernel
theorem dX10_longOf_1 : decode cX10_longOf 1 = .ok (.ifCond .ne 7, 3) := by decide +kernel
theorem dX10_longOf_4 : decode cX10_longOf 4 = .ok (.iconst 0, 1) := by decide +kernel
theorem dX10_longOf_5 : decode cX10_longOf 5 = .ok (.goto 11, 3) := by decide +kernel
theorem dX10_longOf_8 : decode cX10_longOf 8 = .ok (.aload_n 0, 1) := by decide +kernel
theorem dX10_longOf_9 : decode cX10_longOf 9 = .ok (.getfield 71, 3) := by decide +kernel
theorem dX10_longOf_12 : decode cX10_longOf 12 = .ok (.iload_n 1, 1) := by decide +kernel
theorem dX10_longOf_13 : decode cX10_longOf 13 = .ok (.iconst 1, 1) := by decide +kernel
theorem dX10_longOf_14 : decode cX10_longOf 14 = .ok (.isub, 1) := by decide +kernel
theorem dX10_longOf_15 : decode cX10_longOf 15 = .ok (.iaload, 1) := by decide +kernel
theorem dX10_longOf_16 : decode cX10_longOf 16 = .ok (.ireturn, 1) := by decide +kernel
theorem dX10_outOf_0 : decode cX10_outOf 0 = .ok (.aload_n 0, 1) := by decide +kernel
theorem dX10_outOf_1 : decode cX10_outOf 1 = .ok (.getfield 235, 3) := by decide +kernel
theorem dX10_outOf_4 : decode cX10_outOf 4 = .ok (.iconst 1, 1) := by decide +kernel
theorem dX10_outOf_5 : decode cX10_outOf 5 = .ok (.if_icmp .ne 15, 3) := by decide +kernel
theorem dX10_outOf_8 : decode cX10_outOf 8 = .ok (.iload_n 1, 1) := by decide +kernel
theorem dX10_outOf_9 : decode cX10_outOf 9 = .ok (.ifCond .le 7, 3) := by decide +kernel
theorem dX10_outOf_12 : decode cX10_outOf 12 = .ok (.iconst 1, 1) := by decide +kernel
theorem dX10_outOf_13 : decode cX10_outOf 13 = .ok (.goto 24, 3) := by decide +kernel
theorem dX10_outOf_16 : decode cX10_outOf 16 = .ok (.iconst 0, 1) := by decide +kernel
theorem dX10_outOf_17 : decode cX10_outOf 17 = .ok (.goto 20, 3) := by decide +kernel
theorem dX10_outOf_20 : decode cX10_outOf 20 = .ok (.aload_n 0, 1) := by decide +kernel
theorem dX10_outOf_21 : decode cX10_outOf 21 = .ok (.getfield 235, 3) := by decide +kernel
theorem dX10_outOf_24 : decode cX10_outOf 24 = .ok (.iconst 3, 1) := by decide +kernel
theorem dX10_outOf_25 : decode cX10_outOf 25 = .ok (.if_icmp .ne 11, 3) := by decide +kernel
theorem dX10_outOf_28 : decode cX10_outOf 28 = .ok (.iload_n 1, 1) := by decide +kernel
theorem dX10_outOf_29 : decode cX10_outOf 29 = .ok (.iconst 1, 1) := by decide +kernel
theorem dX10_outOf_30 : decode cX10_outOf 30 = .ok (.iadd, 1) := by decide +kernel
theorem dX10_outOf_31 : decode cX10_outOf 31 = .ok (.iconst 2, 1) := by decide +kernel
theorem dX10_outOf_32 : decode cX10_outOf 32 = .ok (.idiv, 1) := by decide +kernel
theorem dX10_outOf_33 : decode cX10_outOf 33 = .ok (.goto 4, 3) := by decide +kernel
theorem dX10_outOf_36 : decode cX10_outOf 36 = .ok (.iload_n 1, 1) := by decide +kernel
theorem dX10_outOf_37 : decode cX10_outOf 37 = .ok (.ireturn, 1) := by decide +kernel
theorem dX10_walked_0 : decode cX10_walked 0 = .ok (.aload_n 0, 1) := by decide +kernel
theorem dX10_walked_1 : decode cX10_walked 1 = .ok (.getfield 235, 3) := by decide +kernel
theorem dX10_walked_4 : decode cX10_walked 4 = .ok (.iconst 2, 1) := by decide +kernel
theorem dX10_walked_5 : decode cX10_walked 5 = .ok (.if_icmp .ne 13, 3) := by decide +kernel
theorem dX10_walked_8 : decode cX10_walked 8 = .ok (.iconst 2, 1) := by decide +kernel
theorem dX10_walked_9 : decode cX10_walked 9 = .ok (.aload_n 0, 1) := by decide +kernel
theorem dX10_walked_10 : decode cX10_walked 10 = .ok (.iload_n 1, 1) := by decide +kernel
theorem dX10_walked_11 : decode cX10_walked 11 = .ok (.invokevirtual 267, 3) := by decide +kernel
theorem dX10_walked_14 : decode cX10_walked 14 = .ok (.imul, 1) := by decide +kernel
theorem dX10_walked_15 : decode cX10_walked 15 = .ok (.goto 12, 3) := by decide +kernel
theorem dX10_walked_18 : decode cX10_walked 18 = .ok (.aload_n 0, 1) := by decide +kernel
theorem dX10_walked_19 : decode cX10_walked 19 = .ok (.aload_n 0, 1) := by decide +kernel
theorem dX10_walked_20 : decode cX10_walked 20 = .ok (.iload_n 1, 1) := by decide +kernel
theorem dX10_walked_21 : decode cX10_walked 21 = .ok (.invokevirtual 271, 3) := by decide +kernel
theorem dX10_walked_24 : decode cX10_walked 24 = .ok (.invokevirtual 267, 3) := by decide +kernel
theorem dX10_walked_27 : decode cX10_walked 27 = .ok (.ireturn, 1) := by decide +kernel
theorem dX10_stands_0 : decode cX10_stands 0 = .ok (.aload_n 0, 1) := by decide +kernel
theorem dX10_stands_1 : decode cX10_stands 1 = .ok (.getfield 235, 3) := by decide +kernel
theorem dX10_stands_4 : decode cX10_stands 4 = .ok (.iconst 2, 1) := by decide +kernel
theorem dX10_stands_5 : decode cX10_stands 5 = .ok (.if_icmp .ne 7, 3) := by decide +kernel
theorem dX10_stands_8 : decode cX10_stands 8 = .ok (.iload_n 1, 1) := by decide +kernel
theorem dX10_stands_9 : decode cX10_stands 9 = .ok (.goto 13, 3) := by decide +kernel
theorem dX10_stands_12 : decode cX10_stands 12 = .ok (.aload_n 0, 1) := by decide +kernel
theorem dX10_stands_13 : decode cX10_stands 13 = .ok (.iload_n 1, 1) := by decide +kernel
theorem dX10_stands_14 : decode cX10_stands 14 = .ok (.aload_n 0, 1) := by decide +kernel
theorem dX10_stands_15 : decode cX10_stands 15 = .ok (.iload_n 2, 1) := by decide +kernel
theorem dX10_stands_16 : decode cX10_stands 16 = .ok (.invokevirtual 271, 3) := by decide +kernel
theorem dX10_stands_19 : decode cX10_stands 19 = .ok (.invokevirtual 274, 3) := by decide +kernel
theorem dX10_stands_22 : decode cX10_stands 22 = .ok (.ireturn, 1) := by decide +kernel
theorem dX10_saidBy_0 : decode cX10_saidBy 0 = .ok (.aload_n 0, 1) := by decide +kernel
theorem dX10_saidBy_1 : decode cX10_saidBy 1 = .ok (.aload_n 0, 1) := by decide +kernel
theorem dX10_saidBy_2 : decode cX10_saidBy 2 = .ok (.getfield 31, 3) := by decide +kernel
theorem dX10_saidBy_5 : decode cX10_saidBy 5 = .ok (.iload_n 1, 1) := by decide +kernel
theorem dX10_saidBy_6 : decode cX10_saidBy 6 = .ok (.iaload, 1) := by decide +kernel
theorem dX10_saidBy_7 : decode cX10_saidBy 7 = .ok (.iload_n 2, 1) := by decide +kernel
theorem dX10_saidBy_8 : decode cX10_saidBy 8 = .ok (.iload_n 3, 1) := by decide +kernel
theorem dX10_saidBy_9 : decode cX10_saidBy 9 = .ok (.invokevirtual 263, 3) := by decide +kernel
theorem dX10_saidBy_12 : decode cX10_saidBy 12 = .ok (.istore 4, 2) := by decide +kernel
theorem dX10_saidBy_14 : decode cX10_saidBy 14 = .ok (.iload 4, 2) := by decide +kernel
theorem dX10_saidBy_16 : decode cX10_saidBy 16 = .ok (.iconst 1, 1) := by decide +kernel
theorem dX10_saidBy_17 : decode cX10_saidBy 17 = .ok (.if_icmp .lt 12, 3) := by decide +kernel
theorem dX10_saidBy_20 : decode cX10_saidBy 20 = .ok (.aload_n 0, 1) := by decide +kernel
theorem dX10_saidBy_21 : decode cX10_saidBy 21 = .ok (.getfield 28, 3) := by decide +kernel
theorem dX10_saidBy_24 : decode cX10_saidBy 24 = .ok (.iload_n 1, 1) := by decide +kernel
theorem dX10_saidBy_25 : decode cX10_saidBy 25 = .ok (.iaload, 1) := by decide +kernel
theorem dX10_saidBy_26 : decode cX10_saidBy 26 = .ok (.ifCond .ne 5, 3) := by decide +kernel
theorem dX10_saidBy_29 : decode cX10_saidBy 29 = .ok (.iconst 0, 1) := by decide +kernel
end
section
theorem dX10_saidBy_30 : decode cX10_saidBy 30 = .ok (.ireturn, 1) := by decide +kernel
theorem dX10_saidBy_31 : decode cX10_saidBy 31 = .ok (.aload_n 0, 1) := by decide +kernel
theorem dX10_saidBy_32 : decode cX10_saidBy 32 = .ok (.getfield 28, 3) := by decide +kernel
theorem dX10_saidBy_35 : decode cX10_saidBy 35 = .ok (.iload_n 1, 1) := by decide +kernel
theorem dX10_saidBy_36 : decode cX10_saidBy 36 = .ok (.iaload, 1) := by decide +kernel
theorem dX10_saidBy_37 : decode cX10_saidBy 37 = .ok (.iconst 2, 1) := by decide +kernel
theorem dX10_saidBy_38 : decode cX10_saidBy 38 = .ok (.if_icmp .eq 20, 3) := by decide +kernel
theorem dX10_saidBy_41 : decode cX10_saidBy 41 = .ok (.aload_n 0, 1) := by decide +kernel
theorem dX10_saidBy_42 : decode cX10_saidBy 42 = .ok (.getfield 28, 3) := by decide +kernel
theorem dX10_saidBy_45 : decode cX10_saidBy 45 = .ok (.iload_n 1, 1) := by decide +kernel
theorem dX10_saidBy_46 : decode cX10_saidBy 46 = .ok (.iaload, 1) := by decide +kernel
theorem dX10_saidBy_47 : decode cX10_saidBy 47 = .ok (.iconst 1, 1) := by decide +kernel
theorem dX10_saidBy_48 : decode cX10_saidBy 48 = .ok (.if_icmp .ne 7, 3) := by decide +kernel
theorem dX10_saidBy_51 : decode cX10_saidBy 51 = .ok (.iconst 1, 1) := by decide +kernel
theorem dX10_saidBy_52 : decode cX10_saidBy 52 = .ok (.goto 5, 3) := by decide +kernel
theorem dX10_saidBy_55 : decode cX10_saidBy 55 = .ok (.iload 4, 2) := by decide +kernel
theorem dX10_saidBy_57 : decode cX10_saidBy 57 = .ok (.ireturn, 1) := by decide +kernel
theorem dX10_saidBy_58 : decode cX10_saidBy 58 = .ok (.iconst 0, 1) := by decide +kernel
theorem dX10_saidBy_59 : decode cX10_saidBy 59 = .ok (.istore 5, 2) := by decide +kernel
theorem dX10_saidBy_61 : decode cX10_saidBy 61 = .ok (.iload 4, 2) := by decide +kernel
theorem dX10_saidBy_63 : decode cX10_saidBy 63 = .ok (.istore 6, 2) := by decide +kernel
theorem dX10_saidBy_65 : decode cX10_saidBy 65 = .ok (.iload 6, 2) := by decide +kernel
theorem dX10_saidBy_67 : decode cX10_saidBy 67 = .ok (.ifCond .le 36, 3) := by decide +kernel
theorem dX10_saidBy_70 : decode cX10_saidBy 70 = .ok (.aload_n 0, 1) := by decide +kernel
theorem dX10_saidBy_71 : decode cX10_saidBy 71 = .ok (.getfield 68, 3) := by decide +kernel
theorem dX10_saidBy_74 : decode cX10_saidBy 74 = .ok (.iload 6, 2) := by decide +kernel
theorem dX10_saidBy_76 : decode cX10_saidBy 76 = .ok (.iconst 1, 1) := by decide +kernel
theorem dX10_saidBy_77 : decode cX10_saidBy 77 = .ok (.isub, 1) := by decide +kernel
theorem dX10_saidBy_78 : decode cX10_saidBy 78 = .ok (.iaload, 1) := by decide +kernel
theorem dX10_saidBy_79 : decode cX10_saidBy 79 = .ok (.aload_n 0, 1) := by decide +kernel
theorem dX10_saidBy_80 : decode cX10_saidBy 80 = .ok (.getfield 22, 3) := by decide +kernel
theorem dX10_saidBy_83 : decode cX10_saidBy 83 = .ok (.iload_n 1, 1) := by decide +kernel
theorem dX10_saidBy_84 : decode cX10_saidBy 84 = .ok (.iaload, 1) := by decide +kernel
theorem dX10_saidBy_85 : decode cX10_saidBy 85 = .ok (.if_icmp .ne 8, 3) := by decide +kernel
theorem dX10_saidBy_88 : decode cX10_saidBy 88 = .ok (.iload 6, 2) := by decide +kernel
theorem dX10_saidBy_90 : decode cX10_saidBy 90 = .ok (.goto 5, 3) := by decide +kernel
theorem dX10_saidBy_93 : decode cX10_saidBy 93 = .ok (.iload 5, 2) := by decide +kernel
theorem dX10_saidBy_95 : decode cX10_saidBy 95 = .ok (.istore 5, 2) := by decide +kernel
theorem dX10_saidBy_97 : decode cX10_saidBy 97 = .ok (.iinc 6 (-1), 3) := by decide +kernel
theorem dX10_saidBy_100 : decode cX10_saidBy 100 = .ok (.goto (-35), 3) := by decide +kernel
theorem dX10_saidBy_103 : decode cX10_saidBy 103 = .ok (.iload_n 2, 1) := by decide +kernel
theorem dX10_saidBy_104 : decode cX10_saidBy 104 = .ok (.aload_n 0, 1) := by decide +kernel
theorem dX10_saidBy_105 : decode cX10_saidBy 105 = .ok (.getfield 22, 3) := by decide +kernel
theorem dX10_saidBy_108 : decode cX10_saidBy 108 = .ok (.iload_n 1, 1) := by decide +kernel
theorem dX10_saidBy_109 : decode cX10_saidBy 109 = .ok (.iaload, 1) := by decide +kernel
theorem dX10_saidBy_110 : decode cX10_saidBy 110 = .ok (.if_icmp .ne 7, 3) := by decide +kernel
theorem dX10_saidBy_113 : decode cX10_saidBy 113 = .ok (.iconst 0, 1) := by decide +kernel
theorem dX10_saidBy_114 : decode cX10_saidBy 114 = .ok (.goto 5, 3) := by decide +kernel
theorem dX10_saidBy_117 : decode cX10_saidBy 117 = .ok (.iload 5, 2) := by decide +kernel
theorem dX10_saidBy_119 : decode cX10_saidBy 119 = .ok (.ireturn, 1) := by decide +kernel
theorem dX10_says_0 : decode cX10_says 0 = .ok (.aload_n 0, 1) := by decide +kernel
theorem dX10_says_1 : decode cX10_says 1 = .ok (.iload_n 1, 1) := by decide +kernel
theorem dX10_says_2 : decode cX10_says 2 = .ok (.iload_n 2, 1) := by decide +kernel
theorem dX10_says_3 : decode cX10_says 3 = .ok (.iload_n 3, 1) := by decide +kernel
theorem dX10_says_4 : decode cX10_says 4 = .ok (.invokevirtual 259, 3) := by decide +kernel
theorem dX10_says_7 : decode cX10_says 7 = .ok (.ifCond .ne 6, 3) := by decide +kernel
theorem dX10_says_10 : decode cX10_says 10 = .ok (.ldc 242, 2) := by decide +kernel
theorem dX10_says_12 : decode cX10_says 12 = .ok (.ireturn, 1) := by decide +kernel
theorem dX10_says_13 : decode cX10_says 13 = .ok (.aload_n 0, 1) := by decide +kernel
theorem dX10_says_14 : decode cX10_says 14 = .ok (.iload_n 1, 1) := by decide +kernel
theorem dX10_says_15 : decode cX10_says 15 = .ok (.iload_n 2, 1) := by decide +kernel
theorem dX10_says_16 : decode cX10_says 16 = .ok (.iload_n 3, 1) := by decide +kernel
theorem dX10_says_17 : decode cX10_says 17 = .ok (.invokevirtual 277, 3) := by decide +kernel
theorem dX10_says_20 : decode cX10_says 20 = .ok (.istore 5, 2) := by decide +kernel
theorem dX10_says_22 : decode cX10_says 22 = .ok (.iload 4, 2) := by decide +kernel
theorem dX10_says_24 : decode cX10_says 24 = .ok (.tableswitch 69 0 4 #[36, 39, 47, 54, 62], 36) := by decide +kernel
theorem dX10_says_60 : decode cX10_says 60 = .ok (.iload 5, 2) := by decide +kernel
theorem dX10_says_62 : decode cX10_says 62 = .ok (.ireturn, 1) := by decide +kernel
theorem dX10_says_63 : decode cX10_says 63 = .ok (.aload_n 0, 1) := by decide +kernel
theorem dX10_says_64 : decode cX10_says 64 = .ok (.iload_n 2, 1) := by decide +kernel
theorem dX10_says_65 : decode cX10_says 65 = .ok (.iload 5, 2) := by decide +kernel
theorem dX10_says_67 : decode cX10_says 67 = .ok (.invokevirtual 274, 3) := by decide +kernel
theorem dX10_says_70 : decode cX10_says 70 = .ok (.ireturn, 1) := by decide +kernel
theorem dX10_says_71 : decode cX10_says 71 = .ok (.aload_n 0, 1) := by decide +kernel
theorem dX10_says_72 : decode cX10_says 72 = .ok (.iload 5, 2) := by decide +kernel
theorem dX10_says_74 : decode cX10_says 74 = .ok (.invokevirtual 267, 3) := by decide +kernel
theorem dX10_says_77 : decode cX10_says 77 = .ok (.ireturn, 1) := by decide +kernel
theorem dX10_says_78 : decode cX10_says 78 = .ok (.aload_n 0, 1) := by decide +kernel
theorem dX10_says_79 : decode cX10_says 79 = .ok (.iload_n 2, 1) := by decide +kernel
theorem dX10_says_80 : decode cX10_says 80 = .ok (.iload 5, 2) := by decide +kernel
theorem dX10_says_82 : decode cX10_says 82 = .ok (.invokevirtual 280, 3) := by decide +kernel
theorem dX10_says_85 : decode cX10_says 85 = .ok (.ireturn, 1) := by decide +kernel
theorem dX10_says_86 : decode cX10_says 86 = .ok (.aload_n 0, 1) := by decide +kernel
theorem dX10_says_87 : decode cX10_says 87 = .ok (.iload 5, 2) := by decide +kernel
theorem dX10_says_89 : decode cX10_says 89 = .ok (.invokevirtual 283, 3) := by decide +kernel
theorem dX10_says_92 : decode cX10_says 92 = .ok (.ireturn, 1) := by decide +kernel
theorem dX10_says_93 : decode cX10_says 93 = .ok (.ldc 136, 2) := by decide +kernel
theorem dX10_says_95 : decode cX10_says 95 = .ok (.ireturn, 1) := by decide +kernel
theorem dX10_gainOf_0 : decode cX10_gainOf 0 = .ok (.iconst 0, 1) := by decide +kernel
theorem dX10_gainOf_1 : decode cX10_gainOf 1 = .ok (.istore 4, 2) := by decide +kernel
theorem dX10_gainOf_3 : decode cX10_gainOf 3 = .ok (.iconst 1, 1) := by decide +kernel
theorem dX10_gainOf_4 : decode cX10_gainOf 4 = .ok (.istore 5, 2) := by decide +kernel
theorem dX10_gainOf_6 : decode cX10_gainOf 6 = .ok (.iload 5, 2) := by decide +kernel
theorem dX10_gainOf_8 : decode cX10_gainOf 8 = .ok (.aload_n 0, 1) := by decide +kernel
theorem dX10_gainOf_9 : decode cX10_gainOf 9 = .ok (.iload_n 3, 1) := by decide +kernel
theorem dX10_gainOf_10 : decode cX10_gainOf 10 = .ok (.invokevirtual 271, 3) := by decide +kernel
theorem dX10_gainOf_13 : decode cX10_gainOf 13 = .ok (.if_icmp .gt 37, 3) := by decide +kernel
theorem dX10_gainOf_16 : decode cX10_gainOf 16 = .ok (.iload 4, 2) := by decide +kernel
theorem dX10_gainOf_18 : decode cX10_gainOf 18 = .ok (.ifCond .ne 19, 3) := by decide +kernel
theorem dX10_gainOf_21 : decode cX10_gainOf 21 = .ok (.aload_n 0, 1) := by decide +kernel
theorem dX10_gainOf_22 : decode cX10_gainOf 22 = .ok (.iload_n 2, 1) := by decide +kernel
theorem dX10_gainOf_23 : decode cX10_gainOf 23 = .ok (.iload 5, 2) := by decide +kernel
theorem dX10_gainOf_25 : decode cX10_gainOf 25 = .ok (.invokevirtual 274, 3) := by decide +kernel
theorem dX10_gainOf_28 : decode cX10_gainOf 28 = .ok (.aload_n 0, 1) := by decide +kernel
theorem dX10_gainOf_29 : decode cX10_gainOf 29 = .ok (.getfield 22, 3) := by decide +kernel
theorem dX10_gainOf_32 : decode cX10_gainOf 32 = .ok (.iload_n 1, 1) := by decide +kernel
theorem dX10_gainOf_33 : decode cX10_gainOf 33 = .ok (.iaload, 1) := by decide +kernel
theorem dX10_gainOf_34 : decode cX10_gainOf 34 = .ok (.if_icmp .ne 7, 3) := by decide +kernel
theorem dX10_gainOf_37 : decode cX10_gainOf 37 = .ok (.iconst 1, 1) := by decide +kernel
theorem dX10_gainOf_38 : decode cX10_gainOf 38 = .ok (.goto 4, 3) := by decide +kernel
theorem dX10_gainOf_41 : decode cX10_gainOf 41 = .ok (.iconst 0, 1) := by decide +kernel
theorem dX10_gainOf_42 : decode cX10_gainOf 42 = .ok (.istore 4, 2) := by decide +kernel
theorem dX10_gainOf_44 : decode cX10_gainOf 44 = .ok (.iinc 5 1, 3) := by decide +kernel
theorem dX10_gainOf_47 : decode cX10_gainOf 47 = .ok (.goto (-41), 3) := by decide +kernel
theorem dX10_gainOf_50 : decode cX10_gainOf 50 = .ok (.iload 4, 2) := by decide +kernel
theorem dX10_gainOf_52 : decode cX10_gainOf 52 = .ok (.ifCond .eq 22, 3) := by decide +kernel
theorem dX10_gainOf_55 : decode cX10_gainOf 55 = .ok (.iload_n 2, 1) := by decide +kernel
theorem dX10_gainOf_56 : decode cX10_gainOf 56 = .ok (.aload_n 0, 1) := by decide +kernel
theorem dX10_gainOf_57 : decode cX10_gainOf 57 = .ok (.getfield 22, 3) := by decide +kernel
theorem dX10_gainOf_60 : decode cX10_gainOf 60 = .ok (.iload_n 1, 1) := by decide +kernel
theorem dX10_gainOf_61 : decode cX10_gainOf 61 = .ok (.iaload, 1) := by decide +kernel
theorem dX10_gainOf_62 : decode cX10_gainOf 62 = .ok (.if_icmp .eq 12, 3) := by decide +kernel
theorem dX10_gainOf_65 : decode cX10_gainOf 65 = .ok (.aload_n 0, 1) := by decide +kernel
theorem dX10_gainOf_66 : decode cX10_gainOf 66 = .ok (.getfield 25, 3) := by decide +kernel
theorem dX10_gainOf_69 : decode cX10_gainOf 69 = .ok (.iload_n 1, 1) := by decide +kernel
theorem dX10_gainOf_70 : decode cX10_gainOf 70 = .ok (.iaload, 1) := by decide +kernel
theorem dX10_gainOf_71 : decode cX10_gainOf 71 = .ok (.goto 4, 3) := by decide +kernel
theorem dX10_gainOf_74 : decode cX10_gainOf 74 = .ok (.iconst 0, 1) := by decide +kernel
theorem dX10_gainOf_75 : decode cX10_gainOf 75 = .ok (.aload_n 0, 1) := by decide +kernel
theorem dX10_gainOf_76 : decode cX10_gainOf 76 = .ok (.iload_n 3, 1) := by decide +kernel
theorem dX10_gainOf_77 : decode cX10_gainOf 77 = .ok (.invokevirtual 283, 3) := by decide +kernel
theorem dX10_gainOf_80 : decode cX10_gainOf 80 = .ok (.isub, 1) := by decide +kernel
theorem dX10_gainOf_81 : decode cX10_gainOf 81 = .ok (.ireturn, 1) := by decide +kernel
theorem dX10_ownBy_0 : decode cX10_ownBy 0 = .ok (.aload_n 0, 1) := by decide +kernel
theorem dX10_ownBy_1 : decode cX10_ownBy 1 = .ok (.aload_n 0, 1) := by decide +kernel
theorem dX10_ownBy_2 : decode cX10_ownBy 2 = .ok (.getfield 31, 3) := by decide +kernel
theorem dX10_ownBy_5 : decode cX10_ownBy 5 = .ok (.iload_n 1, 1) := by decide +kernel
theorem dX10_ownBy_6 : decode cX10_ownBy 6 = .ok (.iaload, 1) := by decide +kernel
theorem dX10_ownBy_7 : decode cX10_ownBy 7 = .ok (.iload_n 2, 1) := by decide +kernel
theorem dX10_ownBy_8 : decode cX10_ownBy 8 = .ok (.iload_n 3, 1) := by decide +kernel
theorem dX10_ownBy_9 : decode cX10_ownBy 9 = .ok (.invokevirtual 263, 3) := by decide +kernel
theorem dX10_ownBy_12 : decode cX10_ownBy 12 = .ok (.istore 4, 2) := by decide +kernel
theorem dX10_ownBy_14 : decode cX10_ownBy 14 = .ok (.iconst 0, 1) := by decide +kernel
theorem dX10_ownBy_15 : decode cX10_ownBy 15 = .ok (.istore 5, 2) := by decide +kernel
theorem dX10_ownBy_17 : decode cX10_ownBy 17 = .ok (.aload_n 0, 1) := by decide +kernel
theorem dX10_ownBy_18 : decode cX10_ownBy 18 = .ok (.iconst 0, 1) := by decide +kernel
theorem dX10_ownBy_19 : decode cX10_ownBy 19 = .ok (.putfield 286, 3) := by decide +kernel
theorem dX10_ownBy_22 : decode cX10_ownBy 22 = .ok (.iconst 1, 1) := by decide +kernel
theorem dX10_ownBy_23 : decode cX10_ownBy 23 = .ok (.istore 6, 2) := by decide +kernel
theorem dX10_ownBy_25 : decode cX10_ownBy 25 = .ok (.iload 6, 2) := by decide +kernel
theorem dX10_ownBy_27 : decode cX10_ownBy 27 = .ok (.iload 4, 2) := by decide +kernel
theorem dX10_ownBy_29 : decode cX10_ownBy 29 = .ok (.if_icmp .gt 59, 3) := by decide +kernel
theorem dX10_ownBy_32 : decode cX10_ownBy 32 = .ok (.aload_n 0, 1) := by decide +kernel
theorem dX10_ownBy_33 : decode cX10_ownBy 33 = .ok (.iload_n 1, 1) := by decide +kernel
theorem dX10_ownBy_34 : decode cX10_ownBy 34 = .ok (.iload_n 2, 1) := by decide +kernel
theorem dX10_ownBy_35 : decode cX10_ownBy 35 = .ok (.iload 6, 2) := by decide +kernel
theorem dX10_ownBy_37 : decode cX10_ownBy 37 = .ok (.invokevirtual 289, 3) := by decide +kernel
theorem dX10_ownBy_40 : decode cX10_ownBy 40 = .ok (.istore 7, 2) := by decide +kernel
theorem dX10_ownBy_42 : decode cX10_ownBy 42 = .ok (.iload 7, 2) := by decide +kernel
theorem dX10_ownBy_44 : decode cX10_ownBy 44 = .ok (.aload_n 0, 1) := by decide +kernel
theorem dX10_ownBy_45 : decode cX10_ownBy 45 = .ok (.getfield 286, 3) := by decide +kernel
theorem dX10_ownBy_48 : decode cX10_ownBy 48 = .ok (.if_icmp .le 8, 3) := by decide +kernel
theorem dX10_ownBy_51 : decode cX10_ownBy 51 = .ok (.iload 6, 2) := by decide +kernel
theorem dX10_ownBy_53 : decode cX10_ownBy 53 = .ok (.goto 5, 3) := by decide +kernel
theorem dX10_ownBy_56 : decode cX10_ownBy 56 = .ok (.iload 5, 2) := by decide +kernel
theorem dX10_ownBy_58 : decode cX10_ownBy 58 = .ok (.istore 5, 2) := by decide +kernel
theorem dX10_ownBy_60 : decode cX10_ownBy 60 = .ok (.aload_n 0, 1) := by decide +kernel
theorem dX10_ownBy_61 : decode cX10_ownBy 61 = .ok (.iload 7, 2) := by decide +kernel
theorem dX10_ownBy_63 : decode cX10_ownBy 63 = .ok (.aload_n 0, 1) := by decide +kernel
theorem dX10_ownBy_64 : decode cX10_ownBy 64 = .ok (.getfield 286, 3) := by decide +kernel
theorem dX10_ownBy_67 : decode cX10_ownBy 67 = .ok (.if_icmp .le 8, 3) := by decide +kernel
theorem dX10_ownBy_70 : decode cX10_ownBy 70 = .ok (.iload 7, 2) := by decide +kernel
theorem dX10_ownBy_72 : decode cX10_ownBy 72 = .ok (.goto 7, 3) := by decide +kernel
theorem dX10_ownBy_75 : decode cX10_ownBy 75 = .ok (.aload_n 0, 1) := by decide +kernel
theorem dX10_ownBy_76 : decode cX10_ownBy 76 = .ok (.getfield 286, 3) := by decide +kernel
theorem dX10_ownBy_79 : decode cX10_ownBy 79 = .ok (.putfield 286, 3) := by decide +kernel
theorem dX10_ownBy_82 : decode cX10_ownBy 82 = .ok (.iinc 6 1, 3) := by decide +kernel
theorem dX10_ownBy_85 : decode cX10_ownBy 85 = .ok (.goto (-60), 3) := by decide +kernel
theorem dX10_ownBy_88 : decode cX10_ownBy 88 = .ok (.iload 5, 2) := by decide +kernel
theorem dX10_ownBy_90 : decode cX10_ownBy 90 = .ok (.ireturn, 1) := by decide +kernel
theorem dX10_own_0 : decode cX10_own 0 = .ok (.aload_n 0, 1) := by decide +kernel
theorem dX10_own_1 : decode cX10_own 1 = .ok (.iload_n 1, 1) := by decide +kernel
theorem dX10_own_2 : decode cX10_own 2 = .ok (.iload_n 2, 1) := by decide +kernel
theorem dX10_own_3 : decode cX10_own 3 = .ok (.iload_n 3, 1) := by decide +kernel
theorem dX10_own_4 : decode cX10_own 4 = .ok (.invokevirtual 259, 3) := by decide +kernel
theorem dX10_own_7 : decode cX10_own 7 = .ok (.ifCond .ne 6, 3) := by decide +kernel
theorem dX10_own_10 : decode cX10_own 10 = .ok (.ldc 242, 2) := by decide +kernel
theorem dX10_own_12 : decode cX10_own 12 = .ok (.ireturn, 1) := by decide +kernel
theorem dX10_own_13 : decode cX10_own 13 = .ok (.aload_n 0, 1) := by decide +kernel
theorem dX10_own_14 : decode cX10_own 14 = .ok (.iload_n 1, 1) := by decide +kernel
theorem dX10_own_15 : decode cX10_own 15 = .ok (.iload_n 2, 1) := by decide +kernel
theorem dX10_own_16 : decode cX10_own 16 = .ok (.iload_n 3, 1) := by decide +kernel
theorem dX10_own_17 : decode cX10_own 17 = .ok (.invokevirtual 292, 3) := by decide +kernel
theorem dX10_own_20 : decode cX10_own 20 = .ok (.istore 5, 2) := by decide +kernel
theorem dX10_own_22 : decode cX10_own 22 = .ok (.iload 4, 2) := by decide +kernel
theorem dX10_own_24 : decode cX10_own 24 = .ok (.ifCond .ne 8, 3) := by decide +kernel
theorem dX10_own_27 : decode cX10_own 27 = .ok (.iload 5, 2) := by decide +kernel
theorem dX10_own_29 : decode cX10_own 29 = .ok (.goto 18, 3) := by decide +kernel
theorem dX10_own_32 : decode cX10_own 32 = .ok (.iload 4, 2) := by decide +kernel
theorem dX10_own_34 : decode cX10_own 34 = .ok (.iconst 1, 1) := by decide +kernel
theorem dX10_own_35 : decode cX10_own 35 = .ok (.if_icmp .ne 10, 3) := by decide +kernel
theorem dX10_own_38 : decode cX10_own 38 = .ok (.aload_n 0, 1) := by decide +kernel
theorem dX10_own_39 : decode cX10_own 39 = .ok (.getfield 286, 3) := by decide +kernel
theorem dX10_own_42 : decode cX10_own 42 = .ok (.goto 5, 3) := by decide +kernel
theorem dX10_own_45 : decode cX10_own 45 = .ok (.ldc 136, 2) := by decide +kernel
theorem dX10_own_47 : decode cX10_own 47 = .ok (.ireturn, 1) := by decide +kernel
theorem dX10_findEnds_0 : decode cX10_findEnds 0 = .ok (.iconst 0, 1) := by decide +kernel
theorem dX10_findEnds_1 : decode cX10_findEnds 1 = .ok (.istore_n 3, 1) := by decide +kernel
theorem dX10_findEnds_2 : decode cX10_findEnds 2 = .ok (.iload_n 3, 1) := by decide +kernel
theorem dX10_findEnds_3 : decode cX10_findEnds 3 = .ok (.aload_n 0, 1) := by decide +kernel
theorem dX10_findEnds_4 : decode cX10_findEnds 4 = .ok (.getfield 131, 3) := by decide +kernel
theorem dX10_findEnds_7 : decode cX10_findEnds 7 = .ok (.if_icmp .ge 81, 3) := by decide +kernel
theorem dX10_findEnds_10 : decode cX10_findEnds 10 = .ok (.iload_n 2, 1) := by decide +kernel
theorem dX10_findEnds_11 : decode cX10_findEnds 11 = .ok (.ifCond .eq 18, 3) := by decide +kernel
theorem dX10_findEnds_14 : decode cX10_findEnds 14 = .ok (.aload_n 0, 1) := by decide +kernel
theorem dX10_findEnds_15 : decode cX10_findEnds 15 = .ok (.iload_n 3, 1) := by decide +kernel
theorem dX10_findEnds_16 : decode cX10_findEnds 16 = .ok (.aload_n 0, 1) := by decide +kernel
theorem dX10_findEnds_17 : decode cX10_findEnds 17 = .ok (.getfield 19, 3) := by decide +kernel
theorem dX10_findEnds_20 : decode cX10_findEnds 20 = .ok (.iload_n 3, 1) := by decide +kernel
theorem dX10_findEnds_21 : decode cX10_findEnds 21 = .ok (.iaload, 1) := by decide +kernel
theorem dX10_findEnds_22 : decode cX10_findEnds 22 = .ok (.iload_n 1, 1) := by decide +kernel
theorem dX10_findEnds_23 : decode cX10_findEnds 23 = .ok (.invokevirtual 292, 3) := by decide +kernel
theorem dX10_findEnds_26 : decode cX10_findEnds 26 = .ok (.goto 15, 3) := by decide +kernel
theorem dX10_findEnds_29 : decode cX10_findEnds 29 = .ok (.aload_n 0, 1) := by decide +kernel
theorem dX10_findEnds_30 : decode cX10_findEnds 30 = .ok (.iload_n 3, 1) := by decide +kernel
theorem dX10_findEnds_31 : decode cX10_findEnds 31 = .ok (.aload_n 0, 1) := by decide +kernel
theorem dX10_findEnds_32 : decode cX10_findEnds 32 = .ok (.getfield 19, 3) := by decide +kernel
theorem dX10_findEnds_35 : decode cX10_findEnds 35 = .ok (.iload_n 3, 1) := by decide +kernel
theorem dX10_findEnds_36 : decode cX10_findEnds 36 = .ok (.iaload, 1) := by decide +kernel
theorem dX10_findEnds_37 : decode cX10_findEnds 37 = .ok (.iload_n 1, 1) := by decide +kernel
theorem dX10_findEnds_38 : decode cX10_findEnds 38 = .ok (.invokevirtual 277, 3) := by decide +kernel
theorem dX10_findEnds_41 : decode cX10_findEnds 41 = .ok (.istore 4, 2) := by decide +kernel
theorem dX10_findEnds_43 : decode cX10_findEnds 43 = .ok (.aload_n 0, 1) := by decide +kernel
theorem dX10_findEnds_44 : decode cX10_findEnds 44 = .ok (.getfield 74, 3) := by decide +kernel
theorem dX10_findEnds_47 : decode cX10_findEnds 47 = .ok (.iload_n 3, 1) := by decide +kernel
theorem dX10_findEnds_48 : decode cX10_findEnds 48 = .ok (.iload 4, 2) := by decide +kernel
theorem dX10_findEnds_50 : decode cX10_findEnds 50 = .ok (.ifCond .ne 7, 3) := by decide +kernel
theorem dX10_findEnds_53 : decode cX10_findEnds 53 = .ok (.iconst (-1), 1) := by decide +kernel
theorem dX10_findEnds_54 : decode cX10_findEnds 54 = .ok (.goto 15, 3) := by decide +kernel
theorem dX10_findEnds_57 : decode cX10_findEnds 57 = .ok (.aload_n 0, 1) := by decide +kernel
theorem dX10_findEnds_58 : decode cX10_findEnds 58 = .ok (.aload_n 0, 1) := by decide +kernel
theorem dX10_findEnds_59 : decode cX10_findEnds 59 = .ok (.getfield 19, 3) := by decide +kernel
theorem dX10_findEnds_62 : decode cX10_findEnds 62 = .ok (.iload_n 3, 1) := by decide +kernel
theorem dX10_findEnds_63 : decode cX10_findEnds 63 = .ok (.iaload, 1) := by decide +kernel
theorem dX10_findEnds_64 : decode cX10_findEnds 64 = .ok (.iload 4, 2) := by decide +kernel
theorem dX10_findEnds_66 : decode cX10_findEnds 66 = .ok (.invokevirtual 274, 3) := by decide +kernel
theorem dX10_findEnds_69 : decode cX10_findEnds 69 = .ok (.iastore, 1) := by decide +kernel
theorem dX10_findEnds_70 : decode cX10_findEnds 70 = .ok (.aload_n 0, 1) := by decide +kernel
theorem dX10_findEnds_71 : decode cX10_findEnds 71 = .ok (.getfield 77, 3) := by decide +kernel
theorem dX10_findEnds_74 : decode cX10_findEnds 74 = .ok (.iload_n 3, 1) := by decide +kernel
theorem dX10_findEnds_75 : decode cX10_findEnds 75 = .ok (.aload_n 0, 1) := by decide +kernel
theorem dX10_findEnds_76 : decode cX10_findEnds 76 = .ok (.iload 4, 2) := by decide +kernel
theorem dX10_findEnds_78 : decode cX10_findEnds 78 = .ok (.invokevirtual 267, 3) := by decide +kernel
theorem dX10_findEnds_81 : decode cX10_findEnds 81 = .ok (.iastore, 1) := by decide +kernel
theorem dX10_findEnds_82 : decode cX10_findEnds 82 = .ok (.iinc 3 1, 3) := by decide +kernel
theorem dX10_findEnds_85 : decode cX10_findEnds 85 = .ok (.goto (-83), 3) := by decide +kernel
theorem dX10_findEnds_88 : decode cX10_findEnds 88 = .ok (.return_, 1) := by decide +kernel
theorem dX10_leads_0 : decode cX10_leads 0 = .ok (.iload_n 2, 1) := by decide +kernel
theorem dX10_leads_1 : decode cX10_leads 1 = .ok (.iload_n 1, 1) := by decide +kernel
theorem dX10_leads_2 : decode cX10_leads 2 = .ok (.invokestatic 210, 3) := by decide +kernel
theorem dX10_leads_5 : decode cX10_leads 5 = .ok (.ifCond .ne 26, 3) := by decide +kernel
theorem dX10_leads_8 : decode cX10_leads 8 = .ok (.aload_n 0, 1) := by decide +kernel
theorem dX10_leads_9 : decode cX10_leads 9 = .ok (.getfield 19, 3) := by decide +kernel
theorem dX10_leads_12 : decode cX10_leads 12 = .ok (.iload_n 1, 1) := by decide +kernel
theorem dX10_leads_13 : decode cX10_leads 13 = .ok (.iaload, 1) := by decide +kernel
theorem dX10_leads_14 : decode cX10_leads 14 = .ok (.iload_n 3, 1) := by decide +kernel
theorem dX10_leads_15 : decode cX10_leads 15 = .ok (.if_icmp .ne 16, 3) := by decide +kernel
theorem dX10_leads_18 : decode cX10_leads 18 = .ok (.aload_n 0, 1) := by decide +kernel
theorem dX10_leads_19 : decode cX10_leads 19 = .ok (.getfield 74, 3) := by decide +kernel
theorem dX10_leads_22 : decode cX10_leads 22 = .ok (.iload_n 1, 1) := by decide +kernel
theorem dX10_leads_23 : decode cX10_leads 23 = .ok (.iaload, 1) := by decide +kernel
theorem dX10_leads_24 : decode cX10_leads 24 = .ok (.ifCond .lt 7, 3) := by decide +kernel
theorem dX10_leads_27 : decode cX10_leads 27 = .ok (.iconst 1, 1) := by decide +kernel
theorem dX10_leads_28 : decode cX10_leads 28 = .ok (.goto 4, 3) := by decide +kernel
theorem dX10_leads_31 : decode cX10_leads 31 = .ok (.iconst 0, 1) := by decide +kernel
theorem dX10_leads_32 : decode cX10_leads 32 = .ok (.ireturn, 1) := by decide +kernel
theorem dX10_led_0 : decode cX10_led 0 = .ok (.aload_n 0, 1) := by decide +kernel
theorem dX10_led_1 : decode cX10_led 1 = .ok (.iload_n 1, 1) := by decide +kernel
theorem dX10_led_2 : decode cX10_led 2 = .ok (.invokevirtual 256, 3) := by decide +kernel
theorem dX10_led_5 : decode cX10_led 5 = .ok (.ifCond .eq 11, 3) := by decide +kernel
theorem dX10_led_8 : decode cX10_led 8 = .ok (.aload_n 0, 1) := by decide +kernel
theorem dX10_led_9 : decode cX10_led 9 = .ok (.iload_n 2, 1) := by decide +kernel
theorem dX10_led_10 : decode cX10_led 10 = .ok (.invokevirtual 256, 3) := by decide +kernel
theorem dX10_led_13 : decode cX10_led 13 = .ok (.ifCond .ne 6, 3) := by decide +kernel
theorem dX10_led_16 : decode cX10_led 16 = .ok (.ldc 242, 2) := by decide +kernel
theorem dX10_led_18 : decode cX10_led 18 = .ok (.ireturn, 1) := by decide +kernel
theorem dX10_led_19 : decode cX10_led 19 = .ok (.iload 4, 2) := by decide +kernel
theorem dX10_led_21 : decode cX10_led 21 = .ok (.i2l, 1) := by decide +kernel
theorem dX10_led_22 : decode cX10_led 22 = .ok (.lconst 0, 1) := by decide +kernel
theorem dX10_led_23 : decode cX10_led 23 = .ok (.ldc2_w 246, 3) := by decide +kernel
theorem dX10_led_26 : decode cX10_led 26 = .ok (.invokestatic 124, 3) := by decide +kernel
theorem dX10_led_29 : decode cX10_led 29 = .ok (.ifCond .ne 6, 3) := by decide +kernel
theorem dX10_led_32 : decode cX10_led 32 = .ok (.ldc 136, 2) := by decide +kernel
theorem dX10_led_34 : decode cX10_led 34 = .ok (.ireturn, 1) := by decide +kernel
theorem dX10_led_35 : decode cX10_led 35 = .ok (.aload_n 0, 1) := by decide +kernel
theorem dX10_led_36 : decode cX10_led 36 = .ok (.iload_n 2, 1) := by decide +kernel
theorem dX10_led_37 : decode cX10_led 37 = .ok (.iload_n 3, 1) := by decide +kernel
theorem dX10_led_38 : decode cX10_led 38 = .ok (.invokevirtual 295, 3) := by decide +kernel
theorem dX10_led_41 : decode cX10_led 41 = .ok (.iload_n 1, 1) := by decide +kernel
theorem dX10_led_42 : decode cX10_led 42 = .ok (.istore 5, 2) := by decide +kernel
theorem dX10_led_44 : decode cX10_led 44 = .ok (.iconst 0, 1) := by decide +kernel
theorem dX10_led_45 : decode cX10_led 45 = .ok (.istore 6, 2) := by decide +kernel
theorem dX10_led_47 : decode cX10_led 47 = .ok (.iconst 0, 1) := by decide +kernel
theorem dX10_led_48 : decode cX10_led 48 = .ok (.istore 7, 2) := by decide +kernel
theorem dX10_led_50 : decode cX10_led 50 = .ok (.iconst 0, 1) := by decide +kernel
theorem dX10_led_51 : decode cX10_led 51 = .ok (.istore 8, 2) := by decide +kernel
theorem dX10_led_53 : decode cX10_led 53 = .ok (.iconst 0, 1) := by decide +kernel
theorem dX10_led_54 : decode cX10_led 54 = .ok (.istore 9, 2) := by decide +kernel
theorem dX10_led_56 : decode cX10_led 56 = .ok (.iload 5, 2) := by decide +kernel
theorem dX10_led_58 : decode cX10_led 58 = .ok (.iload_n 2, 1) := by decide +kernel
theorem dX10_led_59 : decode cX10_led 59 = .ok (.if_icmp .eq 105, 3) := by decide +kernel
theorem dX10_led_62 : decode cX10_led 62 = .ok (.iload 9, 2) := by decide +kernel
theorem dX10_led_64 : decode cX10_led 64 = .ok (.ifCond .ne 100, 3) := by decide +kernel
theorem dX10_led_67 : decode cX10_led 67 = .ok (.iconst (-1), 1) := by decide +kernel
theorem dX10_led_68 : decode cX10_led 68 = .ok (.istore 10, 2) := by decide +kernel
theorem dX10_led_70 : decode cX10_led 70 = .ok (.aload_n 0, 1) := by decide +kernel
theorem dX10_led_71 : decode cX10_led 71 = .ok (.getfield 131, 3) := by decide +kernel
theorem dX10_led_74 : decode cX10_led 74 = .ok (.iconst 1, 1) := by decide +kernel
theorem dX10_led_75 : decode cX10_led 75 = .ok (.isub, 1) := by decide +kernel
theorem dX10_led_76 : decode cX10_led 76 = .ok (.istore 11, 2) := by decide +kernel
theorem dX10_led_78 : decode cX10_led 78 = .ok (.iload 11, 2) := by decide +kernel
theorem dX10_led_80 : decode cX10_led 80 = .ok (.ifCond .lt 31, 3) := by decide +kernel
theorem dX10_led_83 : decode cX10_led 83 = .ok (.aload_n 0, 1) := by decide +kernel
theorem dX10_led_84 : decode cX10_led 84 = .ok (.iload 11, 2) := by decide +kernel
theorem dX10_led_86 : decode cX10_led 86 = .ok (.iload 6, 2) := by decide +kernel
theorem dX10_led_88 : decode cX10_led 88 = .ok (.iload 5, 2) := by decide +kernel
theorem dX10_led_90 : decode cX10_led 90 = .ok (.invokevirtual 299, 3) := by decide +kernel
theorem dX10_led_93 : decode cX10_led 93 = .ok (.ifCond .eq 8, 3) := by decide +kernel
theorem dX10_led_96 : decode cX10_led 96 = .ok (.iload 11, 2) := by decide +kernel
theorem dX10_led_98 : decode cX10_led 98 = .ok (.goto 5, 3) := by decide +kernel
theorem dX10_led_101 : decode cX10_led 101 = .ok (.iload 10, 2) := by decide +kernel
theorem dX10_led_103 : decode cX10_led 103 = .ok (.istore 10, 2) := by decide +kernel
theorem dX10_led_105 : decode cX10_led 105 = .ok (.iinc 11 (-1), 3) := by decide +kernel
theorem dX10_led_108 : decode cX10_led 108 = .ok (.goto (-30), 3) := by decide +kernel
theorem dX10_led_111 : decode cX10_led 111 = .ok (.iload 10, 2) := by decide +kernel
theorem dX10_led_113 : decode cX10_led 113 = .ok (.ifCond .ge 7, 3) := by decide +kernel
theorem dX10_led_116 : decode cX10_led 116 = .ok (.iconst 1, 1) := by decide +kernel
theorem dX10_led_117 : decode cX10_led 117 = .ok (.goto 4, 3) := by decide +kernel
theorem dX10_led_120 : decode cX10_led 120 = .ok (.iconst 0, 1) := by decide +kernel
theorem dX10_led_121 : decode cX10_led 121 = .ok (.istore 9, 2) := by decide +kernel
theorem dX10_led_123 : decode cX10_led 123 = .ok (.iload 9, 2) := by decide +kernel
theorem dX10_led_125 : decode cX10_led 125 = .ok (.ifCond .ne 36, 3) := by decide +kernel
theorem dX10_led_128 : decode cX10_led 128 = .ok (.iload 6, 2) := by decide +kernel
theorem dX10_led_130 : decode cX10_led 130 = .ok (.iconst 1, 1) := by decide +kernel
theorem dX10_led_131 : decode cX10_led 131 = .ok (.iload 10, 2) := by decide +kernel
theorem dX10_led_133 : decode cX10_led 133 = .ok (.ishl, 1) := by decide +kernel
theorem dX10_led_134 : decode cX10_led 134 = .ok (.ior, 1) := by decide +kernel
theorem dX10_led_135 : decode cX10_led 135 = .ok (.istore 6, 2) := by decide +kernel
theorem dX10_led_137 : decode cX10_led 137 = .ok (.iinc 8 1, 3) := by decide +kernel
theorem dX10_led_140 : decode cX10_led 140 = .ok (.iload 7, 2) := by decide +kernel
theorem dX10_led_142 : decode cX10_led 142 = .ok (.aload_n 0, 1) := by decide +kernel
theorem dX10_led_143 : decode cX10_led 143 = .ok (.getfield 77, 3) := by decide +kernel
theorem dX10_led_146 : decode cX10_led 146 = .ok (.iload 10, 2) := by decide +kernel
theorem dX10_led_148 : decode cX10_led 148 = .ok (.iaload, 1) := by decide +kernel
theorem dX10_led_149 : decode cX10_led 149 = .ok (.iadd, 1) := by decide +kernel
theorem dX10_led_150 : decode cX10_led 150 = .ok (.istore 7, 2) := by decide +kernel
theorem dX10_led_152 : decode cX10_led 152 = .ok (.aload_n 0, 1) := by decide +kernel
theorem dX10_led_153 : decode cX10_led 153 = .ok (.getfield 74, 3) := by decide +kernel
theorem dX10_led_156 : decode cX10_led 156 = .ok (.iload 10, 2) := by decide +kernel
theorem dX10_led_158 : decode cX10_led 158 = .ok (.iaload, 1) := by decide +kernel
theorem dX10_led_159 : decode cX10_led 159 = .ok (.istore 5, 2) := by decide +kernel
theorem dX10_led_161 : decode cX10_led 161 = .ok (.goto (-105), 3) := by decide +kernel
theorem dX10_led_164 : decode cX10_led 164 = .ok (.iload 4, 2) := by decide +kernel
theorem dX10_led_166 : decode cX10_led 166 = .ok (.ifCond .ne 8, 3) := by decide +kernel
theorem dX10_led_169 : decode cX10_led 169 = .ok (.iload 7, 2) := by decide +kernel
theorem dX10_led_171 : decode cX10_led 171 = .ok (.goto 35, 3) := by decide +kernel
theorem dX10_led_174 : decode cX10_led 174 = .ok (.iload 4, 2) := by decide +kernel
theorem dX10_led_176 : decode cX10_led 176 = .ok (.iconst 1, 1) := by decide +kernel
theorem dX10_led_177 : decode cX10_led 177 = .ok (.if_icmp .ne 8, 3) := by decide +kernel
theorem dX10_led_180 : decode cX10_led 180 = .ok (.iload 5, 2) := by decide +kernel
theorem dX10_led_182 : decode cX10_led 182 = .ok (.goto 24, 3) := by decide +kernel
theorem dX10_led_185 : decode cX10_led 185 = .ok (.iload 4, 2) := by decide +kernel
theorem dX10_led_187 : decode cX10_led 187 = .ok (.iconst 2, 1) := by decide +kernel
theorem dX10_led_188 : decode cX10_led 188 = .ok (.if_icmp .ne 16, 3) := by decide +kernel
theorem dX10_led_191 : decode cX10_led 191 = .ok (.iload 9, 2) := by decide +kernel
theorem dX10_led_193 : decode cX10_led 193 = .ok (.ifCond .eq 7, 3) := by decide +kernel
theorem dX10_led_196 : decode cX10_led 196 = .ok (.iconst 1, 1) := by decide +kernel
theorem dX10_led_197 : decode cX10_led 197 = .ok (.goto 9, 3) := by decide +kernel
theorem dX10_led_200 : decode cX10_led 200 = .ok (.iconst 0, 1) := by decide +kernel
theorem dX10_led_201 : decode cX10_led 201 = .ok (.goto 5, 3) := by decide +kernel
theorem dX10_led_204 : decode cX10_led 204 = .ok (.iload 8, 2) := by decide +kernel
theorem dX10_led_206 : decode cX10_led 206 = .ok (.ireturn, 1) := by decide +kernel
theorem dX10_findSoon_0 : decode cX10_findSoon 0 = .ok (.bipush 63, 2) := by decide +kernel
theorem dX10_findSoon_2 : decode cX10_findSoon 2 = .ok (.istore_n 2, 1) := by decide +kernel
theorem dX10_findSoon_3 : decode cX10_findSoon 3 = .ok (.iload_n 2, 1) := by decide +kernel
theorem dX10_findSoon_4 : decode cX10_findSoon 4 = .ok (.ifCond .lt 138, 3) := by decide +kernel
theorem dX10_findSoon_7 : decode cX10_findSoon 7 = .ok (.iconst 0, 1) := by decide +kernel
theorem dX10_findSoon_8 : decode cX10_findSoon 8 = .ok (.istore_n 3, 1) := by decide +kernel
theorem dX10_findSoon_9 : decode cX10_findSoon 9 = .ok (.iload_n 3, 1) := by decide +kernel
theorem dX10_findSoon_10 : decode cX10_findSoon 10 = .ok (.aload_n 0, 1) := by decide +kernel
theorem dX10_findSoon_11 : decode cX10_findSoon 11 = .ok (.getfield 121, 3) := by decide +kernel
theorem dX10_findSoon_14 : decode cX10_findSoon 14 = .ok (.if_icmp .ge 122, 3) := by decide +kernel
theorem dX10_findSoon_17 : decode cX10_findSoon 17 = .ok (.iload_n 3, 1) := by decide +kernel
theorem dX10_findSoon_18 : decode cX10_findSoon 18 = .ok (.iload_n 1, 1) := by decide +kernel
theorem dX10_findSoon_19 : decode cX10_findSoon 19 = .ok (.if_icmp .ne 7, 3) := by decide +kernel
theorem dX10_findSoon_22 : decode cX10_findSoon 22 = .ok (.iconst 0, 1) := by decide +kernel
theorem dX10_findSoon_23 : decode cX10_findSoon 23 = .ok (.goto 5, 3) := by decide +kernel
theorem dX10_findSoon_26 : decode cX10_findSoon 26 = .ok (.ldc 248, 2) := by decide +kernel
theorem dX10_findSoon_28 : decode cX10_findSoon 28 = .ok (.istore 4, 2) := by decide +kernel
theorem dX10_findSoon_30 : decode cX10_findSoon 30 = .ok (.iconst 0, 1) := by decide +kernel
theorem dX10_findSoon_31 : decode cX10_findSoon 31 = .ok (.istore 5, 2) := by decide +kernel
theorem dX10_findSoon_33 : decode cX10_findSoon 33 = .ok (.iload 5, 2) := by decide +kernel
theorem dX10_findSoon_35 : decode cX10_findSoon 35 = .ok (.aload_n 0, 1) := by decide +kernel
theorem dX10_findSoon_36 : decode cX10_findSoon 36 = .ok (.getfield 131, 3) := by decide +kernel
theorem dX10_findSoon_39 : decode cX10_findSoon 39 = .ok (.if_icmp .ge 78, 3) := by decide +kernel
theorem dX10_findSoon_42 : decode cX10_findSoon 42 = .ok (.iload_n 3, 1) := by decide +kernel
theorem dX10_findSoon_43 : decode cX10_findSoon 43 = .ok (.iload_n 1, 1) := by decide +kernel
theorem dX10_findSoon_44 : decode cX10_findSoon 44 = .ok (.if_icmp .eq 73, 3) := by decide +kernel
theorem dX10_findSoon_47 : decode cX10_findSoon 47 = .ok (.aload_n 0, 1) := by decide +kernel
theorem dX10_findSoon_48 : decode cX10_findSoon 48 = .ok (.iload 5, 2) := by decide +kernel
theorem dX10_findSoon_50 : decode cX10_findSoon 50 = .ok (.iload_n 2, 1) := by decide +kernel
theorem dX10_findSoon_51 : decode cX10_findSoon 51 = .ok (.iload_n 3, 1) := by decide +kernel
theorem dX10_findSoon_52 : decode cX10_findSoon 52 = .ok (.invokevirtual 299, 3) := by decide +kernel
theorem dX10_findSoon_55 : decode cX10_findSoon 55 = .ok (.ifCond .eq 56, 3) := by decide +kernel
theorem dX10_findSoon_58 : decode cX10_findSoon 58 = .ok (.aload_n 0, 1) := by decide +kernel
theorem dX10_findSoon_59 : decode cX10_findSoon 59 = .ok (.getfield 80, 3) := by decide +kernel
theorem dX10_findSoon_62 : decode cX10_findSoon 62 = .ok (.bipush 10, 2) := by decide +kernel
theorem dX10_findSoon_64 : decode cX10_findSoon 64 = .ok (.iload_n 2, 1) := by decide +kernel
theorem dX10_findSoon_65 : decode cX10_findSoon 65 = .ok (.iconst 1, 1) := by decide +kernel
theorem dX10_findSoon_66 : decode cX10_findSoon 66 = .ok (.iload 5, 2) := by decide +kernel
theorem dX10_findSoon_68 : decode cX10_findSoon 68 = .ok (.ishl, 1) := by decide +kernel
theorem dX10_findSoon_69 : decode cX10_findSoon 69 = .ok (.ior, 1) := by decide +kernel
theorem dX10_findSoon_70 : decode cX10_findSoon 70 = .ok (.imul, 1) := by decide +kernel
theorem dX10_findSoon_71 : decode cX10_findSoon 71 = .ok (.aload_n 0, 1) := by decide +kernel
theorem dX10_findSoon_72 : decode cX10_findSoon 72 = .ok (.getfield 74, 3) := by decide +kernel
theorem dX10_findSoon_75 : decode cX10_findSoon 75 = .ok (.iload 5, 2) := by decide +kernel
theorem dX10_findSoon_77 : decode cX10_findSoon 77 = .ok (.iaload, 1) := by decide +kernel
theorem dX10_findSoon_78 : decode cX10_findSoon 78 = .ok (.iadd, 1) := by decide +kernel
theorem dX10_findSoon_79 : decode cX10_findSoon 79 = .ok (.iaload, 1) := by decide +kernel
theorem dX10_findSoon_80 : decode cX10_findSoon 80 = .ok (.bipush 16, 2) := by decide +kernel
theorem dX10_findSoon_82 : decode cX10_findSoon 82 = .ok (.aload_n 0, 1) := by decide +kernel
theorem dX10_findSoon_83 : decode cX10_findSoon 83 = .ok (.getfield 77, 3) := by decide +kernel
theorem dX10_findSoon_86 : decode cX10_findSoon 86 = .ok (.iload 5, 2) := by decide +kernel
theorem dX10_findSoon_88 : decode cX10_findSoon 88 = .ok (.iaload, 1) := by decide +kernel
theorem dX10_findSoon_89 : decode cX10_findSoon 89 = .ok (.imul, 1) := by decide +kernel
theorem dX10_findSoon_90 : decode cX10_findSoon 90 = .ok (.iadd, 1) := by decide +kernel
theorem dX10_findSoon_91 : decode cX10_findSoon 91 = .ok (.iconst 1, 1) := by decide +kernel
theorem dX10_findSoon_92 : decode cX10_findSoon 92 = .ok (.iadd, 1) := by decide +kernel
theorem dX10_findSoon_93 : decode cX10_findSoon 93 = .ok (.istore 6, 2) := by decide +kernel
theorem dX10_findSoon_95 : decode cX10_findSoon 95 = .ok (.iload 6, 2) := by decide +kernel
theorem dX10_findSoon_97 : decode cX10_findSoon 97 = .ok (.iload 4, 2) := by decide +kernel
theorem dX10_findSoon_99 : decode cX10_findSoon 99 = .ok (.if_icmp .ge 8, 3) := by decide +kernel
theorem dX10_findSoon_102 : decode cX10_findSoon 102 = .ok (.iload 6, 2) := by decide +kernel
theorem dX10_findSoon_104 : decode cX10_findSoon 104 = .ok (.goto 5, 3) := by decide +kernel
theorem dX10_findSoon_107 : decode cX10_findSoon 107 = .ok (.iload 4, 2) := by decide +kernel
theorem dX10_findSoon_109 : decode cX10_findSoon 109 = .ok (.istore 4, 2) := by decide +kernel
theorem dX10_findSoon_111 : decode cX10_findSoon 111 = .ok (.iinc 5 1, 3) := by decide +kernel
theorem dX10_findSoon_114 : decode cX10_findSoon 114 = .ok (.goto (-81), 3) := by decide +kernel
theorem dX10_findSoon_117 : decode cX10_findSoon 117 = .ok (.aload_n 0, 1) := by decide +kernel
theorem dX10_findSoon_118 : decode cX10_findSoon 118 = .ok (.getfield 80, 3) := by decide +kernel
theorem dX10_findSoon_121 : decode cX10_findSoon 121 = .ok (.bipush 10, 2) := by decide +kernel
theorem dX10_findSoon_123 : decode cX10_findSoon 123 = .ok (.iload_n 2, 1) := by decide +kernel
theorem dX10_findSoon_124 : decode cX10_findSoon 124 = .ok (.imul, 1) := by decide +kernel
theorem dX10_findSoon_125 : decode cX10_findSoon 125 = .ok (.iload_n 3, 1) := by decide +kernel
theorem dX10_findSoon_126 : decode cX10_findSoon 126 = .ok (.iadd, 1) := by decide +kernel
theorem dX10_findSoon_127 : decode cX10_findSoon 127 = .ok (.iload 4, 2) := by decide +kernel
theorem dX10_findSoon_129 : decode cX10_findSoon 129 = .ok (.iastore, 1) := by decide +kernel
theorem dX10_findSoon_130 : decode cX10_findSoon 130 = .ok (.iinc 3 1, 3) := by decide +kernel
theorem dX10_findSoon_133 : decode cX10_findSoon 133 = .ok (.goto (-124), 3) := by decide +kernel
theorem dX10_findSoon_136 : decode cX10_findSoon 136 = .ok (.iinc 2 (-1), 3) := by decide +kernel
theorem dX10_findSoon_139 : decode cX10_findSoon 139 = .ok (.goto (-136), 3) := by decide +kernel
theorem dX10_findSoon_142 : decode cX10_findSoon 142 = .ok (.return_, 1) := by decide +kernel
theorem dX10_soonestOf_0 : decode cX10_soonestOf 0 = .ok (.aload_n 0, 1) := by decide +kernel
theorem dX10_soonestOf_1 : decode cX10_soonestOf 1 = .ok (.iload_n 2, 1) := by decide +kernel
theorem dX10_soonestOf_2 : decode cX10_soonestOf 2 = .ok (.iconst 0, 1) := by decide +kernel
theorem dX10_soonestOf_3 : decode cX10_soonestOf 3 = .ok (.invokevirtual 295, 3) := by decide +kernel
theorem dX10_soonestOf_6 : decode cX10_soonestOf 6 = .ok (.aload_n 0, 1) := by decide +kernel
theorem dX10_soonestOf_7 : decode cX10_soonestOf 7 = .ok (.iload_n 2, 1) := by decide +kernel
theorem dX10_soonestOf_8 : decode cX10_soonestOf 8 = .ok (.invokevirtual 302, 3) := by decide +kernel
theorem dX10_soonestOf_11 : decode cX10_soonestOf 11 = .ok (.aload_n 0, 1) := by decide +kernel
theorem dX10_soonestOf_12 : decode cX10_soonestOf 12 = .ok (.getfield 80, 3) := by decide +kernel
theorem dX10_soonestOf_15 : decode cX10_soonestOf 15 = .ok (.iload_n 1, 1) := by decide +kernel
theorem dX10_soonestOf_16 : decode cX10_soonestOf 16 = .ok (.iaload, 1) := by decide +kernel
theorem dX10_soonestOf_17 : decode cX10_soonestOf 17 = .ok (.ldc 248, 2) := by decide +kernel
theorem dX10_soonestOf_19 : decode cX10_soonestOf 19 = .ok (.if_icmp .lt 7, 3) := by decide +kernel
theorem dX10_soonestOf_22 : decode cX10_soonestOf 22 = .ok (.iconst (-1), 1) := by decide +kernel
theorem dX10_soonestOf_23 : decode cX10_soonestOf 23 = .ok (.goto 12, 3) := by decide +kernel
theorem dX10_soonestOf_26 : decode cX10_soonestOf 26 = .ok (.aload_n 0, 1) := by decide +kernel
theorem dX10_soonestOf_27 : decode cX10_soonestOf 27 = .ok (.getfield 80, 3) := by decide +kernel
theorem dX10_soonestOf_30 : decode cX10_soonestOf 30 = .ok (.iload_n 1, 1) := by decide +kernel
theorem dX10_soonestOf_31 : decode cX10_soonestOf 31 = .ok (.iaload, 1) := by decide +kernel
theorem dX10_soonestOf_32 : decode cX10_soonestOf 32 = .ok (.bipush 16, 2) := by decide +kernel
theorem dX10_soonestOf_34 : decode cX10_soonestOf 34 = .ok (.idiv, 1) := by decide +kernel
theorem dX10_soonestOf_35 : decode cX10_soonestOf 35 = .ok (.ireturn, 1) := by decide +kernel
theorem dX10_soonest_0 : decode cX10_soonest 0 = .ok (.aload_n 0, 1) := by decide +kernel
theorem dX10_soonest_1 : decode cX10_soonest 1 = .ok (.iload_n 1, 1) := by decide +kernel
theorem dX10_soonest_2 : decode cX10_soonest 2 = .ok (.invokevirtual 256, 3) := by decide +kernel
theorem dX10_soonest_5 : decode cX10_soonest 5 = .ok (.ifCond .eq 20, 3) := by decide +kernel
theorem dX10_soonest_8 : decode cX10_soonest 8 = .ok (.aload_n 0, 1) := by decide +kernel
theorem dX10_soonest_9 : decode cX10_soonest 9 = .ok (.iload_n 2, 1) := by decide +kernel
theorem dX10_soonest_10 : decode cX10_soonest 10 = .ok (.invokevirtual 256, 3) := by decide +kernel
theorem dX10_soonest_13 : decode cX10_soonest 13 = .ok (.ifCond .eq 12, 3) := by decide +kernel
theorem dX10_soonest_16 : decode cX10_soonest 16 = .ok (.aload_n 0, 1) := by decide +kernel
theorem dX10_soonest_17 : decode cX10_soonest 17 = .ok (.iload_n 1, 1) := by decide +kernel
theorem dX10_soonest_18 : decode cX10_soonest 18 = .ok (.iload_n 2, 1) := by decide +kernel
theorem dX10_soonest_19 : decode cX10_soonest 19 = .ok (.invokevirtual 306, 3) := by decide +kernel
theorem dX10_soonest_22 : decode cX10_soonest 22 = .ok (.goto 5, 3) := by decide +kernel
theorem dX10_soonest_25 : decode cX10_soonest 25 = .ok (.ldc 242, 2) := by decide +kernel
theorem dX10_soonest_27 : decode cX10_soonest 27 = .ok (.ireturn, 1) := by decide +kernel
theorem dX10_guide_0 : decode cX10_guide 0 = .ok (.aload_n 0, 1) := by decide +kernel
theorem dX10_guide_1 : decode cX10_guide 1 = .ok (.iload_n 1, 1) := by decide +kernel
theorem dX10_guide_2 : decode cX10_guide 2 = .ok (.invokevirtual 256, 3) := by decide +kernel
theorem dX10_guide_5 : decode cX10_guide 5 = .ok (.ifCond .eq 11, 3) := by decide +kernel
theorem dX10_guide_8 : decode cX10_guide 8 = .ok (.aload_n 0, 1) := by decide +kernel
theorem dX10_guide_9 : decode cX10_guide 9 = .ok (.iload_n 2, 1) := by decide +kernel
theorem dX10_guide_10 : decode cX10_guide 10 = .ok (.invokevirtual 256, 3) := by decide +kernel
theorem dX10_guide_13 : decode cX10_guide 13 = .ok (.ifCond .ne 6, 3) := by decide +kernel
theorem dX10_guide_16 : decode cX10_guide 16 = .ok (.ldc 242, 2) := by decide +kernel
theorem dX10_guide_18 : decode cX10_guide 18 = .ok (.ireturn, 1) := by decide +kernel
theorem dX10_guide_19 : decode cX10_guide 19 = .ok (.aload_n 0, 1) := by decide +kernel
theorem dX10_guide_20 : decode cX10_guide 20 = .ok (.iload_n 1, 1) := by decide +kernel
theorem dX10_guide_21 : decode cX10_guide 21 = .ok (.iload_n 2, 1) := by decide +kernel
theorem dX10_guide_22 : decode cX10_guide 22 = .ok (.invokevirtual 306, 3) := by decide +kernel
theorem dX10_guide_25 : decode cX10_guide 25 = .ok (.ifCond .ge 5, 3) := by decide +kernel
theorem dX10_guide_28 : decode cX10_guide 28 = .ok (.iconst (-1), 1) := by decide +kernel
theorem dX10_guide_29 : decode cX10_guide 29 = .ok (.ireturn, 1) := by decide +kernel
theorem dX10_guide_30 : decode cX10_guide 30 = .ok (.aload_n 0, 1) := by decide +kernel
theorem dX10_guide_31 : decode cX10_guide 31 = .ok (.getfield 80, 3) := by decide +kernel
theorem dX10_guide_34 : decode cX10_guide 34 = .ok (.iload_n 1, 1) := by decide +kernel
theorem dX10_guide_35 : decode cX10_guide 35 = .ok (.iaload, 1) := by decide +kernel
theorem dX10_guide_36 : decode cX10_guide 36 = .ok (.bipush 16, 2) := by decide +kernel
theorem dX10_guide_38 : decode cX10_guide 38 = .ok (.irem, 1) := by decide +kernel
theorem dX10_guide_39 : decode cX10_guide 39 = .ok (.istore 4, 2) := by decide +kernel
theorem dX10_guide_41 : decode cX10_guide 41 = .ok (.iload_n 3, 1) := by decide +kernel
theorem dX10_guide_42 : decode cX10_guide 42 = .ok (.iconst (-1), 1) := by decide +kernel
theorem dX10_guide_43 : decode cX10_guide 43 = .ok (.if_icmp .eq 17, 3) := by decide +kernel
theorem dX10_guide_46 : decode cX10_guide 46 = .ok (.iload_n 3, 1) := by decide +kernel
theorem dX10_guide_47 : decode cX10_guide 47 = .ok (.i2l, 1) := by decide +kernel
theorem dX10_guide_48 : decode cX10_guide 48 = .ok (.lconst 0, 1) := by decide +kernel
theorem dX10_guide_49 : decode cX10_guide 49 = .ok (.iload 4, 2) := by decide +kernel
theorem dX10_guide_51 : decode cX10_guide 51 = .ok (.iconst 1, 1) := by decide +kernel
theorem dX10_guide_52 : decode cX10_guide 52 = .ok (.isub, 1) := by decide +kernel
theorem dX10_guide_53 : decode cX10_guide 53 = .ok (.i2l, 1) := by decide +kernel
theorem dX10_guide_54 : decode cX10_guide 54 = .ok (.invokestatic 124, 3) := by decide +kernel
theorem dX10_guide_57 : decode cX10_guide 57 = .ok (.ifCond .ne 15, 3) := by decide +kernel
theorem dX10_guide_60 : decode cX10_guide 60 = .ok (.iload_n 3, 1) := by decide +kernel
theorem dX10_guide_61 : decode cX10_guide 61 = .ok (.iconst (-1), 1) := by decide +kernel
theorem dX10_guide_62 : decode cX10_guide 62 = .ok (.if_icmp .ne 8, 3) := by decide +kernel
theorem dX10_guide_65 : decode cX10_guide 65 = .ok (.iload 4, 2) := by decide +kernel
theorem dX10_guide_67 : decode cX10_guide 67 = .ok (.goto 4, 3) := by decide +kernel
theorem dX10_guide_70 : decode cX10_guide 70 = .ok (.iconst (-1), 1) := by decide +kernel
theorem dX10_guide_71 : decode cX10_guide 71 = .ok (.ireturn, 1) := by decide +kernel
theorem dX10_guide_72 : decode cX10_guide 72 = .ok (.iload_n 1, 1) := by decide +kernel
theorem dX10_guide_73 : decode cX10_guide 73 = .ok (.istore 5, 2) := by decide +kernel
theorem dX10_guide_75 : decode cX10_guide 75 = .ok (.iconst 0, 1) := by decide +kernel
theorem dX10_guide_76 : decode cX10_guide 76 = .ok (.istore 6, 2) := by decide +kernel
theorem dX10_guide_78 : decode cX10_guide 78 = .ok (.iconst (-1), 1) := by decide +kernel
theorem dX10_guide_79 : decode cX10_guide 79 = .ok (.istore 7, 2) := by decide +kernel
theorem dX10_guide_81 : decode cX10_guide 81 = .ok (.iconst 0, 1) := by decide +kernel
theorem dX10_guide_82 : decode cX10_guide 82 = .ok (.istore 8, 2) := by decide +kernel
theorem dX10_guide_84 : decode cX10_guide 84 = .ok (.iload 8, 2) := by decide +kernel
theorem dX10_guide_86 : decode cX10_guide 86 = .ok (.iload_n 3, 1) := by decide +kernel
theorem dX10_guide_87 : decode cX10_guide 87 = .ok (.if_icmp .gt 101, 3) := by decide +kernel
theorem dX10_guide_90 : decode cX10_guide 90 = .ok (.iconst 0, 1) := by decide +kernel
theorem dX10_guide_91 : decode cX10_guide 91 = .ok (.istore 7, 2) := by decide +kernel
theorem dX10_guide_93 : decode cX10_guide 93 = .ok (.aload_n 0, 1) := by decide +kernel
theorem dX10_guide_94 : decode cX10_guide 94 = .ok (.iload 7, 2) := by decide +kernel
theorem dX10_guide_96 : decode cX10_guide 96 = .ok (.iload 6, 2) := by decide +kernel
theorem dX10_guide_98 : decode cX10_guide 98 = .ok (.iload 5, 2) := by decide +kernel
theorem dX10_guide_100 : decode cX10_guide 100 = .ok (.invokevirtual 299, 3) := by decide +kernel
theorem dX10_guide_103 : decode cX10_guide 103 = .ok (.ifCond .eq 55, 3) := by decide +kernel
theorem dX10_guide_106 : decode cX10_guide 106 = .ok (.aload_n 0, 1) := by decide +kernel
theorem dX10_guide_107 : decode cX10_guide 107 = .ok (.getfield 80, 3) := by decide +kernel
theorem dX10_guide_110 : decode cX10_guide 110 = .ok (.bipush 10, 2) := by decide +kernel
theorem dX10_guide_112 : decode cX10_guide 112 = .ok (.iload 6, 2) := by decide +kernel
theorem dX10_guide_114 : decode cX10_guide 114 = .ok (.iconst 1, 1) := by decide +kernel
theorem dX10_guide_115 : decode cX10_guide 115 = .ok (.iload 7, 2) := by decide +kernel
theorem dX10_guide_117 : decode cX10_guide 117 = .ok (.ishl, 1) := by decide +kernel
theorem dX10_guide_118 : decode cX10_guide 118 = .ok (.ior, 1) := by decide +kernel
theorem dX10_guide_119 : decode cX10_guide 119 = .ok (.imul, 1) := by decide +kernel
theorem dX10_guide_120 : decode cX10_guide 120 = .ok (.aload_n 0, 1) := by decide +kernel
theorem dX10_guide_121 : decode cX10_guide 121 = .ok (.getfield 74, 3) := by decide +kernel
theorem dX10_guide_124 : decode cX10_guide 124 = .ok (.iload 7, 2) := by decide +kernel
theorem dX10_guide_126 : decode cX10_guide 126 = .ok (.iaload, 1) := by decide +kernel
theorem dX10_guide_127 : decode cX10_guide 127 = .ok (.iadd, 1) := by decide +kernel
theorem dX10_guide_128 : decode cX10_guide 128 = .ok (.iaload, 1) := by decide +kernel
theorem dX10_guide_129 : decode cX10_guide 129 = .ok (.bipush 16, 2) := by decide +kernel
theorem dX10_guide_131 : decode cX10_guide 131 = .ok (.aload_n 0, 1) := by decide +kernel
theorem dX10_guide_132 : decode cX10_guide 132 = .ok (.getfield 77, 3) := by decide +kernel
theorem dX10_guide_135 : decode cX10_guide 135 = .ok (.iload 7, 2) := by decide +kernel
theorem dX10_guide_137 : decode cX10_guide 137 = .ok (.iaload, 1) := by decide +kernel
theorem dX10_guide_138 : decode cX10_guide 138 = .ok (.imul, 1) := by decide +kernel
theorem dX10_guide_139 : decode cX10_guide 139 = .ok (.iadd, 1) := by decide +kernel
theorem dX10_guide_140 : decode cX10_guide 140 = .ok (.iconst 1, 1) := by decide +kernel
theorem dX10_guide_141 : decode cX10_guide 141 = .ok (.iadd, 1) := by decide +kernel
theorem dX10_guide_142 : decode cX10_guide 142 = .ok (.aload_n 0, 1) := by decide +kernel
theorem dX10_guide_143 : decode cX10_guide 143 = .ok (.getfield 80, 3) := by decide +kernel
theorem dX10_guide_146 : decode cX10_guide 146 = .ok (.bipush 10, 2) := by decide +kernel
theorem dX10_guide_148 : decode cX10_guide 148 = .ok (.iload 6, 2) := by decide +kernel
theorem dX10_guide_150 : decode cX10_guide 150 = .ok (.imul, 1) := by decide +kernel
theorem dX10_guide_151 : decode cX10_guide 151 = .ok (.iload 5, 2) := by decide +kernel
theorem dX10_guide_153 : decode cX10_guide 153 = .ok (.iadd, 1) := by decide +kernel
theorem dX10_guide_154 : decode cX10_guide 154 = .ok (.iaload, 1) := by decide +kernel
theorem dX10_guide_155 : decode cX10_guide 155 = .ok (.if_icmp .eq 9, 3) := by decide +kernel
theorem dX10_guide_158 : decode cX10_guide 158 = .ok (.iinc 7 1, 3) := by decide +kernel
theorem dX10_guide_161 : decode cX10_guide 161 = .ok (.goto (-68), 3) := by decide +kernel
theorem dX10_guide_164 : decode cX10_guide 164 = .ok (.iload 6, 2) := by decide +kernel
theorem dX10_guide_166 : decode cX10_guide 166 = .ok (.iconst 1, 1) := by decide +kernel
theorem dX10_guide_167 : decode cX10_guide 167 = .ok (.iload 7, 2) := by decide +kernel
theorem dX10_guide_169 : decode cX10_guide 169 = .ok (.ishl, 1) := by decide +kernel
theorem dX10_guide_170 : decode cX10_guide 170 = .ok (.ior, 1) := by decide +kernel
theorem dX10_guide_171 : decode cX10_guide 171 = .ok (.istore 6, 2) := by decide +kernel
theorem dX10_guide_173 : decode cX10_guide 173 = .ok (.aload_n 0, 1) := by decide +kernel
theorem dX10_guide_174 : decode cX10_guide 174 = .ok (.getfield 74, 3) := by decide +kernel
theorem dX10_guide_177 : decode cX10_guide 177 = .ok (.iload 7, 2) := by decide +kernel
theorem dX10_guide_179 : decode cX10_guide 179 = .ok (.iaload, 1) := by decide +kernel
theorem dX10_guide_180 : decode cX10_guide 180 = .ok (.istore 5, 2) := by decide +kernel
theorem dX10_guide_182 : decode cX10_guide 182 = .ok (.iinc 8 1, 3) := by decide +kernel
theorem dX10_guide_185 : decode cX10_guide 185 = .ok (.goto (-101), 3) := by decide +kernel
theorem dX10_guide_188 : decode cX10_guide 188 = .ok (.iload 7, 2) := by decide +kernel
theorem dX10_guide_190 : decode cX10_guide 190 = .ok (.ireturn, 1) := by decide +kernel
theorem dX10_addLot_0 : decode cX10_addLot 0 = .ok (.aload_n 0, 1) := by decide +kernel
theorem dX10_addLot_1 : decode cX10_addLot 1 = .ok (.getfield 83, 3) := by decide +kernel
theorem dX10_addLot_4 : decode cX10_addLot 4 = .ok (.aload_n 0, 1) := by decide +kernel
theorem dX10_addLot_5 : decode cX10_addLot 5 = .ok (.getfield 309, 3) := by decide +kernel
theorem dX10_addLot_8 : decode cX10_addLot 8 = .ok (.iload_n 1, 1) := by decide +kernel
theorem dX10_addLot_9 : decode cX10_addLot 9 = .ok (.iastore, 1) := by decide +kernel
theorem dX10_addLot_10 : decode cX10_addLot 10 = .ok (.aload_n 0, 1) := by decide +kernel
theorem dX10_addLot_11 : decode cX10_addLot 11 = .ok (.getfield 86, 3) := by decide +kernel
theorem dX10_addLot_14 : decode cX10_addLot 14 = .ok (.aload_n 0, 1) := by decide +kernel
theorem dX10_addLot_15 : decode cX10_addLot 15 = .ok (.getfield 309, 3) := by decide +kernel
theorem dX10_addLot_18 : decode cX10_addLot 18 = .ok (.iload_n 2, 1) := by decide +kernel
theorem dX10_addLot_19 : decode cX10_addLot 19 = .ok (.iastore, 1) := by decide +kernel
theorem dX10_addLot_20 : decode cX10_addLot 20 = .ok (.aload_n 0, 1) := by decide +kernel
theorem dX10_addLot_21 : decode cX10_addLot 21 = .ok (.getfield 89, 3) := by decide +kernel
theorem dX10_addLot_24 : decode cX10_addLot 24 = .ok (.aload_n 0, 1) := by decide +kernel
theorem dX10_addLot_25 : decode cX10_addLot 25 = .ok (.getfield 309, 3) := by decide +kernel
theorem dX10_addLot_28 : decode cX10_addLot 28 = .ok (.iload_n 3, 1) := by decide +kernel
theorem dX10_addLot_29 : decode cX10_addLot 29 = .ok (.iastore, 1) := by decide +kernel
theorem dX10_addLot_30 : decode cX10_addLot 30 = .ok (.aload_n 0, 1) := by decide +kernel
theorem dX10_addLot_31 : decode cX10_addLot 31 = .ok (.getfield 92, 3) := by decide +kernel
theorem dX10_addLot_34 : decode cX10_addLot 34 = .ok (.aload_n 0, 1) := by decide +kernel
theorem dX10_addLot_35 : decode cX10_addLot 35 = .ok (.getfield 309, 3) := by decide +kernel
theorem dX10_addLot_38 : decode cX10_addLot 38 = .ok (.lload 4, 2) := by decide +kernel
theorem dX10_addLot_40 : decode cX10_addLot 40 = .ok (.lastore, 1) := by decide +kernel
theorem dX10_addLot_41 : decode cX10_addLot 41 = .ok (.aload_n 0, 1) := by decide +kernel
theorem dX10_addLot_42 : decode cX10_addLot 42 = .ok (.dup, 1) := by decide +kernel
theorem dX10_addLot_43 : decode cX10_addLot 43 = .ok (.getfield 309, 3) := by decide +kernel
theorem dX10_addLot_46 : decode cX10_addLot 46 = .ok (.iconst 1, 1) := by decide +kernel
theorem dX10_addLot_47 : decode cX10_addLot 47 = .ok (.iadd, 1) := by decide +kernel
theorem dX10_addLot_48 : decode cX10_addLot 48 = .ok (.putfield 309, 3) := by decide +kernel
theorem dX10_addLot_51 : decode cX10_addLot 51 = .ok (.return_, 1) := by decide +kernel
theorem dX10_countLeads_0 : decode cX10_countLeads 0 = .ok (.iconst 0, 1) := by decide +kernel
theorem dX10_countLeads_1 : decode cX10_countLeads 1 = .ok (.istore_n 3, 1) := by decide +kernel
theorem dX10_countLeads_2 : decode cX10_countLeads 2 = .ok (.iconst 0, 1) := by decide +kernel
theorem dX10_countLeads_3 : decode cX10_countLeads 3 = .ok (.istore 4, 2) := by decide +kernel
theorem dX10_countLeads_5 : decode cX10_countLeads 5 = .ok (.iload 4, 2) := by decide +kernel
theorem dX10_countLeads_7 : decode cX10_countLeads 7 = .ok (.aload_n 0, 1) := by decide +kernel
theorem dX10_countLeads_8 : decode cX10_countLeads 8 = .ok (.getfield 131, 3) := by decide +kernel
theorem dX10_countLeads_11 : decode cX10_countLeads 11 = .ok (.if_icmp .ge 28, 3) := by decide +kernel
theorem dX10_countLeads_14 : decode cX10_countLeads 14 = .ok (.iload_n 3, 1) := by decide +kernel
theorem dX10_countLeads_15 : decode cX10_countLeads 15 = .ok (.aload_n 0, 1) := by decide +kernel
theorem dX10_countLeads_16 : decode cX10_countLeads 16 = .ok (.iload 4, 2) := by decide +kernel
theorem dX10_countLeads_18 : decode cX10_countLeads 18 = .ok (.iload_n 1, 1) := by decide +kernel
theorem dX10_countLeads_19 : decode cX10_countLeads 19 = .ok (.iload_n 2, 1) := by decide +kernel
theorem dX10_countLeads_20 : decode cX10_countLeads 20 = .ok (.invokevirtual 299, 3) := by decide +kernel
theorem dX10_countLeads_23 : decode cX10_countLeads 23 = .ok (.ifCond .eq 7, 3) := by decide +kernel
theorem dX10_countLeads_26 : decode cX10_countLeads 26 = .ok (.iconst 1, 1) := by decide +kernel
theorem dX10_countLeads_27 : decode cX10_countLeads 27 = .ok (.goto 4, 3) := by decide +kernel
theorem dX10_countLeads_30 : decode cX10_countLeads 30 = .ok (.iconst 0, 1) := by decide +kernel
theorem dX10_countLeads_31 : decode cX10_countLeads 31 = .ok (.iadd, 1) := by decide +kernel
theorem dX10_countLeads_32 : decode cX10_countLeads 32 = .ok (.istore_n 3, 1) := by decide +kernel
theorem dX10_countLeads_33 : decode cX10_countLeads 33 = .ok (.iinc 4 1, 3) := by decide +kernel
theorem dX10_countLeads_36 : decode cX10_countLeads 36 = .ok (.goto (-31), 3) := by decide +kernel
theorem dX10_countLeads_39 : decode cX10_countLeads 39 = .ok (.iload_n 3, 1) := by decide +kernel
theorem dX10_countLeads_40 : decode cX10_countLeads 40 = .ok (.ireturn, 1) := by decide +kernel
theorem dX10_lot_0 : decode cX10_lot 0 = .ok (.aload_n 0, 1) := by decide +kernel
theorem dX10_lot_1 : decode cX10_lot 1 = .ok (.iload_n 1, 1) := by decide +kernel
theorem dX10_lot_2 : decode cX10_lot 2 = .ok (.invokevirtual 256, 3) := by decide +kernel
theorem dX10_lot_5 : decode cX10_lot 5 = .ok (.ifCond .eq 11, 3) := by decide +kernel
theorem dX10_lot_8 : decode cX10_lot 8 = .ok (.aload_n 0, 1) := by decide +kernel
theorem dX10_lot_9 : decode cX10_lot 9 = .ok (.iload_n 2, 1) := by decide +kernel
theorem dX10_lot_10 : decode cX10_lot 10 = .ok (.invokevirtual 256, 3) := by decide +kernel
theorem dX10_lot_13 : decode cX10_lot 13 = .ok (.ifCond .ne 6, 3) := by decide +kernel
theorem dX10_lot_16 : decode cX10_lot 16 = .ok (.ldc 242, 2) := by decide +kernel
theorem dX10_lot_18 : decode cX10_lot 18 = .ok (.ireturn, 1) := by decide +kernel
theorem dX10_lot_19 : decode cX10_lot 19 = .ok (.iload_n 3, 1) := by decide +kernel
theorem dX10_lot_20 : decode cX10_lot 20 = .ok (.i2l, 1) := by decide +kernel
theorem dX10_lot_21 : decode cX10_lot 21 = .ok (.lconst 0, 1) := by decide +kernel
theorem dX10_lot_22 : decode cX10_lot 22 = .ok (.ldc2_w 312, 3) := by decide +kernel
theorem dX10_lot_25 : decode cX10_lot 25 = .ok (.invokestatic 124, 3) := by decide +kernel
theorem dX10_lot_28 : decode cX10_lot 28 = .ok (.ifCond .ne 6, 3) := by decide +kernel
theorem dX10_lot_31 : decode cX10_lot 31 = .ok (.ldc 136, 2) := by decide +kernel
theorem dX10_lot_33 : decode cX10_lot 33 = .ok (.ireturn, 1) := by decide +kernel
theorem dX10_lot_34 : decode cX10_lot 34 = .ok (.aload_n 0, 1) := by decide +kernel
theorem dX10_lot_35 : decode cX10_lot 35 = .ok (.iload_n 2, 1) := by decide +kernel
theorem dX10_lot_36 : decode cX10_lot 36 = .ok (.iconst 0, 1) := by decide +kernel
theorem dX10_lot_37 : decode cX10_lot 37 = .ok (.invokevirtual 295, 3) := by decide +kernel
theorem dX10_lot_40 : decode cX10_lot 40 = .ok (.aload_n 0, 1) := by decide +kernel
theorem dX10_lot_41 : decode cX10_lot 41 = .ok (.iconst 0, 1) := by decide +kernel
theorem dX10_lot_42 : decode cX10_lot 42 = .ok (.putfield 309, 3) := by decide +kernel
theorem dX10_lot_45 : decode cX10_lot 45 = .ok (.aload_n 0, 1) := by decide +kernel
theorem dX10_lot_46 : decode cX10_lot 46 = .ok (.iload_n 1, 1) := by decide +kernel
theorem dX10_lot_47 : decode cX10_lot 47 = .ok (.iconst 0, 1) := by decide +kernel
theorem dX10_lot_48 : decode cX10_lot 48 = .ok (.iconst 0, 1) := by decide +kernel
theorem dX10_lot_49 : decode cX10_lot 49 = .ok (.ldc2_w 314, 3) := by decide +kernel
theorem dX10_lot_52 : decode cX10_lot 52 = .ok (.invokevirtual 316, 3) := by decide +kernel
theorem dX10_lot_55 : decode cX10_lot 55 = .ok (.lconst 0, 1) := by decide +kernel
theorem dX10_lot_56 : decode cX10_lot 56 = .ok (.lstore 4, 2) := by decide +kernel
theorem dX10_lot_58 : decode cX10_lot 58 = .ok (.lconst 0, 1) := by decide +kernel
theorem dX10_lot_59 : decode cX10_lot 59 = .ok (.lstore 6, 2) := by decide +kernel
theorem dX10_lot_61 : decode cX10_lot 61 = .ok (.iconst (-1), 1) := by decide +kernel
theorem dX10_lot_62 : decode cX10_lot 62 = .ok (.istore 8, 2) := by decide +kernel
theorem dX10_lot_64 : decode cX10_lot 64 = .ok (.iconst 0, 1) := by decide +kernel
theorem dX10_lot_65 : decode cX10_lot 65 = .ok (.istore 9, 2) := by decide +kernel
theorem dX10_lot_67 : decode cX10_lot 67 = .ok (.iload 9, 2) := by decide +kernel
theorem dX10_lot_69 : decode cX10_lot 69 = .ok (.aload_n 0, 1) := by decide +kernel
theorem dX10_lot_70 : decode cX10_lot 70 = .ok (.getfield 309, 3) := by decide +kernel
theorem dX10_lot_73 : decode cX10_lot 73 = .ok (.if_icmp .ge 238, 3) := by decide +kernel
theorem dX10_lot_76 : decode cX10_lot 76 = .ok (.aload_n 0, 1) := by decide +kernel
theorem dX10_lot_77 : decode cX10_lot 77 = .ok (.aload_n 0, 1) := by decide +kernel
theorem dX10_lot_78 : decode cX10_lot 78 = .ok (.getfield 86, 3) := by decide +kernel
theorem dX10_lot_81 : decode cX10_lot 81 = .ok (.iload 9, 2) := by decide +kernel
theorem dX10_lot_83 : decode cX10_lot 83 = .ok (.iaload, 1) := by decide +kernel
theorem dX10_lot_84 : decode cX10_lot 84 = .ok (.aload_n 0, 1) := by decide +kernel
theorem dX10_lot_85 : decode cX10_lot 85 = .ok (.getfield 83, 3) := by decide +kernel
theorem dX10_lot_88 : decode cX10_lot 88 = .ok (.iload 9, 2) := by decide +kernel
theorem dX10_lot_90 : decode cX10_lot 90 = .ok (.iaload, 1) := by decide +kernel
theorem dX10_lot_91 : decode cX10_lot 91 = .ok (.invokevirtual 320, 3) := by decide +kernel
theorem dX10_lot_94 : decode cX10_lot 94 = .ok (.istore 10, 2) := by decide +kernel
theorem dX10_lot_96 : decode cX10_lot 96 = .ok (.aload_n 0, 1) := by decide +kernel
theorem dX10_lot_97 : decode cX10_lot 97 = .ok (.getfield 83, 3) := by decide +kernel
theorem dX10_lot_100 : decode cX10_lot 100 = .ok (.iload 9, 2) := by decide +kernel
theorem dX10_lot_102 : decode cX10_lot 102 = .ok (.iaload, 1) := by decide +kernel
theorem dX10_lot_103 : decode cX10_lot 103 = .ok (.iload_n 2, 1) := by decide +kernel
theorem dX10_lot_104 : decode cX10_lot 104 = .ok (.if_icmp .ne 53, 3) := by decide +kernel
theorem dX10_lot_107 : decode cX10_lot 107 = .ok (.aload_n 0, 1) := by decide +kernel
theorem dX10_lot_108 : decode cX10_lot 108 = .ok (.getfield 89, 3) := by decide +kernel
theorem dX10_lot_111 : decode cX10_lot 111 = .ok (.iload 9, 2) := by decide +kernel
theorem dX10_lot_113 : decode cX10_lot 113 = .ok (.iaload, 1) := by decide +kernel
theorem dX10_lot_114 : decode cX10_lot 114 = .ok (.iload 8, 2) := by decide +kernel
theorem dX10_lot_116 : decode cX10_lot 116 = .ok (.if_icmp .le 13, 3) := by decide +kernel
theorem dX10_lot_119 : decode cX10_lot 119 = .ok (.aload_n 0, 1) := by decide +kernel
theorem dX10_lot_120 : decode cX10_lot 120 = .ok (.getfield 89, 3) := by decide +kernel
theorem dX10_lot_123 : decode cX10_lot 123 = .ok (.iload 9, 2) := by decide +kernel
theorem dX10_lot_125 : decode cX10_lot 125 = .ok (.iaload, 1) := by decide +kernel
theorem dX10_lot_126 : decode cX10_lot 126 = .ok (.goto 5, 3) := by decide +kernel
theorem dX10_lot_129 : decode cX10_lot 129 = .ok (.iload 8, 2) := by decide +kernel
theorem dX10_lot_131 : decode cX10_lot 131 = .ok (.istore 8, 2) := by decide +kernel
theorem dX10_lot_133 : decode cX10_lot 133 = .ok (.lload 6, 2) := by decide +kernel
theorem dX10_lot_135 : decode cX10_lot 135 = .ok (.aload_n 0, 1) := by decide +kernel
theorem dX10_lot_136 : decode cX10_lot 136 = .ok (.getfield 92, 3) := by decide +kernel
theorem dX10_lot_139 : decode cX10_lot 139 = .ok (.iload 9, 2) := by decide +kernel
theorem dX10_lot_141 : decode cX10_lot 141 = .ok (.laload, 1) := by decide +kernel
theorem dX10_lot_142 : decode cX10_lot 142 = .ok (.aload_n 0, 1) := by decide +kernel
theorem dX10_lot_143 : decode cX10_lot 143 = .ok (.getfield 89, 3) := by decide +kernel
theorem dX10_lot_146 : decode cX10_lot 146 = .ok (.iload 9, 2) := by decide +kernel
theorem dX10_lot_148 : decode cX10_lot 148 = .ok (.iaload, 1) := by decide +kernel
theorem dX10_lot_149 : decode cX10_lot 149 = .ok (.i2l, 1) := by decide +kernel
theorem dX10_lot_150 : decode cX10_lot 150 = .ok (.lmul, 1) := by decide +kernel
theorem dX10_lot_151 : decode cX10_lot 151 = .ok (.ladd, 1) := by decide +kernel
theorem dX10_lot_152 : decode cX10_lot 152 = .ok (.lstore 6, 2) := by decide +kernel
theorem dX10_lot_154 : decode cX10_lot 154 = .ok (.goto 151, 3) := by decide +kernel
theorem dX10_lot_157 : decode cX10_lot 157 = .ok (.iload 10, 2) := by decide +kernel
theorem dX10_lot_159 : decode cX10_lot 159 = .ok (.ifCond .ne 18, 3) := by decide +kernel
theorem dX10_lot_162 : decode cX10_lot 162 = .ok (.lload 4, 2) := by decide +kernel
theorem dX10_lot_164 : decode cX10_lot 164 = .ok (.aload_n 0, 1) := by decide +kernel
theorem dX10_lot_165 : decode cX10_lot 165 = .ok (.getfield 92, 3) := by decide +kernel
theorem dX10_lot_168 : decode cX10_lot 168 = .ok (.iload 9, 2) := by decide +kernel
theorem dX10_lot_170 : decode cX10_lot 170 = .ok (.laload, 1) := by decide +kernel
theorem dX10_lot_171 : decode cX10_lot 171 = .ok (.ladd, 1) := by decide +kernel
theorem dX10_lot_172 : decode cX10_lot 172 = .ok (.lstore 4, 2) := by decide +kernel
theorem dX10_lot_174 : decode cX10_lot 174 = .ok (.goto 131, 3) := by decide +kernel
theorem dX10_lot_177 : decode cX10_lot 177 = .ok (.aload_n 0, 1) := by decide +kernel
theorem dX10_lot_178 : decode cX10_lot 178 = .ok (.getfield 92, 3) := by decide +kernel
theorem dX10_lot_181 : decode cX10_lot 181 = .ok (.iload 9, 2) := by decide +kernel
theorem dX10_lot_183 : decode cX10_lot 183 = .ok (.laload, 1) := by decide +kernel
theorem dX10_lot_184 : decode cX10_lot 184 = .ok (.lstore 11, 2) := by decide +kernel
theorem dX10_lot_186 : decode cX10_lot 186 = .ok (.iconst 0, 1) := by decide +kernel
theorem dX10_lot_187 : decode cX10_lot 187 = .ok (.istore 13, 2) := by decide +kernel
theorem dX10_lot_189 : decode cX10_lot 189 = .ok (.iconst 0, 1) := by decide +kernel
theorem dX10_lot_190 : decode cX10_lot 190 = .ok (.istore 14, 2) := by decide +kernel
theorem dX10_lot_192 : decode cX10_lot 192 = .ok (.iload 14, 2) := by decide +kernel
theorem dX10_lot_194 : decode cX10_lot 194 = .ok (.aload_n 0, 1) := by decide +kernel
theorem dX10_lot_195 : decode cX10_lot 195 = .ok (.getfield 131, 3) := by decide +kernel
theorem dX10_lot_198 : decode cX10_lot 198 = .ok (.if_icmp .ge 107, 3) := by decide +kernel
theorem dX10_lot_201 : decode cX10_lot 201 = .ok (.aload_n 0, 1) := by decide +kernel
theorem dX10_lot_202 : decode cX10_lot 202 = .ok (.iload 14, 2) := by decide +kernel
theorem dX10_lot_204 : decode cX10_lot 204 = .ok (.aload_n 0, 1) := by decide +kernel
theorem dX10_lot_205 : decode cX10_lot 205 = .ok (.getfield 86, 3) := by decide +kernel
theorem dX10_lot_208 : decode cX10_lot 208 = .ok (.iload 9, 2) := by decide +kernel
theorem dX10_lot_210 : decode cX10_lot 210 = .ok (.iaload, 1) := by decide +kernel
theorem dX10_lot_211 : decode cX10_lot 211 = .ok (.aload_n 0, 1) := by decide +kernel
theorem dX10_lot_212 : decode cX10_lot 212 = .ok (.getfield 83, 3) := by decide +kernel
theorem dX10_lot_215 : decode cX10_lot 215 = .ok (.iload 9, 2) := by decide +kernel
theorem dX10_lot_217 : decode cX10_lot 217 = .ok (.iaload, 1) := by decide +kernel
theorem dX10_lot_218 : decode cX10_lot 218 = .ok (.invokevirtual 299, 3) := by decide +kernel
theorem dX10_lot_221 : decode cX10_lot 221 = .ok (.ifCond .eq 78, 3) := by decide +kernel
theorem dX10_lot_224 : decode cX10_lot 224 = .ok (.iinc 13 1, 3) := by decide +kernel
theorem dX10_lot_227 : decode cX10_lot 227 = .ok (.iload 13, 2) := by decide +kernel
theorem dX10_lot_229 : decode cX10_lot 229 = .ok (.iload 10, 2) := by decide +kernel
theorem dX10_lot_231 : decode cX10_lot 231 = .ok (.if_icmp .ne 8, 3) := by decide +kernel
theorem dX10_lot_234 : decode cX10_lot 234 = .ok (.lload 11, 2) := by decide +kernel
theorem dX10_lot_236 : decode cX10_lot 236 = .ok (.goto 14, 3) := by decide +kernel
theorem dX10_lot_239 : decode cX10_lot 239 = .ok (.aload_n 0, 1) := by decide +kernel
theorem dX10_lot_240 : decode cX10_lot 240 = .ok (.getfield 92, 3) := by decide +kernel
theorem dX10_lot_243 : decode cX10_lot 243 = .ok (.iload 9, 2) := by decide +kernel
theorem dX10_lot_245 : decode cX10_lot 245 = .ok (.laload, 1) := by decide +kernel
theorem dX10_lot_246 : decode cX10_lot 246 = .ok (.iload 10, 2) := by decide +kernel
theorem dX10_lot_248 : decode cX10_lot 248 = .ok (.i2l, 1) := by decide +kernel
theorem dX10_lot_249 : decode cX10_lot 249 = .ok (.ldiv, 1) := by decide +kernel
theorem dX10_lot_250 : decode cX10_lot 250 = .ok (.lstore 15, 2) := by decide +kernel
theorem dX10_lot_252 : decode cX10_lot 252 = .ok (.lload 11, 2) := by decide +kernel
theorem dX10_lot_254 : decode cX10_lot 254 = .ok (.lload 15, 2) := by decide +kernel
theorem dX10_lot_256 : decode cX10_lot 256 = .ok (.lsub, 1) := by decide +kernel
theorem dX10_lot_257 : decode cX10_lot 257 = .ok (.lstore 11, 2) := by decide +kernel
theorem dX10_lot_259 : decode cX10_lot 259 = .ok (.aload_n 0, 1) := by decide +kernel
theorem dX10_lot_260 : decode cX10_lot 260 = .ok (.aload_n 0, 1) := by decide +kernel
theorem dX10_lot_261 : decode cX10_lot 261 = .ok (.getfield 74, 3) := by decide +kernel
theorem dX10_lot_264 : decode cX10_lot 264 = .ok (.iload 14, 2) := by decide +kernel
theorem dX10_lot_266 : decode cX10_lot 266 = .ok (.iaload, 1) := by decide +kernel
theorem dX10_lot_267 : decode cX10_lot 267 = .ok (.aload_n 0, 1) := by decide +kernel
theorem dX10_lot_268 : decode cX10_lot 268 = .ok (.getfield 86, 3) := by decide +kernel
theorem dX10_lot_271 : decode cX10_lot 271 = .ok (.iload 9, 2) := by decide +kernel
theorem dX10_lot_273 : decode cX10_lot 273 = .ok (.iaload, 1) := by decide +kernel
theorem dX10_lot_274 : decode cX10_lot 274 = .ok (.iconst 1, 1) := by decide +kernel
theorem dX10_lot_275 : decode cX10_lot 275 = .ok (.iload 14, 2) := by decide +kernel
theorem dX10_lot_277 : decode cX10_lot 277 = .ok (.ishl, 1) := by decide +kernel
theorem dX10_lot_278 : decode cX10_lot 278 = .ok (.ior, 1) := by decide +kernel
theorem dX10_lot_279 : decode cX10_lot 279 = .ok (.aload_n 0, 1) := by decide +kernel
theorem dX10_lot_280 : decode cX10_lot 280 = .ok (.getfield 89, 3) := by decide +kernel
theorem dX10_lot_283 : decode cX10_lot 283 = .ok (.iload 9, 2) := by decide +kernel
theorem dX10_lot_285 : decode cX10_lot 285 = .ok (.iaload, 1) := by decide +kernel
theorem dX10_lot_286 : decode cX10_lot 286 = .ok (.aload_n 0, 1) := by decide +kernel
theorem dX10_lot_287 : decode cX10_lot 287 = .ok (.getfield 77, 3) := by decide +kernel
theorem dX10_lot_290 : decode cX10_lot 290 = .ok (.iload 14, 2) := by decide +kernel
theorem dX10_lot_292 : decode cX10_lot 292 = .ok (.iaload, 1) := by decide +kernel
theorem dX10_lot_293 : decode cX10_lot 293 = .ok (.iadd, 1) := by decide +kernel
theorem dX10_lot_294 : decode cX10_lot 294 = .ok (.lload 15, 2) := by decide +kernel
theorem dX10_lot_296 : decode cX10_lot 296 = .ok (.invokevirtual 316, 3) := by decide +kernel
theorem dX10_lot_299 : decode cX10_lot 299 = .ok (.iinc 14 1, 3) := by decide +kernel
theorem dX10_lot_302 : decode cX10_lot 302 = .ok (.goto (-110), 3) := by decide +kernel
theorem dX10_lot_305 : decode cX10_lot 305 = .ok (.iinc 9 1, 3) := by decide +kernel
theorem dX10_lot_308 : decode cX10_lot 308 = .ok (.goto (-241), 3) := by decide +kernel
theorem dX10_lot_311 : decode cX10_lot 311 = .ok (.iload_n 3, 1) := by decide +kernel
theorem dX10_lot_312 : decode cX10_lot 312 = .ok (.ifCond .ne 9, 3) := by decide +kernel
theorem dX10_lot_315 : decode cX10_lot 315 = .ok (.lload 4, 2) := by decide +kernel
theorem dX10_lot_317 : decode cX10_lot 317 = .ok (.l2i, 1) := by decide +kernel
theorem dX10_lot_318 : decode cX10_lot 318 = .ok (.goto 20, 3) := by decide +kernel
theorem dX10_lot_321 : decode cX10_lot 321 = .ok (.iload_n 3, 1) := by decide +kernel
theorem dX10_lot_322 : decode cX10_lot 322 = .ok (.iconst 1, 1) := by decide +kernel
theorem dX10_lot_323 : decode cX10_lot 323 = .ok (.if_icmp .ne 8, 3) := by decide +kernel
theorem dX10_lot_326 : decode cX10_lot 326 = .ok (.iload 8, 2) := by decide +kernel
theorem dX10_lot_328 : decode cX10_lot 328 = .ok (.goto 10, 3) := by decide +kernel
theorem dX10_lot_331 : decode cX10_lot 331 = .ok (.lload 6, 2) := by decide +kernel
theorem dX10_lot_333 : decode cX10_lot 333 = .ok (.ldc2_w 323, 3) := by decide +kernel
theorem dX10_lot_336 : decode cX10_lot 336 = .ok (.ldiv, 1) := by decide +kernel
theorem dX10_lot_337 : decode cX10_lot 337 = .ok (.l2i, 1) := by decide +kernel
theorem dX10_lot_338 : decode cX10_lot 338 = .ok (.ireturn, 1) := by decide +kernel
theorem dX10_say_0 : decode cX10_say 0 = .ok (.aload_n 0, 1) := by decide +kernel
theorem dX10_say_1 : decode cX10_say 1 = .ok (.iload_n 1, 1) := by decide +kernel
theorem dX10_say_2 : decode cX10_say 2 = .ok (.invokevirtual 256, 3) := by decide +kernel
theorem dX10_say_5 : decode cX10_say 5 = .ok (.ifCond .eq 11, 3) := by decide +kernel
theorem dX10_say_8 : decode cX10_say 8 = .ok (.aload_n 0, 1) := by decide +kernel
theorem dX10_say_9 : decode cX10_say 9 = .ok (.iload_n 2, 1) := by decide +kernel
theorem dX10_say_10 : decode cX10_say 10 = .ok (.invokevirtual 256, 3) := by decide +kernel
theorem dX10_say_13 : decode cX10_say 13 = .ok (.ifCond .ne 6, 3) := by decide +kernel
theorem dX10_say_16 : decode cX10_say 16 = .ok (.ldc 242, 2) := by decide +kernel
theorem dX10_say_18 : decode cX10_say 18 = .ok (.ireturn, 1) := by decide +kernel
theorem dX10_say_19 : decode cX10_say 19 = .ok (.iload_n 3, 1) := by decide +kernel
theorem dX10_say_20 : decode cX10_say 20 = .ok (.i2l, 1) := by decide +kernel
theorem dX10_say_21 : decode cX10_say 21 = .ok (.lconst 0, 1) := by decide +kernel
theorem dX10_say_22 : decode cX10_say 22 = .ok (.ldc2_w 312, 3) := by decide +kernel
theorem dX10_say_25 : decode cX10_say 25 = .ok (.invokestatic 124, 3) := by decide +kernel
theorem dX10_say_28 : decode cX10_say 28 = .ok (.ifCond .ne 6, 3) := by decide +kernel
theorem dX10_say_31 : decode cX10_say 31 = .ok (.ldc 136, 2) := by decide +kernel
theorem dX10_say_33 : decode cX10_say 33 = .ok (.ireturn, 1) := by decide +kernel
theorem dX10_say_34 : decode cX10_say 34 = .ok (.iconst (-1), 1) := by decide +kernel
theorem dX10_say_35 : decode cX10_say 35 = .ok (.istore 4, 2) := by decide +kernel
theorem dX10_say_37 : decode cX10_say 37 = .ok (.iconst 0, 1) := by decide +kernel
theorem dX10_say_38 : decode cX10_say 38 = .ok (.istore 5, 2) := by decide +kernel
theorem dX10_say_40 : decode cX10_say 40 = .ok (.iconst 0, 1) := by decide +kernel
theorem dX10_say_41 : decode cX10_say 41 = .ok (.istore 6, 2) := by decide +kernel
theorem dX10_say_43 : decode cX10_say 43 = .ok (.iload 6, 2) := by decide +kernel
theorem dX10_say_45 : decode cX10_say 45 = .ok (.aload_n 0, 1) := by decide +kernel
theorem dX10_say_46 : decode cX10_say 46 = .ok (.getfield 131, 3) := by decide +kernel
theorem dX10_say_49 : decode cX10_say 49 = .ok (.if_icmp .ge 109, 3) := by decide +kernel
theorem dX10_say_52 : decode cX10_say 52 = .ok (.iconst 0, 1) := by decide +kernel
theorem dX10_say_53 : decode cX10_say 53 = .ok (.istore 7, 2) := by decide +kernel
theorem dX10_say_55 : decode cX10_say 55 = .ok (.iload 7, 2) := by decide +kernel
theorem dX10_say_57 : decode cX10_say 57 = .ok (.aload_n 0, 1) := by decide +kernel
theorem dX10_say_58 : decode cX10_say 58 = .ok (.getfield 121, 3) := by decide +kernel
theorem dX10_say_61 : decode cX10_say 61 = .ok (.if_icmp .ge 91, 3) := by decide +kernel
theorem dX10_say_64 : decode cX10_say 64 = .ok (.aload_n 0, 1) := by decide +kernel
theorem dX10_say_65 : decode cX10_say 65 = .ok (.getfield 19, 3) := by decide +kernel
theorem dX10_say_68 : decode cX10_say 68 = .ok (.iload 6, 2) := by decide +kernel
theorem dX10_say_70 : decode cX10_say 70 = .ok (.iaload, 1) := by decide +kernel
theorem dX10_say_71 : decode cX10_say 71 = .ok (.iload_n 1, 1) := by decide +kernel
theorem dX10_say_72 : decode cX10_say 72 = .ok (.if_icmp .ne 21, 3) := by decide +kernel
theorem dX10_say_75 : decode cX10_say 75 = .ok (.iload 7, 2) := by decide +kernel
theorem dX10_say_77 : decode cX10_say 77 = .ok (.iload_n 1, 1) := by decide +kernel
theorem dX10_say_78 : decode cX10_say 78 = .ok (.if_icmp .eq 15, 3) := by decide +kernel
theorem dX10_say_81 : decode cX10_say 81 = .ok (.aload_n 0, 1) := by decide +kernel
theorem dX10_say_82 : decode cX10_say 82 = .ok (.iload 6, 2) := by decide +kernel
theorem dX10_say_84 : decode cX10_say 84 = .ok (.iload_n 1, 1) := by decide +kernel
theorem dX10_say_85 : decode cX10_say 85 = .ok (.iload 7, 2) := by decide +kernel
theorem dX10_say_87 : decode cX10_say 87 = .ok (.invokevirtual 292, 3) := by decide +kernel
theorem dX10_say_90 : decode cX10_say 90 = .ok (.goto 4, 3) := by decide +kernel
theorem dX10_say_93 : decode cX10_say 93 = .ok (.iconst 0, 1) := by decide +kernel
theorem dX10_say_94 : decode cX10_say 94 = .ok (.istore 8, 2) := by decide +kernel
theorem dX10_say_96 : decode cX10_say 96 = .ok (.iload 8, 2) := by decide +kernel
theorem dX10_say_98 : decode cX10_say 98 = .ok (.ifCond .le 48, 3) := by decide +kernel
theorem dX10_say_101 : decode cX10_say 101 = .ok (.aload_n 0, 1) := by decide +kernel
theorem dX10_say_102 : decode cX10_say 102 = .ok (.iload_n 1, 1) := by decide +kernel
theorem dX10_say_103 : decode cX10_say 103 = .ok (.iload 8, 2) := by decide +kernel
theorem dX10_say_105 : decode cX10_say 105 = .ok (.invokevirtual 274, 3) := by decide +kernel
theorem dX10_say_108 : decode cX10_say 108 = .ok (.iload_n 2, 1) := by decide +kernel
theorem dX10_say_109 : decode cX10_say 109 = .ok (.if_icmp .ne 37, 3) := by decide +kernel
theorem dX10_say_112 : decode cX10_say 112 = .ok (.iload 4, 2) := by decide +kernel
theorem dX10_say_114 : decode cX10_say 114 = .ok (.ifCond .lt 14, 3) := by decide +kernel
theorem dX10_say_117 : decode cX10_say 117 = .ok (.aload_n 0, 1) := by decide +kernel
theorem dX10_say_118 : decode cX10_say 118 = .ok (.iload 8, 2) := by decide +kernel
theorem dX10_say_120 : decode cX10_say 120 = .ok (.invokevirtual 267, 3) := by decide +kernel
theorem dX10_say_123 : decode cX10_say 123 = .ok (.iload 5, 2) := by decide +kernel
theorem dX10_say_125 : decode cX10_say 125 = .ok (.if_icmp .ge 21, 3) := by decide +kernel
theorem dX10_say_128 : decode cX10_say 128 = .ok (.bipush 10, 2) := by decide +kernel
theorem dX10_say_130 : decode cX10_say 130 = .ok (.iload 6, 2) := by decide +kernel
theorem dX10_say_132 : decode cX10_say 132 = .ok (.imul, 1) := by decide +kernel
theorem dX10_say_133 : decode cX10_say 133 = .ok (.iload 7, 2) := by decide +kernel
theorem dX10_say_135 : decode cX10_say 135 = .ok (.iadd, 1) := by decide +kernel
theorem dX10_say_136 : decode cX10_say 136 = .ok (.istore 4, 2) := by decide +kernel
theorem dX10_say_138 : decode cX10_say 138 = .ok (.aload_n 0, 1) := by decide +kernel
theorem dX10_say_139 : decode cX10_say 139 = .ok (.iload 8, 2) := by decide +kernel
theorem dX10_say_141 : decode cX10_say 141 = .ok (.invokevirtual 267, 3) := by decide +kernel
theorem dX10_say_144 : decode cX10_say 144 = .ok (.istore 5, 2) := by decide +kernel
theorem dX10_say_146 : decode cX10_say 146 = .ok (.iinc 7 1, 3) := by decide +kernel
theorem dX10_say_149 : decode cX10_say 149 = .ok (.goto (-94), 3) := by decide +kernel
theorem dX10_say_152 : decode cX10_say 152 = .ok (.iinc 6 1, 3) := by decide +kernel
theorem dX10_say_155 : decode cX10_say 155 = .ok (.goto (-112), 3) := by decide +kernel
theorem dX10_say_158 : decode cX10_say 158 = .ok (.iload 4, 2) := by decide +kernel
theorem dX10_say_160 : decode cX10_say 160 = .ok (.ifCond .ge 7, 3) := by decide +kernel
theorem dX10_say_163 : decode cX10_say 163 = .ok (.iconst (-1), 1) := by decide +kernel
theorem dX10_say_164 : decode cX10_say 164 = .ok (.goto 30, 3) := by decide +kernel
theorem dX10_say_167 : decode cX10_say 167 = .ok (.iload_n 3, 1) := by decide +kernel
theorem dX10_say_168 : decode cX10_say 168 = .ok (.ifCond .ne 11, 3) := by decide +kernel
theorem dX10_say_171 : decode cX10_say 171 = .ok (.iload 4, 2) := by decide +kernel
theorem dX10_say_173 : decode cX10_say 173 = .ok (.bipush 10, 2) := by decide +kernel
theorem dX10_say_175 : decode cX10_say 175 = .ok (.idiv, 1) := by decide +kernel
theorem dX10_say_176 : decode cX10_say 176 = .ok (.goto 18, 3) := by decide +kernel
theorem dX10_say_179 : decode cX10_say 179 = .ok (.iload_n 3, 1) := by decide +kernel
theorem dX10_say_180 : decode cX10_say 180 = .ok (.iconst 1, 1) := by decide +kernel
theorem dX10_say_181 : decode cX10_say 181 = .ok (.if_icmp .ne 11, 3) := by decide +kernel
theorem dX10_say_184 : decode cX10_say 184 = .ok (.iload 4, 2) := by decide +kernel
theorem dX10_say_186 : decode cX10_say 186 = .ok (.bipush 10, 2) := by decide +kernel
theorem dX10_say_188 : decode cX10_say 188 = .ok (.irem, 1) := by decide +kernel
theorem dX10_say_189 : decode cX10_say 189 = .ok (.goto 5, 3) := by decide +kernel
theorem dX10_say_192 : decode cX10_say 192 = .ok (.iload 5, 2) := by decide +kernel
theorem dX10_say_194 : decode cX10_say 194 = .ok (.ireturn, 1) := by decide +kernel
theorem dX10_teach_0 : decode cX10_teach 0 = .ok (.iconst 1, 1) := by decide +kernel
theorem dX10_teach_1 : decode cX10_teach 1 = .ok (.iload_n 1, 1) := by decide +kernel
theorem dX10_teach_2 : decode cX10_teach 2 = .ok (.bipush 14, 2) := by decide +kernel
theorem dX10_teach_4 : decode cX10_teach 4 = .ok (.irem, 1) := by decide +kernel
theorem dX10_teach_5 : decode cX10_teach 5 = .ok (.ishl, 1) := by decide +kernel
theorem dX10_teach_6 : decode cX10_teach 6 = .ok (.istore_n 3, 1) := by decide +kernel
theorem dX10_teach_7 : decode cX10_teach 7 = .ok (.aload_n 0, 1) := by decide +kernel
theorem dX10_teach_8 : decode cX10_teach 8 = .ok (.getfield 31, 3) := by decide +kernel
theorem dX10_teach_11 : decode cX10_teach 11 = .ok (.iload_n 1, 1) := by decide +kernel
theorem dX10_teach_12 : decode cX10_teach 12 = .ok (.bipush 14, 2) := by decide +kernel
theorem dX10_teach_14 : decode cX10_teach 14 = .ok (.idiv, 1) := by decide +kernel
theorem dX10_teach_15 : decode cX10_teach 15 = .ok (.iload_n 2, 1) := by decide +kernel
theorem dX10_teach_16 : decode cX10_teach 16 = .ok (.ifCond .eq 17, 3) := by decide +kernel
theorem dX10_teach_19 : decode cX10_teach 19 = .ok (.aload_n 0, 1) := by decide +kernel
theorem dX10_teach_20 : decode cX10_teach 20 = .ok (.getfield 31, 3) := by decide +kernel
theorem dX10_teach_23 : decode cX10_teach 23 = .ok (.iload_n 1, 1) := by decide +kernel
theorem dX10_teach_24 : decode cX10_teach 24 = .ok (.bipush 14, 2) := by decide +kernel
theorem dX10_teach_26 : decode cX10_teach 26 = .ok (.idiv, 1) := by decide +kernel
theorem dX10_teach_27 : decode cX10_teach 27 = .ok (.iaload, 1) := by decide +kernel
theorem dX10_teach_28 : decode cX10_teach 28 = .ok (.iload_n 3, 1) := by decide +kernel
theorem dX10_teach_29 : decode cX10_teach 29 = .ok (.ior, 1) := by decide +kernel
theorem dX10_teach_30 : decode cX10_teach 30 = .ok (.goto 16, 3) := by decide +kernel
theorem dX10_teach_33 : decode cX10_teach 33 = .ok (.aload_n 0, 1) := by decide +kernel
theorem dX10_teach_34 : decode cX10_teach 34 = .ok (.getfield 31, 3) := by decide +kernel
theorem dX10_teach_37 : decode cX10_teach 37 = .ok (.iload_n 1, 1) := by decide +kernel
theorem dX10_teach_38 : decode cX10_teach 38 = .ok (.bipush 14, 2) := by decide +kernel
theorem dX10_teach_40 : decode cX10_teach 40 = .ok (.idiv, 1) := by decide +kernel
theorem dX10_teach_41 : decode cX10_teach 41 = .ok (.iaload, 1) := by decide +kernel
theorem dX10_teach_42 : decode cX10_teach 42 = .ok (.iload_n 3, 1) := by decide +kernel
theorem dX10_teach_43 : decode cX10_teach 43 = .ok (.iconst (-1), 1) := by decide +kernel
theorem dX10_teach_44 : decode cX10_teach 44 = .ok (.ixor, 1) := by decide +kernel
theorem dX10_teach_45 : decode cX10_teach 45 = .ok (.iand, 1) := by decide +kernel
theorem dX10_teach_46 : decode cX10_teach 46 = .ok (.iastore, 1) := by decide +kernel
theorem dX10_teach_47 : decode cX10_teach 47 = .ok (.return_, 1) := by decide +kernel
theorem dX10_isOpen_0 : decode cX10_isOpen 0 = .ok (.iload_n 1, 1) := by decide +kernel
theorem dX10_isOpen_1 : decode cX10_isOpen 1 = .ok (.bipush 14, 2) := by decide +kernel
theorem dX10_isOpen_3 : decode cX10_isOpen 3 = .ok (.idiv, 1) := by decide +kernel
theorem dX10_isOpen_4 : decode cX10_isOpen 4 = .ok (.aload_n 0, 1) := by decide +kernel
theorem dX10_isOpen_5 : decode cX10_isOpen 5 = .ok (.getfield 131, 3) := by decide +kernel
theorem dX10_isOpen_8 : decode cX10_isOpen 8 = .ok (.if_icmp .ge 37, 3) := by decide +kernel
theorem dX10_isOpen_11 : decode cX10_isOpen 11 = .ok (.iload_n 1, 1) := by decide +kernel
theorem dX10_isOpen_12 : decode cX10_isOpen 12 = .ok (.bipush 14, 2) := by decide +kernel
theorem dX10_isOpen_14 : decode cX10_isOpen 14 = .ok (.irem, 1) := by decide +kernel
theorem dX10_isOpen_15 : decode cX10_isOpen 15 = .ok (.aload_n 0, 1) := by decide +kernel
theorem dX10_isOpen_16 : decode cX10_isOpen 16 = .ok (.getfield 128, 3) := by decide +kernel
theorem dX10_isOpen_19 : decode cX10_isOpen 19 = .ok (.if_icmp .ge 26, 3) := by decide +kernel
theorem dX10_isOpen_22 : decode cX10_isOpen 22 = .ok (.aload_n 0, 1) := by decide +kernel
theorem dX10_isOpen_23 : decode cX10_isOpen 23 = .ok (.getfield 31, 3) := by decide +kernel
theorem dX10_isOpen_26 : decode cX10_isOpen 26 = .ok (.iload_n 1, 1) := by decide +kernel
theorem dX10_isOpen_27 : decode cX10_isOpen 27 = .ok (.bipush 14, 2) := by decide +kernel
theorem dX10_isOpen_29 : decode cX10_isOpen 29 = .ok (.idiv, 1) := by decide +kernel
theorem dX10_isOpen_30 : decode cX10_isOpen 30 = .ok (.iaload, 1) := by decide +kernel
theorem dX10_isOpen_31 : decode cX10_isOpen 31 = .ok (.iload_n 1, 1) := by decide +kernel
theorem dX10_isOpen_32 : decode cX10_isOpen 32 = .ok (.bipush 14, 2) := by decide +kernel
theorem dX10_isOpen_34 : decode cX10_isOpen 34 = .ok (.irem, 1) := by decide +kernel
theorem dX10_isOpen_35 : decode cX10_isOpen 35 = .ok (.invokestatic 210, 3) := by decide +kernel
theorem dX10_isOpen_38 : decode cX10_isOpen 38 = .ok (.ifCond .ne 7, 3) := by decide +kernel
theorem dX10_isOpen_41 : decode cX10_isOpen 41 = .ok (.iconst 1, 1) := by decide +kernel
theorem dX10_isOpen_42 : decode cX10_isOpen 42 = .ok (.goto 4, 3) := by decide +kernel
theorem dX10_isOpen_45 : decode cX10_isOpen 45 = .ok (.iconst 0, 1) := by decide +kernel
theorem dX10_isOpen_46 : decode cX10_isOpen 46 = .ok (.ireturn, 1) := by decide +kernel
theorem dX10_isSoon_0 : decode cX10_isSoon 0 = .ok (.aload_n 0, 1) := by decide +kernel
theorem dX10_isSoon_1 : decode cX10_isSoon 1 = .ok (.iload_n 1, 1) := by decide +kernel
theorem dX10_isSoon_2 : decode cX10_isSoon 2 = .ok (.iload_n 2, 1) := by decide +kernel
theorem dX10_isSoon_3 : decode cX10_isSoon 3 = .ok (.invokevirtual 306, 3) := by decide +kernel
theorem dX10_isSoon_6 : decode cX10_isSoon 6 = .ok (.i2l, 1) := by decide +kernel
theorem dX10_isSoon_7 : decode cX10_isSoon 7 = .ok (.lconst 0, 1) := by decide +kernel
theorem dX10_isSoon_8 : decode cX10_isSoon 8 = .ok (.iload_n 3, 1) := by decide +kernel
theorem dX10_isSoon_9 : decode cX10_isSoon 9 = .ok (.i2l, 1) := by decide +kernel
theorem dX10_isSoon_10 : decode cX10_isSoon 10 = .ok (.invokestatic 124, 3) := by decide +kernel
theorem dX10_isSoon_13 : decode cX10_isSoon 13 = .ok (.ireturn, 1) := by decide +kernel
theorem dX10_findLearnt_0 : decode cX10_findLearnt 0 = .ok (.aload_n 0, 1) := by decide +kernel
theorem dX10_findLearnt_1 : decode cX10_findLearnt 1 = .ok (.iconst (-1), 1) := by decide +kernel
theorem dX10_findLearnt_2 : decode cX10_findLearnt 2 = .ok (.putfield 325, 3) := by decide +kernel
theorem dX10_findLearnt_5 : decode cX10_findLearnt 5 = .ok (.aload_n 0, 1) := by decide +kernel
theorem dX10_findLearnt_6 : decode cX10_findLearnt 6 = .ok (.iconst (-1), 1) := by decide +kernel
theorem dX10_findLearnt_7 : decode cX10_findLearnt 7 = .ok (.putfield 328, 3) := by decide +kernel
theorem dX10_findLearnt_10 : decode cX10_findLearnt 10 = .ok (.aload_n 0, 1) := by decide +kernel
theorem dX10_findLearnt_11 : decode cX10_findLearnt 11 = .ok (.iload_n 1, 1) := by decide +kernel
theorem dX10_findLearnt_12 : decode cX10_findLearnt 12 = .ok (.iload_n 2, 1) := by decide +kernel
theorem dX10_findLearnt_13 : decode cX10_findLearnt 13 = .ok (.iload_n 3, 1) := by decide +kernel
theorem dX10_findLearnt_14 : decode cX10_findLearnt 14 = .ok (.invokevirtual 331, 3) := by decide +kernel
theorem dX10_findLearnt_17 : decode cX10_findLearnt 17 = .ok (.ifCond .eq 5, 3) := by decide +kernel
theorem dX10_findLearnt_20 : decode cX10_findLearnt 20 = .ok (.iconst 0, 1) := by decide +kernel
theorem dX10_findLearnt_21 : decode cX10_findLearnt 21 = .ok (.ireturn, 1) := by decide +kernel
theorem dX10_findLearnt_22 : decode cX10_findLearnt 22 = .ok (.bipush 84, 2) := by decide +kernel
theorem dX10_findLearnt_24 : decode cX10_findLearnt 24 = .ok (.istore 4, 2) := by decide +kernel
theorem dX10_findLearnt_26 : decode cX10_findLearnt 26 = .ok (.iconst 0, 1) := by decide +kernel
theorem dX10_findLearnt_27 : decode cX10_findLearnt 27 = .ok (.istore 5, 2) := by decide +kernel
theorem dX10_findLearnt_29 : decode cX10_findLearnt 29 = .ok (.iload 5, 2) := by decide +kernel
theorem dX10_findLearnt_31 : decode cX10_findLearnt 31 = .ok (.iload 4, 2) := by decide +kernel
theorem dX10_findLearnt_33 : decode cX10_findLearnt 33 = .ok (.if_icmp .ge 54, 3) := by decide +kernel
theorem dX10_findLearnt_36 : decode cX10_findLearnt 36 = .ok (.aload_n 0, 1) := by decide +kernel
theorem dX10_findLearnt_37 : decode cX10_findLearnt 37 = .ok (.iload 5, 2) := by decide +kernel
theorem dX10_findLearnt_39 : decode cX10_findLearnt 39 = .ok (.invokevirtual 334, 3) := by decide +kernel
theorem dX10_findLearnt_42 : decode cX10_findLearnt 42 = .ok (.ifCond .eq 39, 3) := by decide +kernel
theorem dX10_findLearnt_45 : decode cX10_findLearnt 45 = .ok (.aload_n 0, 1) := by decide +kernel
theorem dX10_findLearnt_46 : decode cX10_findLearnt 46 = .ok (.iload 5, 2) := by decide +kernel
theorem dX10_findLearnt_48 : decode cX10_findLearnt 48 = .ok (.iconst 1, 1) := by decide +kernel
theorem dX10_findLearnt_49 : decode cX10_findLearnt 49 = .ok (.invokevirtual 337, 3) := by decide +kernel
theorem dX10_findLearnt_52 : decode cX10_findLearnt 52 = .ok (.aload_n 0, 1) := by decide +kernel
theorem dX10_findLearnt_53 : decode cX10_findLearnt 53 = .ok (.iload_n 1, 1) := by decide +kernel
theorem dX10_findLearnt_54 : decode cX10_findLearnt 54 = .ok (.iload_n 2, 1) := by decide +kernel
theorem dX10_findLearnt_55 : decode cX10_findLearnt 55 = .ok (.iload_n 3, 1) := by decide +kernel
theorem dX10_findLearnt_56 : decode cX10_findLearnt 56 = .ok (.invokevirtual 331, 3) := by decide +kernel
theorem dX10_findLearnt_59 : decode cX10_findLearnt 59 = .ok (.istore 6, 2) := by decide +kernel
theorem dX10_findLearnt_61 : decode cX10_findLearnt 61 = .ok (.aload_n 0, 1) := by decide +kernel
theorem dX10_findLearnt_62 : decode cX10_findLearnt 62 = .ok (.iload 5, 2) := by decide +kernel
theorem dX10_findLearnt_64 : decode cX10_findLearnt 64 = .ok (.iconst 0, 1) := by decide +kernel
theorem dX10_findLearnt_65 : decode cX10_findLearnt 65 = .ok (.invokevirtual 337, 3) := by decide +kernel
theorem dX10_findLearnt_68 : decode cX10_findLearnt 68 = .ok (.iload 6, 2) := by decide +kernel
theorem dX10_findLearnt_70 : decode cX10_findLearnt 70 = .ok (.ifCond .eq 11, 3) := by decide +kernel
theorem dX10_findLearnt_73 : decode cX10_findLearnt 73 = .ok (.aload_n 0, 1) := by decide +kernel
theorem dX10_findLearnt_74 : decode cX10_findLearnt 74 = .ok (.iload 5, 2) := by decide +kernel
theorem dX10_findLearnt_76 : decode cX10_findLearnt 76 = .ok (.putfield 325, 3) := by decide +kernel
theorem dX10_findLearnt_79 : decode cX10_findLearnt 79 = .ok (.iconst 1, 1) := by decide +kernel
theorem dX10_findLearnt_80 : decode cX10_findLearnt 80 = .ok (.ireturn, 1) := by decide +kernel
theorem dX10_findLearnt_81 : decode cX10_findLearnt 81 = .ok (.iinc 5 1, 3) := by decide +kernel
theorem dX10_findLearnt_84 : decode cX10_findLearnt 84 = .ok (.goto (-55), 3) := by decide +kernel
theorem dX10_findLearnt_87 : decode cX10_findLearnt 87 = .ok (.iconst 0, 1) := by decide +kernel
theorem dX10_findLearnt_88 : decode cX10_findLearnt 88 = .ok (.istore 5, 2) := by decide +kernel
theorem dX10_findLearnt_90 : decode cX10_findLearnt 90 = .ok (.iload 5, 2) := by decide +kernel
theorem dX10_findLearnt_92 : decode cX10_findLearnt 92 = .ok (.iload 4, 2) := by decide +kernel
theorem dX10_findLearnt_94 : decode cX10_findLearnt 94 = .ok (.iload 4, 2) := by decide +kernel
theorem dX10_findLearnt_96 : decode cX10_findLearnt 96 = .ok (.imul, 1) := by decide +kernel
theorem dX10_findLearnt_97 : decode cX10_findLearnt 97 = .ok (.if_icmp .ge 104, 3) := by decide +kernel
theorem dX10_findLearnt_100 : decode cX10_findLearnt 100 = .ok (.iload 5, 2) := by decide +kernel
theorem dX10_findLearnt_102 : decode cX10_findLearnt 102 = .ok (.iload 4, 2) := by decide +kernel
theorem dX10_findLearnt_104 : decode cX10_findLearnt 104 = .ok (.idiv, 1) := by decide +kernel
theorem dX10_findLearnt_105 : decode cX10_findLearnt 105 = .ok (.istore 6, 2) := by decide +kernel
theorem dX10_findLearnt_107 : decode cX10_findLearnt 107 = .ok (.iload 5, 2) := by decide +kernel
theorem dX10_findLearnt_109 : decode cX10_findLearnt 109 = .ok (.iload 4, 2) := by decide +kernel
theorem dX10_findLearnt_111 : decode cX10_findLearnt 111 = .ok (.irem, 1) := by decide +kernel
theorem dX10_findLearnt_112 : decode cX10_findLearnt 112 = .ok (.istore 7, 2) := by decide +kernel
theorem dX10_findLearnt_114 : decode cX10_findLearnt 114 = .ok (.iload 6, 2) := by decide +kernel
theorem dX10_findLearnt_116 : decode cX10_findLearnt 116 = .ok (.iload 7, 2) := by decide +kernel
theorem dX10_findLearnt_118 : decode cX10_findLearnt 118 = .ok (.if_icmp .ge 77, 3) := by decide +kernel
theorem dX10_findLearnt_121 : decode cX10_findLearnt 121 = .ok (.aload_n 0, 1) := by decide +kernel
theorem dX10_findLearnt_122 : decode cX10_findLearnt 122 = .ok (.iload 6, 2) := by decide +kernel
theorem dX10_findLearnt_124 : decode cX10_findLearnt 124 = .ok (.invokevirtual 334, 3) := by decide +kernel
theorem dX10_findLearnt_127 : decode cX10_findLearnt 127 = .ok (.ifCond .eq 68, 3) := by decide +kernel
theorem dX10_findLearnt_130 : decode cX10_findLearnt 130 = .ok (.aload_n 0, 1) := by decide +kernel
theorem dX10_findLearnt_131 : decode cX10_findLearnt 131 = .ok (.iload 7, 2) := by decide +kernel
theorem dX10_findLearnt_133 : decode cX10_findLearnt 133 = .ok (.invokevirtual 334, 3) := by decide +kernel
theorem dX10_findLearnt_136 : decode cX10_findLearnt 136 = .ok (.ifCond .eq 59, 3) := by decide +kernel
theorem dX10_findLearnt_139 : decode cX10_findLearnt 139 = .ok (.aload_n 0, 1) := by decide +kernel
theorem dX10_findLearnt_140 : decode cX10_findLearnt 140 = .ok (.iload 6, 2) := by decide +kernel
theorem dX10_findLearnt_142 : decode cX10_findLearnt 142 = .ok (.iconst 1, 1) := by decide +kernel
theorem dX10_findLearnt_143 : decode cX10_findLearnt 143 = .ok (.invokevirtual 337, 3) := by decide +kernel
theorem dX10_findLearnt_146 : decode cX10_findLearnt 146 = .ok (.aload_n 0, 1) := by decide +kernel
theorem dX10_findLearnt_147 : decode cX10_findLearnt 147 = .ok (.iload 7, 2) := by decide +kernel
theorem dX10_findLearnt_149 : decode cX10_findLearnt 149 = .ok (.iconst 1, 1) := by decide +kernel
theorem dX10_findLearnt_150 : decode cX10_findLearnt 150 = .ok (.invokevirtual 337, 3) := by decide +kernel
theorem dX10_findLearnt_153 : decode cX10_findLearnt 153 = .ok (.aload_n 0, 1) := by decide +kernel
theorem dX10_findLearnt_154 : decode cX10_findLearnt 154 = .ok (.iload_n 1, 1) := by decide +kernel
theorem dX10_findLearnt_155 : decode cX10_findLearnt 155 = .ok (.iload_n 2, 1) := by decide +kernel
theorem dX10_findLearnt_156 : decode cX10_findLearnt 156 = .ok (.iload_n 3, 1) := by decide +kernel
theorem dX10_findLearnt_157 : decode cX10_findLearnt 157 = .ok (.invokevirtual 331, 3) := by decide +kernel
theorem dX10_findLearnt_160 : decode cX10_findLearnt 160 = .ok (.istore 8, 2) := by decide +kernel
theorem dX10_findLearnt_162 : decode cX10_findLearnt 162 = .ok (.aload_n 0, 1) := by decide +kernel
theorem dX10_findLearnt_163 : decode cX10_findLearnt 163 = .ok (.iload 6, 2) := by decide +kernel
theorem dX10_findLearnt_165 : decode cX10_findLearnt 165 = .ok (.iconst 0, 1) := by decide +kernel
theorem dX10_findLearnt_166 : decode cX10_findLearnt 166 = .ok (.invokevirtual 337, 3) := by decide +kernel
theorem dX10_findLearnt_169 : decode cX10_findLearnt 169 = .ok (.aload_n 0, 1) := by decide +kernel
theorem dX10_findLearnt_170 : decode cX10_findLearnt 170 = .ok (.iload 7, 2) := by decide +kernel
theorem dX10_findLearnt_172 : decode cX10_findLearnt 172 = .ok (.iconst 0, 1) := by decide +kernel
theorem dX10_findLearnt_173 : decode cX10_findLearnt 173 = .ok (.invokevirtual 337, 3) := by decide +kernel
theorem dX10_findLearnt_176 : decode cX10_findLearnt 176 = .ok (.iload 8, 2) := by decide +kernel
theorem dX10_findLearnt_178 : decode cX10_findLearnt 178 = .ok (.ifCond .eq 17, 3) := by decide +kernel
theorem dX10_findLearnt_181 : decode cX10_findLearnt 181 = .ok (.aload_n 0, 1) := by decide +kernel
theorem dX10_findLearnt_182 : decode cX10_findLearnt 182 = .ok (.iload 6, 2) := by decide +kernel
theorem dX10_findLearnt_184 : decode cX10_findLearnt 184 = .ok (.putfield 325, 3) := by decide +kernel
theorem dX10_findLearnt_187 : decode cX10_findLearnt 187 = .ok (.aload_n 0, 1) := by decide +kernel
theorem dX10_findLearnt_188 : decode cX10_findLearnt 188 = .ok (.iload 7, 2) := by decide +kernel
theorem dX10_findLearnt_190 : decode cX10_findLearnt 190 = .ok (.putfield 328, 3) := by decide +kernel
theorem dX10_findLearnt_193 : decode cX10_findLearnt 193 = .ok (.iconst 2, 1) := by decide +kernel
theorem dX10_findLearnt_194 : decode cX10_findLearnt 194 = .ok (.ireturn, 1) := by decide +kernel
theorem dX10_findLearnt_195 : decode cX10_findLearnt 195 = .ok (.iinc 5 1, 3) := by decide +kernel
theorem dX10_findLearnt_198 : decode cX10_findLearnt 198 = .ok (.goto (-108), 3) := by decide +kernel
theorem dX10_findLearnt_201 : decode cX10_findLearnt 201 = .ok (.iconst (-1), 1) := by decide +kernel
theorem dX10_findLearnt_202 : decode cX10_findLearnt 202 = .ok (.ireturn, 1) := by decide +kernel
theorem dX10_learnt_0 : decode cX10_learnt 0 = .ok (.aload_n 0, 1) := by decide +kernel
theorem dX10_learnt_1 : decode cX10_learnt 1 = .ok (.iload_n 1, 1) := by decide +kernel
theorem dX10_learnt_2 : decode cX10_learnt 2 = .ok (.invokevirtual 256, 3) := by decide +kernel
theorem dX10_learnt_5 : decode cX10_learnt 5 = .ok (.ifCond .eq 11, 3) := by decide +kernel
theorem dX10_learnt_8 : decode cX10_learnt 8 = .ok (.aload_n 0, 1) := by decide +kernel
theorem dX10_learnt_9 : decode cX10_learnt 9 = .ok (.iload_n 2, 1) := by decide +kernel
theorem dX10_learnt_10 : decode cX10_learnt 10 = .ok (.invokevirtual 256, 3) := by decide +kernel
theorem dX10_learnt_13 : decode cX10_learnt 13 = .ok (.ifCond .ne 6, 3) := by decide +kernel
theorem dX10_learnt_16 : decode cX10_learnt 16 = .ok (.ldc 242, 2) := by decide +kernel
theorem dX10_learnt_18 : decode cX10_learnt 18 = .ok (.ireturn, 1) := by decide +kernel
theorem dX10_learnt_19 : decode cX10_learnt 19 = .ok (.iload_n 3, 1) := by decide +kernel
theorem dX10_learnt_20 : decode cX10_learnt 20 = .ok (.i2l, 1) := by decide +kernel
theorem dX10_learnt_21 : decode cX10_learnt 21 = .ok (.lconst 0, 1) := by decide +kernel
theorem dX10_learnt_22 : decode cX10_learnt 22 = .ok (.ldc2_w 340, 3) := by decide +kernel
theorem dX10_learnt_25 : decode cX10_learnt 25 = .ok (.invokestatic 124, 3) := by decide +kernel
theorem dX10_learnt_28 : decode cX10_learnt 28 = .ok (.ifCond .eq 16, 3) := by decide +kernel
theorem dX10_learnt_31 : decode cX10_learnt 31 = .ok (.iload 4, 2) := by decide +kernel
theorem dX10_learnt_33 : decode cX10_learnt 33 = .ok (.i2l, 1) := by decide +kernel
theorem dX10_learnt_34 : decode cX10_learnt 34 = .ok (.lconst 0, 1) := by decide +kernel
theorem dX10_learnt_35 : decode cX10_learnt 35 = .ok (.ldc2_w 342, 3) := by decide +kernel
theorem dX10_learnt_38 : decode cX10_learnt 38 = .ok (.invokestatic 124, 3) := by decide +kernel
theorem dX10_learnt_41 : decode cX10_learnt 41 = .ok (.ifCond .ne 6, 3) := by decide +kernel
theorem dX10_learnt_44 : decode cX10_learnt 44 = .ok (.ldc 136, 2) := by decide +kernel
theorem dX10_learnt_46 : decode cX10_learnt 46 = .ok (.ireturn, 1) := by decide +kernel
theorem dX10_learnt_47 : decode cX10_learnt 47 = .ok (.aload_n 0, 1) := by decide +kernel
theorem dX10_learnt_48 : decode cX10_learnt 48 = .ok (.iload_n 1, 1) := by decide +kernel
theorem dX10_learnt_49 : decode cX10_learnt 49 = .ok (.iload_n 2, 1) := by decide +kernel
theorem dX10_learnt_50 : decode cX10_learnt 50 = .ok (.iload_n 3, 1) := by decide +kernel
theorem dX10_learnt_51 : decode cX10_learnt 51 = .ok (.invokevirtual 344, 3) := by decide +kernel
theorem dX10_learnt_54 : decode cX10_learnt 54 = .ok (.istore 5, 2) := by decide +kernel
theorem dX10_learnt_56 : decode cX10_learnt 56 = .ok (.iload 4, 2) := by decide +kernel
theorem dX10_learnt_58 : decode cX10_learnt 58 = .ok (.iconst 3, 1) := by decide +kernel
theorem dX10_learnt_59 : decode cX10_learnt 59 = .ok (.if_icmp .ge 10, 3) := by decide +kernel
theorem dX10_learnt_62 : decode cX10_learnt 62 = .ok (.aload_n 0, 1) := by decide +kernel
theorem dX10_learnt_63 : decode cX10_learnt 63 = .ok (.getfield 325, 3) := by decide +kernel
theorem dX10_learnt_66 : decode cX10_learnt 66 = .ok (.goto 7, 3) := by decide +kernel
theorem dX10_learnt_69 : decode cX10_learnt 69 = .ok (.aload_n 0, 1) := by decide +kernel
theorem dX10_learnt_70 : decode cX10_learnt 70 = .ok (.getfield 328, 3) := by decide +kernel
theorem dX10_learnt_73 : decode cX10_learnt 73 = .ok (.istore 6, 2) := by decide +kernel
theorem dX10_learnt_75 : decode cX10_learnt 75 = .ok (.iload 4, 2) := by decide +kernel
theorem dX10_learnt_77 : decode cX10_learnt 77 = .ok (.ifCond .ne 8, 3) := by decide +kernel
theorem dX10_learnt_80 : decode cX10_learnt 80 = .ok (.iload 5, 2) := by decide +kernel
theorem dX10_learnt_82 : decode cX10_learnt 82 = .ok (.goto 33, 3) := by decide +kernel
theorem dX10_learnt_85 : decode cX10_learnt 85 = .ok (.iload 6, 2) := by decide +kernel
theorem dX10_learnt_87 : decode cX10_learnt 87 = .ok (.ifCond .ge 7, 3) := by decide +kernel
theorem dX10_learnt_90 : decode cX10_learnt 90 = .ok (.iconst (-1), 1) := by decide +kernel
theorem dX10_learnt_91 : decode cX10_learnt 91 = .ok (.goto 24, 3) := by decide +kernel
theorem dX10_learnt_94 : decode cX10_learnt 94 = .ok (.iload 4, 2) := by decide +kernel
theorem dX10_learnt_96 : decode cX10_learnt 96 = .ok (.iconst 2, 1) := by decide +kernel
theorem dX10_learnt_97 : decode cX10_learnt 97 = .ok (.irem, 1) := by decide +kernel
theorem dX10_learnt_98 : decode cX10_learnt 98 = .ok (.iconst 1, 1) := by decide +kernel
theorem dX10_learnt_99 : decode cX10_learnt 99 = .ok (.if_icmp .ne 11, 3) := by decide +kernel
theorem dX10_learnt_102 : decode cX10_learnt 102 = .ok (.iload 6, 2) := by decide +kernel
theorem dX10_learnt_104 : decode cX10_learnt 104 = .ok (.bipush 14, 2) := by decide +kernel
theorem dX10_learnt_106 : decode cX10_learnt 106 = .ok (.idiv, 1) := by decide +kernel
theorem dX10_learnt_107 : decode cX10_learnt 107 = .ok (.goto 8, 3) := by decide +kernel
theorem dX10_learnt_110 : decode cX10_learnt 110 = .ok (.iload 6, 2) := by decide +kernel
theorem dX10_learnt_112 : decode cX10_learnt 112 = .ok (.bipush 14, 2) := by decide +kernel
theorem dX10_learnt_114 : decode cX10_learnt 114 = .ok (.irem, 1) := by decide +kernel
theorem dX10_learnt_115 : decode cX10_learnt 115 = .ok (.ireturn, 1) := by decide +kernel
theorem dX10_missingOf_0 : decode cX10_missingOf 0 = .ok (.iconst 0, 1) := by decide +kernel
theorem dX10_missingOf_1 : decode cX10_missingOf 1 = .ok (.istore_n 3, 1) := by decide +kernel
theorem dX10_missingOf_2 : decode cX10_missingOf 2 = .ok (.iconst 0, 1) := by decide +kernel
theorem dX10_missingOf_3 : decode cX10_missingOf 3 = .ok (.istore 4, 2) := by decide +kernel
theorem dX10_missingOf_5 : decode cX10_missingOf 5 = .ok (.iload 4, 2) := by decide +kernel
theorem dX10_missingOf_7 : decode cX10_missingOf 7 = .ok (.aload_n 0, 1) := by decide +kernel
theorem dX10_missingOf_8 : decode cX10_missingOf 8 = .ok (.getfield 121, 3) := by decide +kernel
theorem dX10_missingOf_11 : decode cX10_missingOf 11 = .ok (.if_icmp .ge 55, 3) := by decide +kernel
theorem dX10_missingOf_14 : decode cX10_missingOf 14 = .ok (.aload_n 0, 1) := by decide +kernel
theorem dX10_missingOf_15 : decode cX10_missingOf 15 = .ok (.aload_n 0, 1) := by decide +kernel
theorem dX10_missingOf_16 : decode cX10_missingOf 16 = .ok (.getfield 31, 3) := by decide +kernel
theorem dX10_missingOf_19 : decode cX10_missingOf 19 = .ok (.iload_n 1, 1) := by decide +kernel
theorem dX10_missingOf_20 : decode cX10_missingOf 20 = .ok (.iaload, 1) := by decide +kernel
theorem dX10_missingOf_21 : decode cX10_missingOf 21 = .ok (.aload_n 0, 1) := by decide +kernel
theorem dX10_missingOf_22 : decode cX10_missingOf 22 = .ok (.getfield 19, 3) := by decide +kernel
theorem dX10_missingOf_25 : decode cX10_missingOf 25 = .ok (.iload_n 1, 1) := by decide +kernel
theorem dX10_missingOf_26 : decode cX10_missingOf 26 = .ok (.iaload, 1) := by decide +kernel
theorem dX10_missingOf_27 : decode cX10_missingOf 27 = .ok (.iload 4, 2) := by decide +kernel
theorem dX10_missingOf_29 : decode cX10_missingOf 29 = .ok (.invokevirtual 263, 3) := by decide +kernel
theorem dX10_missingOf_32 : decode cX10_missingOf 32 = .ok (.istore 5, 2) := by decide +kernel
theorem dX10_missingOf_34 : decode cX10_missingOf 34 = .ok (.iload_n 3, 1) := by decide +kernel
theorem dX10_missingOf_35 : decode cX10_missingOf 35 = .ok (.iload 5, 2) := by decide +kernel
theorem dX10_missingOf_37 : decode cX10_missingOf 37 = .ok (.ifCond .le 20, 3) := by decide +kernel
theorem dX10_missingOf_40 : decode cX10_missingOf 40 = .ok (.aload_n 0, 1) := by decide +kernel
theorem dX10_missingOf_41 : decode cX10_missingOf 41 = .ok (.iload 5, 2) := by decide +kernel
theorem dX10_missingOf_43 : decode cX10_missingOf 43 = .ok (.invokevirtual 283, 3) := by decide +kernel
theorem dX10_missingOf_46 : decode cX10_missingOf 46 = .ok (.iload_n 2, 1) := by decide +kernel
theorem dX10_missingOf_47 : decode cX10_missingOf 47 = .ok (.if_icmp .ne 10, 3) := by decide +kernel
theorem dX10_missingOf_50 : decode cX10_missingOf 50 = .ok (.iconst 1, 1) := by decide +kernel
theorem dX10_missingOf_51 : decode cX10_missingOf 51 = .ok (.iload 4, 2) := by decide +kernel
theorem dX10_missingOf_53 : decode cX10_missingOf 53 = .ok (.ishl, 1) := by decide +kernel
theorem dX10_missingOf_54 : decode cX10_missingOf 54 = .ok (.goto 4, 3) := by decide +kernel
theorem dX10_missingOf_57 : decode cX10_missingOf 57 = .ok (.iconst 0, 1) := by decide +kernel
theorem dX10_missingOf_58 : decode cX10_missingOf 58 = .ok (.ior, 1) := by decide +kernel
theorem dX10_missingOf_59 : decode cX10_missingOf 59 = .ok (.istore_n 3, 1) := by decide +kernel
theorem dX10_missingOf_60 : decode cX10_missingOf 60 = .ok (.iinc 4 1, 3) := by decide +kernel
theorem dX10_missingOf_63 : decode cX10_missingOf 63 = .ok (.goto (-58), 3) := by decide +kernel
theorem dX10_missingOf_66 : decode cX10_missingOf 66 = .ok (.iload_n 3, 1) := by decide +kernel
theorem dX10_missingOf_67 : decode cX10_missingOf 67 = .ok (.ireturn, 1) := by decide +kernel
theorem dX10_missing_0 : decode cX10_missing 0 = .ok (.aload_n 0, 1) := by decide +kernel
theorem dX10_missing_1 : decode cX10_missing 1 = .ok (.iload_n 1, 1) := by decide +kernel
theorem dX10_missing_2 : decode cX10_missing 2 = .ok (.invokevirtual 243, 3) := by decide +kernel
theorem dX10_missing_5 : decode cX10_missing 5 = .ok (.ifCond .ne 6, 3) := by decide +kernel
theorem dX10_missing_8 : decode cX10_missing 8 = .ok (.ldc 242, 2) := by decide +kernel
theorem dX10_missing_10 : decode cX10_missing 10 = .ok (.ireturn, 1) := by decide +kernel
theorem dX10_missing_11 : decode cX10_missing 11 = .ok (.iload_n 2, 1) := by decide +kernel
theorem dX10_missing_12 : decode cX10_missing 12 = .ok (.i2l, 1) := by decide +kernel
theorem dX10_missing_13 : decode cX10_missing 13 = .ok (.lconst 0, 1) := by decide +kernel
theorem dX10_missing_14 : decode cX10_missing 14 = .ok (.ldc2_w 340, 3) := by decide +kernel
theorem dX10_missing_17 : decode cX10_missing 17 = .ok (.invokestatic 124, 3) := by decide +kernel
theorem dX10_missing_20 : decode cX10_missing 20 = .ok (.ifCond .eq 12, 3) := by decide +kernel
theorem dX10_missing_23 : decode cX10_missing 23 = .ok (.aload_n 0, 1) := by decide +kernel
theorem dX10_missing_24 : decode cX10_missing 24 = .ok (.iload_n 1, 1) := by decide +kernel
theorem dX10_missing_25 : decode cX10_missing 25 = .ok (.iload_n 2, 1) := by decide +kernel
theorem dX10_missing_26 : decode cX10_missing 26 = .ok (.invokevirtual 347, 3) := by decide +kernel
theorem dX10_missing_29 : decode cX10_missing 29 = .ok (.goto 5, 3) := by decide +kernel
theorem dX10_missing_32 : decode cX10_missing 32 = .ok (.ldc 136, 2) := by decide +kernel
theorem dX10_missing_34 : decode cX10_missing 34 = .ok (.ireturn, 1) := by decide +kernel
theorem dX10_lack_0 : decode cX10_lack 0 = .ok (.aload_n 0, 1) := by decide +kernel
theorem dX10_lack_1 : decode cX10_lack 1 = .ok (.iload_n 1, 1) := by decide +kernel
theorem dX10_lack_2 : decode cX10_lack 2 = .ok (.invokevirtual 243, 3) := by decide +kernel
theorem dX10_lack_5 : decode cX10_lack 5 = .ok (.ifCond .ne 6, 3) := by decide +kernel
theorem dX10_lack_8 : decode cX10_lack 8 = .ok (.ldc 242, 2) := by decide +kernel
theorem dX10_lack_10 : decode cX10_lack 10 = .ok (.ireturn, 1) := by decide +kernel
theorem dX10_lack_11 : decode cX10_lack 11 = .ok (.iload_n 2, 1) := by decide +kernel
theorem dX10_lack_12 : decode cX10_lack 12 = .ok (.i2l, 1) := by decide +kernel
theorem dX10_lack_13 : decode cX10_lack 13 = .ok (.lconst 0, 1) := by decide +kernel
theorem dX10_lack_14 : decode cX10_lack 14 = .ok (.ldc2_w 340, 3) := by decide +kernel
theorem dX10_lack_17 : decode cX10_lack 17 = .ok (.invokestatic 124, 3) := by decide +kernel
theorem dX10_lack_20 : decode cX10_lack 20 = .ok (.ifCond .ne 6, 3) := by decide +kernel
theorem dX10_lack_23 : decode cX10_lack 23 = .ok (.ldc 136, 2) := by decide +kernel
theorem dX10_lack_25 : decode cX10_lack 25 = .ok (.ireturn, 1) := by decide +kernel
theorem dX10_lack_26 : decode cX10_lack 26 = .ok (.aload_n 0, 1) := by decide +kernel
theorem dX10_lack_27 : decode cX10_lack 27 = .ok (.getfield 232, 3) := by decide +kernel
theorem dX10_lack_30 : decode cX10_lack 30 = .ok (.bipush 8, 2) := by decide +kernel
theorem dX10_lack_32 : decode cX10_lack 32 = .ok (.if_icmp .ne 6, 3) := by decide +kernel
theorem dX10_lack_35 : decode cX10_lack 35 = .ok (.ldc 140, 2) := by decide +kernel
theorem dX10_lack_37 : decode cX10_lack 37 = .ok (.ireturn, 1) := by decide +kernel
theorem dX10_lack_38 : decode cX10_lack 38 = .ok (.aload_n 0, 1) := by decide +kernel
theorem dX10_lack_39 : decode cX10_lack 39 = .ok (.getfield 96, 3) := by decide +kernel
theorem dX10_lack_42 : decode cX10_lack 42 = .ok (.aload_n 0, 1) := by decide +kernel
theorem dX10_lack_43 : decode cX10_lack 43 = .ok (.getfield 232, 3) := by decide +kernel
theorem dX10_lack_46 : decode cX10_lack 46 = .ok (.iload_n 1, 1) := by decide +kernel
theorem dX10_lack_47 : decode cX10_lack 47 = .ok (.iastore, 1) := by decide +kernel
theorem dX10_lack_48 : decode cX10_lack 48 = .ok (.aload_n 0, 1) := by decide +kernel
theorem dX10_lack_49 : decode cX10_lack 49 = .ok (.getfield 99, 3) := by decide +kernel
theorem dX10_lack_52 : decode cX10_lack 52 = .ok (.aload_n 0, 1) := by decide +kernel
theorem dX10_lack_53 : decode cX10_lack 53 = .ok (.getfield 232, 3) := by decide +kernel
theorem dX10_lack_56 : decode cX10_lack 56 = .ok (.iload_n 2, 1) := by decide +kernel
theorem dX10_lack_57 : decode cX10_lack 57 = .ok (.iastore, 1) := by decide +kernel
theorem dX10_lack_58 : decode cX10_lack 58 = .ok (.aload_n 0, 1) := by decide +kernel
theorem dX10_lack_59 : decode cX10_lack 59 = .ok (.dup, 1) := by decide +kernel
theorem dX10_lack_60 : decode cX10_lack 60 = .ok (.getfield 232, 3) := by decide +kernel
theorem dX10_lack_63 : decode cX10_lack 63 = .ok (.iconst 1, 1) := by decide +kernel
theorem dX10_lack_64 : decode cX10_lack 64 = .ok (.iadd, 1) := by decide +kernel
theorem dX10_lack_65 : decode cX10_lack 65 = .ok (.putfield 232, 3) := by decide +kernel
theorem dX10_lack_68 : decode cX10_lack 68 = .ok (.aload_n 0, 1) := by decide +kernel
theorem dX10_lack_69 : decode cX10_lack 69 = .ok (.getfield 232, 3) := by decide +kernel
theorem dX10_lack_72 : decode cX10_lack 72 = .ok (.ireturn, 1) := by decide +kernel
theorem dX10_fits_0 : decode cX10_fits 0 = .ok (.iconst 1, 1) := by decide +kernel
theorem dX10_fits_1 : decode cX10_fits 1 = .ok (.istore_n 1, 1) := by decide +kernel
theorem dX10_fits_2 : decode cX10_fits 2 = .ok (.iconst 0, 1) := by decide +kernel
theorem dX10_fits_3 : decode cX10_fits 3 = .ok (.istore_n 2, 1) := by decide +kernel
theorem dX10_fits_4 : decode cX10_fits 4 = .ok (.iload_n 2, 1) := by decide +kernel
theorem dX10_fits_5 : decode cX10_fits 5 = .ok (.aload_n 0, 1) := by decide +kernel
theorem dX10_fits_6 : decode cX10_fits 6 = .ok (.getfield 232, 3) := by decide +kernel
theorem dX10_fits_9 : decode cX10_fits 9 = .ok (.if_icmp .ge 34, 3) := by decide +kernel
theorem dX10_fits_12 : decode cX10_fits 12 = .ok (.aload_n 0, 1) := by decide +kernel
theorem dX10_fits_13 : decode cX10_fits 13 = .ok (.aload_n 0, 1) := by decide +kernel
theorem dX10_fits_14 : decode cX10_fits 14 = .ok (.getfield 96, 3) := by decide +kernel
theorem dX10_fits_17 : decode cX10_fits 17 = .ok (.iload_n 2, 1) := by decide +kernel
theorem dX10_fits_18 : decode cX10_fits 18 = .ok (.iaload, 1) := by decide +kernel
theorem dX10_fits_19 : decode cX10_fits 19 = .ok (.aload_n 0, 1) := by decide +kernel
theorem dX10_fits_20 : decode cX10_fits 20 = .ok (.getfield 99, 3) := by decide +kernel
theorem dX10_fits_23 : decode cX10_fits 23 = .ok (.iload_n 2, 1) := by decide +kernel
theorem dX10_fits_24 : decode cX10_fits 24 = .ok (.iaload, 1) := by decide +kernel
theorem dX10_fits_25 : decode cX10_fits 25 = .ok (.invokevirtual 347, 3) := by decide +kernel
theorem dX10_fits_28 : decode cX10_fits 28 = .ok (.ifCond .ne 7, 3) := by decide +kernel
theorem dX10_fits_31 : decode cX10_fits 31 = .ok (.iconst 0, 1) := by decide +kernel
theorem dX10_fits_32 : decode cX10_fits 32 = .ok (.goto 4, 3) := by decide +kernel
theorem dX10_fits_35 : decode cX10_fits 35 = .ok (.iload_n 1, 1) := by decide +kernel
theorem dX10_fits_36 : decode cX10_fits 36 = .ok (.istore_n 1, 1) := by decide +kernel
theorem dX10_fits_37 : decode cX10_fits 37 = .ok (.iinc 2 1, 3) := by decide +kernel
theorem dX10_fits_40 : decode cX10_fits 40 = .ok (.goto (-36), 3) := by decide +kernel
theorem dX10_fits_43 : decode cX10_fits 43 = .ok (.iload_n 1, 1) := by decide +kernel
theorem dX10_fits_44 : decode cX10_fits 44 = .ok (.ireturn, 1) := by decide +kernel
theorem dX10_log_0 : decode cX10_log 0 = .ok (.aload_n 0, 1) := by decide +kernel
theorem dX10_log_1 : decode cX10_log 1 = .ok (.iload_n 1, 1) := by decide +kernel
theorem dX10_log_2 : decode cX10_log 2 = .ok (.invokevirtual 243, 3) := by decide +kernel
theorem dX10_log_5 : decode cX10_log 5 = .ok (.ifCond .eq 20, 3) := by decide +kernel
theorem dX10_log_8 : decode cX10_log 8 = .ok (.aload_n 0, 1) := by decide +kernel
theorem dX10_log_9 : decode cX10_log 9 = .ok (.iload_n 2, 1) := by decide +kernel
theorem dX10_log_10 : decode cX10_log 10 = .ok (.invokevirtual 256, 3) := by decide +kernel
theorem dX10_log_13 : decode cX10_log 13 = .ok (.ifCond .eq 12, 3) := by decide +kernel
theorem dX10_log_16 : decode cX10_log 16 = .ok (.aload_n 0, 1) := by decide +kernel
theorem dX10_log_17 : decode cX10_log 17 = .ok (.iload 4, 2) := by decide +kernel
theorem dX10_log_19 : decode cX10_log 19 = .ok (.invokevirtual 256, 3) := by decide +kernel
theorem dX10_log_22 : decode cX10_log 22 = .ok (.ifCond .ne 6, 3) := by decide +kernel
theorem dX10_log_25 : decode cX10_log 25 = .ok (.ldc 242, 2) := by decide +kernel
theorem dX10_log_27 : decode cX10_log 27 = .ok (.ireturn, 1) := by decide +kernel
theorem dX10_log_28 : decode cX10_log 28 = .ok (.iload_n 3, 1) := by decide +kernel
theorem dX10_log_29 : decode cX10_log 29 = .ok (.i2l, 1) := by decide +kernel
theorem dX10_log_30 : decode cX10_log 30 = .ok (.lconst 0, 1) := by decide +kernel
theorem dX10_log_31 : decode cX10_log 31 = .ok (.ldc2_w 350, 3) := by decide +kernel
theorem dX10_log_34 : decode cX10_log 34 = .ok (.invokestatic 124, 3) := by decide +kernel
theorem dX10_log_37 : decode cX10_log 37 = .ok (.ifCond .ne 6, 3) := by decide +kernel
theorem dX10_log_40 : decode cX10_log 40 = .ok (.ldc 136, 2) := by decide +kernel
theorem dX10_log_42 : decode cX10_log 42 = .ok (.ireturn, 1) := by decide +kernel
theorem dX10_log_43 : decode cX10_log 43 = .ok (.aload_n 0, 1) := by decide +kernel
theorem dX10_log_44 : decode cX10_log 44 = .ok (.getfield 229, 3) := by decide +kernel
theorem dX10_log_47 : decode cX10_log 47 = .ok (.bipush 30, 2) := by decide +kernel
theorem dX10_log_49 : decode cX10_log 49 = .ok (.if_icmp .ne 6, 3) := by decide +kernel
theorem dX10_log_52 : decode cX10_log 52 = .ok (.ldc 140, 2) := by decide +kernel
theorem dX10_log_54 : decode cX10_log 54 = .ok (.ireturn, 1) := by decide +kernel
theorem dX10_log_55 : decode cX10_log 55 = .ok (.aload_n 0, 1) := by decide +kernel
theorem dX10_log_56 : decode cX10_log 56 = .ok (.getfield 102, 3) := by decide +kernel
theorem dX10_log_59 : decode cX10_log 59 = .ok (.aload_n 0, 1) := by decide +kernel
theorem dX10_log_60 : decode cX10_log 60 = .ok (.getfield 229, 3) := by decide +kernel
theorem dX10_log_63 : decode cX10_log 63 = .ok (.iload_n 1, 1) := by decide +kernel
theorem dX10_log_64 : decode cX10_log 64 = .ok (.iastore, 1) := by decide +kernel
theorem dX10_log_65 : decode cX10_log 65 = .ok (.aload_n 0, 1) := by decide +kernel
theorem dX10_log_66 : decode cX10_log 66 = .ok (.getfield 105, 3) := by decide +kernel
theorem dX10_log_69 : decode cX10_log 69 = .ok (.aload_n 0, 1) := by decide +kernel
theorem dX10_log_70 : decode cX10_log 70 = .ok (.getfield 229, 3) := by decide +kernel
theorem dX10_log_73 : decode cX10_log 73 = .ok (.iload_n 2, 1) := by decide +kernel
theorem dX10_log_74 : decode cX10_log 74 = .ok (.iastore, 1) := by decide +kernel
theorem dX10_log_75 : decode cX10_log 75 = .ok (.aload_n 0, 1) := by decide +kernel
theorem dX10_log_76 : decode cX10_log 76 = .ok (.getfield 108, 3) := by decide +kernel
theorem dX10_log_79 : decode cX10_log 79 = .ok (.aload_n 0, 1) := by decide +kernel
theorem dX10_log_80 : decode cX10_log 80 = .ok (.getfield 229, 3) := by decide +kernel
theorem dX10_log_83 : decode cX10_log 83 = .ok (.iload_n 3, 1) := by decide +kernel
theorem dX10_log_84 : decode cX10_log 84 = .ok (.iastore, 1) := by decide +kernel
theorem dX10_log_85 : decode cX10_log 85 = .ok (.aload_n 0, 1) := by decide +kernel
theorem dX10_log_86 : decode cX10_log 86 = .ok (.getfield 111, 3) := by decide +kernel
theorem dX10_log_89 : decode cX10_log 89 = .ok (.aload_n 0, 1) := by decide +kernel
theorem dX10_log_90 : decode cX10_log 90 = .ok (.getfield 229, 3) := by decide +kernel
theorem dX10_log_93 : decode cX10_log 93 = .ok (.iload 4, 2) := by decide +kernel
theorem dX10_log_95 : decode cX10_log 95 = .ok (.iastore, 1) := by decide +kernel
theorem dX10_log_96 : decode cX10_log 96 = .ok (.aload_n 0, 1) := by decide +kernel
theorem dX10_log_97 : decode cX10_log 97 = .ok (.dup, 1) := by decide +kernel
theorem dX10_log_98 : decode cX10_log 98 = .ok (.getfield 229, 3) := by decide +kernel
theorem dX10_log_101 : decode cX10_log 101 = .ok (.iconst 1, 1) := by decide +kernel
theorem dX10_log_102 : decode cX10_log 102 = .ok (.iadd, 1) := by decide +kernel
theorem dX10_log_103 : decode cX10_log 103 = .ok (.putfield 229, 3) := by decide +kernel
theorem dX10_log_106 : decode cX10_log 106 = .ok (.aload_n 0, 1) := by decide +kernel
theorem dX10_log_107 : decode cX10_log 107 = .ok (.getfield 229, 3) := by decide +kernel
theorem dX10_log_110 : decode cX10_log 110 = .ok (.ireturn, 1) := by decide +kernel
theorem dX10_clear_0 : decode cX10_clear 0 = .ok (.aload_n 0, 1) := by decide +kernel
theorem dX10_clear_1 : decode cX10_clear 1 = .ok (.getfield 229, 3) := by decide +kernel
theorem dX10_clear_4 : decode cX10_clear 4 = .ok (.aload_n 0, 1) := by decide +kernel
theorem dX10_clear_5 : decode cX10_clear 5 = .ok (.getfield 232, 3) := by decide +kernel
theorem dX10_clear_8 : decode cX10_clear 8 = .ok (.iadd, 1) := by decide +kernel
theorem dX10_clear_9 : decode cX10_clear 9 = .ok (.istore_n 1, 1) := by decide +kernel
theorem dX10_clear_10 : decode cX10_clear 10 = .ok (.aload_n 0, 1) := by decide +kernel
theorem dX10_clear_11 : decode cX10_clear 11 = .ok (.iconst 0, 1) := by decide +kernel
theorem dX10_clear_12 : decode cX10_clear 12 = .ok (.putfield 229, 3) := by decide +kernel
theorem dX10_clear_15 : decode cX10_clear 15 = .ok (.aload_n 0, 1) := by decide +kernel
theorem dX10_clear_16 : decode cX10_clear 16 = .ok (.iconst 0, 1) := by decide +kernel
theorem dX10_clear_17 : decode cX10_clear 17 = .ok (.putfield 232, 3) := by decide +kernel
theorem dX10_clear_20 : decode cX10_clear 20 = .ok (.iload_n 1, 1) := by decide +kernel
theorem dX10_clear_21 : decode cX10_clear 21 = .ok (.ireturn, 1) := by decide +kernel
theorem dX10_mayBe_0 : decode cX10_mayBe 0 = .ok (.aload_n 0, 1) := by decide +kernel
theorem dX10_mayBe_1 : decode cX10_mayBe 1 = .ok (.getfield 102, 3) := by decide +kernel
theorem dX10_mayBe_4 : decode cX10_mayBe 4 = .ok (.iload_n 1, 1) := by decide +kernel
theorem dX10_mayBe_5 : decode cX10_mayBe 5 = .ok (.iaload, 1) := by decide +kernel
theorem dX10_mayBe_6 : decode cX10_mayBe 6 = .ok (.istore_n 2, 1) := by decide +kernel
theorem dX10_mayBe_7 : decode cX10_mayBe 7 = .ok (.aload_n 0, 1) := by decide +kernel
theorem dX10_mayBe_8 : decode cX10_mayBe 8 = .ok (.aload_n 0, 1) := by decide +kernel
theorem dX10_mayBe_9 : decode cX10_mayBe 9 = .ok (.getfield 31, 3) := by decide +kernel
theorem dX10_mayBe_12 : decode cX10_mayBe 12 = .ok (.iload_n 2, 1) := by decide +kernel
theorem dX10_mayBe_13 : decode cX10_mayBe 13 = .ok (.iaload, 1) := by decide +kernel
theorem dX10_mayBe_14 : decode cX10_mayBe 14 = .ok (.aload_n 0, 1) := by decide +kernel
theorem dX10_mayBe_15 : decode cX10_mayBe 15 = .ok (.getfield 19, 3) := by decide +kernel
theorem dX10_mayBe_18 : decode cX10_mayBe 18 = .ok (.iload_n 2, 1) := by decide +kernel
theorem dX10_mayBe_19 : decode cX10_mayBe 19 = .ok (.iaload, 1) := by decide +kernel
theorem dX10_mayBe_20 : decode cX10_mayBe 20 = .ok (.aload_n 0, 1) := by decide +kernel
theorem dX10_mayBe_21 : decode cX10_mayBe 21 = .ok (.getfield 105, 3) := by decide +kernel
theorem dX10_mayBe_24 : decode cX10_mayBe 24 = .ok (.iload_n 1, 1) := by decide +kernel
theorem dX10_mayBe_25 : decode cX10_mayBe 25 = .ok (.iaload, 1) := by decide +kernel
theorem dX10_mayBe_26 : decode cX10_mayBe 26 = .ok (.invokevirtual 263, 3) := by decide +kernel
theorem dX10_mayBe_29 : decode cX10_mayBe 29 = .ok (.istore_n 3, 1) := by decide +kernel
theorem dX10_mayBe_30 : decode cX10_mayBe 30 = .ok (.aload_n 0, 1) := by decide +kernel
theorem dX10_mayBe_31 : decode cX10_mayBe 31 = .ok (.getfield 108, 3) := by decide +kernel
theorem dX10_mayBe_34 : decode cX10_mayBe 34 = .ok (.iload_n 1, 1) := by decide +kernel
theorem dX10_mayBe_35 : decode cX10_mayBe 35 = .ok (.iaload, 1) := by decide +kernel
theorem dX10_mayBe_36 : decode cX10_mayBe 36 = .ok (.ifCond .ne 24, 3) := by decide +kernel
theorem dX10_mayBe_39 : decode cX10_mayBe 39 = .ok (.aload_n 0, 1) := by decide +kernel
theorem dX10_mayBe_40 : decode cX10_mayBe 40 = .ok (.getfield 111, 3) := by decide +kernel
theorem dX10_mayBe_43 : decode cX10_mayBe 43 = .ok (.iload_n 1, 1) := by decide +kernel
theorem dX10_mayBe_44 : decode cX10_mayBe 44 = .ok (.iaload, 1) := by decide +kernel
theorem dX10_mayBe_45 : decode cX10_mayBe 45 = .ok (.aload_n 0, 1) := by decide +kernel
theorem dX10_mayBe_46 : decode cX10_mayBe 46 = .ok (.getfield 19, 3) := by decide +kernel
theorem dX10_mayBe_49 : decode cX10_mayBe 49 = .ok (.iload_n 2, 1) := by decide +kernel
theorem dX10_mayBe_50 : decode cX10_mayBe 50 = .ok (.iaload, 1) := by decide +kernel
theorem dX10_mayBe_51 : decode cX10_mayBe 51 = .ok (.if_icmp .ne 7, 3) := by decide +kernel
theorem dX10_mayBe_54 : decode cX10_mayBe 54 = .ok (.iconst 1, 1) := by decide +kernel
theorem dX10_mayBe_55 : decode cX10_mayBe 55 = .ok (.goto 4, 3) := by decide +kernel
theorem dX10_mayBe_58 : decode cX10_mayBe 58 = .ok (.iconst 0, 1) := by decide +kernel
theorem dX10_mayBe_59 : decode cX10_mayBe 59 = .ok (.ireturn, 1) := by decide +kernel
theorem dX10_mayBe_60 : decode cX10_mayBe 60 = .ok (.aload_n 0, 1) := by decide +kernel
theorem dX10_mayBe_61 : decode cX10_mayBe 61 = .ok (.getfield 108, 3) := by decide +kernel
theorem dX10_mayBe_64 : decode cX10_mayBe 64 = .ok (.iload_n 1, 1) := by decide +kernel
theorem dX10_mayBe_65 : decode cX10_mayBe 65 = .ok (.iaload, 1) := by decide +kernel
theorem dX10_mayBe_66 : decode cX10_mayBe 66 = .ok (.iload_n 3, 1) := by decide +kernel
theorem dX10_mayBe_67 : decode cX10_mayBe 67 = .ok (.if_icmp .gt 32, 3) := by decide +kernel
theorem dX10_mayBe_70 : decode cX10_mayBe 70 = .ok (.aload_n 0, 1) := by decide +kernel
theorem dX10_mayBe_71 : decode cX10_mayBe 71 = .ok (.aload_n 0, 1) := by decide +kernel
theorem dX10_mayBe_72 : decode cX10_mayBe 72 = .ok (.getfield 19, 3) := by decide +kernel
theorem dX10_mayBe_75 : decode cX10_mayBe 75 = .ok (.iload_n 2, 1) := by decide +kernel
theorem dX10_mayBe_76 : decode cX10_mayBe 76 = .ok (.iaload, 1) := by decide +kernel
theorem dX10_mayBe_77 : decode cX10_mayBe 77 = .ok (.aload_n 0, 1) := by decide +kernel
theorem dX10_mayBe_78 : decode cX10_mayBe 78 = .ok (.getfield 108, 3) := by decide +kernel
theorem dX10_mayBe_81 : decode cX10_mayBe 81 = .ok (.iload_n 1, 1) := by decide +kernel
theorem dX10_mayBe_82 : decode cX10_mayBe 82 = .ok (.iaload, 1) := by decide +kernel
theorem dX10_mayBe_83 : decode cX10_mayBe 83 = .ok (.invokevirtual 280, 3) := by decide +kernel
theorem dX10_mayBe_86 : decode cX10_mayBe 86 = .ok (.aload_n 0, 1) := by decide +kernel
theorem dX10_mayBe_87 : decode cX10_mayBe 87 = .ok (.getfield 111, 3) := by decide +kernel
theorem dX10_mayBe_90 : decode cX10_mayBe 90 = .ok (.iload_n 1, 1) := by decide +kernel
theorem dX10_mayBe_91 : decode cX10_mayBe 91 = .ok (.iaload, 1) := by decide +kernel
theorem dX10_mayBe_92 : decode cX10_mayBe 92 = .ok (.if_icmp .ne 7, 3) := by decide +kernel
theorem dX10_mayBe_95 : decode cX10_mayBe 95 = .ok (.iconst 1, 1) := by decide +kernel
theorem dX10_mayBe_96 : decode cX10_mayBe 96 = .ok (.goto 4, 3) := by decide +kernel
theorem dX10_mayBe_99 : decode cX10_mayBe 99 = .ok (.iconst 0, 1) := by decide +kernel
theorem dX10_mayBe_100 : decode cX10_mayBe 100 = .ok (.ireturn, 1) := by decide +kernel
theorem dX10_judge_0 : decode cX10_judge 0 = .ok (.iconst 0, 1) := by decide +kernel
theorem dX10_judge_1 : decode cX10_judge 1 = .ok (.istore_n 1, 1) := by decide +kernel
theorem dX10_judge_2 : decode cX10_judge 2 = .ok (.iload_n 1, 1) := by decide +kernel
theorem dX10_judge_3 : decode cX10_judge 3 = .ok (.aload_n 0, 1) := by decide +kernel
theorem dX10_judge_4 : decode cX10_judge 4 = .ok (.getfield 229, 3) := by decide +kernel
theorem dX10_judge_7 : decode cX10_judge 7 = .ok (.if_icmp .ge 19, 3) := by decide +kernel
theorem dX10_judge_10 : decode cX10_judge 10 = .ok (.aload_n 0, 1) := by decide +kernel
theorem dX10_judge_11 : decode cX10_judge 11 = .ok (.iload_n 1, 1) := by decide +kernel
theorem dX10_judge_12 : decode cX10_judge 12 = .ok (.invokevirtual 352, 3) := by decide +kernel
theorem dX10_judge_15 : decode cX10_judge 15 = .ok (.ifCond .ne 5, 3) := by decide +kernel
theorem dX10_judge_18 : decode cX10_judge 18 = .ok (.iload_n 1, 1) := by decide +kernel
theorem dX10_judge_19 : decode cX10_judge 19 = .ok (.ireturn, 1) := by decide +kernel
theorem dX10_judge_20 : decode cX10_judge 20 = .ok (.iinc 1 1, 3) := by decide +kernel
theorem dX10_judge_23 : decode cX10_judge 23 = .ok (.goto (-21), 3) := by decide +kernel
theorem dX10_judge_26 : decode cX10_judge 26 = .ok (.iconst (-1), 1) := by decide +kernel
theorem dX10_judge_27 : decode cX10_judge 27 = .ok (.ireturn, 1) := by decide +kernel
theorem dX10_draw_0 : decode cX10_draw 0 = .ok (.aload_n 0, 1) := by decide +kernel
theorem dX10_draw_1 : decode cX10_draw 1 = .ok (.aload_n 0, 1) := by decide +kernel
theorem dX10_draw_2 : decode cX10_draw 2 = .ok (.getfield 355, 3) := by decide +kernel
theorem dX10_draw_5 : decode cX10_draw 5 = .ok (.i2l, 1) := by decide +kernel
theorem dX10_draw_6 : decode cX10_draw 6 = .ok (.ldc2_w 358, 3) := by decide +kernel
theorem dX10_draw_9 : decode cX10_draw 9 = .ok (.lmul, 1) := by decide +kernel
theorem dX10_draw_10 : decode cX10_draw 10 = .ok (.ldc2_w 360, 3) := by decide +kernel
theorem dX10_draw_13 : decode cX10_draw 13 = .ok (.ladd, 1) := by decide +kernel
theorem dX10_draw_14 : decode cX10_draw 14 = .ok (.ldc2_w 362, 3) := by decide +kernel
theorem dX10_draw_17 : decode cX10_draw 17 = .ok (.lrem, 1) := by decide +kernel
theorem dX10_draw_18 : decode cX10_draw 18 = .ok (.l2i, 1) := by decide +kernel
theorem dX10_draw_19 : decode cX10_draw 19 = .ok (.putfield 355, 3) := by decide +kernel
theorem dX10_draw_22 : decode cX10_draw 22 = .ok (.aload_n 0, 1) := by decide +kernel
theorem dX10_draw_23 : decode cX10_draw 23 = .ok (.getfield 355, 3) := by decide +kernel
theorem dX10_draw_26 : decode cX10_draw 26 = .ok (.ldc_w 364, 3) := by decide +kernel
theorem dX10_draw_29 : decode cX10_draw 29 = .ok (.idiv, 1) := by decide +kernel
theorem dX10_draw_30 : decode cX10_draw 30 = .ok (.iload_n 1, 1) := by decide +kernel
theorem dX10_draw_31 : decode cX10_draw 31 = .ok (.irem, 1) := by decide +kernel
theorem dX10_draw_32 : decode cX10_draw 32 = .ok (.ireturn, 1) := by decide +kernel
theorem dX10_strangerBy_0 : decode cX10_strangerBy 0 = .ok (.aload_n 0, 1) := by decide +kernel
theorem dX10_strangerBy_1 : decode cX10_strangerBy 1 = .ok (.aload_n 0, 1) := by decide +kernel
theorem dX10_strangerBy_2 : decode cX10_strangerBy 2 = .ok (.getfield 121, 3) := by decide +kernel
theorem dX10_strangerBy_5 : decode cX10_strangerBy 5 = .ok (.invokevirtual 365, 3) := by decide +kernel
theorem dX10_strangerBy_8 : decode cX10_strangerBy 8 = .ok (.istore_n 1, 1) := by decide +kernel
theorem dX10_strangerBy_9 : decode cX10_strangerBy 9 = .ok (.aload_n 0, 1) := by decide +kernel
theorem dX10_strangerBy_10 : decode cX10_strangerBy 10 = .ok (.aload_n 0, 1) := by decide +kernel
theorem dX10_strangerBy_11 : decode cX10_strangerBy 11 = .ok (.getfield 121, 3) := by decide +kernel
theorem dX10_strangerBy_14 : decode cX10_strangerBy 14 = .ok (.invokevirtual 365, 3) := by decide +kernel
theorem dX10_strangerBy_17 : decode cX10_strangerBy 17 = .ok (.istore_n 2, 1) := by decide +kernel
theorem dX10_strangerBy_18 : decode cX10_strangerBy 18 = .ok (.aload_n 0, 1) := by decide +kernel
theorem dX10_strangerBy_19 : decode cX10_strangerBy 19 = .ok (.iload_n 2, 1) := by decide +kernel
theorem dX10_strangerBy_20 : decode cX10_strangerBy 20 = .ok (.iconst 0, 1) := by decide +kernel
theorem dX10_strangerBy_21 : decode cX10_strangerBy 21 = .ok (.invokevirtual 295, 3) := by decide +kernel
theorem dX10_strangerBy_24 : decode cX10_strangerBy 24 = .ok (.iconst 0, 1) := by decide +kernel
theorem dX10_strangerBy_25 : decode cX10_strangerBy 25 = .ok (.istore_n 3, 1) := by decide +kernel
theorem dX10_strangerBy_26 : decode cX10_strangerBy 26 = .ok (.iconst 0, 1) := by decide +kernel
theorem dX10_strangerBy_27 : decode cX10_strangerBy 27 = .ok (.istore 4, 2) := by decide +kernel
theorem dX10_strangerBy_29 : decode cX10_strangerBy 29 = .ok (.iload_n 1, 1) := by decide +kernel
theorem dX10_strangerBy_30 : decode cX10_strangerBy 30 = .ok (.iload_n 2, 1) := by decide +kernel
theorem dX10_strangerBy_31 : decode cX10_strangerBy 31 = .ok (.if_icmp .eq 102, 3) := by decide +kernel
theorem dX10_strangerBy_34 : decode cX10_strangerBy 34 = .ok (.aload_n 0, 1) := by decide +kernel
theorem dX10_strangerBy_35 : decode cX10_strangerBy 35 = .ok (.iload_n 3, 1) := by decide +kernel
theorem dX10_strangerBy_36 : decode cX10_strangerBy 36 = .ok (.iload_n 1, 1) := by decide +kernel
theorem dX10_strangerBy_37 : decode cX10_strangerBy 37 = .ok (.invokevirtual 320, 3) := by decide +kernel
theorem dX10_strangerBy_40 : decode cX10_strangerBy 40 = .ok (.istore 5, 2) := by decide +kernel
theorem dX10_strangerBy_42 : decode cX10_strangerBy 42 = .ok (.iload 5, 2) := by decide +kernel
theorem dX10_strangerBy_44 : decode cX10_strangerBy 44 = .ok (.ifCond .ne 5, 3) := by decide +kernel
theorem dX10_strangerBy_47 : decode cX10_strangerBy 47 = .ok (.iconst (-1), 1) := by decide +kernel
theorem dX10_strangerBy_48 : decode cX10_strangerBy 48 = .ok (.ireturn, 1) := by decide +kernel
theorem dX10_strangerBy_49 : decode cX10_strangerBy 49 = .ok (.aload_n 0, 1) := by decide +kernel
theorem dX10_strangerBy_50 : decode cX10_strangerBy 50 = .ok (.iload 5, 2) := by decide +kernel
theorem dX10_strangerBy_52 : decode cX10_strangerBy 52 = .ok (.invokevirtual 365, 3) := by decide +kernel
theorem dX10_strangerBy_55 : decode cX10_strangerBy 55 = .ok (.istore 6, 2) := by decide +kernel
theorem dX10_strangerBy_57 : decode cX10_strangerBy 57 = .ok (.iconst 0, 1) := by decide +kernel
theorem dX10_strangerBy_58 : decode cX10_strangerBy 58 = .ok (.istore 7, 2) := by decide +kernel
theorem dX10_strangerBy_60 : decode cX10_strangerBy 60 = .ok (.aload_n 0, 1) := by decide +kernel
theorem dX10_strangerBy_61 : decode cX10_strangerBy 61 = .ok (.iload 7, 2) := by decide +kernel
theorem dX10_strangerBy_63 : decode cX10_strangerBy 63 = .ok (.iload_n 3, 1) := by decide +kernel
theorem dX10_strangerBy_64 : decode cX10_strangerBy 64 = .ok (.iload_n 1, 1) := by decide +kernel
theorem dX10_strangerBy_65 : decode cX10_strangerBy 65 = .ok (.invokevirtual 299, 3) := by decide +kernel
theorem dX10_strangerBy_68 : decode cX10_strangerBy 68 = .ok (.ifCond .eq 8, 3) := by decide +kernel
theorem dX10_strangerBy_71 : decode cX10_strangerBy 71 = .ok (.iload 6, 2) := by decide +kernel
theorem dX10_strangerBy_73 : decode cX10_strangerBy 73 = .ok (.ifCond .le 30, 3) := by decide +kernel
theorem dX10_strangerBy_76 : decode cX10_strangerBy 76 = .ok (.iload 6, 2) := by decide +kernel
theorem dX10_strangerBy_78 : decode cX10_strangerBy 78 = .ok (.aload_n 0, 1) := by decide +kernel
theorem dX10_strangerBy_79 : decode cX10_strangerBy 79 = .ok (.iload 7, 2) := by decide +kernel
theorem dX10_strangerBy_81 : decode cX10_strangerBy 81 = .ok (.iload_n 3, 1) := by decide +kernel
theorem dX10_strangerBy_82 : decode cX10_strangerBy 82 = .ok (.iload_n 1, 1) := by decide +kernel
theorem dX10_strangerBy_83 : decode cX10_strangerBy 83 = .ok (.invokevirtual 299, 3) := by decide +kernel
theorem dX10_strangerBy_86 : decode cX10_strangerBy 86 = .ok (.ifCond .eq 7, 3) := by decide +kernel
theorem dX10_strangerBy_89 : decode cX10_strangerBy 89 = .ok (.iconst 1, 1) := by decide +kernel
theorem dX10_strangerBy_90 : decode cX10_strangerBy 90 = .ok (.goto 4, 3) := by decide +kernel
theorem dX10_strangerBy_93 : decode cX10_strangerBy 93 = .ok (.iconst 0, 1) := by decide +kernel
theorem dX10_strangerBy_94 : decode cX10_strangerBy 94 = .ok (.isub, 1) := by decide +kernel
theorem dX10_strangerBy_95 : decode cX10_strangerBy 95 = .ok (.istore 6, 2) := by decide +kernel
theorem dX10_strangerBy_97 : decode cX10_strangerBy 97 = .ok (.iinc 7 1, 3) := by decide +kernel
theorem dX10_strangerBy_100 : decode cX10_strangerBy 100 = .ok (.goto (-40), 3) := by decide +kernel
theorem dX10_strangerBy_103 : decode cX10_strangerBy 103 = .ok (.iload_n 3, 1) := by decide +kernel
theorem dX10_strangerBy_104 : decode cX10_strangerBy 104 = .ok (.iconst 1, 1) := by decide +kernel
theorem dX10_strangerBy_105 : decode cX10_strangerBy 105 = .ok (.iload 7, 2) := by decide +kernel
theorem dX10_strangerBy_107 : decode cX10_strangerBy 107 = .ok (.ishl, 1) := by decide +kernel
theorem dX10_strangerBy_108 : decode cX10_strangerBy 108 = .ok (.ior, 1) := by decide +kernel
theorem dX10_strangerBy_109 : decode cX10_strangerBy 109 = .ok (.istore_n 3, 1) := by decide +kernel
theorem dX10_strangerBy_110 : decode cX10_strangerBy 110 = .ok (.iload 4, 2) := by decide +kernel
theorem dX10_strangerBy_112 : decode cX10_strangerBy 112 = .ok (.aload_n 0, 1) := by decide +kernel
theorem dX10_strangerBy_113 : decode cX10_strangerBy 113 = .ok (.getfield 77, 3) := by decide +kernel
theorem dX10_strangerBy_116 : decode cX10_strangerBy 116 = .ok (.iload 7, 2) := by decide +kernel
theorem dX10_strangerBy_118 : decode cX10_strangerBy 118 = .ok (.iaload, 1) := by decide +kernel
theorem dX10_strangerBy_119 : decode cX10_strangerBy 119 = .ok (.iadd, 1) := by decide +kernel
theorem dX10_strangerBy_120 : decode cX10_strangerBy 120 = .ok (.istore 4, 2) := by decide +kernel
theorem dX10_strangerBy_122 : decode cX10_strangerBy 122 = .ok (.aload_n 0, 1) := by decide +kernel
theorem dX10_strangerBy_123 : decode cX10_strangerBy 123 = .ok (.getfield 74, 3) := by decide +kernel
theorem dX10_strangerBy_126 : decode cX10_strangerBy 126 = .ok (.iload 7, 2) := by decide +kernel
theorem dX10_strangerBy_128 : decode cX10_strangerBy 128 = .ok (.iaload, 1) := by decide +kernel
theorem dX10_strangerBy_129 : decode cX10_strangerBy 129 = .ok (.istore_n 1, 1) := by decide +kernel
theorem dX10_strangerBy_130 : decode cX10_strangerBy 130 = .ok (.goto (-101), 3) := by decide +kernel
theorem dX10_strangerBy_133 : decode cX10_strangerBy 133 = .ok (.iload 4, 2) := by decide +kernel
theorem dX10_strangerBy_135 : decode cX10_strangerBy 135 = .ok (.ireturn, 1) := by decide +kernel
theorem dX10_drift_0 : decode cX10_drift 0 = .ok (.iload_n 1, 1) := by decide +kernel
theorem dX10_drift_1 : decode cX10_drift 1 = .ok (.i2l, 1) := by decide +kernel
theorem dX10_drift_2 : decode cX10_drift 2 = .ok (.lconst 1, 1) := by decide +kernel
theorem dX10_drift_3 : decode cX10_drift 3 = .ok (.ldc2_w 368, 3) := by decide +kernel
theorem dX10_drift_6 : decode cX10_drift 6 = .ok (.invokestatic 124, 3) := by decide +kernel
theorem dX10_drift_9 : decode cX10_drift 9 = .ok (.ifCond .eq 13, 3) := by decide +kernel
theorem dX10_drift_12 : decode cX10_drift 12 = .ok (.iload_n 2, 1) := by decide +kernel
theorem dX10_drift_13 : decode cX10_drift 13 = .ok (.i2l, 1) := by decide +kernel
theorem dX10_drift_14 : decode cX10_drift 14 = .ok (.lconst 0, 1) := by decide +kernel
theorem dX10_drift_15 : decode cX10_drift 15 = .ok (.lconst 1, 1) := by decide +kernel
theorem dX10_drift_16 : decode cX10_drift 16 = .ok (.invokestatic 124, 3) := by decide +kernel
theorem dX10_drift_19 : decode cX10_drift 19 = .ok (.ifCond .ne 6, 3) := by decide +kernel
theorem dX10_drift_22 : decode cX10_drift 22 = .ok (.ldc 136, 2) := by decide +kernel
theorem dX10_drift_24 : decode cX10_drift 24 = .ok (.ireturn, 1) := by decide +kernel
theorem dX10_drift_25 : decode cX10_drift 25 = .ok (.aload_n 0, 1) := by decide +kernel
theorem dX10_drift_26 : decode cX10_drift 26 = .ok (.getfield 121, 3) := by decide +kernel
theorem dX10_drift_29 : decode cX10_drift 29 = .ok (.ifCond .ne 7, 3) := by decide +kernel
theorem dX10_drift_32 : decode cX10_drift 32 = .ok (.ldc_w 370, 3) := by decide +kernel
theorem dX10_drift_35 : decode cX10_drift 35 = .ok (.ireturn, 1) := by decide +kernel
theorem dX10_drift_36 : decode cX10_drift 36 = .ok (.iconst 0, 1) := by decide +kernel
theorem dX10_drift_37 : decode cX10_drift 37 = .ok (.istore_n 3, 1) := by decide +kernel
theorem dX10_drift_38 : decode cX10_drift 38 = .ok (.iconst 0, 1) := by decide +kernel
theorem dX10_drift_39 : decode cX10_drift 39 = .ok (.istore 4, 2) := by decide +kernel
theorem dX10_drift_41 : decode cX10_drift 41 = .ok (.iconst 0, 1) := by decide +kernel
theorem dX10_drift_42 : decode cX10_drift 42 = .ok (.istore 5, 2) := by decide +kernel
theorem dX10_drift_44 : decode cX10_drift 44 = .ok (.iload 5, 2) := by decide +kernel
theorem dX10_drift_46 : decode cX10_drift 46 = .ok (.iload_n 1, 1) := by decide +kernel
theorem dX10_drift_47 : decode cX10_drift 47 = .ok (.if_icmp .ge 44, 3) := by decide +kernel
theorem dX10_drift_50 : decode cX10_drift 50 = .ok (.aload_n 0, 1) := by decide +kernel
theorem dX10_drift_51 : decode cX10_drift 51 = .ok (.invokevirtual 371, 3) := by decide +kernel
theorem dX10_drift_54 : decode cX10_drift 54 = .ok (.istore 6, 2) := by decide +kernel
theorem dX10_drift_56 : decode cX10_drift 56 = .ok (.iload_n 3, 1) := by decide +kernel
theorem dX10_drift_57 : decode cX10_drift 57 = .ok (.iload 6, 2) := by decide +kernel
theorem dX10_drift_59 : decode cX10_drift 59 = .ok (.ifCond .lt 7, 3) := by decide +kernel
theorem dX10_drift_62 : decode cX10_drift 62 = .ok (.iconst 1, 1) := by decide +kernel
theorem dX10_drift_63 : decode cX10_drift 63 = .ok (.goto 4, 3) := by decide +kernel
theorem dX10_drift_66 : decode cX10_drift 66 = .ok (.iconst 0, 1) := by decide +kernel
theorem dX10_drift_67 : decode cX10_drift 67 = .ok (.iadd, 1) := by decide +kernel
theorem dX10_drift_68 : decode cX10_drift 68 = .ok (.istore_n 3, 1) := by decide +kernel
theorem dX10_drift_69 : decode cX10_drift 69 = .ok (.iload 4, 2) := by decide +kernel
theorem dX10_drift_71 : decode cX10_drift 71 = .ok (.iload 6, 2) := by decide +kernel
theorem dX10_drift_73 : decode cX10_drift 73 = .ok (.ifCond .lt 8, 3) := by decide +kernel
theorem dX10_drift_76 : decode cX10_drift 76 = .ok (.iload 6, 2) := by decide +kernel
theorem dX10_drift_78 : decode cX10_drift 78 = .ok (.goto 4, 3) := by decide +kernel
theorem dX10_drift_81 : decode cX10_drift 81 = .ok (.iconst 0, 1) := by decide +kernel
theorem dX10_drift_82 : decode cX10_drift 82 = .ok (.iadd, 1) := by decide +kernel
theorem dX10_drift_83 : decode cX10_drift 83 = .ok (.istore 4, 2) := by decide +kernel
theorem dX10_drift_85 : decode cX10_drift 85 = .ok (.iinc 5 1, 3) := by decide +kernel
theorem dX10_drift_88 : decode cX10_drift 88 = .ok (.goto (-44), 3) := by decide +kernel
theorem dX10_drift_91 : decode cX10_drift 91 = .ok (.iload_n 2, 1) := by decide +kernel
theorem dX10_drift_92 : decode cX10_drift 92 = .ok (.ifCond .ne 7, 3) := by decide +kernel
theorem dX10_drift_95 : decode cX10_drift 95 = .ok (.iload_n 3, 1) := by decide +kernel
theorem dX10_drift_96 : decode cX10_drift 96 = .ok (.goto 5, 3) := by decide +kernel
theorem dX10_drift_99 : decode cX10_drift 99 = .ok (.iload 4, 2) := by decide +kernel
theorem dX10_drift_101 : decode cX10_drift 101 = .ok (.ireturn, 1) := by decide +kernel
theorem dX10_seed_0 : decode cX10_seed 0 = .ok (.iload_n 1, 1) := by decide +kernel
theorem dX10_seed_1 : decode cX10_seed 1 = .ok (.ifCond .ge 6, 3) := by decide +kernel
theorem dX10_seed_4 : decode cX10_seed 4 = .ok (.ldc 136, 2) := by decide +kernel
theorem dX10_seed_6 : decode cX10_seed 6 = .ok (.ireturn, 1) := by decide +kernel
theorem dX10_seed_7 : decode cX10_seed 7 = .ok (.aload_n 0, 1) := by decide +kernel
theorem dX10_seed_8 : decode cX10_seed 8 = .ok (.getfield 355, 3) := by decide +kernel
theorem dX10_seed_11 : decode cX10_seed 11 = .ok (.istore_n 2, 1) := by decide +kernel
theorem dX10_seed_12 : decode cX10_seed 12 = .ok (.aload_n 0, 1) := by decide +kernel
theorem dX10_seed_13 : decode cX10_seed 13 = .ok (.iload_n 1, 1) := by decide +kernel
theorem dX10_seed_14 : decode cX10_seed 14 = .ok (.putfield 355, 3) := by decide +kernel
theorem dX10_seed_17 : decode cX10_seed 17 = .ok (.iload_n 2, 1) := by decide +kernel
theorem dX10_seed_18 : decode cX10_seed 18 = .ok (.ireturn, 1) := by decide +kernel
theorem dX10_keep_0 : decode cX10_keep 0 = .ok (.iload_n 1, 1) := by decide +kernel
theorem dX10_keep_1 : decode cX10_keep 1 = .ok (.i2l, 1) := by decide +kernel
theorem dX10_keep_2 : decode cX10_keep 2 = .ok (.lconst 0, 1) := by decide +kernel
theorem dX10_keep_3 : decode cX10_keep 3 = .ok (.lconst 1, 1) := by decide +kernel
theorem dX10_keep_4 : decode cX10_keep 4 = .ok (.invokestatic 124, 3) := by decide +kernel
theorem dX10_keep_7 : decode cX10_keep 7 = .ok (.ifCond .ne 6, 3) := by decide +kernel
theorem dX10_keep_10 : decode cX10_keep 10 = .ok (.ldc 242, 2) := by decide +kernel
theorem dX10_keep_12 : decode cX10_keep 12 = .ok (.ireturn, 1) := by decide +kernel
theorem dX10_keep_13 : decode cX10_keep 13 = .ok (.bipush 20, 2) := by decide +kernel
theorem dX10_keep_15 : decode cX10_keep 15 = .ok (.iload_n 1, 1) := by decide +kernel
theorem dX10_keep_16 : decode cX10_keep 16 = .ok (.imul, 1) := by decide +kernel
theorem dX10_keep_17 : decode cX10_keep 17 = .ok (.istore_n 2, 1) := by decide +kernel
theorem dX10_keep_18 : decode cX10_keep 18 = .ok (.iconst 0, 1) := by decide +kernel
theorem dX10_keep_19 : decode cX10_keep 19 = .ok (.istore_n 3, 1) := by decide +kernel
theorem dX10_keep_20 : decode cX10_keep 20 = .ok (.iload_n 3, 1) := by decide +kernel
theorem dX10_keep_21 : decode cX10_keep 21 = .ok (.bipush 6, 2) := by decide +kernel
theorem dX10_keep_23 : decode cX10_keep 23 = .ok (.if_icmp .ge 40, 3) := by decide +kernel
theorem dX10_keep_26 : decode cX10_keep 26 = .ok (.aload_n 0, 1) := by decide +kernel
theorem dX10_keep_27 : decode cX10_keep 27 = .ok (.getfield 114, 3) := by decide +kernel
theorem dX10_keep_30 : decode cX10_keep 30 = .ok (.iload_n 2, 1) := by decide +kernel
theorem dX10_keep_31 : decode cX10_keep 31 = .ok (.iload_n 3, 1) := by decide +kernel
theorem dX10_keep_32 : decode cX10_keep 32 = .ok (.iadd, 1) := by decide +kernel
theorem dX10_keep_33 : decode cX10_keep 33 = .ok (.aload_n 0, 1) := by decide +kernel
theorem dX10_keep_34 : decode cX10_keep 34 = .ok (.getfield 31, 3) := by decide +kernel
theorem dX10_keep_37 : decode cX10_keep 37 = .ok (.iload_n 3, 1) := by decide +kernel
theorem dX10_keep_38 : decode cX10_keep 38 = .ok (.iaload, 1) := by decide +kernel
theorem dX10_keep_39 : decode cX10_keep 39 = .ok (.iastore, 1) := by decide +kernel
theorem dX10_keep_40 : decode cX10_keep 40 = .ok (.aload_n 0, 1) := by decide +kernel
theorem dX10_keep_41 : decode cX10_keep 41 = .ok (.getfield 114, 3) := by decide +kernel
theorem dX10_keep_44 : decode cX10_keep 44 = .ok (.iload_n 2, 1) := by decide +kernel
theorem dX10_keep_45 : decode cX10_keep 45 = .ok (.bipush 6, 2) := by decide +kernel
theorem dX10_keep_47 : decode cX10_keep 47 = .ok (.iadd, 1) := by decide +kernel
theorem dX10_keep_48 : decode cX10_keep 48 = .ok (.iload_n 3, 1) := by decide +kernel
theorem dX10_keep_49 : decode cX10_keep 49 = .ok (.iadd, 1) := by decide +kernel
theorem dX10_keep_50 : decode cX10_keep 50 = .ok (.aload_n 0, 1) := by decide +kernel
theorem dX10_keep_51 : decode cX10_keep 51 = .ok (.getfield 28, 3) := by decide +kernel
theorem dX10_keep_54 : decode cX10_keep 54 = .ok (.iload_n 3, 1) := by decide +kernel
theorem dX10_keep_55 : decode cX10_keep 55 = .ok (.iaload, 1) := by decide +kernel
theorem dX10_keep_56 : decode cX10_keep 56 = .ok (.iastore, 1) := by decide +kernel
theorem dX10_keep_57 : decode cX10_keep 57 = .ok (.iinc 3 1, 3) := by decide +kernel
theorem dX10_keep_60 : decode cX10_keep 60 = .ok (.goto (-40), 3) := by decide +kernel
theorem dX10_keep_63 : decode cX10_keep 63 = .ok (.aload_n 0, 1) := by decide +kernel
theorem dX10_keep_64 : decode cX10_keep 64 = .ok (.getfield 114, 3) := by decide +kernel
theorem dX10_keep_67 : decode cX10_keep 67 = .ok (.iload_n 2, 1) := by decide +kernel
theorem dX10_keep_68 : decode cX10_keep 68 = .ok (.bipush 12, 2) := by decide +kernel
theorem dX10_keep_70 : decode cX10_keep 70 = .ok (.iadd, 1) := by decide +kernel
theorem dX10_keep_71 : decode cX10_keep 71 = .ok (.aload_n 0, 1) := by decide +kernel
theorem dX10_keep_72 : decode cX10_keep 72 = .ok (.getfield 235, 3) := by decide +kernel
theorem dX10_keep_75 : decode cX10_keep 75 = .ok (.iastore, 1) := by decide +kernel
theorem dX10_keep_76 : decode cX10_keep 76 = .ok (.aload_n 0, 1) := by decide +kernel
theorem dX10_keep_77 : decode cX10_keep 77 = .ok (.getfield 114, 3) := by decide +kernel
theorem dX10_keep_80 : decode cX10_keep 80 = .ok (.iload_n 2, 1) := by decide +kernel
theorem dX10_keep_81 : decode cX10_keep 81 = .ok (.bipush 13, 2) := by decide +kernel
theorem dX10_keep_83 : decode cX10_keep 83 = .ok (.iadd, 1) := by decide +kernel
theorem dX10_keep_84 : decode cX10_keep 84 = .ok (.aload_n 0, 1) := by decide +kernel
theorem dX10_keep_85 : decode cX10_keep 85 = .ok (.getfield 355, 3) := by decide +kernel
theorem dX10_keep_88 : decode cX10_keep 88 = .ok (.iastore, 1) := by decide +kernel
theorem dX10_keep_89 : decode cX10_keep 89 = .ok (.aload_n 0, 1) := by decide +kernel
theorem dX10_keep_90 : decode cX10_keep 90 = .ok (.getfield 117, 3) := by decide +kernel
theorem dX10_keep_93 : decode cX10_keep 93 = .ok (.iload_n 1, 1) := by decide +kernel
theorem dX10_keep_94 : decode cX10_keep 94 = .ok (.iconst 1, 1) := by decide +kernel
theorem dX10_keep_95 : decode cX10_keep 95 = .ok (.bastore, 1) := by decide +kernel
theorem dX10_keep_96 : decode cX10_keep 96 = .ok (.iconst 1, 1) := by decide +kernel
theorem dX10_keep_97 : decode cX10_keep 97 = .ok (.ireturn, 1) := by decide +kernel
theorem dX10_goBack_0 : decode cX10_goBack 0 = .ok (.iload_n 1, 1) := by decide +kernel
theorem dX10_goBack_1 : decode cX10_goBack 1 = .ok (.i2l, 1) := by decide +kernel
theorem dX10_goBack_2 : decode cX10_goBack 2 = .ok (.lconst 0, 1) := by decide +kernel
theorem dX10_goBack_3 : decode cX10_goBack 3 = .ok (.lconst 1, 1) := by decide +kernel
theorem dX10_goBack_4 : decode cX10_goBack 4 = .ok (.invokestatic 124, 3) := by decide +kernel
theorem dX10_goBack_7 : decode cX10_goBack 7 = .ok (.ifCond .ne 6, 3) := by decide +kernel
theorem dX10_goBack_10 : decode cX10_goBack 10 = .ok (.ldc 242, 2) := by decide +kernel
theorem dX10_goBack_12 : decode cX10_goBack 12 = .ok (.ireturn, 1) := by decide +kernel
theorem dX10_goBack_13 : decode cX10_goBack 13 = .ok (.aload_n 0, 1) := by decide +kernel
theorem dX10_goBack_14 : decode cX10_goBack 14 = .ok (.getfield 117, 3) := by decide +kernel
theorem dX10_goBack_17 : decode cX10_goBack 17 = .ok (.iload_n 1, 1) := by decide +kernel
theorem dX10_goBack_18 : decode cX10_goBack 18 = .ok (.baload, 1) := by decide +kernel
theorem dX10_goBack_19 : decode cX10_goBack 19 = .ok (.ifCond .ne 7, 3) := by decide +kernel
theorem dX10_goBack_22 : decode cX10_goBack 22 = .ok (.ldc_w 370, 3) := by decide +kernel
theorem dX10_goBack_25 : decode cX10_goBack 25 = .ok (.ireturn, 1) := by decide +kernel
theorem dX10_goBack_26 : decode cX10_goBack 26 = .ok (.bipush 20, 2) := by decide +kernel
theorem dX10_goBack_28 : decode cX10_goBack 28 = .ok (.iload_n 1, 1) := by decide +kernel
theorem dX10_goBack_29 : decode cX10_goBack 29 = .ok (.imul, 1) := by decide +kernel
theorem dX10_goBack_30 : decode cX10_goBack 30 = .ok (.istore_n 2, 1) := by decide +kernel
theorem dX10_goBack_31 : decode cX10_goBack 31 = .ok (.iconst 0, 1) := by decide +kernel
theorem dX10_goBack_32 : decode cX10_goBack 32 = .ok (.istore_n 3, 1) := by decide +kernel
theorem dX10_goBack_33 : decode cX10_goBack 33 = .ok (.iload_n 3, 1) := by decide +kernel
theorem dX10_goBack_34 : decode cX10_goBack 34 = .ok (.bipush 6, 2) := by decide +kernel
theorem dX10_goBack_36 : decode cX10_goBack 36 = .ok (.if_icmp .ge 40, 3) := by decide +kernel
theorem dX10_goBack_39 : decode cX10_goBack 39 = .ok (.aload_n 0, 1) := by decide +kernel
theorem dX10_goBack_40 : decode cX10_goBack 40 = .ok (.getfield 31, 3) := by decide +kernel
theorem dX10_goBack_43 : decode cX10_goBack 43 = .ok (.iload_n 3, 1) := by decide +kernel
theorem dX10_goBack_44 : decode cX10_goBack 44 = .ok (.aload_n 0, 1) := by decide +kernel
theorem dX10_goBack_45 : decode cX10_goBack 45 = .ok (.getfield 114, 3) := by decide +kernel
theorem dX10_goBack_48 : decode cX10_goBack 48 = .ok (.iload_n 2, 1) := by decide +kernel
theorem dX10_goBack_49 : decode cX10_goBack 49 = .ok (.iload_n 3, 1) := by decide +kernel
theorem dX10_goBack_50 : decode cX10_goBack 50 = .ok (.iadd, 1) := by decide +kernel
theorem dX10_goBack_51 : decode cX10_goBack 51 = .ok (.iaload, 1) := by decide +kernel
theorem dX10_goBack_52 : decode cX10_goBack 52 = .ok (.iastore, 1) := by decide +kernel
theorem dX10_goBack_53 : decode cX10_goBack 53 = .ok (.aload_n 0, 1) := by decide +kernel
theorem dX10_goBack_54 : decode cX10_goBack 54 = .ok (.getfield 28, 3) := by decide +kernel
theorem dX10_goBack_57 : decode cX10_goBack 57 = .ok (.iload_n 3, 1) := by decide +kernel
theorem dX10_goBack_58 : decode cX10_goBack 58 = .ok (.aload_n 0, 1) := by decide +kernel
theorem dX10_goBack_59 : decode cX10_goBack 59 = .ok (.getfield 114, 3) := by decide +kernel
theorem dX10_goBack_62 : decode cX10_goBack 62 = .ok (.iload_n 2, 1) := by decide +kernel
theorem dX10_goBack_63 : decode cX10_goBack 63 = .ok (.bipush 6, 2) := by decide +kernel
theorem dX10_goBack_65 : decode cX10_goBack 65 = .ok (.iadd, 1) := by decide +kernel
theorem dX10_goBack_66 : decode cX10_goBack 66 = .ok (.iload_n 3, 1) := by decide +kernel
theorem dX10_goBack_67 : decode cX10_goBack 67 = .ok (.iadd, 1) := by decide +kernel
theorem dX10_goBack_68 : decode cX10_goBack 68 = .ok (.iaload, 1) := by decide +kernel
theorem dX10_goBack_69 : decode cX10_goBack 69 = .ok (.iastore, 1) := by decide +kernel
theorem dX10_goBack_70 : decode cX10_goBack 70 = .ok (.iinc 3 1, 3) := by decide +kernel
theorem dX10_goBack_73 : decode cX10_goBack 73 = .ok (.goto (-40), 3) := by decide +kernel
theorem dX10_goBack_76 : decode cX10_goBack 76 = .ok (.aload_n 0, 1) := by decide +kernel
theorem dX10_goBack_77 : decode cX10_goBack 77 = .ok (.aload_n 0, 1) := by decide +kernel
theorem dX10_goBack_78 : decode cX10_goBack 78 = .ok (.getfield 114, 3) := by decide +kernel
theorem dX10_goBack_81 : decode cX10_goBack 81 = .ok (.iload_n 2, 1) := by decide +kernel
theorem dX10_goBack_82 : decode cX10_goBack 82 = .ok (.bipush 12, 2) := by decide +kernel
theorem dX10_goBack_84 : decode cX10_goBack 84 = .ok (.iadd, 1) := by decide +kernel
theorem dX10_goBack_85 : decode cX10_goBack 85 = .ok (.iaload, 1) := by decide +kernel
theorem dX10_goBack_86 : decode cX10_goBack 86 = .ok (.putfield 235, 3) := by decide +kernel
theorem dX10_goBack_89 : decode cX10_goBack 89 = .ok (.aload_n 0, 1) := by decide +kernel
theorem dX10_goBack_90 : decode cX10_goBack 90 = .ok (.aload_n 0, 1) := by decide +kernel
theorem dX10_goBack_91 : decode cX10_goBack 91 = .ok (.getfield 114, 3) := by decide +kernel
theorem dX10_goBack_94 : decode cX10_goBack 94 = .ok (.iload_n 2, 1) := by decide +kernel
theorem dX10_goBack_95 : decode cX10_goBack 95 = .ok (.bipush 13, 2) := by decide +kernel
theorem dX10_goBack_97 : decode cX10_goBack 97 = .ok (.iadd, 1) := by decide +kernel
theorem dX10_goBack_98 : decode cX10_goBack 98 = .ok (.iaload, 1) := by decide +kernel
theorem dX10_goBack_99 : decode cX10_goBack 99 = .ok (.putfield 355, 3) := by decide +kernel
theorem dX10_goBack_102 : decode cX10_goBack 102 = .ok (.iconst 1, 1) := by decide +kernel
theorem dX10_goBack_103 : decode cX10_goBack 103 = .ok (.ireturn, 1) := by decide +kernel
end
section
theorem dL_law_0 : decode cL_law 0 = .ok (.new 7, 3) := by decide +kernel
theorem dL_law_3 : decode cL_law 3 = .ok (.dup, 1) := by decide +kernel
theorem dL_law_4 : decode cL_law 4 = .ok (.invokespecial 9, 3) := by decide +kernel
theorem dL_law_7 : decode cL_law 7 = .ok (.astore_n 1, 1) := by decide +kernel
theorem dL_law_8 : decode cL_law 8 = .ok (.new 10, 3) := by decide +kernel
theorem dL_law_11 : decode cL_law 11 = .ok (.dup, 1) := by decide +kernel
theorem dL_law_12 : decode cL_law 12 = .ok (.invokespecial 12, 3) := by decide +kernel
theorem dL_law_15 : decode cL_law 15 = .ok (.astore_n 2, 1) := by decide +kernel
theorem dL_law_16 : decode cL_law 16 = .ok (.iconst 0, 1) := by decide +kernel
theorem dL_law_17 : decode cL_law 17 = .ok (.istore_n 3, 1) := by decide +kernel
theorem dL_law_18 : decode cL_law 18 = .ok (.iload_n 3, 1) := by decide +kernel
theorem dL_law_19 : decode cL_law 19 = .ok (.aload_n 0, 1) := by decide +kernel
theorem dL_law_20 : decode cL_law 20 = .ok (.arraylength, 1) := by decide +kernel
theorem dL_law_21 : decode cL_law 21 = .ok (.iconst 5, 1) := by decide +kernel
theorem dL_law_22 : decode cL_law 22 = .ok (.isub, 1) := by decide +kernel
theorem dL_law_23 : decode cL_law 23 = .ok (.if_icmp .gt 1176, 3) := by decide +kernel
theorem dL_law_26 : decode cL_law 26 = .ok (.aload_n 0, 1) := by decide +kernel
theorem dL_law_27 : decode cL_law 27 = .ok (.iload_n 3, 1) := by decide +kernel
theorem dL_law_28 : decode cL_law 28 = .ok (.iaload, 1) := by decide +kernel
theorem dL_law_29 : decode cL_law 29 = .ok (.bipush 31, 2) := by decide +kernel
theorem dL_law_31 : decode cL_law 31 = .ok (.iand, 1) := by decide +kernel
theorem dL_law_32 : decode cL_law 32 = .ok (.tableswitch 1161 0 28 #[132, 195, 208, 221, 244, 277, 310, 343, 366, 425, 458, 511, 564, 617, 686, 719, 762, 805, 848, 901, 934, 967, 980, 1033, 1046, 1059, 1092, 1115, 1138], 132) := by decide +kernel
theorem dL_law_164 : decode cL_law 164 = .ok (.aload_n 1, 1) := by decide +kernel
theorem dL_law_165 : decode cL_law 165 = .ok (.aload_n 0, 1) := by decide +kernel
theorem dL_law_166 : decode cL_law 166 = .ok (.iload_n 3, 1) := by decide +kernel
theorem dL_law_167 : decode cL_law 167 = .ok (.iconst 1, 1) := by decide +kernel
theorem dL_law_168 : decode cL_law 168 = .ok (.iadd, 1) := by decide +kernel
theorem dL_law_169 : decode cL_law 169 = .ok (.iaload, 1) := by decide +kernel
theorem dL_law_170 : decode cL_law 170 = .ok (.aload_n 0, 1) := by decide +kernel
theorem dL_law_171 : decode cL_law 171 = .ok (.iload_n 3, 1) := by decide +kernel
theorem dL_law_172 : decode cL_law 172 = .ok (.iconst 2, 1) := by decide +kernel
theorem dL_law_173 : decode cL_law 173 = .ok (.iadd, 1) := by decide +kernel
theorem dL_law_174 : decode cL_law 174 = .ok (.iaload, 1) := by decide +kernel
theorem dL_law_175 : decode cL_law 175 = .ok (.i2l, 1) := by decide +kernel
theorem dL_law_176 : decode cL_law 176 = .ok (.bipush 32, 2) := by decide +kernel
theorem dL_law_178 : decode cL_law 178 = .ok (.lshl, 1) := by decide +kernel
theorem dL_law_179 : decode cL_law 179 = .ok (.aload_n 0, 1) := by decide +kernel
theorem dL_law_180 : decode cL_law 180 = .ok (.iload_n 3, 1) := by decide +kernel
theorem dL_law_181 : decode cL_law 181 = .ok (.iconst 3, 1) := by decide +kernel
theorem dL_law_182 : decode cL_law 182 = .ok (.iadd, 1) := by decide +kernel
theorem dL_law_183 : decode cL_law 183 = .ok (.iaload, 1) := by decide +kernel
theorem dL_law_184 : decode cL_law 184 = .ok (.i2l, 1) := by decide +kernel
theorem dL_law_185 : decode cL_law 185 = .ok (.ldc2_w 13, 3) := by decide +kernel
theorem dL_law_188 : decode cL_law 188 = .ok (.land, 1) := by decide +kernel
theorem dL_law_189 : decode cL_law 189 = .ok (.lor, 1) := by decide +kernel
theorem dL_law_190 : decode cL_law 190 = .ok (.invokevirtual 15, 3) := by decide +kernel
theorem dL_law_193 : decode cL_law 193 = .ok (.aload_n 2, 1) := by decide +kernel
theorem dL_law_194 : decode cL_law 194 = .ok (.aload_n 0, 1) := by decide +kernel
theorem dL_law_195 : decode cL_law 195 = .ok (.iload_n 3, 1) := by decide +kernel
theorem dL_law_196 : decode cL_law 196 = .ok (.iconst 1, 1) := by decide +kernel
theorem dL_law_197 : decode cL_law 197 = .ok (.iadd, 1) := by decide +kernel
theorem dL_law_198 : decode cL_law 198 = .ok (.iaload, 1) := by decide +kernel
theorem dL_law_199 : decode cL_law 199 = .ok (.aload_n 0, 1) := by decide +kernel
theorem dL_law_200 : decode cL_law 200 = .ok (.iload_n 3, 1) := by decide +kernel
theorem dL_law_201 : decode cL_law 201 = .ok (.iconst 2, 1) := by decide +kernel
theorem dL_law_202 : decode cL_law 202 = .ok (.iadd, 1) := by decide +kernel
theorem dL_law_203 : decode cL_law 203 = .ok (.iaload, 1) := by decide +kernel
theorem dL_law_204 : decode cL_law 204 = .ok (.i2l, 1) := by decide +kernel
theorem dL_law_205 : decode cL_law 205 = .ok (.bipush 32, 2) := by decide +kernel
theorem dL_law_207 : decode cL_law 207 = .ok (.lshl, 1) := by decide +kernel
theorem dL_law_208 : decode cL_law 208 = .ok (.aload_n 0, 1) := by decide +kernel
theorem dL_law_209 : decode cL_law 209 = .ok (.iload_n 3, 1) := by decide +kernel
theorem dL_law_210 : decode cL_law 210 = .ok (.iconst 3, 1) := by decide +kernel
theorem dL_law_211 : decode cL_law 211 = .ok (.iadd, 1) := by decide +kernel
theorem dL_law_212 : decode cL_law 212 = .ok (.iaload, 1) := by decide +kernel
theorem dL_law_213 : decode cL_law 213 = .ok (.i2l, 1) := by decide +kernel
theorem dL_law_214 : decode cL_law 214 = .ok (.ldc2_w 13, 3) := by decide +kernel
theorem dL_law_217 : decode cL_law 217 = .ok (.land, 1) := by decide +kernel
theorem dL_law_218 : decode cL_law 218 = .ok (.lor, 1) := by decide +kernel
theorem dL_law_219 : decode cL_law 219 = .ok (.invokevirtual 19, 3) := by decide +kernel
theorem dL_law_222 : decode cL_law 222 = .ok (.if_icmp .eq 971, 3) := by decide +kernel
theorem dL_law_225 : decode cL_law 225 = .ok (.iconst 0, 1) := by decide +kernel
theorem dL_law_226 : decode cL_law 226 = .ok (.ireturn, 1) := by decide +kernel
theorem dL_law_227 : decode cL_law 227 = .ok (.aload_n 1, 1) := by decide +kernel
theorem dL_law_228 : decode cL_law 228 = .ok (.invokevirtual 20, 3) := by decide +kernel
theorem dL_law_231 : decode cL_law 231 = .ok (.aload_n 2, 1) := by decide +kernel
theorem dL_law_232 : decode cL_law 232 = .ok (.invokevirtual 24, 3) := by decide +kernel
theorem dL_law_235 : decode cL_law 235 = .ok (.if_icmp .eq 958, 3) := by decide +kernel
theorem dL_law_238 : decode cL_law 238 = .ok (.iconst 0, 1) := by decide +kernel
theorem dL_law_239 : decode cL_law 239 = .ok (.ireturn, 1) := by decide +kernel
theorem dL_law_240 : decode cL_law 240 = .ok (.aload_n 1, 1) := by decide +kernel
theorem dL_law_241 : decode cL_law 241 = .ok (.invokevirtual 25, 3) := by decide +kernel
theorem dL_law_244 : decode cL_law 244 = .ok (.aload_n 2, 1) := by decide +kernel
theorem dL_law_245 : decode cL_law 245 = .ok (.invokevirtual 28, 3) := by decide +kernel
theorem dL_law_248 : decode cL_law 248 = .ok (.if_icmp .eq 945, 3) := by decide +kernel
theorem dL_law_251 : decode cL_law 251 = .ok (.iconst 0, 1) := by decide +kernel
theorem dL_law_252 : decode cL_law 252 = .ok (.ireturn, 1) := by decide +kernel
theorem dL_law_253 : decode cL_law 253 = .ok (.aload_n 1, 1) := by decide +kernel
theorem dL_law_254 : decode cL_law 254 = .ok (.aload_n 0, 1) := by decide +kernel
theorem dL_law_255 : decode cL_law 255 = .ok (.iload_n 3, 1) := by decide +kernel
theorem dL_law_256 : decode cL_law 256 = .ok (.iconst 1, 1) := by decide +kernel
theorem dL_law_257 : decode cL_law 257 = .ok (.iadd, 1) := by decide +kernel
theorem dL_law_258 : decode cL_law 258 = .ok (.iaload, 1) := by decide +kernel
theorem dL_law_259 : decode cL_law 259 = .ok (.invokevirtual 29, 3) := by decide +kernel
theorem dL_law_262 : decode cL_law 262 = .ok (.aload_n 2, 1) := by decide +kernel
theorem dL_law_263 : decode cL_law 263 = .ok (.aload_n 0, 1) := by decide +kernel
theorem dL_law_264 : decode cL_law 264 = .ok (.iload_n 3, 1) := by decide +kernel
theorem dL_law_265 : decode cL_law 265 = .ok (.iconst 1, 1) := by decide +kernel
theorem dL_law_266 : decode cL_law 266 = .ok (.iadd, 1) := by decide +kernel
theorem dL_law_267 : decode cL_law 267 = .ok (.iaload, 1) := by decide +kernel
theorem dL_law_268 : decode cL_law 268 = .ok (.invokevirtual 33, 3) := by decide +kernel
theorem dL_law_271 : decode cL_law 271 = .ok (.if_icmp .eq 922, 3) := by decide +kernel
theorem dL_law_274 : decode cL_law 274 = .ok (.iconst 0, 1) := by decide +kernel
theorem dL_law_275 : decode cL_law 275 = .ok (.ireturn, 1) := by decide +kernel
theorem dL_law_276 : decode cL_law 276 = .ok (.aload_n 1, 1) := by decide +kernel
theorem dL_law_277 : decode cL_law 277 = .ok (.aload_n 0, 1) := by decide +kernel
theorem dL_law_278 : decode cL_law 278 = .ok (.iload_n 3, 1) := by decide +kernel
theorem dL_law_279 : decode cL_law 279 = .ok (.iconst 1, 1) := by decide +kernel
theorem dL_law_280 : decode cL_law 280 = .ok (.iadd, 1) := by decide +kernel
theorem dL_law_281 : decode cL_law 281 = .ok (.iaload, 1) := by decide +kernel
theorem dL_law_282 : decode cL_law 282 = .ok (.aload_n 0, 1) := by decide +kernel
theorem dL_law_283 : decode cL_law 283 = .ok (.iload_n 3, 1) := by decide +kernel
theorem dL_law_284 : decode cL_law 284 = .ok (.iconst 2, 1) := by decide +kernel
theorem dL_law_285 : decode cL_law 285 = .ok (.iadd, 1) := by decide +kernel
theorem dL_law_286 : decode cL_law 286 = .ok (.iaload, 1) := by decide +kernel
theorem dL_law_287 : decode cL_law 287 = .ok (.invokevirtual 34, 3) := by decide +kernel
theorem dL_law_290 : decode cL_law 290 = .ok (.aload_n 2, 1) := by decide +kernel
theorem dL_law_291 : decode cL_law 291 = .ok (.aload_n 0, 1) := by decide +kernel
theorem dL_law_292 : decode cL_law 292 = .ok (.iload_n 3, 1) := by decide +kernel
theorem dL_law_293 : decode cL_law 293 = .ok (.iconst 1, 1) := by decide +kernel
theorem dL_law_294 : decode cL_law 294 = .ok (.iadd, 1) := by decide +kernel
theorem dL_law_295 : decode cL_law 295 = .ok (.iaload, 1) := by decide +kernel
theorem dL_law_296 : decode cL_law 296 = .ok (.aload_n 0, 1) := by decide +kernel
theorem dL_law_297 : decode cL_law 297 = .ok (.iload_n 3, 1) := by decide +kernel
theorem dL_law_298 : decode cL_law 298 = .ok (.iconst 2, 1) := by decide +kernel
theorem dL_law_299 : decode cL_law 299 = .ok (.iadd, 1) := by decide +kernel
theorem dL_law_300 : decode cL_law 300 = .ok (.iaload, 1) := by decide +kernel
theorem dL_law_301 : decode cL_law 301 = .ok (.invokevirtual 38, 3) := by decide +kernel
theorem dL_law_304 : decode cL_law 304 = .ok (.if_icmp .eq 889, 3) := by decide +kernel
theorem dL_law_307 : decode cL_law 307 = .ok (.iconst 0, 1) := by decide +kernel
theorem dL_law_308 : decode cL_law 308 = .ok (.ireturn, 1) := by decide +kernel
theorem dL_law_309 : decode cL_law 309 = .ok (.aload_n 1, 1) := by decide +kernel
theorem dL_law_310 : decode cL_law 310 = .ok (.aload_n 0, 1) := by decide +kernel
theorem dL_law_311 : decode cL_law 311 = .ok (.iload_n 3, 1) := by decide +kernel
theorem dL_law_312 : decode cL_law 312 = .ok (.iconst 1, 1) := by decide +kernel
theorem dL_law_313 : decode cL_law 313 = .ok (.iadd, 1) := by decide +kernel
theorem dL_law_314 : decode cL_law 314 = .ok (.iaload, 1) := by decide +kernel
theorem dL_law_315 : decode cL_law 315 = .ok (.aload_n 0, 1) := by decide +kernel
theorem dL_law_316 : decode cL_law 316 = .ok (.iload_n 3, 1) := by decide +kernel
theorem dL_law_317 : decode cL_law 317 = .ok (.iconst 2, 1) := by decide +kernel
theorem dL_law_318 : decode cL_law 318 = .ok (.iadd, 1) := by decide +kernel
theorem dL_law_319 : decode cL_law 319 = .ok (.iaload, 1) := by decide +kernel
theorem dL_law_320 : decode cL_law 320 = .ok (.invokevirtual 39, 3) := by decide +kernel
theorem dL_law_323 : decode cL_law 323 = .ok (.aload_n 2, 1) := by decide +kernel
theorem dL_law_324 : decode cL_law 324 = .ok (.aload_n 0, 1) := by decide +kernel
theorem dL_law_325 : decode cL_law 325 = .ok (.iload_n 3, 1) := by decide +kernel
theorem dL_law_326 : decode cL_law 326 = .ok (.iconst 1, 1) := by decide +kernel
theorem dL_law_327 : decode cL_law 327 = .ok (.iadd, 1) := by decide +kernel
theorem dL_law_328 : decode cL_law 328 = .ok (.iaload, 1) := by decide +kernel
theorem dL_law_329 : decode cL_law 329 = .ok (.aload_n 0, 1) := by decide +kernel
theorem dL_law_330 : decode cL_law 330 = .ok (.iload_n 3, 1) := by decide +kernel
theorem dL_law_331 : decode cL_law 331 = .ok (.iconst 2, 1) := by decide +kernel
theorem dL_law_332 : decode cL_law 332 = .ok (.iadd, 1) := by decide +kernel
theorem dL_law_333 : decode cL_law 333 = .ok (.iaload, 1) := by decide +kernel
theorem dL_law_334 : decode cL_law 334 = .ok (.invokevirtual 42, 3) := by decide +kernel
theorem dL_law_337 : decode cL_law 337 = .ok (.if_icmp .eq 856, 3) := by decide +kernel
theorem dL_law_340 : decode cL_law 340 = .ok (.iconst 0, 1) := by decide +kernel
theorem dL_law_341 : decode cL_law 341 = .ok (.ireturn, 1) := by decide +kernel
theorem dL_law_342 : decode cL_law 342 = .ok (.aload_n 1, 1) := by decide +kernel
theorem dL_law_343 : decode cL_law 343 = .ok (.aload_n 0, 1) := by decide +kernel
theorem dL_law_344 : decode cL_law 344 = .ok (.iload_n 3, 1) := by decide +kernel
theorem dL_law_345 : decode cL_law 345 = .ok (.iconst 1, 1) := by decide +kernel
theorem dL_law_346 : decode cL_law 346 = .ok (.iadd, 1) := by decide +kernel
theorem dL_law_347 : decode cL_law 347 = .ok (.iaload, 1) := by decide +kernel
theorem dL_law_348 : decode cL_law 348 = .ok (.aload_n 0, 1) := by decide +kernel
theorem dL_law_349 : decode cL_law 349 = .ok (.iload_n 3, 1) := by decide +kernel
theorem dL_law_350 : decode cL_law 350 = .ok (.iconst 2, 1) := by decide +kernel
theorem dL_law_351 : decode cL_law 351 = .ok (.iadd, 1) := by decide +kernel
theorem dL_law_352 : decode cL_law 352 = .ok (.iaload, 1) := by decide +kernel
theorem dL_law_353 : decode cL_law 353 = .ok (.invokevirtual 43, 3) := by decide +kernel
theorem dL_law_356 : decode cL_law 356 = .ok (.aload_n 2, 1) := by decide +kernel
theorem dL_law_357 : decode cL_law 357 = .ok (.aload_n 0, 1) := by decide +kernel
theorem dL_law_358 : decode cL_law 358 = .ok (.iload_n 3, 1) := by decide +kernel
theorem dL_law_359 : decode cL_law 359 = .ok (.iconst 1, 1) := by decide +kernel
theorem dL_law_360 : decode cL_law 360 = .ok (.iadd, 1) := by decide +kernel
theorem dL_law_361 : decode cL_law 361 = .ok (.iaload, 1) := by decide +kernel
theorem dL_law_362 : decode cL_law 362 = .ok (.aload_n 0, 1) := by decide +kernel
theorem dL_law_363 : decode cL_law 363 = .ok (.iload_n 3, 1) := by decide +kernel
theorem dL_law_364 : decode cL_law 364 = .ok (.iconst 2, 1) := by decide +kernel
theorem dL_law_365 : decode cL_law 365 = .ok (.iadd, 1) := by decide +kernel
theorem dL_law_366 : decode cL_law 366 = .ok (.iaload, 1) := by decide +kernel
theorem dL_law_367 : decode cL_law 367 = .ok (.invokevirtual 46, 3) := by decide +kernel
theorem dL_law_370 : decode cL_law 370 = .ok (.if_icmp .eq 823, 3) := by decide +kernel
theorem dL_law_373 : decode cL_law 373 = .ok (.iconst 0, 1) := by decide +kernel
theorem dL_law_374 : decode cL_law 374 = .ok (.ireturn, 1) := by decide +kernel
theorem dL_law_375 : decode cL_law 375 = .ok (.aload_n 1, 1) := by decide +kernel
theorem dL_law_376 : decode cL_law 376 = .ok (.aload_n 0, 1) := by decide +kernel
theorem dL_law_377 : decode cL_law 377 = .ok (.iload_n 3, 1) := by decide +kernel
theorem dL_law_378 : decode cL_law 378 = .ok (.iconst 1, 1) := by decide +kernel
theorem dL_law_379 : decode cL_law 379 = .ok (.iadd, 1) := by decide +kernel
theorem dL_law_380 : decode cL_law 380 = .ok (.iaload, 1) := by decide +kernel
theorem dL_law_381 : decode cL_law 381 = .ok (.invokevirtual 47, 3) := by decide +kernel
theorem dL_law_384 : decode cL_law 384 = .ok (.aload_n 2, 1) := by decide +kernel
theorem dL_law_385 : decode cL_law 385 = .ok (.aload_n 0, 1) := by decide +kernel
theorem dL_law_386 : decode cL_law 386 = .ok (.iload_n 3, 1) := by decide +kernel
theorem dL_law_387 : decode cL_law 387 = .ok (.iconst 1, 1) := by decide +kernel
theorem dL_law_388 : decode cL_law 388 = .ok (.iadd, 1) := by decide +kernel
theorem dL_law_389 : decode cL_law 389 = .ok (.iaload, 1) := by decide +kernel
theorem dL_law_390 : decode cL_law 390 = .ok (.invokevirtual 50, 3) := by decide +kernel
theorem dL_law_393 : decode cL_law 393 = .ok (.if_icmp .eq 800, 3) := by decide +kernel
theorem dL_law_396 : decode cL_law 396 = .ok (.iconst 0, 1) := by decide +kernel
theorem dL_law_397 : decode cL_law 397 = .ok (.ireturn, 1) := by decide +kernel
theorem dL_law_398 : decode cL_law 398 = .ok (.aload_n 1, 1) := by decide +kernel
theorem dL_law_399 : decode cL_law 399 = .ok (.aload_n 0, 1) := by decide +kernel
theorem dL_law_400 : decode cL_law 400 = .ok (.iload_n 3, 1) := by decide +kernel
theorem dL_law_401 : decode cL_law 401 = .ok (.iconst 1, 1) := by decide +kernel
theorem dL_law_402 : decode cL_law 402 = .ok (.iadd, 1) := by decide +kernel
theorem dL_law_403 : decode cL_law 403 = .ok (.iaload, 1) := by decide +kernel
theorem dL_law_404 : decode cL_law 404 = .ok (.aload_n 0, 1) := by decide +kernel
theorem dL_law_405 : decode cL_law 405 = .ok (.iload_n 3, 1) := by decide +kernel
theorem dL_law_406 : decode cL_law 406 = .ok (.iconst 2, 1) := by decide +kernel
theorem dL_law_407 : decode cL_law 407 = .ok (.iadd, 1) := by decide +kernel
theorem dL_law_408 : decode cL_law 408 = .ok (.iaload, 1) := by decide +kernel
theorem dL_law_409 : decode cL_law 409 = .ok (.aload_n 0, 1) := by decide +kernel
theorem dL_law_410 : decode cL_law 410 = .ok (.iload_n 3, 1) := by decide +kernel
theorem dL_law_411 : decode cL_law 411 = .ok (.iconst 3, 1) := by decide +kernel
theorem dL_law_412 : decode cL_law 412 = .ok (.iadd, 1) := by decide +kernel
theorem dL_law_413 : decode cL_law 413 = .ok (.iaload, 1) := by decide +kernel
theorem dL_law_414 : decode cL_law 414 = .ok (.ifCond .eq 7, 3) := by decide +kernel
theorem dL_law_417 : decode cL_law 417 = .ok (.iconst 1, 1) := by decide +kernel
theorem dL_law_418 : decode cL_law 418 = .ok (.goto 4, 3) := by decide +kernel
theorem dL_law_421 : decode cL_law 421 = .ok (.iconst 0, 1) := by decide +kernel
theorem dL_law_422 : decode cL_law 422 = .ok (.invokevirtual 51, 3) := by decide +kernel
theorem dL_law_425 : decode cL_law 425 = .ok (.aload_n 2, 1) := by decide +kernel
theorem dL_law_426 : decode cL_law 426 = .ok (.aload_n 0, 1) := by decide +kernel
theorem dL_law_427 : decode cL_law 427 = .ok (.iload_n 3, 1) := by decide +kernel
theorem dL_law_428 : decode cL_law 428 = .ok (.iconst 1, 1) := by decide +kernel
theorem dL_law_429 : decode cL_law 429 = .ok (.iadd, 1) := by decide +kernel
theorem dL_law_430 : decode cL_law 430 = .ok (.iaload, 1) := by decide +kernel
theorem dL_law_431 : decode cL_law 431 = .ok (.aload_n 0, 1) := by decide +kernel
theorem dL_law_432 : decode cL_law 432 = .ok (.iload_n 3, 1) := by decide +kernel
theorem dL_law_433 : decode cL_law 433 = .ok (.iconst 2, 1) := by decide +kernel
theorem dL_law_434 : decode cL_law 434 = .ok (.iadd, 1) := by decide +kernel
theorem dL_law_435 : decode cL_law 435 = .ok (.iaload, 1) := by decide +kernel
theorem dL_law_436 : decode cL_law 436 = .ok (.aload_n 0, 1) := by decide +kernel
theorem dL_law_437 : decode cL_law 437 = .ok (.iload_n 3, 1) := by decide +kernel
theorem dL_law_438 : decode cL_law 438 = .ok (.iconst 3, 1) := by decide +kernel
theorem dL_law_439 : decode cL_law 439 = .ok (.iadd, 1) := by decide +kernel
theorem dL_law_440 : decode cL_law 440 = .ok (.iaload, 1) := by decide +kernel
theorem dL_law_441 : decode cL_law 441 = .ok (.ifCond .eq 7, 3) := by decide +kernel
theorem dL_law_444 : decode cL_law 444 = .ok (.iconst 1, 1) := by decide +kernel
theorem dL_law_445 : decode cL_law 445 = .ok (.goto 4, 3) := by decide +kernel
theorem dL_law_448 : decode cL_law 448 = .ok (.iconst 0, 1) := by decide +kernel
theorem dL_law_449 : decode cL_law 449 = .ok (.invokevirtual 55, 3) := by decide +kernel
theorem dL_law_452 : decode cL_law 452 = .ok (.if_icmp .eq 741, 3) := by decide +kernel
theorem dL_law_455 : decode cL_law 455 = .ok (.iconst 0, 1) := by decide +kernel
theorem dL_law_456 : decode cL_law 456 = .ok (.ireturn, 1) := by decide +kernel
theorem dL_law_457 : decode cL_law 457 = .ok (.aload_n 1, 1) := by decide +kernel
theorem dL_law_458 : decode cL_law 458 = .ok (.aload_n 0, 1) := by decide +kernel
theorem dL_law_459 : decode cL_law 459 = .ok (.iload_n 3, 1) := by decide +kernel
theorem dL_law_460 : decode cL_law 460 = .ok (.iconst 1, 1) := by decide +kernel
theorem dL_law_461 : decode cL_law 461 = .ok (.iadd, 1) := by decide +kernel
theorem dL_law_462 : decode cL_law 462 = .ok (.iaload, 1) := by decide +kernel
theorem dL_law_463 : decode cL_law 463 = .ok (.aload_n 0, 1) := by decide +kernel
theorem dL_law_464 : decode cL_law 464 = .ok (.iload_n 3, 1) := by decide +kernel
theorem dL_law_465 : decode cL_law 465 = .ok (.iconst 2, 1) := by decide +kernel
theorem dL_law_466 : decode cL_law 466 = .ok (.iadd, 1) := by decide +kernel
theorem dL_law_467 : decode cL_law 467 = .ok (.iaload, 1) := by decide +kernel
theorem dL_law_468 : decode cL_law 468 = .ok (.invokevirtual 56, 3) := by decide +kernel
theorem dL_law_471 : decode cL_law 471 = .ok (.aload_n 2, 1) := by decide +kernel
theorem dL_law_472 : decode cL_law 472 = .ok (.aload_n 0, 1) := by decide +kernel
theorem dL_law_473 : decode cL_law 473 = .ok (.iload_n 3, 1) := by decide +kernel
theorem dL_law_474 : decode cL_law 474 = .ok (.iconst 1, 1) := by decide +kernel
theorem dL_law_475 : decode cL_law 475 = .ok (.iadd, 1) := by decide +kernel
theorem dL_law_476 : decode cL_law 476 = .ok (.iaload, 1) := by decide +kernel
theorem dL_law_477 : decode cL_law 477 = .ok (.aload_n 0, 1) := by decide +kernel
theorem dL_law_478 : decode cL_law 478 = .ok (.iload_n 3, 1) := by decide +kernel
theorem dL_law_479 : decode cL_law 479 = .ok (.iconst 2, 1) := by decide +kernel
theorem dL_law_480 : decode cL_law 480 = .ok (.iadd, 1) := by decide +kernel
theorem dL_law_481 : decode cL_law 481 = .ok (.iaload, 1) := by decide +kernel
theorem dL_law_482 : decode cL_law 482 = .ok (.invokevirtual 59, 3) := by decide +kernel
theorem dL_law_485 : decode cL_law 485 = .ok (.if_icmp .eq 708, 3) := by decide +kernel
theorem dL_law_488 : decode cL_law 488 = .ok (.iconst 0, 1) := by decide +kernel
theorem dL_law_489 : decode cL_law 489 = .ok (.ireturn, 1) := by decide +kernel
theorem dL_law_490 : decode cL_law 490 = .ok (.aload_n 1, 1) := by decide +kernel
theorem dL_law_491 : decode cL_law 491 = .ok (.aload_n 0, 1) := by decide +kernel
theorem dL_law_492 : decode cL_law 492 = .ok (.iload_n 3, 1) := by decide +kernel
theorem dL_law_493 : decode cL_law 493 = .ok (.iconst 1, 1) := by decide +kernel
theorem dL_law_494 : decode cL_law 494 = .ok (.iadd, 1) := by decide +kernel
theorem dL_law_495 : decode cL_law 495 = .ok (.iaload, 1) := by decide +kernel
theorem dL_law_496 : decode cL_law 496 = .ok (.aload_n 0, 1) := by decide +kernel
theorem dL_law_497 : decode cL_law 497 = .ok (.iload_n 3, 1) := by decide +kernel
theorem dL_law_498 : decode cL_law 498 = .ok (.iconst 2, 1) := by decide +kernel
theorem dL_law_499 : decode cL_law 499 = .ok (.iadd, 1) := by decide +kernel
theorem dL_law_500 : decode cL_law 500 = .ok (.iaload, 1) := by decide +kernel
theorem dL_law_501 : decode cL_law 501 = .ok (.aload_n 0, 1) := by decide +kernel
theorem dL_law_502 : decode cL_law 502 = .ok (.iload_n 3, 1) := by decide +kernel
theorem dL_law_503 : decode cL_law 503 = .ok (.iconst 3, 1) := by decide +kernel
theorem dL_law_504 : decode cL_law 504 = .ok (.iadd, 1) := by decide +kernel
theorem dL_law_505 : decode cL_law 505 = .ok (.iaload, 1) := by decide +kernel
theorem dL_law_506 : decode cL_law 506 = .ok (.aload_n 0, 1) := by decide +kernel
theorem dL_law_507 : decode cL_law 507 = .ok (.iload_n 3, 1) := by decide +kernel
theorem dL_law_508 : decode cL_law 508 = .ok (.iconst 4, 1) := by decide +kernel
theorem dL_law_509 : decode cL_law 509 = .ok (.iadd, 1) := by decide +kernel
theorem dL_law_510 : decode cL_law 510 = .ok (.iaload, 1) := by decide +kernel
theorem dL_law_511 : decode cL_law 511 = .ok (.invokevirtual 60, 3) := by decide +kernel
theorem dL_law_514 : decode cL_law 514 = .ok (.aload_n 2, 1) := by decide +kernel
theorem dL_law_515 : decode cL_law 515 = .ok (.aload_n 0, 1) := by decide +kernel
theorem dL_law_516 : decode cL_law 516 = .ok (.iload_n 3, 1) := by decide +kernel
theorem dL_law_517 : decode cL_law 517 = .ok (.iconst 1, 1) := by decide +kernel
theorem dL_law_518 : decode cL_law 518 = .ok (.iadd, 1) := by decide +kernel
theorem dL_law_519 : decode cL_law 519 = .ok (.iaload, 1) := by decide +kernel
theorem dL_law_520 : decode cL_law 520 = .ok (.aload_n 0, 1) := by decide +kernel
theorem dL_law_521 : decode cL_law 521 = .ok (.iload_n 3, 1) := by decide +kernel
theorem dL_law_522 : decode cL_law 522 = .ok (.iconst 2, 1) := by decide +kernel
theorem dL_law_523 : decode cL_law 523 = .ok (.iadd, 1) := by decide +kernel
theorem dL_law_524 : decode cL_law 524 = .ok (.iaload, 1) := by decide +kernel
theorem dL_law_525 : decode cL_law 525 = .ok (.aload_n 0, 1) := by decide +kernel
theorem dL_law_526 : decode cL_law 526 = .ok (.iload_n 3, 1) := by decide +kernel
theorem dL_law_527 : decode cL_law 527 = .ok (.iconst 3, 1) := by decide +kernel
theorem dL_law_528 : decode cL_law 528 = .ok (.iadd, 1) := by decide +kernel
theorem dL_law_529 : decode cL_law 529 = .ok (.iaload, 1) := by decide +kernel
theorem dL_law_530 : decode cL_law 530 = .ok (.aload_n 0, 1) := by decide +kernel
theorem dL_law_531 : decode cL_law 531 = .ok (.iload_n 3, 1) := by decide +kernel
theorem dL_law_532 : decode cL_law 532 = .ok (.iconst 4, 1) := by decide +kernel
theorem dL_law_533 : decode cL_law 533 = .ok (.iadd, 1) := by decide +kernel
theorem dL_law_534 : decode cL_law 534 = .ok (.iaload, 1) := by decide +kernel
theorem dL_law_535 : decode cL_law 535 = .ok (.invokevirtual 64, 3) := by decide +kernel
theorem dL_law_538 : decode cL_law 538 = .ok (.if_icmp .eq 655, 3) := by decide +kernel
theorem dL_law_541 : decode cL_law 541 = .ok (.iconst 0, 1) := by decide +kernel
theorem dL_law_542 : decode cL_law 542 = .ok (.ireturn, 1) := by decide +kernel
theorem dL_law_543 : decode cL_law 543 = .ok (.aload_n 1, 1) := by decide +kernel
theorem dL_law_544 : decode cL_law 544 = .ok (.aload_n 0, 1) := by decide +kernel
theorem dL_law_545 : decode cL_law 545 = .ok (.iload_n 3, 1) := by decide +kernel
theorem dL_law_546 : decode cL_law 546 = .ok (.iconst 1, 1) := by decide +kernel
theorem dL_law_547 : decode cL_law 547 = .ok (.iadd, 1) := by decide +kernel
theorem dL_law_548 : decode cL_law 548 = .ok (.iaload, 1) := by decide +kernel
theorem dL_law_549 : decode cL_law 549 = .ok (.aload_n 0, 1) := by decide +kernel
theorem dL_law_550 : decode cL_law 550 = .ok (.iload_n 3, 1) := by decide +kernel
theorem dL_law_551 : decode cL_law 551 = .ok (.iconst 2, 1) := by decide +kernel
theorem dL_law_552 : decode cL_law 552 = .ok (.iadd, 1) := by decide +kernel
theorem dL_law_553 : decode cL_law 553 = .ok (.iaload, 1) := by decide +kernel
theorem dL_law_554 : decode cL_law 554 = .ok (.aload_n 0, 1) := by decide +kernel
theorem dL_law_555 : decode cL_law 555 = .ok (.iload_n 3, 1) := by decide +kernel
theorem dL_law_556 : decode cL_law 556 = .ok (.iconst 3, 1) := by decide +kernel
theorem dL_law_557 : decode cL_law 557 = .ok (.iadd, 1) := by decide +kernel
theorem dL_law_558 : decode cL_law 558 = .ok (.iaload, 1) := by decide +kernel
theorem dL_law_559 : decode cL_law 559 = .ok (.aload_n 0, 1) := by decide +kernel
theorem dL_law_560 : decode cL_law 560 = .ok (.iload_n 3, 1) := by decide +kernel
theorem dL_law_561 : decode cL_law 561 = .ok (.iconst 4, 1) := by decide +kernel
theorem dL_law_562 : decode cL_law 562 = .ok (.iadd, 1) := by decide +kernel
theorem dL_law_563 : decode cL_law 563 = .ok (.iaload, 1) := by decide +kernel
theorem dL_law_564 : decode cL_law 564 = .ok (.invokevirtual 65, 3) := by decide +kernel
theorem dL_law_567 : decode cL_law 567 = .ok (.aload_n 2, 1) := by decide +kernel
theorem dL_law_568 : decode cL_law 568 = .ok (.aload_n 0, 1) := by decide +kernel
theorem dL_law_569 : decode cL_law 569 = .ok (.iload_n 3, 1) := by decide +kernel
theorem dL_law_570 : decode cL_law 570 = .ok (.iconst 1, 1) := by decide +kernel
theorem dL_law_571 : decode cL_law 571 = .ok (.iadd, 1) := by decide +kernel
theorem dL_law_572 : decode cL_law 572 = .ok (.iaload, 1) := by decide +kernel
theorem dL_law_573 : decode cL_law 573 = .ok (.aload_n 0, 1) := by decide +kernel
theorem dL_law_574 : decode cL_law 574 = .ok (.iload_n 3, 1) := by decide +kernel
theorem dL_law_575 : decode cL_law 575 = .ok (.iconst 2, 1) := by decide +kernel
theorem dL_law_576 : decode cL_law 576 = .ok (.iadd, 1) := by decide +kernel
theorem dL_law_577 : decode cL_law 577 = .ok (.iaload, 1) := by decide +kernel
theorem dL_law_578 : decode cL_law 578 = .ok (.aload_n 0, 1) := by decide +kernel
theorem dL_law_579 : decode cL_law 579 = .ok (.iload_n 3, 1) := by decide +kernel
theorem dL_law_580 : decode cL_law 580 = .ok (.iconst 3, 1) := by decide +kernel
theorem dL_law_581 : decode cL_law 581 = .ok (.iadd, 1) := by decide +kernel
theorem dL_law_582 : decode cL_law 582 = .ok (.iaload, 1) := by decide +kernel
theorem dL_law_583 : decode cL_law 583 = .ok (.aload_n 0, 1) := by decide +kernel
theorem dL_law_584 : decode cL_law 584 = .ok (.iload_n 3, 1) := by decide +kernel
theorem dL_law_585 : decode cL_law 585 = .ok (.iconst 4, 1) := by decide +kernel
theorem dL_law_586 : decode cL_law 586 = .ok (.iadd, 1) := by decide +kernel
theorem dL_law_587 : decode cL_law 587 = .ok (.iaload, 1) := by decide +kernel
theorem dL_law_588 : decode cL_law 588 = .ok (.invokevirtual 68, 3) := by decide +kernel
theorem dL_law_591 : decode cL_law 591 = .ok (.if_icmp .eq 602, 3) := by decide +kernel
theorem dL_law_594 : decode cL_law 594 = .ok (.iconst 0, 1) := by decide +kernel
theorem dL_law_595 : decode cL_law 595 = .ok (.ireturn, 1) := by decide +kernel
theorem dL_law_596 : decode cL_law 596 = .ok (.aload_n 1, 1) := by decide +kernel
theorem dL_law_597 : decode cL_law 597 = .ok (.aload_n 0, 1) := by decide +kernel
theorem dL_law_598 : decode cL_law 598 = .ok (.iload_n 3, 1) := by decide +kernel
theorem dL_law_599 : decode cL_law 599 = .ok (.iconst 1, 1) := by decide +kernel
theorem dL_law_600 : decode cL_law 600 = .ok (.iadd, 1) := by decide +kernel
theorem dL_law_601 : decode cL_law 601 = .ok (.iaload, 1) := by decide +kernel
theorem dL_law_602 : decode cL_law 602 = .ok (.aload_n 0, 1) := by decide +kernel
theorem dL_law_603 : decode cL_law 603 = .ok (.iload_n 3, 1) := by decide +kernel
theorem dL_law_604 : decode cL_law 604 = .ok (.iconst 2, 1) := by decide +kernel
theorem dL_law_605 : decode cL_law 605 = .ok (.iadd, 1) := by decide +kernel
theorem dL_law_606 : decode cL_law 606 = .ok (.iaload, 1) := by decide +kernel
theorem dL_law_607 : decode cL_law 607 = .ok (.aload_n 0, 1) := by decide +kernel
theorem dL_law_608 : decode cL_law 608 = .ok (.iload_n 3, 1) := by decide +kernel
theorem dL_law_609 : decode cL_law 609 = .ok (.iconst 3, 1) := by decide +kernel
theorem dL_law_610 : decode cL_law 610 = .ok (.iadd, 1) := by decide +kernel
theorem dL_law_611 : decode cL_law 611 = .ok (.iaload, 1) := by decide +kernel
theorem dL_law_612 : decode cL_law 612 = .ok (.aload_n 0, 1) := by decide +kernel
theorem dL_law_613 : decode cL_law 613 = .ok (.iload_n 3, 1) := by decide +kernel
theorem dL_law_614 : decode cL_law 614 = .ok (.iconst 4, 1) := by decide +kernel
theorem dL_law_615 : decode cL_law 615 = .ok (.iadd, 1) := by decide +kernel
theorem dL_law_616 : decode cL_law 616 = .ok (.iaload, 1) := by decide +kernel
theorem dL_law_617 : decode cL_law 617 = .ok (.invokevirtual 69, 3) := by decide +kernel
theorem dL_law_620 : decode cL_law 620 = .ok (.aload_n 2, 1) := by decide +kernel
theorem dL_law_621 : decode cL_law 621 = .ok (.aload_n 0, 1) := by decide +kernel
theorem dL_law_622 : decode cL_law 622 = .ok (.iload_n 3, 1) := by decide +kernel
theorem dL_law_623 : decode cL_law 623 = .ok (.iconst 1, 1) := by decide +kernel
theorem dL_law_624 : decode cL_law 624 = .ok (.iadd, 1) := by decide +kernel
theorem dL_law_625 : decode cL_law 625 = .ok (.iaload, 1) := by decide +kernel
theorem dL_law_626 : decode cL_law 626 = .ok (.aload_n 0, 1) := by decide +kernel
theorem dL_law_627 : decode cL_law 627 = .ok (.iload_n 3, 1) := by decide +kernel
theorem dL_law_628 : decode cL_law 628 = .ok (.iconst 2, 1) := by decide +kernel
theorem dL_law_629 : decode cL_law 629 = .ok (.iadd, 1) := by decide +kernel
theorem dL_law_630 : decode cL_law 630 = .ok (.iaload, 1) := by decide +kernel
theorem dL_law_631 : decode cL_law 631 = .ok (.aload_n 0, 1) := by decide +kernel
theorem dL_law_632 : decode cL_law 632 = .ok (.iload_n 3, 1) := by decide +kernel
theorem dL_law_633 : decode cL_law 633 = .ok (.iconst 3, 1) := by decide +kernel
theorem dL_law_634 : decode cL_law 634 = .ok (.iadd, 1) := by decide +kernel
theorem dL_law_635 : decode cL_law 635 = .ok (.iaload, 1) := by decide +kernel
theorem dL_law_636 : decode cL_law 636 = .ok (.aload_n 0, 1) := by decide +kernel
theorem dL_law_637 : decode cL_law 637 = .ok (.iload_n 3, 1) := by decide +kernel
theorem dL_law_638 : decode cL_law 638 = .ok (.iconst 4, 1) := by decide +kernel
theorem dL_law_639 : decode cL_law 639 = .ok (.iadd, 1) := by decide +kernel
theorem dL_law_640 : decode cL_law 640 = .ok (.iaload, 1) := by decide +kernel
theorem dL_law_641 : decode cL_law 641 = .ok (.invokevirtual 72, 3) := by decide +kernel
theorem dL_law_644 : decode cL_law 644 = .ok (.if_icmp .eq 549, 3) := by decide +kernel
theorem dL_law_647 : decode cL_law 647 = .ok (.iconst 0, 1) := by decide +kernel
theorem dL_law_648 : decode cL_law 648 = .ok (.ireturn, 1) := by decide +kernel
theorem dL_law_649 : decode cL_law 649 = .ok (.aload_n 1, 1) := by decide +kernel
theorem dL_law_650 : decode cL_law 650 = .ok (.aload_n 0, 1) := by decide +kernel
theorem dL_law_651 : decode cL_law 651 = .ok (.iload_n 3, 1) := by decide +kernel
theorem dL_law_652 : decode cL_law 652 = .ok (.iconst 1, 1) := by decide +kernel
theorem dL_law_653 : decode cL_law 653 = .ok (.iadd, 1) := by decide +kernel
theorem dL_law_654 : decode cL_law 654 = .ok (.iaload, 1) := by decide +kernel
theorem dL_law_655 : decode cL_law 655 = .ok (.aload_n 0, 1) := by decide +kernel
theorem dL_law_656 : decode cL_law 656 = .ok (.iload_n 3, 1) := by decide +kernel
theorem dL_law_657 : decode cL_law 657 = .ok (.iconst 2, 1) := by decide +kernel
theorem dL_law_658 : decode cL_law 658 = .ok (.iadd, 1) := by decide +kernel
theorem dL_law_659 : decode cL_law 659 = .ok (.iaload, 1) := by decide +kernel
theorem dL_law_660 : decode cL_law 660 = .ok (.aload_n 0, 1) := by decide +kernel
theorem dL_law_661 : decode cL_law 661 = .ok (.iload_n 3, 1) := by decide +kernel
theorem dL_law_662 : decode cL_law 662 = .ok (.iconst 3, 1) := by decide +kernel
theorem dL_law_663 : decode cL_law 663 = .ok (.iadd, 1) := by decide +kernel
theorem dL_law_664 : decode cL_law 664 = .ok (.iaload, 1) := by decide +kernel
theorem dL_law_665 : decode cL_law 665 = .ok (.ifCond .eq 7, 3) := by decide +kernel
theorem dL_law_668 : decode cL_law 668 = .ok (.iconst 1, 1) := by decide +kernel
theorem dL_law_669 : decode cL_law 669 = .ok (.goto 4, 3) := by decide +kernel
theorem dL_law_672 : decode cL_law 672 = .ok (.iconst 0, 1) := by decide +kernel
theorem dL_law_673 : decode cL_law 673 = .ok (.aload_n 0, 1) := by decide +kernel
theorem dL_law_674 : decode cL_law 674 = .ok (.iload_n 3, 1) := by decide +kernel
theorem dL_law_675 : decode cL_law 675 = .ok (.iconst 4, 1) := by decide +kernel
theorem dL_law_676 : decode cL_law 676 = .ok (.iadd, 1) := by decide +kernel
theorem dL_law_677 : decode cL_law 677 = .ok (.iaload, 1) := by decide +kernel
theorem dL_law_678 : decode cL_law 678 = .ok (.invokevirtual 73, 3) := by decide +kernel
theorem dL_law_681 : decode cL_law 681 = .ok (.aload_n 2, 1) := by decide +kernel
theorem dL_law_682 : decode cL_law 682 = .ok (.aload_n 0, 1) := by decide +kernel
theorem dL_law_683 : decode cL_law 683 = .ok (.iload_n 3, 1) := by decide +kernel
theorem dL_law_684 : decode cL_law 684 = .ok (.iconst 1, 1) := by decide +kernel
theorem dL_law_685 : decode cL_law 685 = .ok (.iadd, 1) := by decide +kernel
theorem dL_law_686 : decode cL_law 686 = .ok (.iaload, 1) := by decide +kernel
theorem dL_law_687 : decode cL_law 687 = .ok (.aload_n 0, 1) := by decide +kernel
theorem dL_law_688 : decode cL_law 688 = .ok (.iload_n 3, 1) := by decide +kernel
theorem dL_law_689 : decode cL_law 689 = .ok (.iconst 2, 1) := by decide +kernel
theorem dL_law_690 : decode cL_law 690 = .ok (.iadd, 1) := by decide +kernel
theorem dL_law_691 : decode cL_law 691 = .ok (.iaload, 1) := by decide +kernel
theorem dL_law_692 : decode cL_law 692 = .ok (.aload_n 0, 1) := by decide +kernel
theorem dL_law_693 : decode cL_law 693 = .ok (.iload_n 3, 1) := by decide +kernel
theorem dL_law_694 : decode cL_law 694 = .ok (.iconst 3, 1) := by decide +kernel
theorem dL_law_695 : decode cL_law 695 = .ok (.iadd, 1) := by decide +kernel
theorem dL_law_696 : decode cL_law 696 = .ok (.iaload, 1) := by decide +kernel
theorem dL_law_697 : decode cL_law 697 = .ok (.ifCond .eq 7, 3) := by decide +kernel
theorem dL_law_700 : decode cL_law 700 = .ok (.iconst 1, 1) := by decide +kernel
theorem dL_law_701 : decode cL_law 701 = .ok (.goto 4, 3) := by decide +kernel
theorem dL_law_704 : decode cL_law 704 = .ok (.iconst 0, 1) := by decide +kernel
theorem dL_law_705 : decode cL_law 705 = .ok (.aload_n 0, 1) := by decide +kernel
theorem dL_law_706 : decode cL_law 706 = .ok (.iload_n 3, 1) := by decide +kernel
theorem dL_law_707 : decode cL_law 707 = .ok (.iconst 4, 1) := by decide +kernel
theorem dL_law_708 : decode cL_law 708 = .ok (.iadd, 1) := by decide +kernel
theorem dL_law_709 : decode cL_law 709 = .ok (.iaload, 1) := by decide +kernel
theorem dL_law_710 : decode cL_law 710 = .ok (.invokevirtual 77, 3) := by decide +kernel
theorem dL_law_713 : decode cL_law 713 = .ok (.if_icmp .eq 480, 3) := by decide +kernel
theorem dL_law_716 : decode cL_law 716 = .ok (.iconst 0, 1) := by decide +kernel
theorem dL_law_717 : decode cL_law 717 = .ok (.ireturn, 1) := by decide +kernel
theorem dL_law_718 : decode cL_law 718 = .ok (.aload_n 1, 1) := by decide +kernel
theorem dL_law_719 : decode cL_law 719 = .ok (.aload_n 0, 1) := by decide +kernel
theorem dL_law_720 : decode cL_law 720 = .ok (.iload_n 3, 1) := by decide +kernel
theorem dL_law_721 : decode cL_law 721 = .ok (.iconst 1, 1) := by decide +kernel
theorem dL_law_722 : decode cL_law 722 = .ok (.iadd, 1) := by decide +kernel
theorem dL_law_723 : decode cL_law 723 = .ok (.iaload, 1) := by decide +kernel
theorem dL_law_724 : decode cL_law 724 = .ok (.aload_n 0, 1) := by decide +kernel
theorem dL_law_725 : decode cL_law 725 = .ok (.iload_n 3, 1) := by decide +kernel
theorem dL_law_726 : decode cL_law 726 = .ok (.iconst 2, 1) := by decide +kernel
theorem dL_law_727 : decode cL_law 727 = .ok (.iadd, 1) := by decide +kernel
theorem dL_law_728 : decode cL_law 728 = .ok (.iaload, 1) := by decide +kernel
theorem dL_law_729 : decode cL_law 729 = .ok (.invokevirtual 78, 3) := by decide +kernel
theorem dL_law_732 : decode cL_law 732 = .ok (.aload_n 2, 1) := by decide +kernel
theorem dL_law_733 : decode cL_law 733 = .ok (.aload_n 0, 1) := by decide +kernel
theorem dL_law_734 : decode cL_law 734 = .ok (.iload_n 3, 1) := by decide +kernel
theorem dL_law_735 : decode cL_law 735 = .ok (.iconst 1, 1) := by decide +kernel
theorem dL_law_736 : decode cL_law 736 = .ok (.iadd, 1) := by decide +kernel
theorem dL_law_737 : decode cL_law 737 = .ok (.iaload, 1) := by decide +kernel
theorem dL_law_738 : decode cL_law 738 = .ok (.aload_n 0, 1) := by decide +kernel
theorem dL_law_739 : decode cL_law 739 = .ok (.iload_n 3, 1) := by decide +kernel
theorem dL_law_740 : decode cL_law 740 = .ok (.iconst 2, 1) := by decide +kernel
theorem dL_law_741 : decode cL_law 741 = .ok (.iadd, 1) := by decide +kernel
theorem dL_law_742 : decode cL_law 742 = .ok (.iaload, 1) := by decide +kernel
theorem dL_law_743 : decode cL_law 743 = .ok (.invokevirtual 81, 3) := by decide +kernel
theorem dL_law_746 : decode cL_law 746 = .ok (.if_icmp .eq 447, 3) := by decide +kernel
theorem dL_law_749 : decode cL_law 749 = .ok (.iconst 0, 1) := by decide +kernel
theorem dL_law_750 : decode cL_law 750 = .ok (.ireturn, 1) := by decide +kernel
theorem dL_law_751 : decode cL_law 751 = .ok (.aload_n 1, 1) := by decide +kernel
theorem dL_law_752 : decode cL_law 752 = .ok (.aload_n 0, 1) := by decide +kernel
theorem dL_law_753 : decode cL_law 753 = .ok (.iload_n 3, 1) := by decide +kernel
theorem dL_law_754 : decode cL_law 754 = .ok (.iconst 1, 1) := by decide +kernel
theorem dL_law_755 : decode cL_law 755 = .ok (.iadd, 1) := by decide +kernel
theorem dL_law_756 : decode cL_law 756 = .ok (.iaload, 1) := by decide +kernel
theorem dL_law_757 : decode cL_law 757 = .ok (.aload_n 0, 1) := by decide +kernel
theorem dL_law_758 : decode cL_law 758 = .ok (.iload_n 3, 1) := by decide +kernel
theorem dL_law_759 : decode cL_law 759 = .ok (.iconst 2, 1) := by decide +kernel
theorem dL_law_760 : decode cL_law 760 = .ok (.iadd, 1) := by decide +kernel
theorem dL_law_761 : decode cL_law 761 = .ok (.iaload, 1) := by decide +kernel
theorem dL_law_762 : decode cL_law 762 = .ok (.aload_n 0, 1) := by decide +kernel
theorem dL_law_763 : decode cL_law 763 = .ok (.iload_n 3, 1) := by decide +kernel
theorem dL_law_764 : decode cL_law 764 = .ok (.iconst 3, 1) := by decide +kernel
theorem dL_law_765 : decode cL_law 765 = .ok (.iadd, 1) := by decide +kernel
theorem dL_law_766 : decode cL_law 766 = .ok (.iaload, 1) := by decide +kernel
theorem dL_law_767 : decode cL_law 767 = .ok (.invokevirtual 82, 3) := by decide +kernel
theorem dL_law_770 : decode cL_law 770 = .ok (.aload_n 2, 1) := by decide +kernel
theorem dL_law_771 : decode cL_law 771 = .ok (.aload_n 0, 1) := by decide +kernel
theorem dL_law_772 : decode cL_law 772 = .ok (.iload_n 3, 1) := by decide +kernel
theorem dL_law_773 : decode cL_law 773 = .ok (.iconst 1, 1) := by decide +kernel
theorem dL_law_774 : decode cL_law 774 = .ok (.iadd, 1) := by decide +kernel
theorem dL_law_775 : decode cL_law 775 = .ok (.iaload, 1) := by decide +kernel
theorem dL_law_776 : decode cL_law 776 = .ok (.aload_n 0, 1) := by decide +kernel
theorem dL_law_777 : decode cL_law 777 = .ok (.iload_n 3, 1) := by decide +kernel
theorem dL_law_778 : decode cL_law 778 = .ok (.iconst 2, 1) := by decide +kernel
theorem dL_law_779 : decode cL_law 779 = .ok (.iadd, 1) := by decide +kernel
theorem dL_law_780 : decode cL_law 780 = .ok (.iaload, 1) := by decide +kernel
theorem dL_law_781 : decode cL_law 781 = .ok (.aload_n 0, 1) := by decide +kernel
theorem dL_law_782 : decode cL_law 782 = .ok (.iload_n 3, 1) := by decide +kernel
theorem dL_law_783 : decode cL_law 783 = .ok (.iconst 3, 1) := by decide +kernel
theorem dL_law_784 : decode cL_law 784 = .ok (.iadd, 1) := by decide +kernel
theorem dL_law_785 : decode cL_law 785 = .ok (.iaload, 1) := by decide +kernel
theorem dL_law_786 : decode cL_law 786 = .ok (.invokevirtual 86, 3) := by decide +kernel
theorem dL_law_789 : decode cL_law 789 = .ok (.if_icmp .eq 404, 3) := by decide +kernel
theorem dL_law_792 : decode cL_law 792 = .ok (.iconst 0, 1) := by decide +kernel
theorem dL_law_793 : decode cL_law 793 = .ok (.ireturn, 1) := by decide +kernel
theorem dL_law_794 : decode cL_law 794 = .ok (.aload_n 1, 1) := by decide +kernel
theorem dL_law_795 : decode cL_law 795 = .ok (.aload_n 0, 1) := by decide +kernel
theorem dL_law_796 : decode cL_law 796 = .ok (.iload_n 3, 1) := by decide +kernel
theorem dL_law_797 : decode cL_law 797 = .ok (.iconst 1, 1) := by decide +kernel
theorem dL_law_798 : decode cL_law 798 = .ok (.iadd, 1) := by decide +kernel
theorem dL_law_799 : decode cL_law 799 = .ok (.iaload, 1) := by decide +kernel
theorem dL_law_800 : decode cL_law 800 = .ok (.aload_n 0, 1) := by decide +kernel
theorem dL_law_801 : decode cL_law 801 = .ok (.iload_n 3, 1) := by decide +kernel
theorem dL_law_802 : decode cL_law 802 = .ok (.iconst 2, 1) := by decide +kernel
theorem dL_law_803 : decode cL_law 803 = .ok (.iadd, 1) := by decide +kernel
theorem dL_law_804 : decode cL_law 804 = .ok (.iaload, 1) := by decide +kernel
theorem dL_law_805 : decode cL_law 805 = .ok (.aload_n 0, 1) := by decide +kernel
theorem dL_law_806 : decode cL_law 806 = .ok (.iload_n 3, 1) := by decide +kernel
theorem dL_law_807 : decode cL_law 807 = .ok (.iconst 3, 1) := by decide +kernel
theorem dL_law_808 : decode cL_law 808 = .ok (.iadd, 1) := by decide +kernel
theorem dL_law_809 : decode cL_law 809 = .ok (.iaload, 1) := by decide +kernel
theorem dL_law_810 : decode cL_law 810 = .ok (.invokevirtual 87, 3) := by decide +kernel
theorem dL_law_813 : decode cL_law 813 = .ok (.aload_n 2, 1) := by decide +kernel
theorem dL_law_814 : decode cL_law 814 = .ok (.aload_n 0, 1) := by decide +kernel
theorem dL_law_815 : decode cL_law 815 = .ok (.iload_n 3, 1) := by decide +kernel
theorem dL_law_816 : decode cL_law 816 = .ok (.iconst 1, 1) := by decide +kernel
theorem dL_law_817 : decode cL_law 817 = .ok (.iadd, 1) := by decide +kernel
theorem dL_law_818 : decode cL_law 818 = .ok (.iaload, 1) := by decide +kernel
theorem dL_law_819 : decode cL_law 819 = .ok (.aload_n 0, 1) := by decide +kernel
theorem dL_law_820 : decode cL_law 820 = .ok (.iload_n 3, 1) := by decide +kernel
theorem dL_law_821 : decode cL_law 821 = .ok (.iconst 2, 1) := by decide +kernel
theorem dL_law_822 : decode cL_law 822 = .ok (.iadd, 1) := by decide +kernel
theorem dL_law_823 : decode cL_law 823 = .ok (.iaload, 1) := by decide +kernel
theorem dL_law_824 : decode cL_law 824 = .ok (.aload_n 0, 1) := by decide +kernel
theorem dL_law_825 : decode cL_law 825 = .ok (.iload_n 3, 1) := by decide +kernel
theorem dL_law_826 : decode cL_law 826 = .ok (.iconst 3, 1) := by decide +kernel
theorem dL_law_827 : decode cL_law 827 = .ok (.iadd, 1) := by decide +kernel
theorem dL_law_828 : decode cL_law 828 = .ok (.iaload, 1) := by decide +kernel
theorem dL_law_829 : decode cL_law 829 = .ok (.invokevirtual 90, 3) := by decide +kernel
theorem dL_law_832 : decode cL_law 832 = .ok (.if_icmp .eq 361, 3) := by decide +kernel
theorem dL_law_835 : decode cL_law 835 = .ok (.iconst 0, 1) := by decide +kernel
theorem dL_law_836 : decode cL_law 836 = .ok (.ireturn, 1) := by decide +kernel
theorem dL_law_837 : decode cL_law 837 = .ok (.aload_n 1, 1) := by decide +kernel
theorem dL_law_838 : decode cL_law 838 = .ok (.aload_n 0, 1) := by decide +kernel
theorem dL_law_839 : decode cL_law 839 = .ok (.iload_n 3, 1) := by decide +kernel
theorem dL_law_840 : decode cL_law 840 = .ok (.iconst 1, 1) := by decide +kernel
theorem dL_law_841 : decode cL_law 841 = .ok (.iadd, 1) := by decide +kernel
theorem dL_law_842 : decode cL_law 842 = .ok (.iaload, 1) := by decide +kernel
theorem dL_law_843 : decode cL_law 843 = .ok (.aload_n 0, 1) := by decide +kernel
theorem dL_law_844 : decode cL_law 844 = .ok (.iload_n 3, 1) := by decide +kernel
theorem dL_law_845 : decode cL_law 845 = .ok (.iconst 2, 1) := by decide +kernel
theorem dL_law_846 : decode cL_law 846 = .ok (.iadd, 1) := by decide +kernel
theorem dL_law_847 : decode cL_law 847 = .ok (.iaload, 1) := by decide +kernel
theorem dL_law_848 : decode cL_law 848 = .ok (.aload_n 0, 1) := by decide +kernel
theorem dL_law_849 : decode cL_law 849 = .ok (.iload_n 3, 1) := by decide +kernel
theorem dL_law_850 : decode cL_law 850 = .ok (.iconst 3, 1) := by decide +kernel
theorem dL_law_851 : decode cL_law 851 = .ok (.iadd, 1) := by decide +kernel
theorem dL_law_852 : decode cL_law 852 = .ok (.iaload, 1) := by decide +kernel
theorem dL_law_853 : decode cL_law 853 = .ok (.invokevirtual 91, 3) := by decide +kernel
theorem dL_law_856 : decode cL_law 856 = .ok (.aload_n 2, 1) := by decide +kernel
theorem dL_law_857 : decode cL_law 857 = .ok (.aload_n 0, 1) := by decide +kernel
theorem dL_law_858 : decode cL_law 858 = .ok (.iload_n 3, 1) := by decide +kernel
theorem dL_law_859 : decode cL_law 859 = .ok (.iconst 1, 1) := by decide +kernel
theorem dL_law_860 : decode cL_law 860 = .ok (.iadd, 1) := by decide +kernel
theorem dL_law_861 : decode cL_law 861 = .ok (.iaload, 1) := by decide +kernel
theorem dL_law_862 : decode cL_law 862 = .ok (.aload_n 0, 1) := by decide +kernel
theorem dL_law_863 : decode cL_law 863 = .ok (.iload_n 3, 1) := by decide +kernel
theorem dL_law_864 : decode cL_law 864 = .ok (.iconst 2, 1) := by decide +kernel
theorem dL_law_865 : decode cL_law 865 = .ok (.iadd, 1) := by decide +kernel
theorem dL_law_866 : decode cL_law 866 = .ok (.iaload, 1) := by decide +kernel
theorem dL_law_867 : decode cL_law 867 = .ok (.aload_n 0, 1) := by decide +kernel
theorem dL_law_868 : decode cL_law 868 = .ok (.iload_n 3, 1) := by decide +kernel
theorem dL_law_869 : decode cL_law 869 = .ok (.iconst 3, 1) := by decide +kernel
theorem dL_law_870 : decode cL_law 870 = .ok (.iadd, 1) := by decide +kernel
theorem dL_law_871 : decode cL_law 871 = .ok (.iaload, 1) := by decide +kernel
theorem dL_law_872 : decode cL_law 872 = .ok (.invokevirtual 94, 3) := by decide +kernel
theorem dL_law_875 : decode cL_law 875 = .ok (.if_icmp .eq 318, 3) := by decide +kernel
theorem dL_law_878 : decode cL_law 878 = .ok (.iconst 0, 1) := by decide +kernel
theorem dL_law_879 : decode cL_law 879 = .ok (.ireturn, 1) := by decide +kernel
theorem dL_law_880 : decode cL_law 880 = .ok (.aload_n 1, 1) := by decide +kernel
theorem dL_law_881 : decode cL_law 881 = .ok (.aload_n 0, 1) := by decide +kernel
theorem dL_law_882 : decode cL_law 882 = .ok (.iload_n 3, 1) := by decide +kernel
theorem dL_law_883 : decode cL_law 883 = .ok (.iconst 1, 1) := by decide +kernel
theorem dL_law_884 : decode cL_law 884 = .ok (.iadd, 1) := by decide +kernel
theorem dL_law_885 : decode cL_law 885 = .ok (.iaload, 1) := by decide +kernel
theorem dL_law_886 : decode cL_law 886 = .ok (.aload_n 0, 1) := by decide +kernel
theorem dL_law_887 : decode cL_law 887 = .ok (.iload_n 3, 1) := by decide +kernel
theorem dL_law_888 : decode cL_law 888 = .ok (.iconst 2, 1) := by decide +kernel
theorem dL_law_889 : decode cL_law 889 = .ok (.iadd, 1) := by decide +kernel
theorem dL_law_890 : decode cL_law 890 = .ok (.iaload, 1) := by decide +kernel
theorem dL_law_891 : decode cL_law 891 = .ok (.aload_n 0, 1) := by decide +kernel
theorem dL_law_892 : decode cL_law 892 = .ok (.iload_n 3, 1) := by decide +kernel
theorem dL_law_893 : decode cL_law 893 = .ok (.iconst 3, 1) := by decide +kernel
theorem dL_law_894 : decode cL_law 894 = .ok (.iadd, 1) := by decide +kernel
theorem dL_law_895 : decode cL_law 895 = .ok (.iaload, 1) := by decide +kernel
theorem dL_law_896 : decode cL_law 896 = .ok (.aload_n 0, 1) := by decide +kernel
theorem dL_law_897 : decode cL_law 897 = .ok (.iload_n 3, 1) := by decide +kernel
theorem dL_law_898 : decode cL_law 898 = .ok (.iconst 4, 1) := by decide +kernel
theorem dL_law_899 : decode cL_law 899 = .ok (.iadd, 1) := by decide +kernel
theorem dL_law_900 : decode cL_law 900 = .ok (.iaload, 1) := by decide +kernel
theorem dL_law_901 : decode cL_law 901 = .ok (.invokevirtual 95, 3) := by decide +kernel
theorem dL_law_904 : decode cL_law 904 = .ok (.aload_n 2, 1) := by decide +kernel
theorem dL_law_905 : decode cL_law 905 = .ok (.aload_n 0, 1) := by decide +kernel
theorem dL_law_906 : decode cL_law 906 = .ok (.iload_n 3, 1) := by decide +kernel
theorem dL_law_907 : decode cL_law 907 = .ok (.iconst 1, 1) := by decide +kernel
theorem dL_law_908 : decode cL_law 908 = .ok (.iadd, 1) := by decide +kernel
theorem dL_law_909 : decode cL_law 909 = .ok (.iaload, 1) := by decide +kernel
theorem dL_law_910 : decode cL_law 910 = .ok (.aload_n 0, 1) := by decide +kernel
theorem dL_law_911 : decode cL_law 911 = .ok (.iload_n 3, 1) := by decide +kernel
theorem dL_law_912 : decode cL_law 912 = .ok (.iconst 2, 1) := by decide +kernel
theorem dL_law_913 : decode cL_law 913 = .ok (.iadd, 1) := by decide +kernel
theorem dL_law_914 : decode cL_law 914 = .ok (.iaload, 1) := by decide +kernel
theorem dL_law_915 : decode cL_law 915 = .ok (.aload_n 0, 1) := by decide +kernel
theorem dL_law_916 : decode cL_law 916 = .ok (.iload_n 3, 1) := by decide +kernel
theorem dL_law_917 : decode cL_law 917 = .ok (.iconst 3, 1) := by decide +kernel
theorem dL_law_918 : decode cL_law 918 = .ok (.iadd, 1) := by decide +kernel
theorem dL_law_919 : decode cL_law 919 = .ok (.iaload, 1) := by decide +kernel
theorem dL_law_920 : decode cL_law 920 = .ok (.aload_n 0, 1) := by decide +kernel
theorem dL_law_921 : decode cL_law 921 = .ok (.iload_n 3, 1) := by decide +kernel
theorem dL_law_922 : decode cL_law 922 = .ok (.iconst 4, 1) := by decide +kernel
theorem dL_law_923 : decode cL_law 923 = .ok (.iadd, 1) := by decide +kernel
theorem dL_law_924 : decode cL_law 924 = .ok (.iaload, 1) := by decide +kernel
theorem dL_law_925 : decode cL_law 925 = .ok (.invokevirtual 98, 3) := by decide +kernel
theorem dL_law_928 : decode cL_law 928 = .ok (.if_icmp .eq 265, 3) := by decide +kernel
theorem dL_law_931 : decode cL_law 931 = .ok (.iconst 0, 1) := by decide +kernel
theorem dL_law_932 : decode cL_law 932 = .ok (.ireturn, 1) := by decide +kernel
theorem dL_law_933 : decode cL_law 933 = .ok (.aload_n 1, 1) := by decide +kernel
theorem dL_law_934 : decode cL_law 934 = .ok (.aload_n 0, 1) := by decide +kernel
theorem dL_law_935 : decode cL_law 935 = .ok (.iload_n 3, 1) := by decide +kernel
theorem dL_law_936 : decode cL_law 936 = .ok (.iconst 1, 1) := by decide +kernel
theorem dL_law_937 : decode cL_law 937 = .ok (.iadd, 1) := by decide +kernel
theorem dL_law_938 : decode cL_law 938 = .ok (.iaload, 1) := by decide +kernel
theorem dL_law_939 : decode cL_law 939 = .ok (.aload_n 0, 1) := by decide +kernel
theorem dL_law_940 : decode cL_law 940 = .ok (.iload_n 3, 1) := by decide +kernel
theorem dL_law_941 : decode cL_law 941 = .ok (.iconst 2, 1) := by decide +kernel
theorem dL_law_942 : decode cL_law 942 = .ok (.iadd, 1) := by decide +kernel
theorem dL_law_943 : decode cL_law 943 = .ok (.iaload, 1) := by decide +kernel
theorem dL_law_944 : decode cL_law 944 = .ok (.invokevirtual 99, 3) := by decide +kernel
theorem dL_law_947 : decode cL_law 947 = .ok (.aload_n 2, 1) := by decide +kernel
theorem dL_law_948 : decode cL_law 948 = .ok (.aload_n 0, 1) := by decide +kernel
theorem dL_law_949 : decode cL_law 949 = .ok (.iload_n 3, 1) := by decide +kernel
theorem dL_law_950 : decode cL_law 950 = .ok (.iconst 1, 1) := by decide +kernel
theorem dL_law_951 : decode cL_law 951 = .ok (.iadd, 1) := by decide +kernel
theorem dL_law_952 : decode cL_law 952 = .ok (.iaload, 1) := by decide +kernel
theorem dL_law_953 : decode cL_law 953 = .ok (.aload_n 0, 1) := by decide +kernel
theorem dL_law_954 : decode cL_law 954 = .ok (.iload_n 3, 1) := by decide +kernel
theorem dL_law_955 : decode cL_law 955 = .ok (.iconst 2, 1) := by decide +kernel
theorem dL_law_956 : decode cL_law 956 = .ok (.iadd, 1) := by decide +kernel
theorem dL_law_957 : decode cL_law 957 = .ok (.iaload, 1) := by decide +kernel
theorem dL_law_958 : decode cL_law 958 = .ok (.invokevirtual 102, 3) := by decide +kernel
theorem dL_law_961 : decode cL_law 961 = .ok (.if_icmp .eq 232, 3) := by decide +kernel
theorem dL_law_964 : decode cL_law 964 = .ok (.iconst 0, 1) := by decide +kernel
theorem dL_law_965 : decode cL_law 965 = .ok (.ireturn, 1) := by decide +kernel
theorem dL_law_966 : decode cL_law 966 = .ok (.aload_n 1, 1) := by decide +kernel
theorem dL_law_967 : decode cL_law 967 = .ok (.aload_n 0, 1) := by decide +kernel
theorem dL_law_968 : decode cL_law 968 = .ok (.iload_n 3, 1) := by decide +kernel
theorem dL_law_969 : decode cL_law 969 = .ok (.iconst 1, 1) := by decide +kernel
theorem dL_law_970 : decode cL_law 970 = .ok (.iadd, 1) := by decide +kernel
theorem dL_law_971 : decode cL_law 971 = .ok (.iaload, 1) := by decide +kernel
theorem dL_law_972 : decode cL_law 972 = .ok (.aload_n 0, 1) := by decide +kernel
theorem dL_law_973 : decode cL_law 973 = .ok (.iload_n 3, 1) := by decide +kernel
theorem dL_law_974 : decode cL_law 974 = .ok (.iconst 2, 1) := by decide +kernel
theorem dL_law_975 : decode cL_law 975 = .ok (.iadd, 1) := by decide +kernel
theorem dL_law_976 : decode cL_law 976 = .ok (.iaload, 1) := by decide +kernel
theorem dL_law_977 : decode cL_law 977 = .ok (.invokevirtual 103, 3) := by decide +kernel
theorem dL_law_980 : decode cL_law 980 = .ok (.aload_n 2, 1) := by decide +kernel
theorem dL_law_981 : decode cL_law 981 = .ok (.aload_n 0, 1) := by decide +kernel
theorem dL_law_982 : decode cL_law 982 = .ok (.iload_n 3, 1) := by decide +kernel
theorem dL_law_983 : decode cL_law 983 = .ok (.iconst 1, 1) := by decide +kernel
theorem dL_law_984 : decode cL_law 984 = .ok (.iadd, 1) := by decide +kernel
theorem dL_law_985 : decode cL_law 985 = .ok (.iaload, 1) := by decide +kernel
theorem dL_law_986 : decode cL_law 986 = .ok (.aload_n 0, 1) := by decide +kernel
theorem dL_law_987 : decode cL_law 987 = .ok (.iload_n 3, 1) := by decide +kernel
theorem dL_law_988 : decode cL_law 988 = .ok (.iconst 2, 1) := by decide +kernel
theorem dL_law_989 : decode cL_law 989 = .ok (.iadd, 1) := by decide +kernel
theorem dL_law_990 : decode cL_law 990 = .ok (.iaload, 1) := by decide +kernel
theorem dL_law_991 : decode cL_law 991 = .ok (.invokevirtual 106, 3) := by decide +kernel
theorem dL_law_994 : decode cL_law 994 = .ok (.if_icmp .eq 199, 3) := by decide +kernel
theorem dL_law_997 : decode cL_law 997 = .ok (.iconst 0, 1) := by decide +kernel
theorem dL_law_998 : decode cL_law 998 = .ok (.ireturn, 1) := by decide +kernel
theorem dL_law_999 : decode cL_law 999 = .ok (.aload_n 1, 1) := by decide +kernel
theorem dL_law_1000 : decode cL_law 1000 = .ok (.invokevirtual 107, 3) := by decide +kernel
theorem dL_law_1003 : decode cL_law 1003 = .ok (.aload_n 2, 1) := by decide +kernel
theorem dL_law_1004 : decode cL_law 1004 = .ok (.invokevirtual 110, 3) := by decide +kernel
theorem dL_law_1007 : decode cL_law 1007 = .ok (.if_icmp .eq 186, 3) := by decide +kernel
theorem dL_law_1010 : decode cL_law 1010 = .ok (.iconst 0, 1) := by decide +kernel
theorem dL_law_1011 : decode cL_law 1011 = .ok (.ireturn, 1) := by decide +kernel
theorem dL_law_1012 : decode cL_law 1012 = .ok (.aload_n 1, 1) := by decide +kernel
theorem dL_law_1013 : decode cL_law 1013 = .ok (.aload_n 0, 1) := by decide +kernel
theorem dL_law_1014 : decode cL_law 1014 = .ok (.iload_n 3, 1) := by decide +kernel
theorem dL_law_1015 : decode cL_law 1015 = .ok (.iconst 1, 1) := by decide +kernel
theorem dL_law_1016 : decode cL_law 1016 = .ok (.iadd, 1) := by decide +kernel
theorem dL_law_1017 : decode cL_law 1017 = .ok (.iaload, 1) := by decide +kernel
theorem dL_law_1018 : decode cL_law 1018 = .ok (.aload_n 0, 1) := by decide +kernel
theorem dL_law_1019 : decode cL_law 1019 = .ok (.iload_n 3, 1) := by decide +kernel
theorem dL_law_1020 : decode cL_law 1020 = .ok (.iconst 2, 1) := by decide +kernel
theorem dL_law_1021 : decode cL_law 1021 = .ok (.iadd, 1) := by decide +kernel
theorem dL_law_1022 : decode cL_law 1022 = .ok (.iaload, 1) := by decide +kernel
theorem dL_law_1023 : decode cL_law 1023 = .ok (.aload_n 0, 1) := by decide +kernel
theorem dL_law_1024 : decode cL_law 1024 = .ok (.iload_n 3, 1) := by decide +kernel
theorem dL_law_1025 : decode cL_law 1025 = .ok (.iconst 3, 1) := by decide +kernel
theorem dL_law_1026 : decode cL_law 1026 = .ok (.iadd, 1) := by decide +kernel
theorem dL_law_1027 : decode cL_law 1027 = .ok (.iaload, 1) := by decide +kernel
theorem dL_law_1028 : decode cL_law 1028 = .ok (.aload_n 0, 1) := by decide +kernel
theorem dL_law_1029 : decode cL_law 1029 = .ok (.iload_n 3, 1) := by decide +kernel
theorem dL_law_1030 : decode cL_law 1030 = .ok (.iconst 4, 1) := by decide +kernel
theorem dL_law_1031 : decode cL_law 1031 = .ok (.iadd, 1) := by decide +kernel
theorem dL_law_1032 : decode cL_law 1032 = .ok (.iaload, 1) := by decide +kernel
theorem dL_law_1033 : decode cL_law 1033 = .ok (.invokevirtual 111, 3) := by decide +kernel
theorem dL_law_1036 : decode cL_law 1036 = .ok (.aload_n 2, 1) := by decide +kernel
theorem dL_law_1037 : decode cL_law 1037 = .ok (.aload_n 0, 1) := by decide +kernel
theorem dL_law_1038 : decode cL_law 1038 = .ok (.iload_n 3, 1) := by decide +kernel
theorem dL_law_1039 : decode cL_law 1039 = .ok (.iconst 1, 1) := by decide +kernel
theorem dL_law_1040 : decode cL_law 1040 = .ok (.iadd, 1) := by decide +kernel
theorem dL_law_1041 : decode cL_law 1041 = .ok (.iaload, 1) := by decide +kernel
theorem dL_law_1042 : decode cL_law 1042 = .ok (.aload_n 0, 1) := by decide +kernel
theorem dL_law_1043 : decode cL_law 1043 = .ok (.iload_n 3, 1) := by decide +kernel
theorem dL_law_1044 : decode cL_law 1044 = .ok (.iconst 2, 1) := by decide +kernel
theorem dL_law_1045 : decode cL_law 1045 = .ok (.iadd, 1) := by decide +kernel
theorem dL_law_1046 : decode cL_law 1046 = .ok (.iaload, 1) := by decide +kernel
theorem dL_law_1047 : decode cL_law 1047 = .ok (.aload_n 0, 1) := by decide +kernel
theorem dL_law_1048 : decode cL_law 1048 = .ok (.iload_n 3, 1) := by decide +kernel
theorem dL_law_1049 : decode cL_law 1049 = .ok (.iconst 3, 1) := by decide +kernel
theorem dL_law_1050 : decode cL_law 1050 = .ok (.iadd, 1) := by decide +kernel
theorem dL_law_1051 : decode cL_law 1051 = .ok (.iaload, 1) := by decide +kernel
theorem dL_law_1052 : decode cL_law 1052 = .ok (.aload_n 0, 1) := by decide +kernel
theorem dL_law_1053 : decode cL_law 1053 = .ok (.iload_n 3, 1) := by decide +kernel
theorem dL_law_1054 : decode cL_law 1054 = .ok (.iconst 4, 1) := by decide +kernel
theorem dL_law_1055 : decode cL_law 1055 = .ok (.iadd, 1) := by decide +kernel
theorem dL_law_1056 : decode cL_law 1056 = .ok (.iaload, 1) := by decide +kernel
theorem dL_law_1057 : decode cL_law 1057 = .ok (.invokevirtual 114, 3) := by decide +kernel
theorem dL_law_1060 : decode cL_law 1060 = .ok (.if_icmp .eq 133, 3) := by decide +kernel
theorem dL_law_1063 : decode cL_law 1063 = .ok (.iconst 0, 1) := by decide +kernel
theorem dL_law_1064 : decode cL_law 1064 = .ok (.ireturn, 1) := by decide +kernel
theorem dL_law_1065 : decode cL_law 1065 = .ok (.aload_n 1, 1) := by decide +kernel
theorem dL_law_1066 : decode cL_law 1066 = .ok (.invokevirtual 115, 3) := by decide +kernel
theorem dL_law_1069 : decode cL_law 1069 = .ok (.aload_n 2, 1) := by decide +kernel
theorem dL_law_1070 : decode cL_law 1070 = .ok (.invokevirtual 118, 3) := by decide +kernel
theorem dL_law_1073 : decode cL_law 1073 = .ok (.if_icmp .eq 120, 3) := by decide +kernel
theorem dL_law_1076 : decode cL_law 1076 = .ok (.iconst 0, 1) := by decide +kernel
theorem dL_law_1077 : decode cL_law 1077 = .ok (.ireturn, 1) := by decide +kernel
theorem dL_law_1078 : decode cL_law 1078 = .ok (.aload_n 1, 1) := by decide +kernel
theorem dL_law_1079 : decode cL_law 1079 = .ok (.invokevirtual 119, 3) := by decide +kernel
theorem dL_law_1082 : decode cL_law 1082 = .ok (.aload_n 2, 1) := by decide +kernel
theorem dL_law_1083 : decode cL_law 1083 = .ok (.invokevirtual 122, 3) := by decide +kernel
theorem dL_law_1086 : decode cL_law 1086 = .ok (.if_icmp .eq 107, 3) := by decide +kernel
theorem dL_law_1089 : decode cL_law 1089 = .ok (.iconst 0, 1) := by decide +kernel
theorem dL_law_1090 : decode cL_law 1090 = .ok (.ireturn, 1) := by decide +kernel
theorem dL_law_1091 : decode cL_law 1091 = .ok (.aload_n 1, 1) := by decide +kernel
theorem dL_law_1092 : decode cL_law 1092 = .ok (.aload_n 0, 1) := by decide +kernel
theorem dL_law_1093 : decode cL_law 1093 = .ok (.iload_n 3, 1) := by decide +kernel
theorem dL_law_1094 : decode cL_law 1094 = .ok (.iconst 1, 1) := by decide +kernel
theorem dL_law_1095 : decode cL_law 1095 = .ok (.iadd, 1) := by decide +kernel
theorem dL_law_1096 : decode cL_law 1096 = .ok (.iaload, 1) := by decide +kernel
theorem dL_law_1097 : decode cL_law 1097 = .ok (.aload_n 0, 1) := by decide +kernel
theorem dL_law_1098 : decode cL_law 1098 = .ok (.iload_n 3, 1) := by decide +kernel
theorem dL_law_1099 : decode cL_law 1099 = .ok (.iconst 2, 1) := by decide +kernel
theorem dL_law_1100 : decode cL_law 1100 = .ok (.iadd, 1) := by decide +kernel
theorem dL_law_1101 : decode cL_law 1101 = .ok (.iaload, 1) := by decide +kernel
theorem dL_law_1102 : decode cL_law 1102 = .ok (.invokevirtual 123, 3) := by decide +kernel
theorem dL_law_1105 : decode cL_law 1105 = .ok (.aload_n 2, 1) := by decide +kernel
theorem dL_law_1106 : decode cL_law 1106 = .ok (.aload_n 0, 1) := by decide +kernel
theorem dL_law_1107 : decode cL_law 1107 = .ok (.iload_n 3, 1) := by decide +kernel
theorem dL_law_1108 : decode cL_law 1108 = .ok (.iconst 1, 1) := by decide +kernel
theorem dL_law_1109 : decode cL_law 1109 = .ok (.iadd, 1) := by decide +kernel
theorem dL_law_1110 : decode cL_law 1110 = .ok (.iaload, 1) := by decide +kernel
theorem dL_law_1111 : decode cL_law 1111 = .ok (.aload_n 0, 1) := by decide +kernel
theorem dL_law_1112 : decode cL_law 1112 = .ok (.iload_n 3, 1) := by decide +kernel
theorem dL_law_1113 : decode cL_law 1113 = .ok (.iconst 2, 1) := by decide +kernel
theorem dL_law_1114 : decode cL_law 1114 = .ok (.iadd, 1) := by decide +kernel
theorem dL_law_1115 : decode cL_law 1115 = .ok (.iaload, 1) := by decide +kernel
theorem dL_law_1116 : decode cL_law 1116 = .ok (.invokevirtual 126, 3) := by decide +kernel
theorem dL_law_1119 : decode cL_law 1119 = .ok (.if_icmp .eq 74, 3) := by decide +kernel
theorem dL_law_1122 : decode cL_law 1122 = .ok (.iconst 0, 1) := by decide +kernel
theorem dL_law_1123 : decode cL_law 1123 = .ok (.ireturn, 1) := by decide +kernel
theorem dL_law_1124 : decode cL_law 1124 = .ok (.aload_n 1, 1) := by decide +kernel
theorem dL_law_1125 : decode cL_law 1125 = .ok (.aload_n 0, 1) := by decide +kernel
theorem dL_law_1126 : decode cL_law 1126 = .ok (.iload_n 3, 1) := by decide +kernel
theorem dL_law_1127 : decode cL_law 1127 = .ok (.iconst 1, 1) := by decide +kernel
theorem dL_law_1128 : decode cL_law 1128 = .ok (.iadd, 1) := by decide +kernel
theorem dL_law_1129 : decode cL_law 1129 = .ok (.iaload, 1) := by decide +kernel
theorem dL_law_1130 : decode cL_law 1130 = .ok (.invokevirtual 127, 3) := by decide +kernel
theorem dL_law_1133 : decode cL_law 1133 = .ok (.aload_n 2, 1) := by decide +kernel
theorem dL_law_1134 : decode cL_law 1134 = .ok (.aload_n 0, 1) := by decide +kernel
theorem dL_law_1135 : decode cL_law 1135 = .ok (.iload_n 3, 1) := by decide +kernel
theorem dL_law_1136 : decode cL_law 1136 = .ok (.iconst 1, 1) := by decide +kernel
theorem dL_law_1137 : decode cL_law 1137 = .ok (.iadd, 1) := by decide +kernel
theorem dL_law_1138 : decode cL_law 1138 = .ok (.iaload, 1) := by decide +kernel
theorem dL_law_1139 : decode cL_law 1139 = .ok (.invokevirtual 130, 3) := by decide +kernel
theorem dL_law_1142 : decode cL_law 1142 = .ok (.if_icmp .eq 51, 3) := by decide +kernel
theorem dL_law_1145 : decode cL_law 1145 = .ok (.iconst 0, 1) := by decide +kernel
theorem dL_law_1146 : decode cL_law 1146 = .ok (.ireturn, 1) := by decide +kernel
theorem dL_law_1147 : decode cL_law 1147 = .ok (.aload_n 1, 1) := by decide +kernel
theorem dL_law_1148 : decode cL_law 1148 = .ok (.aload_n 0, 1) := by decide +kernel
theorem dL_law_1149 : decode cL_law 1149 = .ok (.iload_n 3, 1) := by decide +kernel
theorem dL_law_1150 : decode cL_law 1150 = .ok (.iconst 1, 1) := by decide +kernel
theorem dL_law_1151 : decode cL_law 1151 = .ok (.iadd, 1) := by decide +kernel
theorem dL_law_1152 : decode cL_law 1152 = .ok (.iaload, 1) := by decide +kernel
theorem dL_law_1153 : decode cL_law 1153 = .ok (.invokevirtual 131, 3) := by decide +kernel
theorem dL_law_1156 : decode cL_law 1156 = .ok (.aload_n 2, 1) := by decide +kernel
theorem dL_law_1157 : decode cL_law 1157 = .ok (.aload_n 0, 1) := by decide +kernel
theorem dL_law_1158 : decode cL_law 1158 = .ok (.iload_n 3, 1) := by decide +kernel
theorem dL_law_1159 : decode cL_law 1159 = .ok (.iconst 1, 1) := by decide +kernel
theorem dL_law_1160 : decode cL_law 1160 = .ok (.iadd, 1) := by decide +kernel
theorem dL_law_1161 : decode cL_law 1161 = .ok (.iaload, 1) := by decide +kernel
theorem dL_law_1162 : decode cL_law 1162 = .ok (.invokevirtual 134, 3) := by decide +kernel
theorem dL_law_1165 : decode cL_law 1165 = .ok (.if_icmp .eq 28, 3) := by decide +kernel
theorem dL_law_1168 : decode cL_law 1168 = .ok (.iconst 0, 1) := by decide +kernel
theorem dL_law_1169 : decode cL_law 1169 = .ok (.ireturn, 1) := by decide +kernel
theorem dL_law_1170 : decode cL_law 1170 = .ok (.aload_n 1, 1) := by decide +kernel
theorem dL_law_1171 : decode cL_law 1171 = .ok (.aload_n 0, 1) := by decide +kernel
theorem dL_law_1172 : decode cL_law 1172 = .ok (.iload_n 3, 1) := by decide +kernel
theorem dL_law_1173 : decode cL_law 1173 = .ok (.iconst 1, 1) := by decide +kernel
theorem dL_law_1174 : decode cL_law 1174 = .ok (.iadd, 1) := by decide +kernel
theorem dL_law_1175 : decode cL_law 1175 = .ok (.iaload, 1) := by decide +kernel
theorem dL_law_1176 : decode cL_law 1176 = .ok (.invokevirtual 135, 3) := by decide +kernel
theorem dL_law_1179 : decode cL_law 1179 = .ok (.aload_n 2, 1) := by decide +kernel
theorem dL_law_1180 : decode cL_law 1180 = .ok (.aload_n 0, 1) := by decide +kernel
theorem dL_law_1181 : decode cL_law 1181 = .ok (.iload_n 3, 1) := by decide +kernel
theorem dL_law_1182 : decode cL_law 1182 = .ok (.iconst 1, 1) := by decide +kernel
theorem dL_law_1183 : decode cL_law 1183 = .ok (.iadd, 1) := by decide +kernel
theorem dL_law_1184 : decode cL_law 1184 = .ok (.iaload, 1) := by decide +kernel
theorem dL_law_1185 : decode cL_law 1185 = .ok (.invokevirtual 138, 3) := by decide +kernel
theorem dL_law_1188 : decode cL_law 1188 = .ok (.if_icmp .eq 5, 3) := by decide +kernel
theorem dL_law_1191 : decode cL_law 1191 = .ok (.iconst 0, 1) := by decide +kernel
theorem dL_law_1192 : decode cL_law 1192 = .ok (.ireturn, 1) := by decide +kernel
theorem dL_law_1193 : decode cL_law 1193 = .ok (.iinc 3 5, 3) := by decide +kernel
theorem dL_law_1196 : decode cL_law 1196 = .ok (.goto (-1178), 3) := by decide +kernel
theorem dL_law_1199 : decode cL_law 1199 = .ok (.iconst 1, 1) := by decide +kernel
theorem dL_law_1200 : decode cL_law 1200 = .ok (.ireturn, 1) := by decide +kernel
end
section
/-! CORE: a world of fixed shape (a list of templates) over a memory of numbers; walks by rows over it -/
/-- a template: an object (class, its fields: 0 an int, 1 a long, 2 a fixed reference, 3 null or a fixed reference, else null), or an array (kind: 0 ints, 1 longs, 2 booleans, 3, 4 of references; length; the references) -/
abbrev TC : Type := (Nat × List (Nat × Nat)) ⊕ (Nat × Nat × List Nat)
/-- the memory: ints and longs, by place and index -/
abbrev St : Type := (Nat → Nat → Int32) × (Nat → Nat → Int64)
def c_fv (ad : Nat → Nat) (g : St) (o k : Nat) (f : Nat × Nat) : Value := match f.1 with
  | 0 => .int (g.1 o k)
  | 1 => .long (g.2 o k)
  | 2 => .ref (ad f.2)
  | 3 => if g.1 o k = 0 then .null else .ref (ad f.2)
  | _ => .null
def c_ar (kd : Nat) (ad : Nat → Nat) (g : St) (o : Nat) (rs : List Nat) : (Nat → Int32) ⊕ (Nat → Int64) ⊕ (Nat → UInt32) ⊕ (Nat → UInt64) ⊕ (Nat → Option Nat) := match kd with
  | 0 => .inl (g.1 o)
  | 1 => .inr (.inl (g.2 o))
  | 2 => .inl (g.1 o)
  | _ => .inr (.inr (.inr (.inr (fun j => (rs[j]?).map ad))))
def c_ce (cy : Nat → ClassId) (ad : Nat → Nat) (g : St) (o : Nat) : TC → va_E
  | .inl q => .inr (q.1, q.2.mapIdx (fun k f => c_fv ad g o k f))
  | .inr q => .inl (cy q.1, q.2.1, c_ar q.1 ad g o q.2.2)
def Wd (cy : Nat → ClassId) (ad : Nat → Nat) (g : St) (T : List TC) : va_W := T.mapIdx (fun o c => (ad o, c_ce cy ad g o c))
theorem Wd_get {cy : Nat → ClassId} {ad : Nat → Nat} {g : St} {T : List TC} {o : Nat} {c : TC} (h : T[o]? = some c) : (Wd cy ad g T)[o]? = some (ad o, c_ce cy ad g o c) := by
  simp [Wd, List.getElem?_mapIdx, h]
theorem Wd_inv {cy : Nat → ClassId} {ad : Nat → Nat} {g : St} {T : List TC} {k : Nat} {q : Nat × va_E} (h : (Wd cy ad g T)[k]? = some q) : ∃ c, T[k]? = some c ∧ q = (ad k, c_ce cy ad g k c) := by
  simp only [Wd, List.getElem?_mapIdx, Option.map_eq_some_iff] at h
  obtain ⟨c, h1, h2⟩ := h
  exact ⟨c, h1, h2.symm⟩
theorem Wd_len {cy : Nat → ClassId} {ad : Nat → Nat} {g : St} {T : List TC} : (Wd cy ad g T).length = T.length := by simp [Wd]
theorem c_ce_same {cy : Nat → ClassId} {ad : Nat → Nat} {g g' : St} {o : Nat} (c : TC) (h1 : g'.1 o = g.1 o) (h2 : g'.2 o = g.2 o) : c_ce cy ad g' o c = c_ce cy ad g o c := by
  cases c with
  | inl q => simp only [c_ce, c_fv, h1, h2]
  | inr q => simp only [c_ce, c_ar, h1, h2]
theorem Wd_set {cy : Nat → ClassId} {ad : Nat → Nat} {g g' : St} {T : List TC} {o : Nat} {c : TC} (h : T[o]? = some c) {e : va_E} (h1 : c_ce cy ad g' o c = e) (h2 : ∀ j, j ≠ o → g'.1 j = g.1 j ∧ g'.2 j = g.2 j) : (Wd cy ad g T).set o (ad o, e) = Wd cy ad g' T := by
  apply List.ext_getElem?
  intro j
  by_cases hj : j = o
  · subst hj
    have hl : j < (Wd cy ad g T).length := by rw [Wd_len]; exact (List.getElem?_eq_some_iff.mp h).1
    rw [List.getElem?_set_self hl, Wd_get h, h1]
  · rw [List.getElem?_set_ne (Ne.symm hj)]
    simp only [Wd, List.getElem?_mapIdx]
    cases hc : T[j]? with
    | none => rfl
    | some c' =>
      simp only [Option.map_some]
      rw [c_ce_same c' (h2 j hj).1 (h2 j hj).2]
def upI (g : St) (o k : Nat) (x : Int32) : St := (fun a => if a = o then upd (g.1 o) k x else g.1 a, g.2)
def upL (g : St) (o k : Nat) (x : Int64) : St := (g.1, fun a => if a = o then vp_updL (g.2 o) k x else g.2 a)
def upR (g : St) (o : Nat) (f : Nat → Int32) : St := (fun a => if a = o then f else g.1 a, g.2)
theorem upI_s {g : St} {o k : Nat} {x : Int32} : (upI g o k x).1 o = upd (g.1 o) k x := by simp [upI]
theorem upI_n {g : St} {o k j : Nat} {x : Int32} (h : j ≠ o) : (upI g o k x).1 j = g.1 j := by simp [upI, h]
theorem upL_s {g : St} {o k : Nat} {x : Int64} : (upL g o k x).2 o = vp_updL (g.2 o) k x := by simp [upL]
theorem upL_n {g : St} {o k j : Nat} {x : Int64} (h : j ≠ o) : (upL g o k x).2 j = g.2 j := by simp [upL, h]
theorem upR_s {g : St} {o : Nat} {f : Nat → Int32} : (upR g o f).1 o = f := by simp [upR]
theorem upR_n {g : St} {o j : Nat} {f : Nat → Int32} (h : j ≠ o) : (upR g o f).1 j = g.1 j := by simp [upR, h]
/-- a value: its reference is a place, that stands at an address -/
def vv (ad : Nat → Nat) : Value → Value
  | .ref o => .ref (ad o)
  | v => v
theorem vv_cat {ad : Nat → Nat} (v : Value) : (vv ad v).category = v.category := by cases v <;> rfl
abbrev vl (ad : Nat → Nat) (lv : List (Nat × Value)) : List (Nat × Value) := lv.map (fun q => (q.1, vv ad q.2))
theorem vv_args (ad : Nat → Nat) : ∀ (vs : List Value) (n : Nat), lv_args n (vs.map (vv ad)) = vl ad (lv_args n vs)
  | [], _ => rfl
  | v :: vs, n => by
    simp only [List.map_cons, lv_args, vv_cat, vl]
    rw [vv_args ad vs]
/-- the words that every method may use -/
def gT : List Cond := lw_tbl.filter goodWord
theorem gT_of {w : Cond} (i : Nat) (h : tables_1[i]? = some w) (hg : goodWord w = true) : w ∈ gT := List.mem_filter.mpr ⟨List.mem_append_right _ (List.mem_of_getElem? h), hg⟩
theorem gT_sel {y : MethodName} {n : Nat} (h : (y, n) ∈ lw_privs) (hg : goodWord (Cond.selects y.cls y y) = true) : Cond.selects y.cls y y ∈ gT := List.mem_filter.mpr ⟨List.mem_append_left _ (List.mem_map.mpr ⟨(y, n), h, rfl⟩), hg⟩
theorem gT_good {big : List Cond} (h : ∀ w ∈ gT, w ∈ big) : GoodIn big gT := fun w hw => ⟨h w hw, good_of_word (List.mem_filter.mp hw).2⟩
/-- the words of nest mates -/
def isNest : Cond → Bool
  | .fieldLinkNest _ _ _ _ _ _ => true
  | .methodLinkNest _ _ _ _ => true
  | _ => false
def nT : List Cond := tables_1.filter isNest
theorem nT_of {w : Cond} (i : Nat) (h : tables_1[i]? = some w) (hg : isNest w = true) : w ∈ nT := List.mem_filter.mpr ⟨List.mem_of_getElem? h, hg⟩
theorem nT_warm {s U : State} (hW : s.WarmedH U.vm) (h : ∀ w ∈ nT, va_Nw w s) : ∀ w ∈ nT, va_Nw w U := by
  intro w hw
  have h1 := h w hw
  have h2 := (List.mem_filter.mp hw).2
  cases w <;> first | (simp [isNest] at h2; done) | exact va_Nw.warmF hW h1 | exact va_Nw.warmM hW h1
theorem nT_same {s U : State} (hv : s.vm = U.vm) (h : ∀ w ∈ nT, va_Nw w s) : ∀ w ∈ nT, va_Nw w U := by
  intro w hw
  have h1 := h w hw
  have h2 := (List.mem_filter.mp hw).2
  cases w <;> first | (simp [isNest] at h2; done) | exact va_Nw.same rfl hv h1
abbrev tyL (cy : Nat → ClassId) : List (ClassId × FieldType) := [(cy 0, .int), (cy 1, .long), (cy 2, .boolean), (cy 3, .object RX1), (cy 4, .object RX2)]
/-- the texts: their lengths, their bytes; the entries that load them -/
def sxLen : List Nat := [6, 3, 6, 6, 5, 6, 5, 5]
def sxB : List (List Int32) := [[112, 108, 97, 99, 101, 115], [119, 97, 121], [112, 101, 114, 115, 111, 110], [115, 105, 108, 101, 110, 116], [102, 105, 114, 115, 116], [101, 114, 114, 97, 110, 100], [119, 104, 111, 108, 101], [107, 110, 111, 119, 115]]
def sxT : List String := ["places", "way", "person", "silent", "first", "errand", "whole", "knows"]
def sxI : List Nat := [41, 52, 57, 125, 127, 129, 131, 120]
abbrev vwCl : List vw_C := [(RX0, TX0, 1), (RX1, TX1, 12), (RX2, TX2, 5), (RX3, TX3, 8), (RX4, TX4, 11), (RX5, TX5, 12), (RX6, TX6, 4), (RX7, TX7, 9), (RX8, TX8, 2), (RX9, TX9, 10), (RX10, TX10, 57)]
end
section
/-- the machine around a walk: program, launch, environment, room; state, method, arguments, frames below; method, code; the kinds, the arrays' classes, what may change; the goal -/
abbrev KT : Type := (Program × Launch × Env × Room) × (State × MethodId × Array Value × List Frame) × (Method × Code) × (va_G × (Nat → ClassId) × (Nat → Prop)) × (State → Prop)
def EX (ad : Nat → Nat) (A : Nat → Prop) (U : State) (H : Heap) : Prop :=
  (∃ adV : Nat → Nat, vk_S 8 sxLen sxB (fun i => ad (1000 + i)) adV A U H) ∧ (∀ i, i < 8 → vk_R RX7 (sxI.getD i 0) (sxT.getD i "") (ad (1000 + i)) U) ∧ va_Z "java/lang/String" "COMPACT_STRINGS" "Z" (.int 1) A U H ∧ va_Zq "jdk/internal/util/Preconditions" "SIOOBE_FORMATTER" "Ljava/util/function/BiFunction;" A U H
theorem EX_go {ad ad' : Nat → Nat} {A B : Nat → Prop} {s U : State} {H H1 : Heap} (h : EX ad A s H) (ha : ∀ o, 1000 ≤ o → ad' o = ad o) (hW : s.WarmedH U.vm) (hq : ∀ a : Nat, a < H.size → ¬ A a → H1[a]? = H[a]?) (hB : ∀ q, B q → A q) : EX ad' B U H1 := by
  obtain ⟨⟨adV, h1⟩, h2, h3, h4⟩ := h
  have e : (fun i => ad' (1000 + i)) = (fun i => ad (1000 + i)) := funext fun i => ha _ (Nat.le_add_right _ _)
  refine ⟨⟨adV, ?_⟩, fun i hi => ?_, ((h3.kept hq).moved hW.alike).narrow hB, ((h4.kept hq).moved hW.alike).narrow hB⟩
  · rw [e]; exact ((h1.kept hq).moved hW.alike).narrow hB
  · rw [ha _ (Nat.le_add_right _ _)]; exact (h2 i hi).warm hW
theorem EX_same {ad : Nat → Nat} {A : Nat → Prop} {s U : State} {H : Heap} (h : EX ad A s H) (hv : U.vm = s.vm) : EX ad A U H := by
  have hal : s.vm.Alike U.vm := by rw [hv]; exact Vm.Alike.refl _
  obtain ⟨⟨adV, h1⟩, h2, h3, h4⟩ := h
  exact ⟨⟨adV, h1.moved hal⟩, fun i hi => (h2 i hi).same hv, h3.moved hal, h4.moved hal⟩
def AA (T : List TC) (ad : Nat → Nat) (sz : Nat) : Nat → Prop := fun q => (∃ o, o < T.length ∧ q = ad o) ∨ sz ≤ q
def Inv (G : va_G) (cy : Nat → ClassId) (T : List TC) (ad : Nat → Nat) (g : St) (sz : Nat) (U : State) : Prop :=
  U.heap.size = sz ∧ va_P G vwCl (Wd cy ad g T) U.heap ∧ va_D (fun _ => True) (Wd cy ad g T) ∧ va_K G vwCl (tyL cy) U ∧ (∀ w ∈ nT, va_Nw w U) ∧ EX ad (AA T ad sz) U U.heap
theorem Inv_blind {G : va_G} {cy : Nat → ClassId} {T : List TC} {ad : Nat → Nat} {g : St} {sz : Nat} (av : List Value) : FrameBlind (va_Pc av (Inv G cy T ad g sz)) := by
  intro a U gg mk h
  obtain ⟨h0, h1, h2, h3, h4, h5, h6⟩ := h
  exact ⟨h0, h1, h2, h3, va_K.moved (u := U) (U := U.calling gg mk a) (Vm.Alike.refl U.vm) h4, nT_same (s := U) (U := U.calling gg mk a) rfl h5, EX_same (s := U) (U := U.calling gg mk a) h6 rfl⟩
/-- what holds around a walk of a method of class own, with bytes cc, d calls deep at most -/
def Cx (K : KT) (own : String) (cc : ByteArray) (d : Nat) (ad : Nat → Nat) : Prop :=
  K.1.1.tables.exec = Jvm.exec ∧ K.2.2.1.2.code = cc ∧ K.2.1.1.vm.findClass own = some K.2.1.2.1.cls ∧ (∀ w ∈ gT, w.before K.2.1.2.2.1 K.2.1.1 = true) ∧ (∀ w ∈ nT, va_Nw w K.2.1.1) ∧ va_K K.2.2.2.1.1 vwCl (tyL K.2.2.2.1.2.1) K.2.1.1 ∧ (∀ q, K.2.1.1.heap.size ≤ q → K.2.2.2.1.2.2 q) ∧ EX ad K.2.2.2.1.2.2 K.2.1.1 K.2.1.1.heap ∧ d ≤ K.1.2.2.2.frames ∧ 64 * d ≤ K.1.2.2.2.locals
/-- a walk: from every heap that is the world (T, ad, g), with these locals and this stack -/
def Wp (K : KT) (n1 n2 : Nat) (T : List TC) (ad : Nat → Nat) (g : St) (pc : Nat) (lv : List (Nat × Value)) (st : List Value) : Prop :=
  ∀ (H : Heap) (locs : List Loc) (ls : Array Slot), va_P K.2.2.2.1.1 vwCl (Wd K.2.2.2.1.2.1 ad g T) H → va_D K.2.2.2.1.2.2 (Wd K.2.2.2.1.2.1 ad g T) → va_S K.2.2.2.1.2.2 K.2.1.1.heap H locs → lv_has ls K.2.2.1.2.maxLocals (vl ad lv) → W K.1.1 K.1.2.1 K.1.2.2.1 K.1.2.2.2 K.2.1.1 K.2.1.2.1 K.2.1.2.2.1 K.2.1.2.2.2 K.2.2.1.1 K.2.2.1.2 H locs n1 n2 K.2.2.2.2 (F0 K.2.1.2.1 pc ls (st.map (vv ad)))
abbrev PQt : Type := Option Value → List TC → (Nat → Nat) → St → Prop
def PQ (T : List TC) (ad : Nat → Nat) (sz : Nat) (G : va_G) (cy : Nat → ClassId) (Q : PQt) : Array Value → State → Outcome → State → Prop := fun _ st oc t =>
  (∃ (r : Option Value) (T' : List TC) (ad' : Nat → Nat) (g' : St), oc = .returned (r.map (vv ad')) ∧ Q r T' ad' g' ∧ (∀ o, o < T.length ∨ 1000 ≤ o → ad' o = ad o) ∧ T.length ≤ T'.length ∧ va_P G vwCl (Wd cy ad' g' T') t.heap ∧ va_D (AA T ad sz) (Wd cy ad' g' T')) ∧ va_F (AA T ad sz) st t
abbrev MT : Type := MethodName × ByteArray × Nat × Option FieldType
def wsM (mt : MT) : List Cond := Cond.code mt.1 mt.2.1 mt.2.2.1 mt.2.2.2 :: gT
def rmD (d mc ms : Nat) : Room := { frames := d, cells := mc, slots := ms, locals := 64 * d }
/-- a method's contract: from the world (T, ad, g), with arguments as, it returns with Q -/
def Cn (d mc ms : Nat) (mt : MT) (as : List Value) (T : List TC) (ad : Nat → Nat) (g : St) (Q : PQt) : Prop :=
  ∀ (l : Launch) (G : va_G) (cy : Nat → ClassId) (sz : Nat), Met l mt.1 (wsM mt) (rmD d mc ms) (va_Pc (as.map (vv ad)) (Inv G cy T ad g sz)) (PQ T ad sz G cy Q) mc ms (AA T ad sz)
/-- how a walk of a method ends -/
def Rt (K : KT) (mc ms : Nat) (T : List TC) (ad : Nat → Nat) (ret : Option FieldType) (Q : PQt) : Prop :=
  K.2.2.1.1.sig.returnType = ret ∧ K.2.2.1.1.locks = false ∧ K.2.2.2.1.2.2 = AA T ad K.2.1.1.heap.size ∧ K.2.2.2.2 = MQ K.2.1.2.2.2 (PQ T ad K.2.1.1.heap.size K.2.2.2.1.1 K.2.2.2.1.2.1 Q) K.2.1.2.2.1 K.2.1.1 mc ms (AA T ad K.2.1.1.heap.size)
theorem Cn.mk {d mc ms : Nat} {mt : MT} {as : List Value} {T : List TC} {ad : Nat → Nat} {g : St} {Q : PQt} (hpn : plainName mt.1.cls = true) (hfit : (lg_sl as).length ≤ mt.2.2.1)
    (body : ∀ K : KT, Cx K mt.1.cls mt.2.1 d ad → Rt K mc ms T ad mt.2.2.2 Q → K.2.2.1.2.maxLocals = mt.2.2.1 → K.1.2.2.2 = rmD d mc ms → (K.2.2.1.1.name = mt.1.name) → Wp K 0 0 T ad g 0 (lv_args 0 as) []) : Cn d mc ms mt as T ad g Q := by
  intro l G cy sz
  refine Met.ofW (cc := mt.2.1) (maxL := mt.2.2.1) (ret := mt.2.2.2) hpn rfl ?_
  intro p e s m args below meth c s₁ B hml hv
  obtain ⟨rfl, hsz, hP, hD0, hK, hN, hE⟩ := hv
  subst hsz
  have hts := atoms_spec (ws := wsM mt) B.pre
  have hown : s.vm.findClass mt.1.cls = some m.cls := findClass_of_methodNamed B.named
  have hD : va_D (AA T ad s.heap.size) (Wd cy ad g T) := hD0.weaken (fun k q hk _ => by
    obtain ⟨c', h1, h2⟩ := Wd_inv hk
    exact Or.inl ⟨k, (List.getElem?_eq_some_iff.mp h1).1, by rw [h2]⟩)
  have hb := body ((p, l, e, rmD d mc ms), (s, m, (as.map (vv ad)).toArray, below), (meth, c), (G, cy, AA T ad s.heap.size), MQ below (PQ T ad s.heap.size G cy Q) (as.map (vv ad)).toArray s mc ms (AA T ad s.heap.size))
    ⟨B.exec, B.bytes, hown, fun w hw => hts w (List.mem_cons_of_mem _ hw), hN, hK, fun q hq => Or.inr hq, hE, Nat.le_refl _, Nat.le_refl _⟩ ⟨B.returns, B.notSynchronized, rfl, rfl⟩ hml rfl (name_of_methodNamed B.named B.method).1
  have hc : (lg_sl (as.map (vv ad))).length = (lg_sl as).length := by
    have : ∀ vs : List Value, (lg_sl (vs.map (vv ad))).length = (lg_sl vs).length := by
      intro vs
      induction vs with
      | nil => rfl
      | cons v vs ih =>
        simp only [lg_sl, List.map_cons, List.flatMap_cons, List.length_append, vv_cat] at ih ⊢
        rw [ih]
        split <;> rfl
    exact this as
  have hl := lv_entry (as.map (vv ad)) (n := mt.2.2.1) (by rw [hc]; exact hfit)
  rw [lg_entry_eq]
  rw [vv_args] at hl
  refine hb s.heap [] _ hP hD va_S.rf ?_
  show lv_has _ c.maxLocals _
  rw [hml]
  exact hl
def lget (lv : List (Nat × Value)) (i : Nat) : Option Value := match lv with
  | [] => none
  | q :: l => if q.1 = i then some q.2 else lget l i
theorem lget_mem : ∀ {lv : List (Nat × Value)} {i : Nat} {v : Value}, lget lv i = some v → (i, v) ∈ lv
  | [], _, _, h => by cases h
  | q :: l, i, v, h => by
    unfold lget at h
    split at h
    · rename_i e
      cases h
      exact List.mem_cons.mpr (Or.inl (by rw [← e]))
    · exact List.mem_cons_of_mem _ (lget_mem h)
theorem lget_at {ad : Nat → Nat} {ls : Array Slot} {n : Nat} {lv : List (Nat × Value)} {i : Nat} {v : Value} (h : lv_has ls n (vl ad lv)) (hl : lget lv i = some v) : ls[i]? = some (.val (vv ad v)) :=
  h.2.2 (i, vv ad v) (List.mem_map.mpr ⟨(i, v), lget_mem hl, rfl⟩)
abbrev lset (lv : List (Nat × Value)) (i : Nat) (v : Value) : List (Nat × Value) := (i, v) :: lv.filter (fun q => !(q.1 == i) && !(q.1 + 1 == i && q.2.category == 2))
abbrev lset2 (lv : List (Nat × Value)) (i : Nat) (v : Value) : List (Nat × Value) := (i, v) :: lv.filter (fun q => !(q.1 == i) && (!(q.1 == i + 1) && !(q.1 + 1 == i && q.2.category == 2)))
theorem vl_set {ad : Nat → Nat} {lv : List (Nat × Value)} {i : Nat} {v : Value} : lset (vl ad lv) i (vv ad v) = vl ad (lset lv i v) := by
  simp [lset, vl, List.filter_map, Function.comp_def, vv_cat]
theorem vl_set2 {ad : Nat → Nat} {lv : List (Nat × Value)} {i : Nat} {v : Value} : lset2 (vl ad lv) i (vv ad v) = vl ad (lset2 lv i v) := by
  simp [lset2, vl, List.filter_map, Function.comp_def, vv_cat]

theorem r_iconst {K : KT} {n1 n2 : Nat} {T : List TC} {ad : Nat → Nat} {g : St} {pc : Nat} {lv : List (Nat × Value)} {st : List Value} {own : String} {cc : ByteArray} {d : Nat} (hK : Cx K own cc d ad) {n : Int} {v : Int32} (hd : decode cc pc = .ok (.iconst n, 1)) (hv : Int32.ofInt n = v) (k : Wp K n1 n2 T ad g (pc + 1) lv (.int v :: st)) : Wp K n1 n2 T ad g pc lv st := by
  intro H locs ls hP hD hS hl
  exact lv_iconst hK.1 hK.2.1 hd hv (k H locs ls hP hD hS hl)
theorem r_bipush {K : KT} {n1 n2 : Nat} {T : List TC} {ad : Nat → Nat} {g : St} {pc : Nat} {lv : List (Nat × Value)} {st : List Value} {own : String} {cc : ByteArray} {d : Nat} (hK : Cx K own cc d ad) {n : Int} {v : Int32} (hd : decode cc pc = .ok (.bipush n, 2)) (hv : (Int8.ofInt n).toInt32 = v) (k : Wp K n1 n2 T ad g (pc + 2) lv (.int v :: st)) : Wp K n1 n2 T ad g pc lv st := by
  intro H locs ls hP hD hS hl
  exact lv_bipush hK.1 hK.2.1 hd hv (k H locs ls hP hD hS hl)
theorem r_sipush {K : KT} {n1 n2 : Nat} {T : List TC} {ad : Nat → Nat} {g : St} {pc : Nat} {lv : List (Nat × Value)} {st : List Value} {own : String} {cc : ByteArray} {d : Nat} (hK : Cx K own cc d ad) {n : Int} {v : Int32} (hd : decode cc pc = .ok (.sipush n, 3)) (hv : (Int16.ofInt n).toInt32 = v) (k : Wp K n1 n2 T ad g (pc + 3) lv (.int v :: st)) : Wp K n1 n2 T ad g pc lv st := by
  intro H locs ls hP hD hS hl
  exact lv_sipush hK.1 hK.2.1 hd hv (k H locs ls hP hD hS hl)
theorem r_lconst {K : KT} {n1 n2 : Nat} {T : List TC} {ad : Nat → Nat} {g : St} {pc : Nat} {lv : List (Nat × Value)} {st : List Value} {own : String} {cc : ByteArray} {d : Nat} (hK : Cx K own cc d ad) {n : Fin 2} {v : Int64} (hd : decode cc pc = .ok (.lconst n, 1)) (hv : Int64.ofNat (n : Nat) = v) (k : Wp K n1 n2 T ad g (pc + 1) lv (.long v :: st)) : Wp K n1 n2 T ad g pc lv st := by
  intro H locs ls hP hD hS hl
  exact lv_lconst hK.1 hK.2.1 hd hv (k H locs ls hP hD hS hl)
theorem r_ldc {K : KT} {n1 n2 : Nat} {T : List TC} {ad : Nat → Nat} {g : St} {pc : Nat} {lv : List (Nat × Value)} {st : List Value} {own : String} {cc : ByteArray} {d : Nat} (hK : Cx K own cc d ad) {ix : Nat} {v : Int32} (hw : Cond.constant own ix v ∈ gT) (hd : decode cc pc = .ok (.ldc ix, 2)) (k : Wp K n1 n2 T ad g (pc + 2) lv (.int v :: st)) : Wp K n1 n2 T ad g pc lv st := by
  intro H locs ls hP hD hS hl
  exact lv_ldc hK.1 hK.2.1 hK.2.2.1 (hK.2.2.2.1 _ hw) hd (k H locs ls hP hD hS hl)
theorem r_ldcw {K : KT} {n1 n2 : Nat} {T : List TC} {ad : Nat → Nat} {g : St} {pc : Nat} {lv : List (Nat × Value)} {st : List Value} {own : String} {cc : ByteArray} {d : Nat} (hK : Cx K own cc d ad) {ix : Nat} {v : Int32} (hw : Cond.constant own ix v ∈ gT) (hd : decode cc pc = .ok (.ldc_w ix, 3)) (k : Wp K n1 n2 T ad g (pc + 3) lv (.int v :: st)) : Wp K n1 n2 T ad g pc lv st := by
  intro H locs ls hP hD hS hl
  exact lv_ldcw hK.1 hK.2.1 hK.2.2.1 (hK.2.2.2.1 _ hw) hd (k H locs ls hP hD hS hl)
theorem r_ldc2 {K : KT} {n1 n2 : Nat} {T : List TC} {ad : Nat → Nat} {g : St} {pc : Nat} {lv : List (Nat × Value)} {st : List Value} {own : String} {cc : ByteArray} {d : Nat} (hK : Cx K own cc d ad) {ix : Nat} {v : Int64} (hw : Cond.constantLong own ix v ∈ gT) (hd : decode cc pc = .ok (.ldc2_w ix, 3)) (k : Wp K n1 n2 T ad g (pc + 3) lv (.long v :: st)) : Wp K n1 n2 T ad g pc lv st := by
  intro H locs ls hP hD hS hl
  exact lv_ldc2 hK.1 hK.2.1 hK.2.2.1 (hK.2.2.2.1 _ hw) hd (k H locs ls hP hD hS hl)
theorem r_iload_n {K : KT} {n1 n2 : Nat} {T : List TC} {ad : Nat → Nat} {g : St} {pc : Nat} {lv : List (Nat × Value)} {st : List Value} {own : String} {cc : ByteArray} {d : Nat} (hK : Cx K own cc d ad) {kk : Fin 4} {i : Nat} {x : Int32} (hd : decode cc pc = .ok (.iload_n kk, 1)) (hi : (kk : Nat) = i) (h : lget lv i = some (.int x)) (k : Wp K n1 n2 T ad g (pc + 1) lv (.int x :: st)) : Wp K n1 n2 T ad g pc lv st := by
  intro H locs ls hP hD hS hl
  exact lv_iload_n hK.1 hK.2.1 hd hi (lget_at hl h) (k H locs ls hP hD hS hl)
theorem r_iload {K : KT} {n1 n2 : Nat} {T : List TC} {ad : Nat → Nat} {g : St} {pc : Nat} {lv : List (Nat × Value)} {st : List Value} {own : String} {cc : ByteArray} {d : Nat} (hK : Cx K own cc d ad) {i : Nat} {x : Int32} (hd : decode cc pc = .ok (.iload i, 2)) (h : lget lv i = some (.int x)) (k : Wp K n1 n2 T ad g (pc + 2) lv (.int x :: st)) : Wp K n1 n2 T ad g pc lv st := by
  intro H locs ls hP hD hS hl
  exact lv_iload hK.1 hK.2.1 hd (lget_at hl h) (k H locs ls hP hD hS hl)
theorem r_lload_n {K : KT} {n1 n2 : Nat} {T : List TC} {ad : Nat → Nat} {g : St} {pc : Nat} {lv : List (Nat × Value)} {st : List Value} {own : String} {cc : ByteArray} {d : Nat} (hK : Cx K own cc d ad) {kk : Fin 4} {i : Nat} {x : Int64} (hd : decode cc pc = .ok (.lload_n kk, 1)) (hi : (kk : Nat) = i) (h : lget lv i = some (.long x)) (k : Wp K n1 n2 T ad g (pc + 1) lv (.long x :: st)) : Wp K n1 n2 T ad g pc lv st := by
  intro H locs ls hP hD hS hl
  exact lv_lload_n hK.1 hK.2.1 hd hi (lget_at hl h) (k H locs ls hP hD hS hl)
theorem r_lload {K : KT} {n1 n2 : Nat} {T : List TC} {ad : Nat → Nat} {g : St} {pc : Nat} {lv : List (Nat × Value)} {st : List Value} {own : String} {cc : ByteArray} {d : Nat} (hK : Cx K own cc d ad) {i : Nat} {x : Int64} (hd : decode cc pc = .ok (.lload i, 2)) (h : lget lv i = some (.long x)) (k : Wp K n1 n2 T ad g (pc + 2) lv (.long x :: st)) : Wp K n1 n2 T ad g pc lv st := by
  intro H locs ls hP hD hS hl
  exact lv_lload hK.1 hK.2.1 hd (lget_at hl h) (k H locs ls hP hD hS hl)
theorem r_aload_n {K : KT} {n1 n2 : Nat} {T : List TC} {ad : Nat → Nat} {g : St} {pc : Nat} {lv : List (Nat × Value)} {st : List Value} {own : String} {cc : ByteArray} {d : Nat} (hK : Cx K own cc d ad) {kk : Fin 4} {i : Nat} {x : Nat} (hd : decode cc pc = .ok (.aload_n kk, 1)) (hi : (kk : Nat) = i) (h : lget lv i = some (.ref x)) (k : Wp K n1 n2 T ad g (pc + 1) lv (.ref x :: st)) : Wp K n1 n2 T ad g pc lv st := by
  intro H locs ls hP hD hS hl
  exact lv_aload_n hK.1 hK.2.1 hd hi (lget_at hl h) (k H locs ls hP hD hS hl)
theorem r_aload {K : KT} {n1 n2 : Nat} {T : List TC} {ad : Nat → Nat} {g : St} {pc : Nat} {lv : List (Nat × Value)} {st : List Value} {own : String} {cc : ByteArray} {d : Nat} (hK : Cx K own cc d ad) {i : Nat} {x : Nat} (hd : decode cc pc = .ok (.aload i, 2)) (h : lget lv i = some (.ref x)) (k : Wp K n1 n2 T ad g (pc + 2) lv (.ref x :: st)) : Wp K n1 n2 T ad g pc lv st := by
  intro H locs ls hP hD hS hl
  exact lv_aload hK.1 hK.2.1 hd (lget_at hl h) (k H locs ls hP hD hS hl)
theorem r_aload_nN {K : KT} {n1 n2 : Nat} {T : List TC} {ad : Nat → Nat} {g : St} {pc : Nat} {lv : List (Nat × Value)} {st : List Value} {own : String} {cc : ByteArray} {d : Nat} (hK : Cx K own cc d ad) {kk : Fin 4} {i : Nat} (hd : decode cc pc = .ok (.aload_n kk, 1)) (hi : (kk : Nat) = i) (h : lget lv i = some .null) (k : Wp K n1 n2 T ad g (pc + 1) lv (.null :: st)) : Wp K n1 n2 T ad g pc lv st := by
  intro H locs ls hP hD hS hl
  exact lv_aload_nN hK.1 hK.2.1 hd hi (lget_at hl h) (k H locs ls hP hD hS hl)
theorem r_istore_n {K : KT} {n1 n2 : Nat} {T : List TC} {ad : Nat → Nat} {g : St} {pc : Nat} {lv : List (Nat × Value)} {st : List Value} {own : String} {cc : ByteArray} {d : Nat} (hK : Cx K own cc d ad) {kk : Fin 4} {i nL : Nat} {x : Int32} (hm : K.2.2.1.2.maxLocals = nL) (hd : decode cc pc = .ok (.istore_n kk, 1)) (hi : (kk : Nat) = i) (hn : i < nL) (k : Wp K n1 n2 T ad g (pc + 1) (lset lv i (.int x)) st) : Wp K n1 n2 T ad g pc lv (.int x :: st) := by
  intro H locs ls hP hD hS hl
  exact lv_istore_n hK.1 hK.2.1 hd hi hl (by rw [hm]; exact hn) (vl_set (v := .int x)) (fun ls' hl' => k H locs ls' hP hD hS hl')
theorem r_istore {K : KT} {n1 n2 : Nat} {T : List TC} {ad : Nat → Nat} {g : St} {pc : Nat} {lv : List (Nat × Value)} {st : List Value} {own : String} {cc : ByteArray} {d : Nat} (hK : Cx K own cc d ad) {i nL : Nat} {x : Int32} (hm : K.2.2.1.2.maxLocals = nL) (hd : decode cc pc = .ok (.istore i, 2)) (hn : i < nL) (k : Wp K n1 n2 T ad g (pc + 2) (lset lv i (.int x)) st) : Wp K n1 n2 T ad g pc lv (.int x :: st) := by
  intro H locs ls hP hD hS hl
  exact lv_istore hK.1 hK.2.1 hd hl (by rw [hm]; exact hn) (vl_set (v := .int x)) (fun ls' hl' => k H locs ls' hP hD hS hl')
theorem r_lstore_n {K : KT} {n1 n2 : Nat} {T : List TC} {ad : Nat → Nat} {g : St} {pc : Nat} {lv : List (Nat × Value)} {st : List Value} {own : String} {cc : ByteArray} {d : Nat} (hK : Cx K own cc d ad) {kk : Fin 4} {i nL : Nat} {x : Int64} (hm : K.2.2.1.2.maxLocals = nL) (hd : decode cc pc = .ok (.lstore_n kk, 1)) (hi : (kk : Nat) = i) (hn : i + 1 < nL) (k : Wp K n1 n2 T ad g (pc + 1) (lset2 lv i (.long x)) st) : Wp K n1 n2 T ad g pc lv (.long x :: st) := by
  intro H locs ls hP hD hS hl
  exact lv_lstore_n hK.1 hK.2.1 hd hi hl (by rw [hm]; exact hn) (vl_set2 (v := .long x)) (fun ls' hl' => k H locs ls' hP hD hS hl')
theorem r_lstore {K : KT} {n1 n2 : Nat} {T : List TC} {ad : Nat → Nat} {g : St} {pc : Nat} {lv : List (Nat × Value)} {st : List Value} {own : String} {cc : ByteArray} {d : Nat} (hK : Cx K own cc d ad) {i nL : Nat} {x : Int64} (hm : K.2.2.1.2.maxLocals = nL) (hd : decode cc pc = .ok (.lstore i, 2)) (hn : i + 1 < nL) (k : Wp K n1 n2 T ad g (pc + 2) (lset2 lv i (.long x)) st) : Wp K n1 n2 T ad g pc lv (.long x :: st) := by
  intro H locs ls hP hD hS hl
  exact lv_lstore hK.1 hK.2.1 hd hl (by rw [hm]; exact hn) (vl_set2 (v := .long x)) (fun ls' hl' => k H locs ls' hP hD hS hl')
theorem r_astore_n {K : KT} {n1 n2 : Nat} {T : List TC} {ad : Nat → Nat} {g : St} {pc : Nat} {lv : List (Nat × Value)} {st : List Value} {own : String} {cc : ByteArray} {d : Nat} (hK : Cx K own cc d ad) {kk : Fin 4} {i nL : Nat} {x : Nat} (hm : K.2.2.1.2.maxLocals = nL) (hd : decode cc pc = .ok (.astore_n kk, 1)) (hi : (kk : Nat) = i) (hn : i < nL) (k : Wp K n1 n2 T ad g (pc + 1) (lset lv i (.ref x)) st) : Wp K n1 n2 T ad g pc lv (.ref x :: st) := by
  intro H locs ls hP hD hS hl
  exact lv_astore_n hK.1 hK.2.1 hd hi hl (by rw [hm]; exact hn) (vl_set (v := .ref x)) (fun ls' hl' => k H locs ls' hP hD hS hl')
theorem r_astore {K : KT} {n1 n2 : Nat} {T : List TC} {ad : Nat → Nat} {g : St} {pc : Nat} {lv : List (Nat × Value)} {st : List Value} {own : String} {cc : ByteArray} {d : Nat} (hK : Cx K own cc d ad) {i nL : Nat} {x : Nat} (hm : K.2.2.1.2.maxLocals = nL) (hd : decode cc pc = .ok (.astore i, 2)) (hn : i < nL) (k : Wp K n1 n2 T ad g (pc + 2) (lset lv i (.ref x)) st) : Wp K n1 n2 T ad g pc lv (.ref x :: st) := by
  intro H locs ls hP hD hS hl
  exact lv_astore hK.1 hK.2.1 hd hl (by rw [hm]; exact hn) (vl_set (v := .ref x)) (fun ls' hl' => k H locs ls' hP hD hS hl')
theorem r_iinc {K : KT} {n1 n2 : Nat} {T : List TC} {ad : Nat → Nat} {g : St} {pc : Nat} {lv : List (Nat × Value)} {st : List Value} {own : String} {cc : ByteArray} {d : Nat} (hK : Cx K own cc d ad) {i nL : Nat} {n : Int} {x v : Int32} (hm : K.2.2.1.2.maxLocals = nL) (hd : decode cc pc = .ok (.iinc i n, 3)) (h : lget lv i = some (.int x)) (hv : x + Int32.ofInt n = v) (hn : i < nL) (k : Wp K n1 n2 T ad g (pc + 3) (lset lv i (.int v)) st) : Wp K n1 n2 T ad g pc lv st := by
  intro H locs ls hP hD hS hl
  obtain ⟨k9, hk9⟩ := List.getElem?_of_mem (lget_mem h)
  have hk' : (vl ad lv)[k9]? = some (i, .int x) := by rw [List.getElem?_map, hk9]; rfl
  exact lv_iinc hK.1 hK.2.1 hd hl hk' hv (by rw [hm]; exact hn) (vl_set (v := .int v)) (fun ls' hl' => k H locs ls' hP hD hS hl')
theorem r_iadd {K : KT} {n1 n2 : Nat} {T : List TC} {ad : Nat → Nat} {g : St} {pc : Nat} {lv : List (Nat × Value)} {st : List Value} {own : String} {cc : ByteArray} {d : Nat} (hK : Cx K own cc d ad) {x y : Int32} (hd : decode cc pc = .ok (.iadd, 1)) (k : Wp K n1 n2 T ad g (pc + 1) lv (.int (x + y) :: st)) : Wp K n1 n2 T ad g pc lv (.int y :: .int x :: st) := by
  intro H locs ls hP hD hS hl
  exact lv_iadd hK.1 hK.2.1 hd (k H locs ls hP hD hS hl)
theorem r_isub {K : KT} {n1 n2 : Nat} {T : List TC} {ad : Nat → Nat} {g : St} {pc : Nat} {lv : List (Nat × Value)} {st : List Value} {own : String} {cc : ByteArray} {d : Nat} (hK : Cx K own cc d ad) {x y : Int32} (hd : decode cc pc = .ok (.isub, 1)) (k : Wp K n1 n2 T ad g (pc + 1) lv (.int (x - y) :: st)) : Wp K n1 n2 T ad g pc lv (.int y :: .int x :: st) := by
  intro H locs ls hP hD hS hl
  exact lv_isub hK.1 hK.2.1 hd (k H locs ls hP hD hS hl)
theorem r_imul {K : KT} {n1 n2 : Nat} {T : List TC} {ad : Nat → Nat} {g : St} {pc : Nat} {lv : List (Nat × Value)} {st : List Value} {own : String} {cc : ByteArray} {d : Nat} (hK : Cx K own cc d ad) {x y : Int32} (hd : decode cc pc = .ok (.imul, 1)) (k : Wp K n1 n2 T ad g (pc + 1) lv (.int (x * y) :: st)) : Wp K n1 n2 T ad g pc lv (.int y :: .int x :: st) := by
  intro H locs ls hP hD hS hl
  exact lv_imul hK.1 hK.2.1 hd (k H locs ls hP hD hS hl)
theorem r_iand {K : KT} {n1 n2 : Nat} {T : List TC} {ad : Nat → Nat} {g : St} {pc : Nat} {lv : List (Nat × Value)} {st : List Value} {own : String} {cc : ByteArray} {d : Nat} (hK : Cx K own cc d ad) {x y : Int32} (hd : decode cc pc = .ok (.iand, 1)) (k : Wp K n1 n2 T ad g (pc + 1) lv (.int (x &&& y) :: st)) : Wp K n1 n2 T ad g pc lv (.int y :: .int x :: st) := by
  intro H locs ls hP hD hS hl
  exact lv_iand hK.1 hK.2.1 hd (k H locs ls hP hD hS hl)
theorem r_ior {K : KT} {n1 n2 : Nat} {T : List TC} {ad : Nat → Nat} {g : St} {pc : Nat} {lv : List (Nat × Value)} {st : List Value} {own : String} {cc : ByteArray} {d : Nat} (hK : Cx K own cc d ad) {x y : Int32} (hd : decode cc pc = .ok (.ior, 1)) (k : Wp K n1 n2 T ad g (pc + 1) lv (.int (x ||| y) :: st)) : Wp K n1 n2 T ad g pc lv (.int y :: .int x :: st) := by
  intro H locs ls hP hD hS hl
  exact lv_ior hK.1 hK.2.1 hd (k H locs ls hP hD hS hl)
theorem r_ixor {K : KT} {n1 n2 : Nat} {T : List TC} {ad : Nat → Nat} {g : St} {pc : Nat} {lv : List (Nat × Value)} {st : List Value} {own : String} {cc : ByteArray} {d : Nat} (hK : Cx K own cc d ad) {x y : Int32} (hd : decode cc pc = .ok (.ixor, 1)) (k : Wp K n1 n2 T ad g (pc + 1) lv (.int (x ^^^ y) :: st)) : Wp K n1 n2 T ad g pc lv (.int y :: .int x :: st) := by
  intro H locs ls hP hD hS hl
  exact lv_ixor hK.1 hK.2.1 hd (k H locs ls hP hD hS hl)
theorem r_ishl {K : KT} {n1 n2 : Nat} {T : List TC} {ad : Nat → Nat} {g : St} {pc : Nat} {lv : List (Nat × Value)} {st : List Value} {own : String} {cc : ByteArray} {d : Nat} (hK : Cx K own cc d ad) {x y : Int32} (hd : decode cc pc = .ok (.ishl, 1)) (k : Wp K n1 n2 T ad g (pc + 1) lv (.int (x <<< (y &&& 31)) :: st)) : Wp K n1 n2 T ad g pc lv (.int y :: .int x :: st) := by
  intro H locs ls hP hD hS hl
  exact lv_ishl hK.1 hK.2.1 hd (k H locs ls hP hD hS hl)
theorem r_ishr {K : KT} {n1 n2 : Nat} {T : List TC} {ad : Nat → Nat} {g : St} {pc : Nat} {lv : List (Nat × Value)} {st : List Value} {own : String} {cc : ByteArray} {d : Nat} (hK : Cx K own cc d ad) {x y : Int32} (hd : decode cc pc = .ok (.ishr, 1)) (k : Wp K n1 n2 T ad g (pc + 1) lv (.int (x >>> (y &&& 31)) :: st)) : Wp K n1 n2 T ad g pc lv (.int y :: .int x :: st) := by
  intro H locs ls hP hD hS hl
  exact lv_ishr hK.1 hK.2.1 hd (k H locs ls hP hD hS hl)
theorem r_idiv {K : KT} {n1 n2 : Nat} {T : List TC} {ad : Nat → Nat} {g : St} {pc : Nat} {lv : List (Nat × Value)} {st : List Value} {own : String} {cc : ByteArray} {d : Nat} (hK : Cx K own cc d ad) {x y : Int32} (hd : decode cc pc = .ok (.idiv, 1)) (h0 : ¬ y = 0) (k : Wp K n1 n2 T ad g (pc + 1) lv (.int (x / y) :: st)) : Wp K n1 n2 T ad g pc lv (.int y :: .int x :: st) := by
  intro H locs ls hP hD hS hl
  exact lv_idiv hK.1 hK.2.1 hd h0 (k H locs ls hP hD hS hl)
theorem r_irem {K : KT} {n1 n2 : Nat} {T : List TC} {ad : Nat → Nat} {g : St} {pc : Nat} {lv : List (Nat × Value)} {st : List Value} {own : String} {cc : ByteArray} {d : Nat} (hK : Cx K own cc d ad) {x y : Int32} (hd : decode cc pc = .ok (.irem, 1)) (h0 : ¬ y = 0) (k : Wp K n1 n2 T ad g (pc + 1) lv (.int (x - x / y * y) :: st)) : Wp K n1 n2 T ad g pc lv (.int y :: .int x :: st) := by
  intro H locs ls hP hD hS hl
  exact lv_irem hK.1 hK.2.1 hd h0 (k H locs ls hP hD hS hl)
theorem r_ladd {K : KT} {n1 n2 : Nat} {T : List TC} {ad : Nat → Nat} {g : St} {pc : Nat} {lv : List (Nat × Value)} {st : List Value} {own : String} {cc : ByteArray} {d : Nat} (hK : Cx K own cc d ad) {x y : Int64} (hd : decode cc pc = .ok (.ladd, 1)) (k : Wp K n1 n2 T ad g (pc + 1) lv (.long (x + y) :: st)) : Wp K n1 n2 T ad g pc lv (.long y :: .long x :: st) := by
  intro H locs ls hP hD hS hl
  exact lv_ladd hK.1 hK.2.1 hd (k H locs ls hP hD hS hl)
theorem r_lsub {K : KT} {n1 n2 : Nat} {T : List TC} {ad : Nat → Nat} {g : St} {pc : Nat} {lv : List (Nat × Value)} {st : List Value} {own : String} {cc : ByteArray} {d : Nat} (hK : Cx K own cc d ad) {x y : Int64} (hd : decode cc pc = .ok (.lsub, 1)) (k : Wp K n1 n2 T ad g (pc + 1) lv (.long (x - y) :: st)) : Wp K n1 n2 T ad g pc lv (.long y :: .long x :: st) := by
  intro H locs ls hP hD hS hl
  exact lv_lsub hK.1 hK.2.1 hd (k H locs ls hP hD hS hl)
theorem r_lmul {K : KT} {n1 n2 : Nat} {T : List TC} {ad : Nat → Nat} {g : St} {pc : Nat} {lv : List (Nat × Value)} {st : List Value} {own : String} {cc : ByteArray} {d : Nat} (hK : Cx K own cc d ad) {x y : Int64} (hd : decode cc pc = .ok (.lmul, 1)) (k : Wp K n1 n2 T ad g (pc + 1) lv (.long (x * y) :: st)) : Wp K n1 n2 T ad g pc lv (.long y :: .long x :: st) := by
  intro H locs ls hP hD hS hl
  exact lv_lmul hK.1 hK.2.1 hd (k H locs ls hP hD hS hl)
theorem r_land {K : KT} {n1 n2 : Nat} {T : List TC} {ad : Nat → Nat} {g : St} {pc : Nat} {lv : List (Nat × Value)} {st : List Value} {own : String} {cc : ByteArray} {d : Nat} (hK : Cx K own cc d ad) {x y : Int64} (hd : decode cc pc = .ok (.land, 1)) (k : Wp K n1 n2 T ad g (pc + 1) lv (.long (x &&& y) :: st)) : Wp K n1 n2 T ad g pc lv (.long y :: .long x :: st) := by
  intro H locs ls hP hD hS hl
  exact lv_land hK.1 hK.2.1 hd (k H locs ls hP hD hS hl)
theorem r_lor {K : KT} {n1 n2 : Nat} {T : List TC} {ad : Nat → Nat} {g : St} {pc : Nat} {lv : List (Nat × Value)} {st : List Value} {own : String} {cc : ByteArray} {d : Nat} (hK : Cx K own cc d ad) {x y : Int64} (hd : decode cc pc = .ok (.lor, 1)) (k : Wp K n1 n2 T ad g (pc + 1) lv (.long (x ||| y) :: st)) : Wp K n1 n2 T ad g pc lv (.long y :: .long x :: st) := by
  intro H locs ls hP hD hS hl
  exact lv_lor hK.1 hK.2.1 hd (k H locs ls hP hD hS hl)
theorem r_ldiv {K : KT} {n1 n2 : Nat} {T : List TC} {ad : Nat → Nat} {g : St} {pc : Nat} {lv : List (Nat × Value)} {st : List Value} {own : String} {cc : ByteArray} {d : Nat} (hK : Cx K own cc d ad) {x y : Int64} (hd : decode cc pc = .ok (.ldiv, 1)) (h0 : ¬ y = 0) (k : Wp K n1 n2 T ad g (pc + 1) lv (.long (x / y) :: st)) : Wp K n1 n2 T ad g pc lv (.long y :: .long x :: st) := by
  intro H locs ls hP hD hS hl
  exact lv_ldiv hK.1 hK.2.1 hd h0 (k H locs ls hP hD hS hl)
theorem r_lrem {K : KT} {n1 n2 : Nat} {T : List TC} {ad : Nat → Nat} {g : St} {pc : Nat} {lv : List (Nat × Value)} {st : List Value} {own : String} {cc : ByteArray} {d : Nat} (hK : Cx K own cc d ad) {x y : Int64} (hd : decode cc pc = .ok (.lrem, 1)) (h0 : ¬ y = 0) (k : Wp K n1 n2 T ad g (pc + 1) lv (.long (x - x / y * y) :: st)) : Wp K n1 n2 T ad g pc lv (.long y :: .long x :: st) := by
  intro H locs ls hP hD hS hl
  exact lv_lrem hK.1 hK.2.1 hd h0 (k H locs ls hP hD hS hl)
theorem r_lushr {K : KT} {n1 n2 : Nat} {T : List TC} {ad : Nat → Nat} {g : St} {pc : Nat} {lv : List (Nat × Value)} {st : List Value} {own : String} {cc : ByteArray} {d : Nat} (hK : Cx K own cc d ad) {x : Int64} {y : Int32} (hd : decode cc pc = .ok (.lushr, 1)) (k : Wp K n1 n2 T ad g (pc + 1) lv (.long ((x.toUInt64 >>> (y.toInt64.toUInt64 &&& Int64.toUInt64 63)).toInt64) :: st)) : Wp K n1 n2 T ad g pc lv (.int y :: .long x :: st) := by
  intro H locs ls hP hD hS hl
  exact lv_lushr hK.1 hK.2.1 hd rfl (k H locs ls hP hD hS hl)
theorem r_lshl {K : KT} {n1 n2 : Nat} {T : List TC} {ad : Nat → Nat} {g : St} {pc : Nat} {lv : List (Nat × Value)} {st : List Value} {own : String} {cc : ByteArray} {d : Nat} (hK : Cx K own cc d ad) {x : Int64} {y : Int32} (hd : decode cc pc = .ok (.lshl, 1)) (k : Wp K n1 n2 T ad g (pc + 1) lv (.long (x <<< (y.toInt64 &&& 63)) :: st)) : Wp K n1 n2 T ad g pc lv (.int y :: .long x :: st) := by
  intro H locs ls hP hD hS hl
  exact lv_lshl hK.1 hK.2.1 hd rfl (k H locs ls hP hD hS hl)
theorem r_lshr {K : KT} {n1 n2 : Nat} {T : List TC} {ad : Nat → Nat} {g : St} {pc : Nat} {lv : List (Nat × Value)} {st : List Value} {own : String} {cc : ByteArray} {d : Nat} (hK : Cx K own cc d ad) {x : Int64} {y : Int32} (hd : decode cc pc = .ok (.lshr, 1)) (k : Wp K n1 n2 T ad g (pc + 1) lv (.long (x >>> (y.toInt64 &&& 63)) :: st)) : Wp K n1 n2 T ad g pc lv (.int y :: .long x :: st) := by
  intro H locs ls hP hD hS hl
  exact lv_lshr hK.1 hK.2.1 hd rfl (k H locs ls hP hD hS hl)
theorem r_lcmp {K : KT} {n1 n2 : Nat} {T : List TC} {ad : Nat → Nat} {g : St} {pc : Nat} {lv : List (Nat × Value)} {st : List Value} {own : String} {cc : ByteArray} {d : Nat} (hK : Cx K own cc d ad) {x y : Int64} (hd : decode cc pc = .ok (.lcmp, 1)) (k : Wp K n1 n2 T ad g (pc + 1) lv (.int (lg_cmp x y) :: st)) : Wp K n1 n2 T ad g pc lv (.long y :: .long x :: st) := by
  intro H locs ls hP hD hS hl
  exact W.lcmp hK.1 hK.2.1 hd (k H locs ls hP hD hS hl)
theorem r_i2l {K : KT} {n1 n2 : Nat} {T : List TC} {ad : Nat → Nat} {g : St} {pc : Nat} {lv : List (Nat × Value)} {st : List Value} {own : String} {cc : ByteArray} {d : Nat} (hK : Cx K own cc d ad) {x : Int32} (hd : decode cc pc = .ok (.i2l, 1)) (k : Wp K n1 n2 T ad g (pc + 1) lv (.long x.toInt64 :: st)) : Wp K n1 n2 T ad g pc lv (.int x :: st) := by
  intro H locs ls hP hD hS hl
  exact lv_i2l hK.1 hK.2.1 hd rfl (k H locs ls hP hD hS hl)
theorem r_l2i {K : KT} {n1 n2 : Nat} {T : List TC} {ad : Nat → Nat} {g : St} {pc : Nat} {lv : List (Nat × Value)} {st : List Value} {own : String} {cc : ByteArray} {d : Nat} (hK : Cx K own cc d ad) {x : Int64} (hd : decode cc pc = .ok (.l2i, 1)) (k : Wp K n1 n2 T ad g (pc + 1) lv (.int x.toInt32 :: st)) : Wp K n1 n2 T ad g pc lv (.long x :: st) := by
  intro H locs ls hP hD hS hl
  exact lv_l2i hK.1 hK.2.1 hd rfl (k H locs ls hP hD hS hl)
theorem r_i2c {K : KT} {n1 n2 : Nat} {T : List TC} {ad : Nat → Nat} {g : St} {pc : Nat} {lv : List (Nat × Value)} {st : List Value} {own : String} {cc : ByteArray} {d : Nat} (hK : Cx K own cc d ad) {x : Int32} (hd : decode cc pc = .ok (.i2c, 1)) (k : Wp K n1 n2 T ad g (pc + 1) lv (.int ((x.toUInt32 % 65536).toInt32) :: st)) : Wp K n1 n2 T ad g pc lv (.int x :: st) := by
  intro H locs ls hP hD hS hl
  exact lv_i2c hK.1 hK.2.1 hd rfl (k H locs ls hP hD hS hl)
theorem r_dup {K : KT} {n1 n2 : Nat} {T : List TC} {ad : Nat → Nat} {g : St} {pc : Nat} {lv : List (Nat × Value)} {st : List Value} {own : String} {cc : ByteArray} {d : Nat} (hK : Cx K own cc d ad) {va : Value} (hd : decode cc pc = .ok (.dup, 1)) (hva : va.category = 1) (k : Wp K n1 n2 T ad g (pc + 1) lv (va :: va :: st)) : Wp K n1 n2 T ad g pc lv (va :: st) := by
  intro H locs ls hP hD hS hl
  exact lv_dup hK.1 hK.2.1 hd (by rw [vv_cat]; exact hva) (k H locs ls hP hD hS hl)
theorem r_pop {K : KT} {n1 n2 : Nat} {T : List TC} {ad : Nat → Nat} {g : St} {pc : Nat} {lv : List (Nat × Value)} {st : List Value} {own : String} {cc : ByteArray} {d : Nat} (hK : Cx K own cc d ad) {va : Value} (hd : decode cc pc = .ok (.pop, 1)) (hva : va.category = 1) (k : Wp K n1 n2 T ad g (pc + 1) lv st) : Wp K n1 n2 T ad g pc lv (va :: st) := by
  intro H locs ls hP hD hS hl
  exact lv_pop hK.1 hK.2.1 hd (by rw [vv_cat]; exact hva) (k H locs ls hP hD hS hl)
theorem r_dup2 {K : KT} {n1 n2 : Nat} {T : List TC} {ad : Nat → Nat} {g : St} {pc : Nat} {lv : List (Nat × Value)} {st : List Value} {own : String} {cc : ByteArray} {d : Nat} (hK : Cx K own cc d ad) {va vb : Value} (hd : decode cc pc = .ok (.dup2, 1)) (hva : va.category = 1) (hvb : vb.category = 1) (k : Wp K n1 n2 T ad g (pc + 1) lv (va :: vb :: va :: vb :: st)) : Wp K n1 n2 T ad g pc lv (va :: vb :: st) := by
  intro H locs ls hP hD hS hl
  exact lv_dup2_11 hK.1 hK.2.1 hd (by rw [vv_cat]; exact hva) (by rw [vv_cat]; exact hvb) (k H locs ls hP hD hS hl)
theorem r_null {K : KT} {n1 n2 : Nat} {T : List TC} {ad : Nat → Nat} {g : St} {pc : Nat} {lv : List (Nat × Value)} {st : List Value} {own : String} {cc : ByteArray} {d : Nat} (hK : Cx K own cc d ad) (hd : decode cc pc = .ok (.aconst_null, 1)) (k : Wp K n1 n2 T ad g (pc + 1) lv (.null :: st)) : Wp K n1 n2 T ad g pc lv st := by
  intro H locs ls hP hD hS hl
  exact lv_null hK.1 hK.2.1 hd (k H locs ls hP hD hS hl)
theorem r_if_eq {K : KT} {n1 n2 : Nat} {T : List TC} {ad : Nat → Nat} {g : St} {pc : Nat} {lv : List (Nat × Value)} {st : List Value} {own : String} {cc : ByteArray} {d : Nat} (hK : Cx K own cc d ad) {x : Int32} {off : Int} {tgt : Nat} (hd : decode cc pc = .ok (.ifCond .eq off, 3)) (ht : (pc : Int) + off = (tgt : Int)) (kt : x = 0 → Wp K n1 n2 T ad g tgt lv st) (kf : ¬ x = 0 → Wp K n1 n2 T ad g (pc + 3) lv st) : Wp K n1 n2 T ad g pc lv (.int x :: st) := by
  intro H locs ls hP hD hS hl
  exact lv_if_eq hK.1 hK.2.1 hd ht (fun h => kt h H locs ls hP hD hS hl) (fun h => kf h H locs ls hP hD hS hl)
theorem r_icmp_eq {K : KT} {n1 n2 : Nat} {T : List TC} {ad : Nat → Nat} {g : St} {pc : Nat} {lv : List (Nat × Value)} {st : List Value} {own : String} {cc : ByteArray} {d : Nat} (hK : Cx K own cc d ad) {x y : Int32} {off : Int} {tgt : Nat} (hd : decode cc pc = .ok (.if_icmp .eq off, 3)) (ht : (pc : Int) + off = (tgt : Int)) (kt : x = y → Wp K n1 n2 T ad g tgt lv st) (kf : ¬ x = y → Wp K n1 n2 T ad g (pc + 3) lv st) : Wp K n1 n2 T ad g pc lv (.int y :: .int x :: st) := by
  intro H locs ls hP hD hS hl
  exact lv_icmp_eq hK.1 hK.2.1 hd ht (fun h => kt h H locs ls hP hD hS hl) (fun h => kf h H locs ls hP hD hS hl)
theorem r_if_ne {K : KT} {n1 n2 : Nat} {T : List TC} {ad : Nat → Nat} {g : St} {pc : Nat} {lv : List (Nat × Value)} {st : List Value} {own : String} {cc : ByteArray} {d : Nat} (hK : Cx K own cc d ad) {x : Int32} {off : Int} {tgt : Nat} (hd : decode cc pc = .ok (.ifCond .ne off, 3)) (ht : (pc : Int) + off = (tgt : Int)) (kt : ¬ x = 0 → Wp K n1 n2 T ad g tgt lv st) (kf : x = 0 → Wp K n1 n2 T ad g (pc + 3) lv st) : Wp K n1 n2 T ad g pc lv (.int x :: st) := by
  intro H locs ls hP hD hS hl
  exact lv_if_ne hK.1 hK.2.1 hd ht (fun h => kt h H locs ls hP hD hS hl) (fun h => kf h H locs ls hP hD hS hl)
theorem r_icmp_ne {K : KT} {n1 n2 : Nat} {T : List TC} {ad : Nat → Nat} {g : St} {pc : Nat} {lv : List (Nat × Value)} {st : List Value} {own : String} {cc : ByteArray} {d : Nat} (hK : Cx K own cc d ad) {x y : Int32} {off : Int} {tgt : Nat} (hd : decode cc pc = .ok (.if_icmp .ne off, 3)) (ht : (pc : Int) + off = (tgt : Int)) (kt : ¬ x = y → Wp K n1 n2 T ad g tgt lv st) (kf : x = y → Wp K n1 n2 T ad g (pc + 3) lv st) : Wp K n1 n2 T ad g pc lv (.int y :: .int x :: st) := by
  intro H locs ls hP hD hS hl
  exact lv_icmp_ne hK.1 hK.2.1 hd ht (fun h => kt h H locs ls hP hD hS hl) (fun h => kf h H locs ls hP hD hS hl)
theorem r_if_lt {K : KT} {n1 n2 : Nat} {T : List TC} {ad : Nat → Nat} {g : St} {pc : Nat} {lv : List (Nat × Value)} {st : List Value} {own : String} {cc : ByteArray} {d : Nat} (hK : Cx K own cc d ad) {x : Int32} {off : Int} {tgt : Nat} (hd : decode cc pc = .ok (.ifCond .lt off, 3)) (ht : (pc : Int) + off = (tgt : Int)) (kt : x < 0 → Wp K n1 n2 T ad g tgt lv st) (kf : ¬ x < 0 → Wp K n1 n2 T ad g (pc + 3) lv st) : Wp K n1 n2 T ad g pc lv (.int x :: st) := by
  intro H locs ls hP hD hS hl
  exact lv_if_lt hK.1 hK.2.1 hd ht (fun h => kt h H locs ls hP hD hS hl) (fun h => kf h H locs ls hP hD hS hl)
theorem r_icmp_lt {K : KT} {n1 n2 : Nat} {T : List TC} {ad : Nat → Nat} {g : St} {pc : Nat} {lv : List (Nat × Value)} {st : List Value} {own : String} {cc : ByteArray} {d : Nat} (hK : Cx K own cc d ad) {x y : Int32} {off : Int} {tgt : Nat} (hd : decode cc pc = .ok (.if_icmp .lt off, 3)) (ht : (pc : Int) + off = (tgt : Int)) (kt : x < y → Wp K n1 n2 T ad g tgt lv st) (kf : ¬ x < y → Wp K n1 n2 T ad g (pc + 3) lv st) : Wp K n1 n2 T ad g pc lv (.int y :: .int x :: st) := by
  intro H locs ls hP hD hS hl
  exact lv_icmp_lt hK.1 hK.2.1 hd ht (fun h => kt h H locs ls hP hD hS hl) (fun h => kf h H locs ls hP hD hS hl)
theorem r_if_ge {K : KT} {n1 n2 : Nat} {T : List TC} {ad : Nat → Nat} {g : St} {pc : Nat} {lv : List (Nat × Value)} {st : List Value} {own : String} {cc : ByteArray} {d : Nat} (hK : Cx K own cc d ad) {x : Int32} {off : Int} {tgt : Nat} (hd : decode cc pc = .ok (.ifCond .ge off, 3)) (ht : (pc : Int) + off = (tgt : Int)) (kt : 0 ≤ x → Wp K n1 n2 T ad g tgt lv st) (kf : ¬ 0 ≤ x → Wp K n1 n2 T ad g (pc + 3) lv st) : Wp K n1 n2 T ad g pc lv (.int x :: st) := by
  intro H locs ls hP hD hS hl
  exact lv_if_ge hK.1 hK.2.1 hd ht (fun h => kt h H locs ls hP hD hS hl) (fun h => kf h H locs ls hP hD hS hl)
theorem r_icmp_ge {K : KT} {n1 n2 : Nat} {T : List TC} {ad : Nat → Nat} {g : St} {pc : Nat} {lv : List (Nat × Value)} {st : List Value} {own : String} {cc : ByteArray} {d : Nat} (hK : Cx K own cc d ad) {x y : Int32} {off : Int} {tgt : Nat} (hd : decode cc pc = .ok (.if_icmp .ge off, 3)) (ht : (pc : Int) + off = (tgt : Int)) (kt : y ≤ x → Wp K n1 n2 T ad g tgt lv st) (kf : ¬ y ≤ x → Wp K n1 n2 T ad g (pc + 3) lv st) : Wp K n1 n2 T ad g pc lv (.int y :: .int x :: st) := by
  intro H locs ls hP hD hS hl
  exact lv_icmp_ge hK.1 hK.2.1 hd ht (fun h => kt h H locs ls hP hD hS hl) (fun h => kf h H locs ls hP hD hS hl)
theorem r_if_gt {K : KT} {n1 n2 : Nat} {T : List TC} {ad : Nat → Nat} {g : St} {pc : Nat} {lv : List (Nat × Value)} {st : List Value} {own : String} {cc : ByteArray} {d : Nat} (hK : Cx K own cc d ad) {x : Int32} {off : Int} {tgt : Nat} (hd : decode cc pc = .ok (.ifCond .gt off, 3)) (ht : (pc : Int) + off = (tgt : Int)) (kt : 0 < x → Wp K n1 n2 T ad g tgt lv st) (kf : ¬ 0 < x → Wp K n1 n2 T ad g (pc + 3) lv st) : Wp K n1 n2 T ad g pc lv (.int x :: st) := by
  intro H locs ls hP hD hS hl
  exact lv_if_gt hK.1 hK.2.1 hd ht (fun h => kt h H locs ls hP hD hS hl) (fun h => kf h H locs ls hP hD hS hl)
theorem r_icmp_gt {K : KT} {n1 n2 : Nat} {T : List TC} {ad : Nat → Nat} {g : St} {pc : Nat} {lv : List (Nat × Value)} {st : List Value} {own : String} {cc : ByteArray} {d : Nat} (hK : Cx K own cc d ad) {x y : Int32} {off : Int} {tgt : Nat} (hd : decode cc pc = .ok (.if_icmp .gt off, 3)) (ht : (pc : Int) + off = (tgt : Int)) (kt : y < x → Wp K n1 n2 T ad g tgt lv st) (kf : ¬ y < x → Wp K n1 n2 T ad g (pc + 3) lv st) : Wp K n1 n2 T ad g pc lv (.int y :: .int x :: st) := by
  intro H locs ls hP hD hS hl
  exact lv_icmp_gt hK.1 hK.2.1 hd ht (fun h => kt h H locs ls hP hD hS hl) (fun h => kf h H locs ls hP hD hS hl)
theorem r_if_le {K : KT} {n1 n2 : Nat} {T : List TC} {ad : Nat → Nat} {g : St} {pc : Nat} {lv : List (Nat × Value)} {st : List Value} {own : String} {cc : ByteArray} {d : Nat} (hK : Cx K own cc d ad) {x : Int32} {off : Int} {tgt : Nat} (hd : decode cc pc = .ok (.ifCond .le off, 3)) (ht : (pc : Int) + off = (tgt : Int)) (kt : x ≤ 0 → Wp K n1 n2 T ad g tgt lv st) (kf : ¬ x ≤ 0 → Wp K n1 n2 T ad g (pc + 3) lv st) : Wp K n1 n2 T ad g pc lv (.int x :: st) := by
  intro H locs ls hP hD hS hl
  exact lv_if_le hK.1 hK.2.1 hd ht (fun h => kt h H locs ls hP hD hS hl) (fun h => kf h H locs ls hP hD hS hl)
theorem r_icmp_le {K : KT} {n1 n2 : Nat} {T : List TC} {ad : Nat → Nat} {g : St} {pc : Nat} {lv : List (Nat × Value)} {st : List Value} {own : String} {cc : ByteArray} {d : Nat} (hK : Cx K own cc d ad) {x y : Int32} {off : Int} {tgt : Nat} (hd : decode cc pc = .ok (.if_icmp .le off, 3)) (ht : (pc : Int) + off = (tgt : Int)) (kt : x ≤ y → Wp K n1 n2 T ad g tgt lv st) (kf : ¬ x ≤ y → Wp K n1 n2 T ad g (pc + 3) lv st) : Wp K n1 n2 T ad g pc lv (.int y :: .int x :: st) := by
  intro H locs ls hP hD hS hl
  exact lv_icmp_le hK.1 hK.2.1 hd ht (fun h => kt h H locs ls hP hD hS hl) (fun h => kf h H locs ls hP hD hS hl)
theorem r_goto {K : KT} {n1 n2 : Nat} {T : List TC} {ad : Nat → Nat} {g : St} {pc : Nat} {lv : List (Nat × Value)} {st : List Value} {own : String} {cc : ByteArray} {d : Nat} (hK : Cx K own cc d ad) {off : Int} {tgt : Nat} (hd : decode cc pc = .ok (.goto off, 3)) (ht : (pc : Int) + off = (tgt : Int)) (k : Wp K n1 n2 T ad g tgt lv st) : Wp K n1 n2 T ad g pc lv st := by
  intro H locs ls hP hD hS hl
  exact lv_goto hK.1 hK.2.1 hd ht (k H locs ls hP hD hS hl)
theorem r_ifnull {K : KT} {n1 n2 : Nat} {T : List TC} {ad : Nat → Nat} {g : St} {pc : Nat} {lv : List (Nat × Value)} {st : List Value} {own : String} {cc : ByteArray} {d : Nat} (hK : Cx K own cc d ad) {o : Nat} {off : Int} (hd : decode cc pc = .ok (.ifnull off, 3)) (k : Wp K n1 n2 T ad g (pc + 3) lv st) : Wp K n1 n2 T ad g pc lv (.ref o :: st) := by
  intro H locs ls hP hD hS hl
  exact lv_ifnull hK.1 hK.2.1 hd (k H locs ls hP hD hS hl)
theorem r_ifnullN {K : KT} {n1 n2 : Nat} {T : List TC} {ad : Nat → Nat} {g : St} {pc : Nat} {lv : List (Nat × Value)} {st : List Value} {own : String} {cc : ByteArray} {d : Nat} (hK : Cx K own cc d ad) {off : Int} {tgt : Nat} (hd : decode cc pc = .ok (.ifnull off, 3)) (ht : (pc : Int) + off = (tgt : Int)) (k : Wp K n1 n2 T ad g tgt lv st) : Wp K n1 n2 T ad g pc lv (.null :: st) := by
  intro H locs ls hP hD hS hl
  exact lv_ifnullN hK.1 hK.2.1 hd ht (k H locs ls hP hD hS hl)
theorem r_ifnonnull {K : KT} {n1 n2 : Nat} {T : List TC} {ad : Nat → Nat} {g : St} {pc : Nat} {lv : List (Nat × Value)} {st : List Value} {own : String} {cc : ByteArray} {d : Nat} (hK : Cx K own cc d ad) {o : Nat} {off : Int} {tgt : Nat} (hd : decode cc pc = .ok (.ifnonnull off, 3)) (ht : (pc : Int) + off = (tgt : Int)) (k : Wp K n1 n2 T ad g tgt lv st) : Wp K n1 n2 T ad g pc lv (.ref o :: st) := by
  intro H locs ls hP hD hS hl
  exact lv_ifnonnull hK.1 hK.2.1 hd ht (k H locs ls hP hD hS hl)
theorem r_ifnonnullN {K : KT} {n1 n2 : Nat} {T : List TC} {ad : Nat → Nat} {g : St} {pc : Nat} {lv : List (Nat × Value)} {st : List Value} {own : String} {cc : ByteArray} {d : Nat} (hK : Cx K own cc d ad) {off : Int} (hd : decode cc pc = .ok (.ifnonnull off, 3)) (k : Wp K n1 n2 T ad g (pc + 3) lv st) : Wp K n1 n2 T ad g pc lv (.null :: st) := by
  intro H locs ls hP hD hS hl
  exact lv_ifnonnullN hK.1 hK.2.1 hd (k H locs ls hP hD hS hl)
theorem r_tout {K : KT} {n1 n2 : Nat} {T : List TC} {ad : Nat → Nat} {g : St} {pc : Nat} {lv : List (Nat × Value)} {st : List Value} {own : String} {cc : ByteArray} {d : Nat} (hK : Cx K own cc d ad) {dflt lo hi : Int} {offs : Array Int} {len : Nat} {x : Int32} {tgt : Nat} (hd : decode cc pc = .ok (.tableswitch dflt lo hi offs, len)) (h : x.toInt < lo ∨ hi < x.toInt) (ht : (pc : Int) + dflt = (tgt : Int)) (k : Wp K n1 n2 T ad g tgt lv st) : Wp K n1 n2 T ad g pc lv (.int x :: st) := by
  intro H locs ls hP hD hS hl
  exact lv_tableOut hK.1 hK.2.1 hd h ht (k H locs ls hP hD hS hl)
theorem r_tin {K : KT} {n1 n2 : Nat} {T : List TC} {ad : Nat → Nat} {g : St} {pc : Nat} {lv : List (Nat × Value)} {st : List Value} {own : String} {cc : ByteArray} {d : Nat} (hK : Cx K own cc d ad) {dflt lo hi : Int} {offs : Array Int} {len : Nat} {x : Int32} {off : Int} {tgt : Nat} (hd : decode cc pc = .ok (.tableswitch dflt lo hi offs, len)) (h1 : ¬ x.toInt < lo) (h2 : ¬ hi < x.toInt) (ho : offs[(x.toInt - lo).toNat]? = some off) (ht : (pc : Int) + off = (tgt : Int)) (k : Wp K n1 n2 T ad g tgt lv st) : Wp K n1 n2 T ad g pc lv (.int x :: st) := by
  intro H locs ls hP hD hS hl
  exact lv_tableIn hK.1 hK.2.1 hd h1 h2 ho ht (k H locs ls hP hD hS hl)
theorem r_lsw {K : KT} {n1 n2 : Nat} {T : List TC} {ad : Nat → Nat} {g : St} {pc : Nat} {lv : List (Nat × Value)} {st : List Value} {own : String} {cc : ByteArray} {d : Nat} (hK : Cx K own cc d ad) {dflt : Int} {ps : Array (Int × Int)} {len : Nat} {x : Int32} {off : Int} {tgt : Nat} (hd : decode cc pc = .ok (.lookupswitch dflt ps, len)) (hp : (ps.toList.zip (ps.toList.drop 1)).all (fun (a, next) => a.1 < next.1) = true) (ho : Op.lookupswitch.offset ps.toList dflt x.toInt = off) (ht : (pc : Int) + off = (tgt : Int)) (k : Wp K n1 n2 T ad g tgt lv st) : Wp K n1 n2 T ad g pc lv (.int x :: st) := by
  intro H locs ls hP hD hS hl
  exact lv_lookup hK.1 hK.2.1 hd hp ho ht (k H locs ls hP hD hS hl)
theorem sw_split (n : Nat) (hn : n < 2 ^ 31) (x : Int32) : (∃ i, i < n ∧ x = nI i) ∨ (x.toInt < 0 ∨ ((n : Int) - 1) < x.toInt) := by
  by_cases h : x < 0
  · refine Or.inr (Or.inl ?_)
    rw [Int32.lt_iff_toInt_lt, Int32.toInt_zero] at h
    exact h
  · obtain ⟨j, hj, rfl⟩ := nI_of h
    by_cases hjn : j < n
    · exact Or.inl ⟨j, hjn, rfl⟩
    · refine Or.inr (Or.inr ?_)
      rw [nI_toInt hj]
      omega
theorem r_loc {K : KT} {n1 n2 : Nat} {T : List TC} {ad : Nat → Nat} {g : St} {pc : Nat} {lv lv' : List (Nat × Value)} {st : List Value} (h : lv'.map (fun q => lget lv q.1) = lv'.map (fun q => some q.2)) (k : Wp K n1 n2 T ad g pc lv' st) : Wp K n1 n2 T ad g pc lv st := by
  intro H locs ls hP hD hS hl
  refine k H locs ls hP hD hS ⟨hl.1, hl.2.1, fun q hq => ?_⟩
  obtain ⟨q0, h1, h2⟩ := List.mem_map.mp hq
  obtain ⟨i, hi⟩ := List.getElem?_of_mem h1
  have h3 : (lv'.map (fun q => lget lv q.1))[i]? = (lv'.map (fun q => some q.2))[i]? := by rw [h]
  rw [List.getElem?_map, List.getElem?_map, hi] at h3
  have h4 : lget lv q0.1 = some q0.2 := Option.some.inj h3
  rw [← h2]
  exact lget_at hl h4
theorem r_wide {K : KT} {n1 n2 m1 m2 : Nat} {T : List TC} {ad : Nat → Nat} {g : St} {pc : Nat} {lv : List (Nat × Value)} {st : List Value} (h1 : n1 ≤ m1) (h2 : n2 ≤ m2) (k : Wp K m1 m2 T ad g pc lv st) : Wp K n1 n2 T ad g pc lv st := by
  intro H locs ls hP hD hS hl
  exact W.widen h1 h2 (k H locs ls hP hD hS hl)
/-- a field as a class's methods name it -/
def Fl (own : String) (idx ci k : Nat) : Prop := ∃ (C : String) (Tt : u_T) (N : Nat) (ty : Nat → FieldType), vwCl[ci]? = some (C, Tt, N) ∧ k < N ∧ (∀ w ∈ u_ws C Tt N, w ∈ gT) ∧ (∀ k, k < N → parseFieldDescriptor (Tt k).2.2.1 = some (ty k)) ∧ (∀ a, a < N → ∀ b, b < N → a ≠ b → (Tt a).2.1 ≠ (Tt b).2.1) ∧ (Cond.fieldLink own idx C (Tt k).2.1 (Tt k).2.2.1 ∈ gT ∨ ∃ host, Cond.fieldLinkNest own idx C (Tt k).2.1 (Tt k).2.2.1 host ∈ nT) ∧ (Tt k).1 = C
/-- its type, and whether it is final -/
def Ft (ci k : Nat) (ty : FieldType) (fin : Bool) : Prop := ∀ (C : String) (Tt : u_T) (N : Nat), vwCl[ci]? = some (C, Tt, N) → parseFieldDescriptor (Tt k).2.2.1 = some ty ∧ (Tt k).2.2.2 = fin
def c_va (g : St) (o k : Nat) (f : Nat × Nat) : Value := match f.1 with
  | 0 => .int (g.1 o k)
  | 1 => .long (g.2 o k)
  | 2 => .ref f.2
  | 3 => if g.1 o k = 0 then .null else .ref f.2
  | _ => .null
theorem c_va_fv {ad : Nat → Nat} {g : St} {o k : Nat} (f : Nat × Nat) : vv ad (c_va g o k f) = c_fv ad g o k f := by
  obtain ⟨a, b⟩ := f
  unfold c_va c_fv
  match a with
  | 0 => rfl
  | 1 => rfl
  | 2 => rfl
  | 3 =>
    show vv ad (if g.1 o k = 0 then .null else .ref b) = if g.1 o k = 0 then .null else .ref (ad b)
    split <;> rfl
  | n + 4 => rfl
theorem c_fs_get {ad : Nat → Nat} {g : St} {o k : Nat} {fs : List (Nat × Nat)} {f : Nat × Nat} (h : fs[k]? = some f) : (fs.mapIdx (fun k f => c_fv ad g o k f))[k]? = some (vv ad (c_va g o k f)) := by
  rw [List.getElem?_mapIdx, h, c_va_fv]; rfl
theorem c_fs_set {ad : Nat → Nat} {g g' : St} {o k : Nat} {fs : List (Nat × Nat)} {f : Nat × Nat} {v : Value} (h : fs[k]? = some f) (h1 : c_fv ad g' o k f = v) (h2 : ∀ j, j ≠ k → g'.1 o j = g.1 o j ∧ g'.2 o j = g.2 o j) : fs.mapIdx (fun k f => c_fv ad g' o k f) = (fs.mapIdx (fun k f => c_fv ad g o k f)).set k v := by
  apply List.ext_getElem?
  intro j
  have hl : k < (fs.mapIdx (fun k f => c_fv ad g o k f)).length := by rw [List.length_mapIdx]; exact (List.getElem?_eq_some_iff.mp h).1
  by_cases hj : j = k
  · subst hj
    rw [List.getElem?_set_self hl, List.getElem?_mapIdx, h, Option.map_some, h1]
  · rw [List.getElem?_set_ne (Ne.symm hj), List.getElem?_mapIdx, List.getElem?_mapIdx]
    cases fs[j]? with
    | none => rfl
    | some f' => simp only [Option.map_some, c_fv, (h2 j hj).1, (h2 j hj).2]

theorem r_get {K : KT} {n1 n2 : Nat} {T : List TC} {ad : Nat → Nat} {g : St} {pc : Nat} {lv : List (Nat × Value)} {st : List Value} {own : String} {cc : ByteArray} {d : Nat} (hK : Cx K own cc d ad) {idx o ci k : Nat} {fs : List (Nat × Nat)} {f : Nat × Nat} (hF : Fl own idx ci k) (ho : T[o]? = some (.inl (ci, fs))) (hf : fs[k]? = some f) (hd : decode cc pc = .ok (.getfield idx, 3)) (kk : Wp K n1 n2 T ad g (pc + 3) lv (c_va g o k f :: st)) : Wp K n1 n2 T ad g pc lv (.ref o :: st) := by
  intro H locs ls hP hD hS hl
  obtain ⟨C, Tt, N, ty, f1, f2, f3, f4, f5, f6, f7⟩ := hF
  obtain ⟨hx, hb, hown, hts, hN, hKK, hA, hE, hdep⟩ := hK
  have hget := Wd_get (cy := K.2.2.2.1.2.1) (ad := ad) (g := g) ho
  have hsame : ∀ x, K.2.1.1.fieldFound? (Tt k).1 (Tt k).2.1 (Tt k).2.2.1 = some x → K.2.1.1.fieldFound? C (Tt k).2.1 (Tt k).2.2.1 = some x := fun x hx => by rw [f7] at hx; exact hx
  rcases f6 with f6 | ⟨host, f6⟩
  · exact va_get hx hb hts f3 hown hKK hP o hget f1 k f2 (hts _ f6) hsame (c_fs_get hf) hd (kk H locs ls hP hD hS hl)
  · exact va_getN hx hb hts f3 hown hKK hP o hget f1 k f2 (va_Nw.use rfl (hN _ f6)) hsame (c_fs_get hf) hd (kk H locs ls hP hD hS hl)
theorem r_getI {K : KT} {n1 n2 : Nat} {T : List TC} {ad : Nat → Nat} {g : St} {pc : Nat} {lv : List (Nat × Value)} {st : List Value} {own : String} {cc : ByteArray} {d : Nat} (hK : Cx K own cc d ad) {idx o ci k x : Nat} {fs : List (Nat × Nat)} (hF : Fl own idx ci k) (ho : T[o]? = some (.inl (ci, fs))) (hf : fs[k]? = some (0, x)) (hd : decode cc pc = .ok (.getfield idx, 3)) (kk : Wp K n1 n2 T ad g (pc + 3) lv (.int (g.1 o k) :: st)) : Wp K n1 n2 T ad g pc lv (.ref o :: st) := r_get hK hF ho hf hd kk
theorem r_getL {K : KT} {n1 n2 : Nat} {T : List TC} {ad : Nat → Nat} {g : St} {pc : Nat} {lv : List (Nat × Value)} {st : List Value} {own : String} {cc : ByteArray} {d : Nat} (hK : Cx K own cc d ad) {idx o ci k x : Nat} {fs : List (Nat × Nat)} (hF : Fl own idx ci k) (ho : T[o]? = some (.inl (ci, fs))) (hf : fs[k]? = some (1, x)) (hd : decode cc pc = .ok (.getfield idx, 3)) (kk : Wp K n1 n2 T ad g (pc + 3) lv (.long (g.2 o k) :: st)) : Wp K n1 n2 T ad g pc lv (.ref o :: st) := r_get hK hF ho hf hd kk
theorem r_getA {K : KT} {n1 n2 : Nat} {T : List TC} {ad : Nat → Nat} {g : St} {pc : Nat} {lv : List (Nat × Value)} {st : List Value} {own : String} {cc : ByteArray} {d : Nat} (hK : Cx K own cc d ad) {idx o ci k x : Nat} {fs : List (Nat × Nat)} (hF : Fl own idx ci k) (ho : T[o]? = some (.inl (ci, fs))) (hf : fs[k]? = some (2, x)) (hd : decode cc pc = .ok (.getfield idx, 3)) (kk : Wp K n1 n2 T ad g (pc + 3) lv (.ref x :: st)) : Wp K n1 n2 T ad g pc lv (.ref o :: st) := r_get hK hF ho hf hd kk
theorem r_getO0 {K : KT} {n1 n2 : Nat} {T : List TC} {ad : Nat → Nat} {g : St} {pc : Nat} {lv : List (Nat × Value)} {st : List Value} {own : String} {cc : ByteArray} {d : Nat} (hK : Cx K own cc d ad) {idx o ci k x : Nat} {fs : List (Nat × Nat)} (h0 : g.1 o k = 0) (hF : Fl own idx ci k) (ho : T[o]? = some (.inl (ci, fs))) (hf : fs[k]? = some (3, x)) (hd : decode cc pc = .ok (.getfield idx, 3)) (kk : Wp K n1 n2 T ad g (pc + 3) lv (.null :: st)) : Wp K n1 n2 T ad g pc lv (.ref o :: st) := r_get hK hF ho hf hd (by simpa [c_va, h0] using kk)
theorem r_getO1 {K : KT} {n1 n2 : Nat} {T : List TC} {ad : Nat → Nat} {g : St} {pc : Nat} {lv : List (Nat × Value)} {st : List Value} {own : String} {cc : ByteArray} {d : Nat} (hK : Cx K own cc d ad) {idx o ci k x : Nat} {fs : List (Nat × Nat)} (h0 : ¬ g.1 o k = 0) (hF : Fl own idx ci k) (ho : T[o]? = some (.inl (ci, fs))) (hf : fs[k]? = some (3, x)) (hd : decode cc pc = .ok (.getfield idx, 3)) (kk : Wp K n1 n2 T ad g (pc + 3) lv (.ref x :: st)) : Wp K n1 n2 T ad g pc lv (.ref o :: st) := r_get hK hF ho hf hd (by simpa [c_va, h0] using kk)
theorem r_putI {K : KT} {n1 n2 : Nat} {T : List TC} {ad : Nat → Nat} {g : St} {pc : Nat} {lv : List (Nat × Value)} {st : List Value} {own : String} {cc : ByteArray} {d : Nat} (hK : Cx K own cc d ad) {idx o ci k x : Nat} {v : Int32} {fs : List (Nat × Nat)} (hF : Fl own idx ci k) (hT : Ft ci k .int false) (ho : T[o]? = some (.inl (ci, fs))) (hf : fs[k]? = some (0, x))  (hd : decode cc pc = .ok (.putfield idx, 3)) (kk : Wp K n1 n2 T ad (upI g o k v) (pc + 3) lv st) : Wp K n1 n2 T ad g pc lv (.int v :: .ref o :: st) := by
  intro H locs ls hP hD hS hl
  obtain ⟨C, Tt, N, tyy, f1, f2, f3, f4, f5, f6, f7⟩ := hF
  obtain ⟨hx, hb, hown, hts, hN, hKK, hA, hE, hdep⟩ := hK
  obtain ⟨t1, t2⟩ := hT C Tt N f1
  have hget := Wd_get (cy := K.2.2.2.1.2.1) (ad := ad) (g := g) ho
  have hsame : ∀ x, K.2.1.1.fieldFound? (Tt k).1 (Tt k).2.1 (Tt k).2.2.1 = some x → K.2.1.1.fieldFound? C (Tt k).2.1 (Tt k).2.2.1 = some x := fun x hx => by rw [f7] at hx; exact hx
  have hlen : k < (fs.mapIdx (fun k f => c_fv ad g o k f)).length := by rw [List.length_mapIdx]; exact (List.getElem?_eq_some_iff.mp hf).1
  have hnar : narrow .int (vv ad (.int v)) = vv ad (.int v) := rfl
  have hfit : fits .int (vv ad (.int v)) = true := rfl
  have hset : (Wd K.2.2.2.1.2.1 ad g T).set o (ad o, .inr (ci, (fs.mapIdx (fun k f => c_fv ad g o k f)).set k (vv ad (.int v)))) = Wd K.2.2.2.1.2.1 ad (upI g o k v) T := by
    refine Wd_set ho ?_ (fun j hj => ⟨upI_n hj, rfl⟩)
    simp only [c_ce]
    rw [c_fs_set (g := g) hf (v := vv ad (.int v)) (by simp [c_fv, upI, upd, vv]) (fun j hj => by simp [upI, upd, hj])]
  rcases f6 with f6 | ⟨host, f6⟩
  · exact va_put hx hb hts f3 tyy f4 f5 hown hKK hP hD hS o hget f1 k f2 (hts _ f6) hsame t2 t1 hnar hfit hlen hd (fun H1 locs1 h1 h2 h3 => kk H1 locs1 ls (hset ▸ h1) (hset ▸ h2) h3 hl)
  · exact va_putN hx hb hts f3 tyy f4 f5 hown hKK hP hD hS o hget f1 k f2 (va_Nw.use rfl (hN _ f6)) hsame t2 t1 hnar hfit hlen hd (fun H1 locs1 h1 h2 h3 => kk H1 locs1 ls (hset ▸ h1) (hset ▸ h2) h3 hl)
theorem r_putL {K : KT} {n1 n2 : Nat} {T : List TC} {ad : Nat → Nat} {g : St} {pc : Nat} {lv : List (Nat × Value)} {st : List Value} {own : String} {cc : ByteArray} {d : Nat} (hK : Cx K own cc d ad) {idx o ci k x : Nat} {v : Int64} {fs : List (Nat × Nat)} (hF : Fl own idx ci k) (hT : Ft ci k .long false) (ho : T[o]? = some (.inl (ci, fs))) (hf : fs[k]? = some (1, x))  (hd : decode cc pc = .ok (.putfield idx, 3)) (kk : Wp K n1 n2 T ad (upL g o k v) (pc + 3) lv st) : Wp K n1 n2 T ad g pc lv (.long v :: .ref o :: st) := by
  intro H locs ls hP hD hS hl
  obtain ⟨C, Tt, N, tyy, f1, f2, f3, f4, f5, f6, f7⟩ := hF
  obtain ⟨hx, hb, hown, hts, hN, hKK, hA, hE, hdep⟩ := hK
  obtain ⟨t1, t2⟩ := hT C Tt N f1
  have hget := Wd_get (cy := K.2.2.2.1.2.1) (ad := ad) (g := g) ho
  have hsame : ∀ x, K.2.1.1.fieldFound? (Tt k).1 (Tt k).2.1 (Tt k).2.2.1 = some x → K.2.1.1.fieldFound? C (Tt k).2.1 (Tt k).2.2.1 = some x := fun x hx => by rw [f7] at hx; exact hx
  have hlen : k < (fs.mapIdx (fun k f => c_fv ad g o k f)).length := by rw [List.length_mapIdx]; exact (List.getElem?_eq_some_iff.mp hf).1
  have hnar : narrow .long (vv ad (.long v)) = vv ad (.long v) := rfl
  have hfit : fits .long (vv ad (.long v)) = true := rfl
  have hset : (Wd K.2.2.2.1.2.1 ad g T).set o (ad o, .inr (ci, (fs.mapIdx (fun k f => c_fv ad g o k f)).set k (vv ad (.long v)))) = Wd K.2.2.2.1.2.1 ad (upL g o k v) T := by
    refine Wd_set ho ?_ (fun j hj => ⟨rfl, upL_n hj⟩)
    simp only [c_ce]
    rw [c_fs_set (g := g) hf (v := vv ad (.long v)) (by simp [c_fv, upL, vp_updL, vv]) (fun j hj => by simp [upL, vp_updL, hj])]
  rcases f6 with f6 | ⟨host, f6⟩
  · exact va_put hx hb hts f3 tyy f4 f5 hown hKK hP hD hS o hget f1 k f2 (hts _ f6) hsame t2 t1 hnar hfit hlen hd (fun H1 locs1 h1 h2 h3 => kk H1 locs1 ls (hset ▸ h1) (hset ▸ h2) h3 hl)
  · exact va_putN hx hb hts f3 tyy f4 f5 hown hKK hP hD hS o hget f1 k f2 (va_Nw.use rfl (hN _ f6)) hsame t2 t1 hnar hfit hlen hd (fun H1 locs1 h1 h2 h3 => kk H1 locs1 ls (hset ▸ h1) (hset ▸ h2) h3 hl)
theorem r_putZ {K : KT} {n1 n2 : Nat} {T : List TC} {ad : Nat → Nat} {g : St} {pc : Nat} {lv : List (Nat × Value)} {st : List Value} {own : String} {cc : ByteArray} {d : Nat} (hK : Cx K own cc d ad) {idx o ci k x : Nat} {v : Int32} {fs : List (Nat × Nat)} (hF : Fl own idx ci k) (hT : Ft ci k .boolean false) (ho : T[o]? = some (.inl (ci, fs))) (hf : fs[k]? = some (0, x)) (hv : v = 0 ∨ v = 1) (hd : decode cc pc = .ok (.putfield idx, 3)) (kk : Wp K n1 n2 T ad (upI g o k v) (pc + 3) lv st) : Wp K n1 n2 T ad g pc lv (.int v :: .ref o :: st) := by
  intro H locs ls hP hD hS hl
  obtain ⟨C, Tt, N, tyy, f1, f2, f3, f4, f5, f6, f7⟩ := hF
  obtain ⟨hx, hb, hown, hts, hN, hKK, hA, hE, hdep⟩ := hK
  obtain ⟨t1, t2⟩ := hT C Tt N f1
  have hget := Wd_get (cy := K.2.2.2.1.2.1) (ad := ad) (g := g) ho
  have hsame : ∀ x, K.2.1.1.fieldFound? (Tt k).1 (Tt k).2.1 (Tt k).2.2.1 = some x → K.2.1.1.fieldFound? C (Tt k).2.1 (Tt k).2.2.1 = some x := fun x hx => by rw [f7] at hx; exact hx
  have hlen : k < (fs.mapIdx (fun k f => c_fv ad g o k f)).length := by rw [List.length_mapIdx]; exact (List.getElem?_eq_some_iff.mp hf).1
  have hnar : narrow .boolean (vv ad (.int v)) = vv ad (.int v) := (by rcases hv with rfl | rfl <;> rfl)
  have hfit : fits .boolean (vv ad (.int v)) = true := (by rcases hv with rfl | rfl <;> rfl)
  have hset : (Wd K.2.2.2.1.2.1 ad g T).set o (ad o, .inr (ci, (fs.mapIdx (fun k f => c_fv ad g o k f)).set k (vv ad (.int v)))) = Wd K.2.2.2.1.2.1 ad (upI g o k v) T := by
    refine Wd_set ho ?_ (fun j hj => ⟨upI_n hj, rfl⟩)
    simp only [c_ce]
    rw [c_fs_set (g := g) hf (v := vv ad (.int v)) (by simp [c_fv, upI, upd, vv]) (fun j hj => by simp [upI, upd, hj])]
  rcases f6 with f6 | ⟨host, f6⟩
  · exact va_put hx hb hts f3 tyy f4 f5 hown hKK hP hD hS o hget f1 k f2 (hts _ f6) hsame t2 t1 hnar hfit hlen hd (fun H1 locs1 h1 h2 h3 => kk H1 locs1 ls (hset ▸ h1) (hset ▸ h2) h3 hl)
  · exact va_putN hx hb hts f3 tyy f4 f5 hown hKK hP hD hS o hget f1 k f2 (va_Nw.use rfl (hN _ f6)) hsame t2 t1 hnar hfit hlen hd (fun H1 locs1 h1 h2 h3 => kk H1 locs1 ls (hset ▸ h1) (hset ▸ h2) h3 hl)
end
section
theorem r_iald {K : KT} {n1 n2 : Nat} {T : List TC} {ad : Nat → Nat} {g : St} {pc : Nat} {lv : List (Nat × Value)} {st : List Value} {own : String} {cc : ByteArray} {d : Nat} (hK : Cx K own cc d ad) {o n : Nat} {rs : List Nat} {i : Int32} (ho : T[o]? = some (.inr (0, n, rs))) (hin : vp_in i n) (hd : decode cc pc = .ok (.iaload, 1)) (k : Wp K n1 n2 T ad g (pc + 1) lv (.int (g.1 o i.toNatClampNeg) :: st)) : Wp K n1 n2 T ad g pc lv (.int i :: .ref o :: st) := by
  intro H locs ls hP hD hS hl
  exact va_iald hK.1 hK.2.1 hK.2.2.2.2.2.1 hP o 0 (Wd_get ho) rfl hin hd (k H locs ls hP hD hS hl)
theorem r_zald {K : KT} {n1 n2 : Nat} {T : List TC} {ad : Nat → Nat} {g : St} {pc : Nat} {lv : List (Nat × Value)} {st : List Value} {own : String} {cc : ByteArray} {d : Nat} (hK : Cx K own cc d ad) {o n : Nat} {rs : List Nat} {i : Int32} (ho : T[o]? = some (.inr (2, n, rs))) (hin : vp_in i n) (hd : decode cc pc = .ok (.baload, 1)) (k : Wp K n1 n2 T ad g (pc + 1) lv (.int (g.1 o i.toNatClampNeg) :: st)) : Wp K n1 n2 T ad g pc lv (.int i :: .ref o :: st) := by
  intro H locs ls hP hD hS hl
  exact va_zald hK.1 hK.2.1 hK.2.2.2.2.2.1 hP o 2 (Wd_get ho) rfl hin hd (k H locs ls hP hD hS hl)
theorem r_lald {K : KT} {n1 n2 : Nat} {T : List TC} {ad : Nat → Nat} {g : St} {pc : Nat} {lv : List (Nat × Value)} {st : List Value} {own : String} {cc : ByteArray} {d : Nat} (hK : Cx K own cc d ad) {o n : Nat} {rs : List Nat} {i : Int32} (ho : T[o]? = some (.inr (1, n, rs))) (hin : vp_in i n) (hd : decode cc pc = .ok (.laload, 1)) (k : Wp K n1 n2 T ad g (pc + 1) lv (.long (g.2 o i.toNatClampNeg) :: st)) : Wp K n1 n2 T ad g pc lv (.int i :: .ref o :: st) := by
  intro H locs ls hP hD hS hl
  exact va_lald hK.1 hK.2.1 hK.2.2.2.2.2.1 hP o 1 (Wd_get ho) rfl hin hd (k H locs ls hP hD hS hl)
theorem r_aald3 {K : KT} {n1 n2 : Nat} {T : List TC} {ad : Nat → Nat} {g : St} {pc : Nat} {lv : List (Nat × Value)} {st : List Value} {own : String} {cc : ByteArray} {d : Nat} (hK : Cx K own cc d ad) {o n x : Nat} {rs : List Nat} {i : Int32} (ho : T[o]? = some (.inr (3, n, rs))) (hin : vp_in i n) (hx : rs[i.toNatClampNeg]? = some x) (hd : decode cc pc = .ok (.aaload, 1)) (k : Wp K n1 n2 T ad g (pc + 1) lv (.ref x :: st)) : Wp K n1 n2 T ad g pc lv (.int i :: .ref o :: st) := by
  intro H locs ls hP hD hS hl
  refine va_aldq hK.1 hK.2.1 hK.2.2.2.2.2.1 hP o 3 (C := RX1) (Wd_get ho) rfl hin hd ?_
  dsimp only
  rw [hx]
  exact (k H locs ls hP hD hS hl)
theorem r_aald4 {K : KT} {n1 n2 : Nat} {T : List TC} {ad : Nat → Nat} {g : St} {pc : Nat} {lv : List (Nat × Value)} {st : List Value} {own : String} {cc : ByteArray} {d : Nat} (hK : Cx K own cc d ad) {o n x : Nat} {rs : List Nat} {i : Int32} (ho : T[o]? = some (.inr (4, n, rs))) (hin : vp_in i n) (hx : rs[i.toNatClampNeg]? = some x) (hd : decode cc pc = .ok (.aaload, 1)) (k : Wp K n1 n2 T ad g (pc + 1) lv (.ref x :: st)) : Wp K n1 n2 T ad g pc lv (.int i :: .ref o :: st) := by
  intro H locs ls hP hD hS hl
  refine va_aldq hK.1 hK.2.1 hK.2.2.2.2.2.1 hP o 4 (C := RX2) (Wd_get ho) rfl hin hd ?_
  dsimp only
  rw [hx]
  exact (k H locs ls hP hD hS hl)
theorem r_iast {K : KT} {n1 n2 : Nat} {T : List TC} {ad : Nat → Nat} {g : St} {pc : Nat} {lv : List (Nat × Value)} {st : List Value} {own : String} {cc : ByteArray} {d : Nat} (hK : Cx K own cc d ad) {o n : Nat} {rs : List Nat} {i : Int32} {x : Int32} (ho : T[o]? = some (.inr (0, n, rs))) (hin : vp_in i n)  (hd : decode cc pc = .ok (.iastore, 1)) (k : Wp K n1 n2 T ad (upI g o i.toNatClampNeg x) (pc + 1) lv st) : Wp K n1 n2 T ad g pc lv (.int x :: .int i :: .ref o :: st) := by
  intro H locs ls hP hD hS hl
  have hset : (Wd K.2.2.2.1.2.1 ad g T).set o (ad o, .inl (K.2.2.2.1.2.1 0, n, .inl (upd (g.1 o) i.toNatClampNeg x))) = Wd K.2.2.2.1.2.1 ad (upI g o i.toNatClampNeg x) T := by
    refine Wd_set ho ?_ (fun j hj => ⟨upI_n hj, rfl⟩)
    simp only [c_ce, c_ar, upI_s]
  refine va_iast hK.1 hK.2.1 hK.2.2.2.2.2.1 hP hD hS o 0 (Wd_get ho) rfl hin hd (fun H1 locs1 h1 h2 h3 => ?_)
  rw [hset] at h1 h2
  exact k H1 locs1 ls h1 h2 h3 hl
theorem r_zast {K : KT} {n1 n2 : Nat} {T : List TC} {ad : Nat → Nat} {g : St} {pc : Nat} {lv : List (Nat × Value)} {st : List Value} {own : String} {cc : ByteArray} {d : Nat} (hK : Cx K own cc d ad) {o n : Nat} {rs : List Nat} {i : Int32} {x : Int32} (ho : T[o]? = some (.inr (2, n, rs))) (hin : vp_in i n) (hx : vp_nar .boolean x = x) (hd : decode cc pc = .ok (.bastore, 1)) (k : Wp K n1 n2 T ad (upI g o i.toNatClampNeg x) (pc + 1) lv st) : Wp K n1 n2 T ad g pc lv (.int x :: .int i :: .ref o :: st) := by
  intro H locs ls hP hD hS hl
  have hset : (Wd K.2.2.2.1.2.1 ad g T).set o (ad o, .inl (K.2.2.2.1.2.1 2, n, .inl (upd (g.1 o) i.toNatClampNeg x))) = Wd K.2.2.2.1.2.1 ad (upI g o i.toNatClampNeg x) T := by
    refine Wd_set ho ?_ (fun j hj => ⟨upI_n hj, rfl⟩)
    simp only [c_ce, c_ar, upI_s]
  refine va_zast hK.1 hK.2.1 hK.2.2.2.2.2.1 hP hD hS o 2 (Wd_get ho) rfl hin hd (fun H1 locs1 h1 h2 h3 => ?_)
  rw [hx] at h1 h2
  rw [hset] at h1 h2
  exact k H1 locs1 ls h1 h2 h3 hl
theorem r_last {K : KT} {n1 n2 : Nat} {T : List TC} {ad : Nat → Nat} {g : St} {pc : Nat} {lv : List (Nat × Value)} {st : List Value} {own : String} {cc : ByteArray} {d : Nat} (hK : Cx K own cc d ad) {o n : Nat} {rs : List Nat} {i : Int32} {x : Int64} (ho : T[o]? = some (.inr (1, n, rs))) (hin : vp_in i n)  (hd : decode cc pc = .ok (.lastore, 1)) (k : Wp K n1 n2 T ad (upL g o i.toNatClampNeg x) (pc + 1) lv st) : Wp K n1 n2 T ad g pc lv (.long x :: .int i :: .ref o :: st) := by
  intro H locs ls hP hD hS hl
  have hset : (Wd K.2.2.2.1.2.1 ad g T).set o (ad o, .inl (K.2.2.2.1.2.1 1, n, .inr (.inl (vp_updL (g.2 o) i.toNatClampNeg x)))) = Wd K.2.2.2.1.2.1 ad (upL g o i.toNatClampNeg x) T := by
    refine Wd_set ho ?_ (fun j hj => ⟨rfl, upL_n hj⟩)
    simp only [c_ce, c_ar, upL_s]
  refine va_last hK.1 hK.2.1 hK.2.2.2.2.2.1 hP hD hS o 1 (Wd_get ho) rfl hin hd (fun H1 locs1 h1 h2 h3 => ?_)
  rw [hset] at h1 h2
  exact k H1 locs1 ls h1 h2 h3 hl
theorem r_alen {K : KT} {n1 n2 : Nat} {T : List TC} {ad : Nat → Nat} {g : St} {pc : Nat} {lv : List (Nat × Value)} {st : List Value} {own : String} {cc : ByteArray} {d : Nat} (hK : Cx K own cc d ad) {o kd n : Nat} {rs : List Nat} {v : Int32} (ho : T[o]? = some (.inr (kd, n, rs))) (hkd : kd < 5) (hv : Int32.ofNat n = v) (hd : decode cc pc = .ok (.arraylength, 1)) (k : Wp K n1 n2 T ad g (pc + 1) lv (.int v :: st)) : Wp K n1 n2 T ad g pc lv (.ref o :: st) := by
  intro H locs ls hP hD hS hl
  obtain ⟨ty, hty⟩ : ∃ ty, (tyL K.2.2.2.1.2.1)[kd]? = some (K.2.2.2.1.2.1 kd, ty) := by
    match kd, hkd with
    | 0, _ => exact ⟨_, rfl⟩
    | 1, _ => exact ⟨_, rfl⟩
    | 2, _ => exact ⟨_, rfl⟩
    | 3, _ => exact ⟨_, rfl⟩
    | 4, _ => exact ⟨_, rfl⟩
  exact va_alen hK.1 hK.2.1 hK.2.2.2.2.2.1 hP o kd (Wd_get ho) hty hv hd (k H locs ls hP hD hS hl)
def MtI (mt : MT) (n : Nat) : Prop := Cond.code mt.1 mt.2.1 mt.2.2.1 mt.2.2.2 ∈ gT ∧ Cond.initialized mt.1.cls ∈ gT ∧ (mt.1.cls ≠ "java/lang/invoke/MethodHandle" ∧ mt.1.cls ≠ "java/lang/invoke/VarHandle") ∧ (parseMethodDescriptor mt.1.desc).map (fun d => d.parameters.length) = some n ∧ mt.2.2.1 ≤ 45
def MtV (mt : MT) (n : Nat) : Prop := MtI mt n ∧ Cond.instanceMethod mt.1 ∈ gT ∧ Cond.selects mt.1.cls mt.1 mt.1 ∈ gT
def MtS (mt : MT) (n : Nat) : Prop := MtI mt n ∧ Cond.static mt.1 ∈ gT
def MtN (mt : MT) (n : Nat) : Prop := MtI mt n ∧ Cond.instanceMethod mt.1 ∈ gT ∧ mt.1.name = "<init>" ∧ mt.2.2.2 = none
/-- a method as a class's methods name it -/
def Ml (own : String) (idx : Nat) (y : MethodName) : Prop := Cond.methodLink own idx y ∈ gT ∨ ∃ host, Cond.methodLinkNest own idx y host ∈ nT
theorem wsM_good {mt : MT} (h : Cond.code mt.1 mt.2.1 mt.2.2.1 mt.2.2.2 ∈ gT) : GoodIn gT (wsM mt) := fun w hw => by
  rcases List.mem_cons.mp hw with rfl | hw
  · exact ⟨h, good_of_word (List.mem_filter.mp h).2⟩
  · exact ⟨hw, good_of_word (List.mem_filter.mp hw).2⟩
/-- what the callee may take as given -/
theorem Inv_of {K : KT} {own : String} {cc : ByteArray} {d : Nat} {T : List TC} {ad : Nat → Nat} {g : St} {H : Heap} {locs : List Loc} (hK : Cx K own cc d ad) (hP : va_P K.2.2.2.1.1 vwCl (Wd K.2.2.2.1.2.1 ad g T) H) (hD : va_D K.2.2.2.1.2.2 (Wd K.2.2.2.1.2.1 ad g T)) (hS : va_S K.2.2.2.1.2.2 K.2.1.1.heap H locs) {U : State} (hU : U.heap = H) (hW : K.2.1.1.WarmedH U.vm) : Inv K.2.2.2.1.1 K.2.2.2.1.2.1 T ad g H.size U := by
  obtain ⟨hx, hb, hown, hts, hN, hKK, hA, hE, hdep⟩ := hK
  refine ⟨by rw [hU], by rw [hU]; exact hP, hD.weaken (fun _ _ _ _ => trivial), va_K.moved hW.alike hKK, nT_warm hW hN, ?_⟩
  rw [hU]
  refine EX_go hE (fun _ _ => rfl) hW hS.2.1 (fun q hq => ?_)
  rcases hq with ⟨o, ho, rfl⟩ | hq
  · exact hD.2 o (ad o, _) (Wd_get (List.getElem?_eq_getElem ho))
  · exact hA q (Nat.le_trans hS.1 hq)
theorem AA_in {K : KT} {own : String} {cc : ByteArray} {d : Nat} {T : List TC} {ad : Nat → Nat} {g : St} {H : Heap} {locs : List Loc} (hK : Cx K own cc d ad) (hD : va_D K.2.2.2.1.2.2 (Wd K.2.2.2.1.2.1 ad g T)) (hS : va_S K.2.2.2.1.2.2 K.2.1.1.heap H locs) : ∀ q, AA T ad H.size q → K.2.2.2.1.2.2 q := by
  intro q hq
  rcases hq with ⟨o, ho, rfl⟩ | hq
  · exact hD.2 o (ad o, _) (Wd_get (List.getElem?_eq_getElem ho))
  · exact hK.2.2.2.2.2.2.1 q (Nat.le_trans hS.1 hq)
/-- behind a call: the walk goes on at the callee's world -/
theorem r_back {K : KT} {n1 n2 mc ms : Nat} {T : List TC} {ad : Nat → Nat} {g : St} {pc : Nat} {lv : List (Nat × Value)} {st0 rest : List Value} {own : String} {cc : ByteArray} {d : Nat} (hK : Cx K own cc d ad) {H : Heap} {locs : List Loc} {ls : Array Slot} {a : Array Value} {Q : PQt}
    (hD : va_D K.2.2.2.1.2.2 (Wd K.2.2.2.1.2.1 ad g T)) (hS : va_S K.2.2.2.1.2.2 K.2.1.1.heap H locs) (hl : lv_has ls K.2.2.1.2.maxLocals (vl ad lv))
    (hr : va_Run K.1.1 K.1.2.1 K.1.2.2.1 K.1.2.2.2 K.2.1.1 K.2.1.2.1 K.2.1.2.2.1 K.2.1.2.2.2 K.2.2.1.1 K.2.2.1.2 H locs n1 n2 mc ms (F0 K.2.1.2.1 pc ls st0) (rest.map (vv ad)) (PQ T ad H.size K.2.2.2.1.1 K.2.2.2.1.2.1 Q a) (AA T ad H.size))
    (hlv : ∀ q ∈ lv, ∀ o, q.2 = .ref o → o < T.length ∨ 1000 ≤ o) (hst : ∀ v ∈ rest, ∀ o, v = .ref o → o < T.length ∨ 1000 ≤ o)
    (k : ∀ r T' ad' g', Q r T' ad' g' → (∀ o, o < T.length ∨ 1000 ≤ o → ad' o = ad o) → T.length ≤ T'.length → Cx K own cc d ad' → Wp K (n1 + mc) (n2 + ms) T' ad' g' (pc + 3) lv (r.toList ++ rest)) :
    W K.1.1 K.1.2.1 K.1.2.2.1 K.1.2.2.2 K.2.1.1 K.2.1.2.1 K.2.1.2.2.1 K.2.1.2.2.2 K.2.2.1.1 K.2.2.1.2 H locs n1 n2 K.2.2.2.2 (F0 K.2.1.2.1 pc ls st0) := by
  intro U hU X
  obtain ⟨v, st₀, t, T1, L, h0, X', hL, e1, e2, ⟨⟨r, T', ad', g', hv, hq, hag, hlen, hP1, hD1⟩, hz, hk⟩, st⟩ := hr U hU X
  cases hv
  rw [h0] at hz hk
  have hin := AA_in hK hD hS
  have vv_ag : ∀ v : Value, (∀ o, v = .ref o → o < T.length ∨ 1000 ≤ o) → vv ad' v = vv ad v := by
    intro v hv
    cases v <;> first | rfl | (exact congrArg Value.ref (hag _ (hv _ rfl)))
  have e3 : (r.map (vv ad')).toList ++ rest.map (vv ad) = (r.toList ++ rest).map (vv ad') := by
    rw [List.map_append]
    congr 1
    · cases r <;> rfl
    · exact List.map_congr_left (fun v hv => (vv_ag v (hst v hv)).symm)
  have e4 : vl ad lv = vl ad' lv := List.map_congr_left (fun q hq => by rw [vv_ag q.2 (hlv q hq)])
  have hCx : Cx K own cc d ad' := by
    obtain ⟨hx, hb, hown, hts, hN, hKK, hA, hE, hdep⟩ := hK
    refine ⟨hx, hb, hown, hts, hN, hKK, hA, ?_, hdep⟩
    obtain ⟨⟨adV, q1⟩, q2, q3, q4⟩ := hE
    have e : (fun i => ad' (1000 + i)) = (fun i => ad (1000 + i)) := funext fun i => hag _ (Or.inr (Nat.le_add_right _ _))
    exact ⟨⟨adV, by rw [e]; exact q1⟩, fun i hi => by rw [hag _ (Or.inr (Nat.le_add_right _ _))]; exact q2 i hi, q3, q4⟩
  have hS1 : va_S K.2.2.2.1.2.2 K.2.1.1.heap T1.heap (locs ++ L) := ⟨Nat.le_trans hS.1 (by rw [e1]; exact hz), fun q h1 h2 => by rw [e1, hk q (Nat.lt_of_lt_of_le h1 hS.1) (fun z => h2 (hin q z))]; exact hS.2.1 q h1 h2, fun q hq => by
      rcases List.mem_append.mp hq with h | h
      · exact hS.2.2 q h
      · exact hin _ (hL q h)⟩
  have := k r T' ad' g' hq hag hlen hCx T1.heap (locs ++ L) ls (by rw [e1]; exact hP1) (hD1.weaken (fun _ _ _ h => hin _ h)) hS1 (by rw [← e4]; exact hl)
  obtain ⟨t2, a1, b1⟩ := this T1 rfl X'
  rw [← e3] at a1
  exact ⟨t2, st t2 a1, b1⟩
theorem vv_sum {ad : Nat → Nat} (l : List Value) : ((l.map (vv ad)).map fun v => v.category).sum = (l.map fun v => v.category).sum := by
  rw [List.map_map]
  congr 1
  exact List.map_congr_left (fun v _ => vv_cat v)

theorem r_callV {K : KT} {n1 n2 : Nat} {T : List TC} {ad : Nat → Nat} {g : St} {pc : Nat} {lv : List (Nat × Value)} {own : String} {cc : ByteArray} {d : Nat} (hK : Cx K own cc d ad) {mt : MT} {idx d' mc ms n : Nat} {as rest : List Value} {Q : PQt} {o ci : Nat} {fs : List (Nat × Nat)} {q0 : vw_C} (hC : Cn d' mc ms mt (.ref o :: as) T ad g Q) (hMt : MtV mt n) (hLk : Ml own idx mt.1) (ho : T[o]? = some (.inl (ci, fs))) (hci : vwCl[ci]? = some q0) (hq0 : q0.1 = mt.1.cls) (hd : decode cc pc = .ok (.invokevirtual idx, 3)) (hcells : n1 + mc ≤ K.1.2.2.2.cells ∧ n2 + ms ≤ K.1.2.2.2.slots) (hn : as.length = n) (hdd : d' + 1 ≤ d) (hsum : (rest.map fun v => v.category).sum ≤ 8) (hlv : ∀ q ∈ lv, ∀ o, q.2 = .ref o → o < T.length ∨ 1000 ≤ o) (hst : ∀ v ∈ rest, ∀ o, v = .ref o → o < T.length ∨ 1000 ≤ o) (k : ∀ r T' ad' g', Q r T' ad' g' → (∀ o, o < T.length ∨ 1000 ≤ o → ad' o = ad o) → T.length ≤ T'.length → Cx K own cc d ad' → Wp K (n1 + mc) (n2 + ms) T' ad' g' (pc + 3) lv (r.toList ++ rest)) : Wp K n1 n2 T ad g pc lv (as.reverse ++ .ref o :: rest) := by
  intro H locs ls hP hD hS hl
  have hK0 := hK
  obtain ⟨hx, hb, hown, hts, hN, hKK, hA, hE, hdf, hdl⟩ := hK
  obtain ⟨⟨m1, m2, m3, m4, m5⟩, m6, m7⟩ := hMt
  have hroom : (rmD d' mc ms).frames + 1 ≤ K.1.2.2.2.frames ∧ 8 + (mt.2.2.1 + 11) + (rmD d' mc ms).locals ≤ K.1.2.2.2.locals := ⟨by show d' + 1 ≤ _; omega, by show 8 + (mt.2.2.1 + 11) + 64 * d' ≤ _; omega⟩
  have hM := hC K.1.2.1 K.2.2.2.1.1 K.2.2.2.1.2.1 H.size
  have hrecv := va_recv hKK hP hci (Wd_get ho)
  rw [hq0] at hrecv
  have hpre : PreV K.2.1.1 H mt.1.cls (ad o) (va_Pc ((Value.ref o :: as).map (vv ad)) (Inv K.2.2.2.1.1 K.2.2.2.1.2.1 T ad g H.size)) (as.map (vv ad)) := ⟨Inv_blind _, hrecv, fun U hU hW => ⟨rfl, Inv_of hK0 hP hD hS hU hW⟩⟩
  have hstk : (F0 K.2.1.2.1 pc ls ((as.reverse ++ .ref o :: rest).map (vv ad))).stack = (as.map (vv ad)).reverse ++ .ref (ad o) :: rest.map (vv ad) := by
    show (as.reverse ++ .ref o :: rest).map (vv ad) = _
    rw [List.map_append, List.map_reverse]
    rfl
  have hfix : CallFix K.1.1 K.2.1.2.1 K.2.2.1.2 cc K.2.2.1.2.maxLocals K.2.1.1 K.2.1.2.2.1 gT own := ⟨hx, hb, rfl, hown, hts⟩
  have hsz : ls.size = K.2.2.1.2.maxLocals := hl.1
  have hW8 : 2 * (F0 K.2.1.2.1 pc ls ((as.reverse ++ .ref o :: rest).map (vv ad))).monitorRoom + ((rest.map (vv ad)).map fun v => v.category).sum ≤ 8 := lv_room (by rw [vv_sum]; exact hsum)
  rcases hLk with hLk | ⟨host, hLk⟩
  · have cw : CallW K.1.2.2.2 K.2.1.1 K.2.1.2.2.1 own mt.1.cls idx mt.1 mt.2.1 mt.2.2.1 mt.2.2.2 (wsM mt) (rmD d' mc ms) mc ms n :=
      ⟨callB_of n hts (wsM_good m1) rfl rfl rfl (hts _ m2) (hts _ hLk) ⟨m3.1, m3.2, m4⟩ hroom, hts _ m6, hts _ m7⟩
    have hr := va_runV (e := K.1.2.2.1) (meth := K.2.2.1.1) (below := K.2.1.2.2.2) (locs := locs) (g := F0 K.2.1.2.1 pc ls ((as.reverse ++ .ref o :: rest).map (vv ad))) (rest := rest.map (vv ad)) hfix hM cw hpre rfl (by rw [List.length_map]; exact hn) hsz hstk hW8 hd hcells
    exact r_back hK0 hD hS hl hr hlv hst k
  · have cw : va_CN K.1.2.2.2 K.2.1.1 K.2.1.2.2.1 own idx mt.1 host mt.2.1 mt.2.2.1 mt.2.2.2 (wsM mt) (rmD d' mc ms) mc ms n ∧ (Cond.instanceMethod mt.1).before K.2.1.2.2.1 K.2.1.1 = true ∧ (Cond.selects mt.1.cls mt.1 mt.1).before K.2.1.2.2.1 K.2.1.1 = true :=
      ⟨va_cnB n hts (wsM_good m1) rfl rfl rfl (hN _ hLk) (hts _ m2) ⟨m3.1, m3.2, m4⟩ hroom, hts _ m6, hts _ m7⟩
    have hr := va_runVN (e := K.1.2.2.1) (meth := K.2.2.1.1) (below := K.2.1.2.2.2) (locs := locs) (g := F0 K.2.1.2.1 pc ls ((as.reverse ++ .ref o :: rest).map (vv ad))) (rest := rest.map (vv ad)) hfix hM cw hpre rfl (by rw [List.length_map]; exact hn) hsz hstk hW8 hd hcells
    exact r_back hK0 hD hS hl hr hlv hst k

theorem r_callS {K : KT} {n1 n2 : Nat} {T : List TC} {ad : Nat → Nat} {g : St} {pc : Nat} {lv : List (Nat × Value)} {own : String} {cc : ByteArray} {d : Nat} (hK : Cx K own cc d ad) {mt : MT} {idx d' mc ms n : Nat} {as rest : List Value} {Q : PQt} (hC : Cn d' mc ms mt as T ad g Q) (hMt : MtS mt n) (hLk : Ml own idx mt.1) (hd : decode cc pc = .ok (.invokestatic idx, 3)) (hcells : n1 + mc ≤ K.1.2.2.2.cells ∧ n2 + ms ≤ K.1.2.2.2.slots) (hn : as.length = n) (hdd : d' + 1 ≤ d) (hsum : (rest.map fun v => v.category).sum ≤ 8) (hlv : ∀ q ∈ lv, ∀ o, q.2 = .ref o → o < T.length ∨ 1000 ≤ o) (hst : ∀ v ∈ rest, ∀ o, v = .ref o → o < T.length ∨ 1000 ≤ o) (k : ∀ r T' ad' g', Q r T' ad' g' → (∀ o, o < T.length ∨ 1000 ≤ o → ad' o = ad o) → T.length ≤ T'.length → Cx K own cc d ad' → Wp K (n1 + mc) (n2 + ms) T' ad' g' (pc + 3) lv (r.toList ++ rest)) : Wp K n1 n2 T ad g pc lv (as.reverse ++ rest) := by
  intro H locs ls hP hD hS hl
  have hK0 := hK
  obtain ⟨hx, hb, hown, hts, hN, hKK, hA, hE, hdf, hdl⟩ := hK
  obtain ⟨⟨m1, m2, m3, m4, m5⟩, m6⟩ := hMt
  have hroom : (rmD d' mc ms).frames + 1 ≤ K.1.2.2.2.frames ∧ 8 + (mt.2.2.1 + 11) + (rmD d' mc ms).locals ≤ K.1.2.2.2.locals := ⟨by show d' + 1 ≤ _; omega, by show 8 + (mt.2.2.1 + 11) + 64 * d' ≤ _; omega⟩
  have hM := hC K.1.2.1 K.2.2.2.1.1 K.2.2.2.1.2.1 H.size
  have hpre : PreS K.2.1.1 H (va_Pc (as.map (vv ad)) (Inv K.2.2.2.1.1 K.2.2.2.1.2.1 T ad g H.size)) (as.map (vv ad)) := ⟨Inv_blind _, fun U hU hW => ⟨rfl, Inv_of hK0 hP hD hS hU hW⟩⟩
  have hstk : (F0 K.2.1.2.1 pc ls ((as.reverse ++ rest).map (vv ad))).stack = (as.map (vv ad)).reverse ++ rest.map (vv ad) := by
    show (as.reverse ++ rest).map (vv ad) = _
    rw [List.map_append, List.map_reverse]
  have hfix : CallFix K.1.1 K.2.1.2.1 K.2.2.1.2 cc K.2.2.1.2.maxLocals K.2.1.1 K.2.1.2.2.1 gT own := ⟨hx, hb, rfl, hown, hts⟩
  have hsz : ls.size = K.2.2.1.2.maxLocals := hl.1
  have hW8 : 2 * (F0 K.2.1.2.1 pc ls ((as.reverse ++ rest).map (vv ad))).monitorRoom + ((rest.map (vv ad)).map fun v => v.category).sum ≤ 8 := lv_room (by rw [vv_sum]; exact hsum)
  rcases hLk with hLk | ⟨host, hLk⟩
  · have cw : CallB K.1.2.2.2 K.2.1.1 K.2.1.2.2.1 own idx mt.1 mt.2.1 mt.2.2.1 mt.2.2.2 (wsM mt) (rmD d' mc ms) mc ms n ∧ (Cond.static mt.1).before K.2.1.2.2.1 K.2.1.1 = true :=
      ⟨callB_of n hts (wsM_good m1) rfl rfl rfl (hts _ m2) (hts _ hLk) ⟨m3.1, m3.2, m4⟩ hroom, hts _ m6⟩
    have hr := va_runS (e := K.1.2.2.1) (meth := K.2.2.1.1) (below := K.2.1.2.2.2) (locs := locs) (g := F0 K.2.1.2.1 pc ls ((as.reverse ++ rest).map (vv ad))) (rest := rest.map (vv ad)) hfix hM cw hpre rfl (by rw [List.length_map]; exact hn) hsz hstk hW8 hd hcells
    exact r_back hK0 hD hS hl hr hlv hst k
  · have cw : va_CN K.1.2.2.2 K.2.1.1 K.2.1.2.2.1 own idx mt.1 host mt.2.1 mt.2.2.1 mt.2.2.2 (wsM mt) (rmD d' mc ms) mc ms n ∧ (Cond.static mt.1).before K.2.1.2.2.1 K.2.1.1 = true ∧ True :=
      ⟨va_cnB n hts (wsM_good m1) rfl rfl rfl (hN _ hLk) (hts _ m2) ⟨m3.1, m3.2, m4⟩ hroom, hts _ m6, trivial⟩
    have hr := va_runSN (e := K.1.2.2.1) (meth := K.2.2.1.1) (below := K.2.1.2.2.2) (locs := locs) (g := F0 K.2.1.2.1 pc ls ((as.reverse ++ rest).map (vv ad))) (rest := rest.map (vv ad)) hfix hM cw hpre rfl (by rw [List.length_map]; exact hn) hsz hstk hW8 hd hcells
    exact r_back hK0 hD hS hl hr hlv hst k

theorem r_callI {K : KT} {n1 n2 : Nat} {T : List TC} {ad : Nat → Nat} {g : St} {pc : Nat} {lv : List (Nat × Value)} {own : String} {cc : ByteArray} {d : Nat} (hK : Cx K own cc d ad) {y : MethodName} {bytes : ByteArray} {maxL idx d' mc ms n : Nat} {as rest : List Value} {Q : PQt} {o : Nat} (hC : Cn d' mc ms (y, bytes, maxL, none) (.ref o :: as) T ad g Q) (hMt : MtN (y, bytes, maxL, none) n) (hLk : Ml own idx y) (hd : decode cc pc = .ok (.invokespecial idx, 3)) (hcells : n1 + mc ≤ K.1.2.2.2.cells ∧ n2 + ms ≤ K.1.2.2.2.slots) (hn : as.length = n) (hdd : d' + 1 ≤ d) (hsum : (rest.map fun v => v.category).sum ≤ 8) (hlv : ∀ q ∈ lv, ∀ o, q.2 = .ref o → o < T.length ∨ 1000 ≤ o) (hst : ∀ v ∈ rest, ∀ o, v = .ref o → o < T.length ∨ 1000 ≤ o) (k : ∀ r T' ad' g', Q r T' ad' g' → (∀ o, o < T.length ∨ 1000 ≤ o → ad' o = ad o) → T.length ≤ T'.length → Cx K own cc d ad' → Wp K (n1 + mc) (n2 + ms) T' ad' g' (pc + 3) lv (r.toList ++ rest)) : Wp K n1 n2 T ad g pc lv (as.reverse ++ .ref o :: rest) := by
  intro H locs ls hP hD hS hl
  have hK0 := hK
  obtain ⟨hx, hb, hown, hts, hN, hKK, hA, hE, hdf, hdl⟩ := hK
  obtain ⟨⟨m1, m2, m3, m4, m5⟩, m6, m7, m8⟩ := hMt
  have hroom : (rmD d' mc ms).frames + 1 ≤ K.1.2.2.2.frames ∧ 8 + (maxL + 11) + (rmD d' mc ms).locals ≤ K.1.2.2.2.locals := ⟨by show d' + 1 ≤ _; omega, by show 8 + (maxL + 11) + 64 * d' ≤ _; have : maxL ≤ 45 := m5; omega⟩
  have hM := hC K.1.2.1 K.2.2.2.1.1 K.2.2.2.1.2.1 H.size
  have hpre : PreS K.2.1.1 H (va_Pc ((Value.ref o :: as).map (vv ad)) (Inv K.2.2.2.1.1 K.2.2.2.1.2.1 T ad g H.size)) (.ref (ad o) :: as.map (vv ad)) := ⟨Inv_blind _, fun U hU hW => ⟨rfl, Inv_of hK0 hP hD hS hU hW⟩⟩
  have hstk : (F0 K.2.1.2.1 pc ls ((as.reverse ++ .ref o :: rest).map (vv ad))).stack = (as.map (vv ad)).reverse ++ .ref (ad o) :: rest.map (vv ad) := by
    show (as.reverse ++ .ref o :: rest).map (vv ad) = _
    rw [List.map_append, List.map_reverse]
    rfl
  have hfix : CallFix K.1.1 K.2.1.2.1 K.2.2.1.2 cc K.2.2.1.2.maxLocals K.2.1.1 K.2.1.2.2.1 gT own := ⟨hx, hb, rfl, hown, hts⟩
  have hsz : ls.size = K.2.2.1.2.maxLocals := hl.1
  have hW8 : 2 * (F0 K.2.1.2.1 pc ls ((as.reverse ++ .ref o :: rest).map (vv ad))).monitorRoom + ((rest.map (vv ad)).map fun v => v.category).sum ≤ 8 := lv_room (by rw [vv_sum]; exact hsum)
  rcases hLk with hLk | ⟨host, hLk⟩
  · have cw : CallB K.1.2.2.2 K.2.1.1 K.2.1.2.2.1 own idx y bytes maxL none (wsM (y, bytes, maxL, none)) (rmD d' mc ms) mc ms n ∧ y.name = "<init>" ∧ (Cond.instanceMethod y).before K.2.1.2.2.1 K.2.1.1 = true :=
      ⟨callB_of n hts (wsM_good m1) rfl rfl rfl (hts _ m2) (hts _ hLk) ⟨m3.1, m3.2, m4⟩ hroom, m7, hts _ m6⟩
    have hr := va_runI (e := K.1.2.2.1) (meth := K.2.2.1.1) (below := K.2.1.2.2.2) (locs := locs) (g := F0 K.2.1.2.1 pc ls ((as.reverse ++ .ref o :: rest).map (vv ad))) (rest := rest.map (vv ad)) hfix hM cw hpre rfl (by rw [List.length_map]; exact hn) hsz hstk hW8 hd hcells
    exact r_back hK0 hD hS hl hr hlv hst k
  · have cw : va_CN K.1.2.2.2 K.2.1.1 K.2.1.2.2.1 own idx y host bytes maxL none (wsM (y, bytes, maxL, none)) (rmD d' mc ms) mc ms n ∧ y.name = "<init>" ∧ (Cond.instanceMethod y).before K.2.1.2.2.1 K.2.1.1 = true :=
      ⟨va_cnB n hts (wsM_good m1) rfl rfl rfl (hN _ hLk) (hts _ m2) ⟨m3.1, m3.2, m4⟩ hroom, m7, hts _ m6⟩
    have hr := va_runIN (e := K.1.2.2.1) (meth := K.2.2.1.1) (below := K.2.1.2.2.2) (locs := locs) (g := F0 K.2.1.2.1 pc ls ((as.reverse ++ .ref o :: rest).map (vv ad))) (rest := rest.map (vv ad)) hfix hM cw hpre rfl (by rw [List.length_map]; exact hn) hsz hstk hW8 hd hcells
    exact r_back hK0 hD hS hl hr hlv hst k

theorem r_ireturn {K : KT} {mc ms : Nat} {T0 T : List TC} {ad0 ad : Nat → Nat} {g : St} {pc : Nat} {lv : List (Nat × Value)} {own : String} {cc : ByteArray} {d : Nat} (hK : Cx K own cc d ad) {Q : PQt} {v : Int32} (hR : Rt K mc ms T0 ad0 (some .int) Q) (hd : decode cc pc = .ok (.ireturn, 1)) (hag : ∀ o, o < T0.length ∨ 1000 ≤ o → ad o = ad0 o) (hlen : T0.length ≤ T.length) (hq : Q (some (.int v)) T ad g) : Wp K mc ms T ad g pc lv [.int v] := by
  intro H locs ls hP hD hS hl
  obtain ⟨q1, q2, q3, q4⟩ := hR
  rw [q4]
  have hf : ∀ q ∈ locs, AA T0 ad0 K.2.1.1.heap.size q.base := fun q hq => by rw [← q3]; exact hS.2.2 q hq
  have hpost : ∀ t : State, t.heap = H → PQ T0 ad0 K.2.1.1.heap.size K.2.2.2.1.1 K.2.2.2.1.2.1 Q K.2.1.2.2.1 K.2.1.1 (.returned (Option.map (vv ad) (some (.int v)))) t := fun t ht => ⟨⟨(some (.int v)), T, ad, g, rfl, hq, hag, hlen, by rw [ht]; exact hP, by rw [← q3]; exact hD⟩, by rw [q3] at hS; exact hS.F ht⟩
  exact W.iret hK.1 hK.2.1 q1 (fun t ht _ => hpost t ht) hf hd q2
theorem r_zreturn {K : KT} {mc ms : Nat} {T0 T : List TC} {ad0 ad : Nat → Nat} {g : St} {pc : Nat} {lv : List (Nat × Value)} {own : String} {cc : ByteArray} {d : Nat} (hK : Cx K own cc d ad) {Q : PQt} {v : Int32} (hv : v = 0 ∨ v = 1) (hR : Rt K mc ms T0 ad0 (some .boolean) Q) (hd : decode cc pc = .ok (.ireturn, 1)) (hag : ∀ o, o < T0.length ∨ 1000 ≤ o → ad o = ad0 o) (hlen : T0.length ≤ T.length) (hq : Q (some (.int v)) T ad g) : Wp K mc ms T ad g pc lv [.int v] := by
  intro H locs ls hP hD hS hl
  obtain ⟨q1, q2, q3, q4⟩ := hR
  rw [q4]
  have hf : ∀ q ∈ locs, AA T0 ad0 K.2.1.1.heap.size q.base := fun q hq => by rw [← q3]; exact hS.2.2 q hq
  have hpost : ∀ t : State, t.heap = H → PQ T0 ad0 K.2.1.1.heap.size K.2.2.2.1.1 K.2.2.2.1.2.1 Q K.2.1.2.2.1 K.2.1.1 (.returned (Option.map (vv ad) (some (.int v)))) t := fun t ht => ⟨⟨(some (.int v)), T, ad, g, rfl, hq, hag, hlen, by rw [ht]; exact hP, by rw [← q3]; exact hD⟩, by rw [q3] at hS; exact hS.F ht⟩
  exact W.zret hK.1 hK.2.1 q1 (by rcases hv with rfl | rfl <;> rfl) (fun t ht _ => hpost t ht) hf hd q2
theorem r_lreturn {K : KT} {mc ms : Nat} {T0 T : List TC} {ad0 ad : Nat → Nat} {g : St} {pc : Nat} {lv : List (Nat × Value)} {own : String} {cc : ByteArray} {d : Nat} (hK : Cx K own cc d ad) {Q : PQt} {v : Int64} (hR : Rt K mc ms T0 ad0 (some .long) Q) (hd : decode cc pc = .ok (.lreturn, 1)) (hag : ∀ o, o < T0.length ∨ 1000 ≤ o → ad o = ad0 o) (hlen : T0.length ≤ T.length) (hq : Q (some (.long v)) T ad g) : Wp K mc ms T ad g pc lv [.long v] := by
  intro H locs ls hP hD hS hl
  obtain ⟨q1, q2, q3, q4⟩ := hR
  rw [q4]
  have hf : ∀ q ∈ locs, AA T0 ad0 K.2.1.1.heap.size q.base := fun q hq => by rw [← q3]; exact hS.2.2 q hq
  have hpost : ∀ t : State, t.heap = H → PQ T0 ad0 K.2.1.1.heap.size K.2.2.2.1.1 K.2.2.2.1.2.1 Q K.2.1.2.2.1 K.2.1.1 (.returned (Option.map (vv ad) (some (.long v)))) t := fun t ht => ⟨⟨(some (.long v)), T, ad, g, rfl, hq, hag, hlen, by rw [ht]; exact hP, by rw [← q3]; exact hD⟩, by rw [q3] at hS; exact hS.F ht⟩
  exact W.lret hK.1 hK.2.1 q1 (fun t ht _ => hpost t ht) hf hd q2
theorem r_areturn {K : KT} {mc ms : Nat} {T0 T : List TC} {ad0 ad : Nat → Nat} {g : St} {pc : Nat} {lv : List (Nat × Value)} {own : String} {cc : ByteArray} {d : Nat} (hK : Cx K own cc d ad) {Q : PQt} {v : Nat} {cn : String} (hR : Rt K mc ms T0 ad0 (some (.object cn)) Q) (hd : decode cc pc = .ok (.areturn, 1)) (hag : ∀ o, o < T0.length ∨ 1000 ≤ o → ad o = ad0 o) (hlen : T0.length ≤ T.length) (hq : Q (some (.ref v)) T ad g) : Wp K mc ms T ad g pc lv [.ref v] := by
  intro H locs ls hP hD hS hl
  obtain ⟨q1, q2, q3, q4⟩ := hR
  rw [q4]
  have hf : ∀ q ∈ locs, AA T0 ad0 K.2.1.1.heap.size q.base := fun q hq => by rw [← q3]; exact hS.2.2 q hq
  have hpost : ∀ t : State, t.heap = H → PQ T0 ad0 K.2.1.1.heap.size K.2.2.2.1.1 K.2.2.2.1.2.1 Q K.2.1.2.2.1 K.2.1.1 (.returned (Option.map (vv ad) (some (.ref v)))) t := fun t ht => ⟨⟨(some (.ref v)), T, ad, g, rfl, hq, hag, hlen, by rw [ht]; exact hP, by rw [← q3]; exact hD⟩, by rw [q3] at hS; exact hS.F ht⟩
  exact W.aret hK.1 hK.2.1 q1 (Or.inl ⟨_, rfl⟩) (Or.inr ⟨_, rfl⟩) (fun t ht _ => hpost t ht) hf hd q2
theorem r_return {K : KT} {mc ms : Nat} {T0 T : List TC} {ad0 ad : Nat → Nat} {g : St} {pc : Nat} {lv : List (Nat × Value)} {own : String} {cc : ByteArray} {d : Nat} (hK : Cx K own cc d ad) {Q : PQt}  (hR : Rt K mc ms T0 ad0 none Q) (hd : decode cc pc = .ok (.return_, 1)) (hag : ∀ o, o < T0.length ∨ 1000 ≤ o → ad o = ad0 o) (hlen : T0.length ≤ T.length) (hq : Q none T ad g) : Wp K mc ms T ad g pc lv [] := by
  intro H locs ls hP hD hS hl
  obtain ⟨q1, q2, q3, q4⟩ := hR
  rw [q4]
  have hf : ∀ q ∈ locs, AA T0 ad0 K.2.1.1.heap.size q.base := fun q hq => by rw [← q3]; exact hS.2.2 q hq
  have hpost : ∀ t : State, t.heap = H → PQ T0 ad0 K.2.1.1.heap.size K.2.2.2.1.1 K.2.2.2.1.2.1 Q K.2.1.2.2.1 K.2.1.1 (.returned (Option.map (vv ad) none)) t := fun t ht => ⟨⟨none, T, ad, g, rfl, hq, hag, hlen, by rw [ht]; exact hP, by rw [← q3]; exact hD⟩, by rw [q3] at hS; exact hS.F ht⟩
  exact W.vret hK.1 hK.2.1 q1 (fun t ht _ => hpost t ht) hf hd q2
end
