section
/-! the tables' words, after the kit's skeleton of this claim (its first part) -/
/-- a private method of a class that the tables say can be made, by its rows of tables_1 -/
def lw_okq (q : MethodName × Nat) : Prop := (q.1.cls ≠ "java/lang/invoke/MethodHandle" ∧ q.1.cls ≠ "java/lang/invoke/VarHandle") ∧ Cond.instantiable q.1.cls q.2 ∈ tables_1 ∧ Cond.privateMethod q.1 ∈ tables_1 ∧ Cond.instanceMethod q.1 ∈ tables_1
theorem lw_p0 : lw_okq (⟨"TriggerLoom$TextReader", "advance", "()V"⟩, 8) := ⟨⟨by decide +kernel, by decide +kernel⟩, List.mem_of_getElem? (i := 84) (by decide +kernel), List.mem_of_getElem? (i := 271) (by decide +kernel), List.mem_of_getElem? (i := 272) (by decide +kernel)⟩
theorem lw_p1 : lw_okq (⟨"TriggerLoom$TextReader", "readNumber", "()V"⟩, 8) := ⟨⟨by decide +kernel, by decide +kernel⟩, List.mem_of_getElem? (i := 84) (by decide +kernel), List.mem_of_getElem? (i := 287) (by decide +kernel), List.mem_of_getElem? (i := 288) (by decide +kernel)⟩
theorem lw_p2 : lw_okq (⟨"TriggerLoom$TextReader", "readRow", "(I)I"⟩, 8) := ⟨⟨by decide +kernel, by decide +kernel⟩, List.mem_of_getElem? (i := 84) (by decide +kernel), List.mem_of_getElem? (i := 294) (by decide +kernel), List.mem_of_getElem? (i := 295) (by decide +kernel)⟩
theorem lw_p3 : lw_okq (⟨"TriggerLoom$TextReader", "readEither", "(I)I"⟩, 8) := ⟨⟨by decide +kernel, by decide +kernel⟩, List.mem_of_getElem? (i := 84) (by decide +kernel), List.mem_of_getElem? (i := 298) (by decide +kernel), List.mem_of_getElem? (i := 299) (by decide +kernel)⟩
theorem lw_p4 : lw_okq (⟨"TriggerLoom$TextReader", "readBoth", "(I)I"⟩, 8) := ⟨⟨by decide +kernel, by decide +kernel⟩, List.mem_of_getElem? (i := 84) (by decide +kernel), List.mem_of_getElem? (i := 302) (by decide +kernel), List.mem_of_getElem? (i := 303) (by decide +kernel)⟩
theorem lw_p5 : lw_okq (⟨"TriggerLoom$TextReader", "readOne", "(I)I"⟩, 8) := ⟨⟨by decide +kernel, by decide +kernel⟩, List.mem_of_getElem? (i := 84) (by decide +kernel), List.mem_of_getElem? (i := 306) (by decide +kernel), List.mem_of_getElem? (i := 307) (by decide +kernel)⟩
theorem lw_p6 : lw_okq (⟨"TriggerLoom$TextReader", "readWire", "()I"⟩, 8) := ⟨⟨by decide +kernel, by decide +kernel⟩, List.mem_of_getElem? (i := 84) (by decide +kernel), List.mem_of_getElem? (i := 310) (by decide +kernel), List.mem_of_getElem? (i := 311) (by decide +kernel)⟩
theorem lw_p7 : lw_okq (⟨"TriggerLoom$TextReader", "make", "(IIIII)I"⟩, 8) := ⟨⟨by decide +kernel, by decide +kernel⟩, List.mem_of_getElem? (i := 84) (by decide +kernel), List.mem_of_getElem? (i := 317) (by decide +kernel), List.mem_of_getElem? (i := 318) (by decide +kernel)⟩
theorem lw_p8 : lw_okq (⟨"TriggerLoom$TextReader", "refuse", "()I"⟩, 8) := ⟨⟨by decide +kernel, by decide +kernel⟩, List.mem_of_getElem? (i := 84) (by decide +kernel), List.mem_of_getElem? (i := 329) (by decide +kernel), List.mem_of_getElem? (i := 330) (by decide +kernel)⟩
theorem lw_p9 : lw_okq (⟨"TriggerLoom$TextReader", "readCounted", "(I)I"⟩, 8) := ⟨⟨by decide +kernel, by decide +kernel⟩, List.mem_of_getElem? (i := 84) (by decide +kernel), List.mem_of_getElem? (i := 333) (by decide +kernel), List.mem_of_getElem? (i := 334) (by decide +kernel)⟩
theorem lw_p10 : lw_okq (⟨"TriggerLoom$TextReader", "passes", "(I)Z"⟩, 8) := ⟨⟨by decide +kernel, by decide +kernel⟩, List.mem_of_getElem? (i := 84) (by decide +kernel), List.mem_of_getElem? (i := 337) (by decide +kernel), List.mem_of_getElem? (i := 338) (by decide +kernel)⟩
theorem lw_p11 : lw_okq (⟨"TriggerLoom$TextReader", "readNot", "(I)I"⟩, 8) := ⟨⟨by decide +kernel, by decide +kernel⟩, List.mem_of_getElem? (i := 84) (by decide +kernel), List.mem_of_getElem? (i := 341) (by decide +kernel), List.mem_of_getElem? (i := 342) (by decide +kernel)⟩
theorem lw_p12 : lw_okq (⟨"TriggerLoom$TextReader", "readWithin", "(I)I"⟩, 8) := ⟨⟨by decide +kernel, by decide +kernel⟩, List.mem_of_getElem? (i := 84) (by decide +kernel), List.mem_of_getElem? (i := 345) (by decide +kernel), List.mem_of_getElem? (i := 346) (by decide +kernel)⟩
theorem lw_p13 : lw_okq (⟨"TriggerLoom$TextReader", "starIsNext", "()Z"⟩, 8) := ⟨⟨by decide +kernel, by decide +kernel⟩, List.mem_of_getElem? (i := 84) (by decide +kernel), List.mem_of_getElem? (i := 349) (by decide +kernel), List.mem_of_getElem? (i := 350) (by decide +kernel)⟩
theorem lw_p14 : lw_okq (⟨"TriggerLoom$TextReader", "readTimed", "(II)I"⟩, 8) := ⟨⟨by decide +kernel, by decide +kernel⟩, List.mem_of_getElem? (i := 84) (by decide +kernel), List.mem_of_getElem? (i := 353) (by decide +kernel), List.mem_of_getElem? (i := 354) (by decide +kernel)⟩
theorem lw_p15 : lw_okq (⟨"TriggerLoom$TextReader", "readArmed", "(II)I"⟩, 8) := ⟨⟨by decide +kernel, by decide +kernel⟩, List.mem_of_getElem? (i := 84) (by decide +kernel), List.mem_of_getElem? (i := 357) (by decide +kernel), List.mem_of_getElem? (i := 358) (by decide +kernel)⟩
def lw_privs_1 : List (MethodName × Nat) := [(⟨"TriggerLoom$TextReader", "advance", "()V"⟩, 8), (⟨"TriggerLoom$TextReader", "readNumber", "()V"⟩, 8), (⟨"TriggerLoom$TextReader", "readRow", "(I)I"⟩, 8), (⟨"TriggerLoom$TextReader", "readEither", "(I)I"⟩, 8), (⟨"TriggerLoom$TextReader", "readBoth", "(I)I"⟩, 8), (⟨"TriggerLoom$TextReader", "readOne", "(I)I"⟩, 8), (⟨"TriggerLoom$TextReader", "readWire", "()I"⟩, 8), (⟨"TriggerLoom$TextReader", "make", "(IIIII)I"⟩, 8), (⟨"TriggerLoom$TextReader", "refuse", "()I"⟩, 8), (⟨"TriggerLoom$TextReader", "readCounted", "(I)I"⟩, 8), (⟨"TriggerLoom$TextReader", "passes", "(I)Z"⟩, 8), (⟨"TriggerLoom$TextReader", "readNot", "(I)I"⟩, 8), (⟨"TriggerLoom$TextReader", "readWithin", "(I)I"⟩, 8), (⟨"TriggerLoom$TextReader", "starIsNext", "()Z"⟩, 8), (⟨"TriggerLoom$TextReader", "readTimed", "(II)I"⟩, 8), (⟨"TriggerLoom$TextReader", "readArmed", "(II)I"⟩, 8)]
theorem lw_r1 : ∀ q ∈ lw_privs_1, lw_okq q := List.forall_mem_cons.mpr ⟨lw_p0, List.forall_mem_cons.mpr ⟨lw_p1, List.forall_mem_cons.mpr ⟨lw_p2, List.forall_mem_cons.mpr ⟨lw_p3, List.forall_mem_cons.mpr ⟨lw_p4, List.forall_mem_cons.mpr ⟨lw_p5, List.forall_mem_cons.mpr ⟨lw_p6, List.forall_mem_cons.mpr ⟨lw_p7, List.forall_mem_cons.mpr ⟨lw_p8, List.forall_mem_cons.mpr ⟨lw_p9, List.forall_mem_cons.mpr ⟨lw_p10, List.forall_mem_cons.mpr ⟨lw_p11, List.forall_mem_cons.mpr ⟨lw_p12, List.forall_mem_cons.mpr ⟨lw_p13, List.forall_mem_cons.mpr ⟨lw_p14, List.forall_mem_cons.mpr ⟨lw_p15, fun _ h => absurd h List.not_mem_nil⟩⟩⟩⟩⟩⟩⟩⟩⟩⟩⟩⟩⟩⟩⟩⟩
theorem lw_p16 : lw_okq (⟨"TriggerLoom", "startAnew", "()V"⟩, 9) := ⟨⟨by decide +kernel, by decide +kernel⟩, List.mem_of_getElem? (i := 14) (by decide +kernel), List.mem_of_getElem? (i := 369) (by decide +kernel), List.mem_of_getElem? (i := 370) (by decide +kernel)⟩
theorem lw_p17 : lw_okq (⟨"TriggerLoom$Node", "isArmed", "()Z"⟩, 8) := ⟨⟨by decide +kernel, by decide +kernel⟩, List.mem_of_getElem? (i := 29) (by decide +kernel), List.mem_of_getElem? (i := 406) (by decide +kernel), List.mem_of_getElem? (i := 407) (by decide +kernel)⟩
theorem lw_p18 : lw_okq (⟨"TriggerLoom", "hasTrigger", "()Z"⟩, 9) := ⟨⟨by decide +kernel, by decide +kernel⟩, List.mem_of_getElem? (i := 14) (by decide +kernel), List.mem_of_getElem? (i := 418) (by decide +kernel), List.mem_of_getElem? (i := 419) (by decide +kernel)⟩
theorem lw_p19 : lw_okq (⟨"TriggerLoom", "refusalOf", "(I)I"⟩, 9) := ⟨⟨by decide +kernel, by decide +kernel⟩, List.mem_of_getElem? (i := 14) (by decide +kernel), List.mem_of_getElem? (i := 431) (by decide +kernel), List.mem_of_getElem? (i := 432) (by decide +kernel)⟩
theorem lw_p20 : lw_okq (⟨"TriggerLoom", "take", "(II)I"⟩, 9) := ⟨⟨by decide +kernel, by decide +kernel⟩, List.mem_of_getElem? (i := 14) (by decide +kernel), List.mem_of_getElem? (i := 439) (by decide +kernel), List.mem_of_getElem? (i := 440) (by decide +kernel)⟩
theorem lw_p21 : lw_okq (⟨"TriggerLoom$Trigger", "stepNode", "(LTriggerLoom$Node;III)V"⟩, 2) := ⟨⟨by decide +kernel, by decide +kernel⟩, List.mem_of_getElem? (i := 22) (by decide +kernel), List.mem_of_getElem? (i := 455) (by decide +kernel), List.mem_of_getElem? (i := 456) (by decide +kernel)⟩
theorem lw_p22 : lw_okq (⟨"TriggerLoom$Trigger", "isOn", "(I)Z"⟩, 2) := ⟨⟨by decide +kernel, by decide +kernel⟩, List.mem_of_getElem? (i := 22) (by decide +kernel), List.mem_of_getElem? (i := 459) (by decide +kernel), List.mem_of_getElem? (i := 460) (by decide +kernel)⟩
theorem lw_p23 : lw_okq (⟨"TriggerLoom$Node", "isEdge", "(ZZ)Z"⟩, 8) := ⟨⟨by decide +kernel, by decide +kernel⟩, List.mem_of_getElem? (i := 29) (by decide +kernel), List.mem_of_getElem? (i := 491) (by decide +kernel), List.mem_of_getElem? (i := 492) (by decide +kernel)⟩
theorem lw_p24 : lw_okq (⟨"TriggerLoom$Catch", "startsRun", "(II)Z"⟩, 2) := ⟨⟨by decide +kernel, by decide +kernel⟩, List.mem_of_getElem? (i := 135) (by decide +kernel), List.mem_of_getElem? (i := 570) (by decide +kernel), List.mem_of_getElem? (i := 571) (by decide +kernel)⟩
theorem lw_p25 : lw_okq (⟨"TriggerLoom$FrameReader", "findBeginning", "(II)I"⟩, 2) := ⟨⟨by decide +kernel, by decide +kernel⟩, List.mem_of_getElem? (i := 167) (by decide +kernel), List.mem_of_getElem? (i := 610) (by decide +kernel), List.mem_of_getElem? (i := 611) (by decide +kernel)⟩
theorem lw_p26 : lw_okq (⟨"TriggerLoom$FrameReader", "readFrame", "(III)I"⟩, 2) := ⟨⟨by decide +kernel, by decide +kernel⟩, List.mem_of_getElem? (i := 167) (by decide +kernel), List.mem_of_getElem? (i := 624) (by decide +kernel), List.mem_of_getElem? (i := 625) (by decide +kernel)⟩
theorem lw_p27 : lw_okq (⟨"TriggerLoom$Marks", "add", "(III)V"⟩, 4) := ⟨⟨by decide +kernel, by decide +kernel⟩, List.mem_of_getElem? (i := 148) (by decide +kernel), List.mem_of_getElem? (i := 632) (by decide +kernel), List.mem_of_getElem? (i := 633) (by decide +kernel)⟩
theorem lw_p28 : lw_okq (⟨"TriggerLoom$FrameReader", "readValue", "(III)I"⟩, 2) := ⟨⟨by decide +kernel, by decide +kernel⟩, List.mem_of_getElem? (i := 167) (by decide +kernel), List.mem_of_getElem? (i := 638) (by decide +kernel), List.mem_of_getElem? (i := 639) (by decide +kernel)⟩
theorem lw_p29 : lw_okq (⟨"TriggerLoom$ByteReader", "lookAtData", "(III)V"⟩, 6) := ⟨⟨by decide +kernel, by decide +kernel⟩, List.mem_of_getElem? (i := 180) (by decide +kernel), List.mem_of_getElem? (i := 662) (by decide +kernel), List.mem_of_getElem? (i := 663) (by decide +kernel)⟩
theorem lw_p30 : lw_okq (⟨"TriggerLoom$ByteReader", "clockFalls", "(II)V"⟩, 6) := ⟨⟨by decide +kernel, by decide +kernel⟩, List.mem_of_getElem? (i := 180) (by decide +kernel), List.mem_of_getElem? (i := 667) (by decide +kernel), List.mem_of_getElem? (i := 668) (by decide +kernel)⟩
theorem lw_p31 : lw_okq (⟨"TriggerLoom", "takeFrame", "(III)I"⟩, 9) := ⟨⟨by decide +kernel, by decide +kernel⟩, List.mem_of_getElem? (i := 14) (by decide +kernel), List.mem_of_getElem? (i := 687) (by decide +kernel), List.mem_of_getElem? (i := 688) (by decide +kernel)⟩
def lw_privs_2 : List (MethodName × Nat) := [(⟨"TriggerLoom", "startAnew", "()V"⟩, 9), (⟨"TriggerLoom$Node", "isArmed", "()Z"⟩, 8), (⟨"TriggerLoom", "hasTrigger", "()Z"⟩, 9), (⟨"TriggerLoom", "refusalOf", "(I)I"⟩, 9), (⟨"TriggerLoom", "take", "(II)I"⟩, 9), (⟨"TriggerLoom$Trigger", "stepNode", "(LTriggerLoom$Node;III)V"⟩, 2), (⟨"TriggerLoom$Trigger", "isOn", "(I)Z"⟩, 2), (⟨"TriggerLoom$Node", "isEdge", "(ZZ)Z"⟩, 8), (⟨"TriggerLoom$Catch", "startsRun", "(II)Z"⟩, 2), (⟨"TriggerLoom$FrameReader", "findBeginning", "(II)I"⟩, 2), (⟨"TriggerLoom$FrameReader", "readFrame", "(III)I"⟩, 2), (⟨"TriggerLoom$Marks", "add", "(III)V"⟩, 4), (⟨"TriggerLoom$FrameReader", "readValue", "(III)I"⟩, 2), (⟨"TriggerLoom$ByteReader", "lookAtData", "(III)V"⟩, 6), (⟨"TriggerLoom$ByteReader", "clockFalls", "(II)V"⟩, 6), (⟨"TriggerLoom", "takeFrame", "(III)I"⟩, 9)]
theorem lw_r2 : ∀ q ∈ lw_privs_2, lw_okq q := List.forall_mem_cons.mpr ⟨lw_p16, List.forall_mem_cons.mpr ⟨lw_p17, List.forall_mem_cons.mpr ⟨lw_p18, List.forall_mem_cons.mpr ⟨lw_p19, List.forall_mem_cons.mpr ⟨lw_p20, List.forall_mem_cons.mpr ⟨lw_p21, List.forall_mem_cons.mpr ⟨lw_p22, List.forall_mem_cons.mpr ⟨lw_p23, List.forall_mem_cons.mpr ⟨lw_p24, List.forall_mem_cons.mpr ⟨lw_p25, List.forall_mem_cons.mpr ⟨lw_p26, List.forall_mem_cons.mpr ⟨lw_p27, List.forall_mem_cons.mpr ⟨lw_p28, List.forall_mem_cons.mpr ⟨lw_p29, List.forall_mem_cons.mpr ⟨lw_p30, List.forall_mem_cons.mpr ⟨lw_p31, fun _ h => absurd h List.not_mem_nil⟩⟩⟩⟩⟩⟩⟩⟩⟩⟩⟩⟩⟩⟩⟩⟩
theorem lw_p32 : lw_okq (⟨"TriggerLoom", "lastSample", "()I"⟩, 9) := ⟨⟨by decide +kernel, by decide +kernel⟩, List.mem_of_getElem? (i := 14) (by decide +kernel), List.mem_of_getElem? (i := 691) (by decide +kernel), List.mem_of_getElem? (i := 692) (by decide +kernel)⟩
theorem lw_p33 : lw_okq (⟨"TriggerLoom", "takeThree", "(III)I"⟩, 9) := ⟨⟨by decide +kernel, by decide +kernel⟩, List.mem_of_getElem? (i := 14) (by decide +kernel), List.mem_of_getElem? (i := 700) (by decide +kernel), List.mem_of_getElem? (i := 701) (by decide +kernel)⟩
theorem lw_p34 : lw_okq (⟨"TriggerLoomModel", "parse", "()V"⟩, 41) := ⟨⟨by decide +kernel, by decide +kernel⟩, List.mem_of_getElem? (i := 712) (by decide +kernel), List.mem_of_getElem? (i := 855) (by decide +kernel), List.mem_of_getElem? (i := 856) (by decide +kernel)⟩
theorem lw_p35 : lw_okq (⟨"TriggerLoomModel", "next", "()V"⟩, 41) := ⟨⟨by decide +kernel, by decide +kernel⟩, List.mem_of_getElem? (i := 712) (by decide +kernel), List.mem_of_getElem? (i := 859) (by decide +kernel), List.mem_of_getElem? (i := 860) (by decide +kernel)⟩
theorem lw_p36 : lw_okq (⟨"TriggerLoomModel", "isDigit", "(I)Z"⟩, 41) := ⟨⟨by decide +kernel, by decide +kernel⟩, List.mem_of_getElem? (i := 712) (by decide +kernel), List.mem_of_getElem? (i := 863) (by decide +kernel), List.mem_of_getElem? (i := 864) (by decide +kernel)⟩
theorem lw_p37 : lw_okq (⟨"TriggerLoomModel", "oneNode", "()I"⟩, 41) := ⟨⟨by decide +kernel, by decide +kernel⟩, List.mem_of_getElem? (i := 712) (by decide +kernel), List.mem_of_getElem? (i := 877) (by decide +kernel), List.mem_of_getElem? (i := 878) (by decide +kernel)⟩
theorem lw_p38 : lw_okq (⟨"TriggerLoomModel", "isSign", "(I)Z"⟩, 41) := ⟨⟨by decide +kernel, by decide +kernel⟩, List.mem_of_getElem? (i := 712) (by decide +kernel), List.mem_of_getElem? (i := 881) (by decide +kernel), List.mem_of_getElem? (i := 882) (by decide +kernel)⟩
theorem lw_p39 : lw_okq (⟨"TriggerLoomModel", "wrongHere", "()V"⟩, 41) := ⟨⟨by decide +kernel, by decide +kernel⟩, List.mem_of_getElem? (i := 712) (by decide +kernel), List.mem_of_getElem? (i := 885) (by decide +kernel), List.mem_of_getElem? (i := 886) (by decide +kernel)⟩
theorem lw_p40 : lw_okq (⟨"TriggerLoomModel", "push", "(IIII)V"⟩, 41) := ⟨⟨by decide +kernel, by decide +kernel⟩, List.mem_of_getElem? (i := 712) (by decide +kernel), List.mem_of_getElem? (i := 889) (by decide +kernel), List.mem_of_getElem? (i := 890) (by decide +kernel)⟩
theorem lw_p41 : lw_okq (⟨"TriggerLoomModel", "node", "(IIIII)I"⟩, 41) := ⟨⟨by decide +kernel, by decide +kernel⟩, List.mem_of_getElem? (i := 712) (by decide +kernel), List.mem_of_getElem? (i := 893) (by decide +kernel), List.mem_of_getElem? (i := 894) (by decide +kernel)⟩
theorem lw_p42 : lw_okq (⟨"TriggerLoomModel", "closed", "(I)I"⟩, 41) := ⟨⟨by decide +kernel, by decide +kernel⟩, List.mem_of_getElem? (i := 712) (by decide +kernel), List.mem_of_getElem? (i := 897) (by decide +kernel), List.mem_of_getElem? (i := 898) (by decide +kernel)⟩
theorem lw_p43 : lw_okq (⟨"TriggerLoomModel", "isTop", "(I)Z"⟩, 41) := ⟨⟨by decide +kernel, by decide +kernel⟩, List.mem_of_getElem? (i := 712) (by decide +kernel), List.mem_of_getElem? (i := 901) (by decide +kernel), List.mem_of_getElem? (i := 902) (by decide +kernel)⟩
theorem lw_p44 : lw_okq (⟨"TriggerLoomModel", "goOn", "(I)V"⟩, 41) := ⟨⟨by decide +kernel, by decide +kernel⟩, List.mem_of_getElem? (i := 712) (by decide +kernel), List.mem_of_getElem? (i := 905) (by decide +kernel), List.mem_of_getElem? (i := 906) (by decide +kernel)⟩
theorem lw_p45 : lw_okq (⟨"TriggerLoomModel", "begin", "()V"⟩, 41) := ⟨⟨by decide +kernel, by decide +kernel⟩, List.mem_of_getElem? (i := 712) (by decide +kernel), List.mem_of_getElem? (i := 909) (by decide +kernel), List.mem_of_getElem? (i := 910) (by decide +kernel)⟩
theorem lw_p46 : lw_okq (⟨"TriggerLoomModel", "come", "(I)I"⟩, 41) := ⟨⟨by decide +kernel, by decide +kernel⟩, List.mem_of_getElem? (i := 712) (by decide +kernel), List.mem_of_getElem? (i := 933) (by decide +kernel), List.mem_of_getElem? (i := 934) (by decide +kernel)⟩
theorem lw_p47 : lw_okq (⟨"TriggerLoomModel", "nodeHolds", "(II)Z"⟩, 41) := ⟨⟨by decide +kernel, by decide +kernel⟩, List.mem_of_getElem? (i := 712) (by decide +kernel), List.mem_of_getElem? (i := 937) (by decide +kernel), List.mem_of_getElem? (i := 938) (by decide +kernel)⟩
def lw_privs_3 : List (MethodName × Nat) := [(⟨"TriggerLoom", "lastSample", "()I"⟩, 9), (⟨"TriggerLoom", "takeThree", "(III)I"⟩, 9), (⟨"TriggerLoomModel", "parse", "()V"⟩, 41), (⟨"TriggerLoomModel", "next", "()V"⟩, 41), (⟨"TriggerLoomModel", "isDigit", "(I)Z"⟩, 41), (⟨"TriggerLoomModel", "oneNode", "()I"⟩, 41), (⟨"TriggerLoomModel", "isSign", "(I)Z"⟩, 41), (⟨"TriggerLoomModel", "wrongHere", "()V"⟩, 41), (⟨"TriggerLoomModel", "push", "(IIII)V"⟩, 41), (⟨"TriggerLoomModel", "node", "(IIIII)I"⟩, 41), (⟨"TriggerLoomModel", "closed", "(I)I"⟩, 41), (⟨"TriggerLoomModel", "isTop", "(I)Z"⟩, 41), (⟨"TriggerLoomModel", "goOn", "(I)V"⟩, 41), (⟨"TriggerLoomModel", "begin", "()V"⟩, 41), (⟨"TriggerLoomModel", "come", "(I)I"⟩, 41), (⟨"TriggerLoomModel", "nodeHolds", "(II)Z"⟩, 41)]
theorem lw_r3 : ∀ q ∈ lw_privs_3, lw_okq q := List.forall_mem_cons.mpr ⟨lw_p32, List.forall_mem_cons.mpr ⟨lw_p33, List.forall_mem_cons.mpr ⟨lw_p34, List.forall_mem_cons.mpr ⟨lw_p35, List.forall_mem_cons.mpr ⟨lw_p36, List.forall_mem_cons.mpr ⟨lw_p37, List.forall_mem_cons.mpr ⟨lw_p38, List.forall_mem_cons.mpr ⟨lw_p39, List.forall_mem_cons.mpr ⟨lw_p40, List.forall_mem_cons.mpr ⟨lw_p41, List.forall_mem_cons.mpr ⟨lw_p42, List.forall_mem_cons.mpr ⟨lw_p43, List.forall_mem_cons.mpr ⟨lw_p44, List.forall_mem_cons.mpr ⟨lw_p45, List.forall_mem_cons.mpr ⟨lw_p46, List.forall_mem_cons.mpr ⟨lw_p47, fun _ h => absurd h List.not_mem_nil⟩⟩⟩⟩⟩⟩⟩⟩⟩⟩⟩⟩⟩⟩⟩⟩
theorem lw_p48 : lw_okq (⟨"TriggerLoomModel", "goesOn", "(II)Z"⟩, 41) := ⟨⟨by decide +kernel, by decide +kernel⟩, List.mem_of_getElem? (i := 712) (by decide +kernel), List.mem_of_getElem? (i := 944) (by decide +kernel), List.mem_of_getElem? (i := 945) (by decide +kernel)⟩
theorem lw_p49 : lw_okq (⟨"TriggerLoomModel", "noTick", "(I)Z"⟩, 41) := ⟨⟨by decide +kernel, by decide +kernel⟩, List.mem_of_getElem? (i := 712) (by decide +kernel), List.mem_of_getElem? (i := 960) (by decide +kernel), List.mem_of_getElem? (i := 961) (by decide +kernel)⟩
theorem lw_p50 : lw_okq (⟨"TriggerLoomModel", "tickOf", "(I)I"⟩, 41) := ⟨⟨by decide +kernel, by decide +kernel⟩, List.mem_of_getElem? (i := 712) (by decide +kernel), List.mem_of_getElem? (i := 968) (by decide +kernel), List.mem_of_getElem? (i := 969) (by decide +kernel)⟩
theorem lw_p51 : lw_okq (⟨"TriggerLoomModel", "runsBy", "(I)I"⟩, 41) := ⟨⟨by decide +kernel, by decide +kernel⟩, List.mem_of_getElem? (i := 712) (by decide +kernel), List.mem_of_getElem? (i := 990) (by decide +kernel), List.mem_of_getElem? (i := 991) (by decide +kernel)⟩
theorem lw_p52 : lw_okq (⟨"TriggerLoomModel", "isBeginning", "(II)Z"⟩, 41) := ⟨⟨by decide +kernel, by decide +kernel⟩, List.mem_of_getElem? (i := 712) (by decide +kernel), List.mem_of_getElem? (i := 1008) (by decide +kernel), List.mem_of_getElem? (i := 1009) (by decide +kernel)⟩
theorem lw_p53 : lw_okq (⟨"TriggerLoomModel", "frame", "(III)I"⟩, 41) := ⟨⟨by decide +kernel, by decide +kernel⟩, List.mem_of_getElem? (i := 712) (by decide +kernel), List.mem_of_getElem? (i := 1012) (by decide +kernel), List.mem_of_getElem? (i := 1013) (by decide +kernel)⟩
theorem lw_p54 : lw_okq (⟨"TriggerLoomModel", "mark", "(III)V"⟩, 41) := ⟨⟨by decide +kernel, by decide +kernel⟩, List.mem_of_getElem? (i := 712) (by decide +kernel), List.mem_of_getElem? (i := 1016) (by decide +kernel), List.mem_of_getElem? (i := 1017) (by decide +kernel)⟩
theorem lw_p55 : lw_okq (⟨"TriggerLoomModel", "others", "(I)I"⟩, 41) := ⟨⟨by decide +kernel, by decide +kernel⟩, List.mem_of_getElem? (i := 712) (by decide +kernel), List.mem_of_getElem? (i := 1032) (by decide +kernel), List.mem_of_getElem? (i := 1033) (by decide +kernel)⟩
def lw_privs_4 : List (MethodName × Nat) := [(⟨"TriggerLoomModel", "goesOn", "(II)Z"⟩, 41), (⟨"TriggerLoomModel", "noTick", "(I)Z"⟩, 41), (⟨"TriggerLoomModel", "tickOf", "(I)I"⟩, 41), (⟨"TriggerLoomModel", "runsBy", "(I)I"⟩, 41), (⟨"TriggerLoomModel", "isBeginning", "(II)Z"⟩, 41), (⟨"TriggerLoomModel", "frame", "(III)I"⟩, 41), (⟨"TriggerLoomModel", "mark", "(III)V"⟩, 41), (⟨"TriggerLoomModel", "others", "(I)I"⟩, 41)]
theorem lw_r4 : ∀ q ∈ lw_privs_4, lw_okq q := List.forall_mem_cons.mpr ⟨lw_p48, List.forall_mem_cons.mpr ⟨lw_p49, List.forall_mem_cons.mpr ⟨lw_p50, List.forall_mem_cons.mpr ⟨lw_p51, List.forall_mem_cons.mpr ⟨lw_p52, List.forall_mem_cons.mpr ⟨lw_p53, List.forall_mem_cons.mpr ⟨lw_p54, List.forall_mem_cons.mpr ⟨lw_p55, fun _ h => absurd h List.not_mem_nil⟩⟩⟩⟩⟩⟩⟩⟩
def lw_privs : List (MethodName × Nat) := lw_privs_1 ++ (lw_privs_2 ++ (lw_privs_3 ++ (lw_privs_4)))
def lw_tbl : List Cond := k2_sels lw_privs ++ tables_1
theorem lw_privs_ok : ∀ q ∈ lw_privs, lw_okq q := by
  show ∀ q ∈ lw_privs_1 ++ (lw_privs_2 ++ (lw_privs_3 ++ (lw_privs_4))), lw_okq q
  exact List.forall_mem_append.mpr ⟨lw_r1, List.forall_mem_append.mpr ⟨lw_r2, List.forall_mem_append.mpr ⟨lw_r3, lw_r4⟩⟩⟩
end
section
/-! numbers for the classes, fields, methods and links of the system, printed by wip/whole/gen1.py out of the listing -/
def tw_R0 : String := "TriggerLoom"
def tw_R1 : String := "TriggerLoom$Trigge\x72"
def tw_R2 : String := "TriggerLoom$Node"
def tw_R3 : String := "TriggerLoom$Tape"
def tw_R4 : String := "TriggerLoom$TextReade\x72"
def tw_R5 : String := "TriggerLoom$History"
def tw_R6 : String := "TriggerLoom$Catch"
def tw_R7 : String := "TriggerLoom$Marks"
def tw_R8 : String := "TriggerLoom$FrameReade\x72"
def tw_R9 : String := "TriggerLoom$ByteReade\x72"
def tw_R10 : String := "TriggerLoomModel"
def tw_R11 : String := "TriggerLoomLaw"
def tw_Rl : List String := [tw_R0, tw_R1, tw_R2, tw_R3, tw_R4, tw_R5, tw_R6, tw_R7, tw_R8, tw_R9, tw_R10, tw_R11]
def tw_R (c : Nat) : String := tw_Rl.getD c ""
def tw_f0 : List (String × String × Bool × FieldType) := [("tape", "LTriggerLoom$Tape;", true, (.object tw_R3 : FieldType)), ("reade\x72", "LTriggerLoom$TextReader;", true, (.object tw_R4 : FieldType)), ("history", "LTriggerLoom$History;", true, (.object tw_R5 : FieldType)), ("net", "LTriggerLoom$Catch;", true, (.object tw_R6 : FieldType)), ("marks", "LTriggerLoom$Marks;", true, (.object tw_R7 : FieldType)), ("frameReade\x72", "LTriggerLoom$FrameReader;", true, (.object tw_R8 : FieldType)), ("byteReade\x72", "LTriggerLoom$ByteReader;", true, (.object tw_R9 : FieldType)), ("trigge\x72", "LTriggerLoom$Trigger;", false, (.object tw_R1 : FieldType)), ("spare", "LTriggerLoom$Trigger;", false, (.object tw_R1 : FieldType))]
def tw_f1 : List (String × String × Bool × FieldType) := [("nodes", "[LTriggerLoom$Node;", true, (.array (.object tw_R2) : FieldType)), ("size", "I", false, (.int : FieldType))]
def tw_f2 : List (String × String × Bool × FieldType) := [("kind", "I", false, (.int : FieldType)), ("first", "I", false, (.int : FieldType)), ("second", "I", false, (.int : FieldType)), ("low", "I", false, (.int : FieldType)), ("high", "I", false, (.int : FieldType)), ("on", "Z", false, (.boolean : FieldType)), ("times", "I", false, (.int : FieldType)), ("since", "I", false, (.int : FieldType))]
def tw_f3 : List (String × String × Bool × FieldType) := [("signs", "[I", true, (.array .int : FieldType)), ("size", "I", false, (.int : FieldType))]
def tw_f4 : List (String × String × Bool × FieldType) := [("tape", "LTriggerLoom$Tape;", true, (.object tw_R3 : FieldType)), ("into", "LTriggerLoom$Trigger;", false, (.object tw_R1 : FieldType)), ("token", "I", false, (.int : FieldType)), ("numbe\x72", "I", false, (.int : FieldType)), ("place", "I", false, (.int : FieldType)), ("behind", "I", false, (.int : FieldType)), ("syntaxPlace", "I", false, (.int : FieldType)), ("spanPlace", "I", false, (.int : FieldType))]
def tw_f5 : List (String × String × Bool × FieldType) := [("samples", "[I", true, (.array .int : FieldType)), ("hits", "[Z", true, (.array .boolean : FieldType)), ("size", "I", false, (.int : FieldType)), ("hitCount", "I", false, (.int : FieldType))]
def tw_f6 : List (String × String × Bool × FieldType) := [("samples", "[I", true, (.array .int : FieldType)), ("size", "I", false, (.int : FieldType))]
def tw_f7 : List (String × String × Bool × FieldType) := [("kinds", "[I", true, (.array .int : FieldType)), ("values", "[I", true, (.array .int : FieldType)), ("ticks", "[I", true, (.array .int : FieldType)), ("size", "I", false, (.int : FieldType))]
def tw_f8 : List (String × String × Bool × FieldType) := [("history", "LTriggerLoom$History;", true, (.object tw_R5 : FieldType)), ("marks", "LTriggerLoom$Marks;", true, (.object tw_R7 : FieldType))]
def tw_f9 : List (String × String × Bool × FieldType) := [("history", "LTriggerLoom$History;", true, (.object tw_R5 : FieldType)), ("marks", "LTriggerLoom$Marks;", true, (.object tw_R7 : FieldType)), ("started", "Z", false, (.boolean : FieldType)), ("clockRose", "Z", false, (.boolean : FieldType)), ("bitCount", "I", false, (.int : FieldType)), ("value", "I", false, (.int : FieldType))]
def tw_f10 : List (String × String × Bool × FieldType) := [("thrown", "I", false, (.int : FieldType)), ("tape", "[I", true, (.array .int : FieldType)), ("fed", "I", false, (.int : FieldType)), ("fault", "I", false, (.int : FieldType)), ("isThere", "Z", false, (.boolean : FieldType)), ("nodes", "I", false, (.int : FieldType)), ("kind", "[I", true, (.array .int : FieldType)), ("one", "[I", true, (.array .int : FieldType)), ("two", "[I", true, (.array .int : FieldType)), ("least", "[I", true, (.array .int : FieldType)), ("most", "[I", true, (.array .int : FieldType)), ("made", "I", false, (.int : FieldType)), ("newKind", "[I", true, (.array .int : FieldType)), ("newOne", "[I", true, (.array .int : FieldType)), ("newTwo", "[I", true, (.array .int : FieldType)), ("newLeast", "[I", true, (.array .int : FieldType)), ("newMost", "[I", true, (.array .int : FieldType)), ("holds", "[Z", true, (.array .boolean : FieldType)), ("often", "[I", true, (.array .int : FieldType)), ("since", "[I", true, (.array .int : FieldType)), ("ticks", "I", false, (.int : FieldType)), ("samples", "[I", true, (.array .int : FieldType)), ("held", "[Z", true, (.array .boolean : FieldType)), ("caught", "I", false, (.int : FieldType)), ("caughtOf", "[I", true, (.array .int : FieldType)), ("marks", "I", false, (.int : FieldType)), ("markKind", "[I", true, (.array .int : FieldType)), ("markByte", "[I", true, (.array .int : FieldType)), ("markTick", "[I", true, (.array .int : FieldType)), ("at", "I", false, (.int : FieldType)), ("sort", "I", false, (.int : FieldType)), ("begin", "I", false, (.int : FieldType)), ("value", "I", false, (.int : FieldType)), ("waiting", "I", false, (.int : FieldType)), ("what", "[I", true, (.array .int : FieldType)), ("first", "[I", true, (.array .int : FieldType)), ("low", "[I", true, (.array .int : FieldType)), ("high", "[I", true, (.array .int : FieldType)), ("deep", "I", false, (.int : FieldType)), ("wrong", "I", false, (.int : FieldType)), ("wrongSpan", "I", false, (.int : FieldType))]
def tw_fl : List (List (String × String × Bool × FieldType)) := [tw_f0, tw_f1, tw_f2, tw_f3, tw_f4, tw_f5, tw_f6, tw_f7, tw_f8, tw_f9, tw_f10]
def tw_fd (c k : Nat) : String × String × Bool × FieldType := (tw_fl.getD c []).getD k ("", "", false, .int)
def tw_F (c : Nat) : u_T := fun k => (tw_R c, (tw_fd c k).1, (tw_fd c k).2.1, (tw_fd c k).2.2.1)
def tw_ty (c k : Nat) : FieldType := (tw_fd c k).2.2.2
def tw_N (c : Nat) : Nat := (tw_fl.getD c []).length
def tw_cl : List vw_C := (List.range 11).map (fun c => (tw_R c, tw_F c, tw_N c))
abbrev tw_MT : Type := MethodName × ByteArray × Nat × Option FieldType × Nat × List Nat
def tw_M : List tw_MT := [
  (⟨tw_R0, "<init>", "()V"⟩, prog_1_method_1_code, 1, none, 0, []),
  (⟨tw_R0, "feed", "(J)I"⟩, prog_1_method_2_code, 3, some .int, 0, [1]),
  (⟨tw_R0, "cut", "()I"⟩, prog_1_method_3_code, 2, some .int, 0, []),
  (⟨tw_R0, "read", "()I"⟩, prog_1_method_4_code, 2, some .int, 0, []),
  (⟨tw_R0, "fault", "()I"⟩, prog_1_method_5_code, 1, some .int, 0, []),
  (⟨tw_R0, "node", "(III)I"⟩, prog_1_method_6_code, 5, some .int, 0, []),
  (⟨tw_R0, "arm", "()I"⟩, prog_1_method_7_code, 2, some .int, 0, []),
  (⟨tw_R0, "sample", "(II)I"⟩, prog_1_method_8_code, 4, some .int, 0, []),
  (⟨tw_R0, "holds", "(I)I"⟩, prog_1_method_9_code, 3, some .int, 0, []),
  (⟨tw_R0, "waits", "(I)I"⟩, prog_1_method_10_code, 3, some .int, 0, []),
  (⟨tw_R0, "held", "(I)I"⟩, prog_1_method_11_code, 2, some .int, 0, []),
  (⟨tw_R0, "when", "(I)I"⟩, prog_1_method_12_code, 2, some .int, 0, []),
  (⟨tw_R0, "at", "(I)I"⟩, prog_1_method_13_code, 2, some .int, 0, []),
  (⟨tw_R0, "grab", "(III)I"⟩, prog_1_method_14_code, 7, some .int, 0, []),
  (⟨tw_R0, "caught", "(I)I"⟩, prog_1_method_15_code, 2, some .int, 0, []),
  (⟨tw_R0, "runs", "()I"⟩, prog_1_method_16_code, 1, some .int, 0, []),
  (⟨tw_R0, "run", "(II)I"⟩, prog_1_method_17_code, 4, some .int, 0, []),
  (⟨tw_R0, "squeezed", "(I)I"⟩, prog_1_method_18_code, 2, some .int, 0, []),
  (⟨tw_R0, "frames", "(II)I"⟩, prog_1_method_19_code, 3, some .int, 0, []),
  (⟨tw_R0, "bytes", "(II)I"⟩, prog_1_method_20_code, 3, some .int, 0, []),
  (⟨tw_R0, "mark", "(II)I"⟩, prog_1_method_21_code, 3, some .int, 0, []),
  (⟨tw_R0, "sendFrame", "(III)I"⟩, prog_1_method_22_code, 5, some .int, 0, []),
  (⟨tw_R0, "sendByte", "(IIIZZ)I"⟩, prog_1_method_23_code, 13, some .int, 0, []),
  (⟨tw_R0, "total", "(I)I"⟩, prog_1_method_24_code, 2, some .int, 0, []),
  (⟨tw_R0, "hasTrigge\x72", "()Z"⟩, prog_1_method_25_code, 1, some .boolean, 0, []),
  (⟨tw_R0, "startAnew", "()V"⟩, prog_1_method_26_code, 1, none, 0, []),
  (⟨tw_R0, "refusalOf", "(I)I"⟩, prog_1_method_27_code, 2, some .int, 0, []),
  (⟨tw_R0, "lastSample", "()I"⟩, prog_1_method_28_code, 1, some .int, 0, []),
  (⟨tw_R0, "take", "(II)I"⟩, prog_1_method_29_code, 7, some .int, 0, []),
  (⟨tw_R0, "takeThree", "(III)I"⟩, prog_1_method_30_code, 4, some .int, 0, []),
  (⟨tw_R0, "takeFrame", "(III)I"⟩, prog_1_method_31_code, 8, some .int, 0, []),
  (⟨tw_R0, "bitOf", "(II)I"⟩, prog_1_method_32_code, 2, some .int, 0, []),
  (⟨tw_R0, "isWire", "(I)Z"⟩, prog_1_method_33_code, 1, some .boolean, 0, []),
  (⟨tw_R0, "isWidth", "(I)Z"⟩, prog_1_method_34_code, 1, some .boolean, 0, []),
  (⟨tw_R0, "isByte", "(I)Z"⟩, prog_1_method_35_code, 1, some .boolean, 0, []),
  (⟨tw_R1, "<init>", "()V"⟩, prog_10_method_1_code, 2, none, 1, []),
  (⟨tw_R1, "clea\x72", "()V"⟩, prog_10_method_2_code, 1, none, 1, []),
  (⟨tw_R1, "size", "()I"⟩, prog_10_method_3_code, 1, some .int, 1, []),
  (⟨tw_R1, "add", "(IIIII)I"⟩, prog_10_method_4_code, 6, some .int, 1, []),
  (⟨tw_R1, "nodeAt", "(I)LTriggerLoom$Node;"⟩, prog_10_method_5_code, 2, some (.object tw_R2), 1, []),
  (⟨tw_R1, "rest", "()V"⟩, prog_10_method_6_code, 2, none, 1, []),
  (⟨tw_R1, "step", "(III)Z"⟩, prog_10_method_7_code, 5, some .boolean, 1, []),
  (⟨tw_R1, "stepNode", "(LTriggerLoom$Node;III)V"⟩, prog_10_method_8_code, 5, none, 1, []),
  (⟨tw_R1, "isOn", "(I)Z"⟩, prog_10_method_9_code, 3, some .boolean, 1, []),
  (⟨tw_R2, "<init>", "()V"⟩, prog_7_method_1_code, 1, none, 2, []),
  (⟨tw_R2, "become", "(IIIII)V"⟩, prog_7_method_2_code, 6, none, 2, []),
  (⟨tw_R2, "rest", "()V"⟩, prog_7_method_3_code, 1, none, 2, []),
  (⟨tw_R2, "isOn", "()Z"⟩, prog_7_method_4_code, 1, some .boolean, 2, []),
  (⟨tw_R2, "isOf", "(I)Z"⟩, prog_7_method_5_code, 2, some .boolean, 2, []),
  (⟨tw_R2, "detail", "(I)I"⟩, prog_7_method_6_code, 2, some .int, 2, []),
  (⟨tw_R2, "progress", "()I"⟩, prog_7_method_7_code, 1, some .int, 2, []),
  (⟨tw_R2, "stepWire", "(II)V"⟩, prog_7_method_8_code, 4, none, 2, []),
  (⟨tw_R2, "stepPai\x72", "(ZZ)V"⟩, prog_7_method_9_code, 3, none, 2, []),
  (⟨tw_R2, "stepNot", "(Z)V"⟩, prog_7_method_10_code, 2, none, 2, []),
  (⟨tw_R2, "stepCounted", "(Z)V"⟩, prog_7_method_11_code, 2, none, 2, []),
  (⟨tw_R2, "stepArmed", "(IZZ)V"⟩, prog_7_method_12_code, 4, none, 2, []),
  (⟨tw_R2, "isArmed", "()Z"⟩, prog_7_method_13_code, 1, some .boolean, 2, []),
  (⟨tw_R2, "isEdge", "(ZZ)Z"⟩, prog_7_method_14_code, 3, some .boolean, 2, []),
  (⟨tw_R3, "<init>", "()V"⟩, prog_8_method_1_code, 1, none, 3, []),
  (⟨tw_R3, "append", "(J)I"⟩, prog_8_method_2_code, 5, some .int, 3, [1]),
  (⟨tw_R3, "clea\x72", "()V"⟩, prog_8_method_3_code, 1, none, 3, []),
  (⟨tw_R3, "size", "()I"⟩, prog_8_method_4_code, 1, some .int, 3, []),
  (⟨tw_R3, "signAt", "(I)I"⟩, prog_8_method_5_code, 2, some .int, 3, []),
  (⟨tw_R3, "skipBlanks", "(I)I"⟩, prog_8_method_6_code, 3, some .int, 3, []),
  (⟨tw_R3, "countBytes", "(J)I"⟩, prog_8_method_7_code, 3, some .int, 3, [0]),
  (⟨tw_R3, "byteOf", "(JI)I"⟩, prog_8_method_8_code, 3, some .int, 3, [0]),
  (⟨tw_R4, "<init>", "(LTriggerLoom$Tape;LTriggerLoom$Trigger;)V"⟩, prog_9_method_1_code, 3, none, 4, []),
  (⟨tw_R4, "readInto", "(LTriggerLoom$Trigger;)Z"⟩, prog_9_method_2_code, 3, some .boolean, 4, []),
  (⟨tw_R4, "faultKind", "()I"⟩, prog_9_method_3_code, 1, some .int, 4, []),
  (⟨tw_R4, "faultPlace", "()I"⟩, prog_9_method_4_code, 1, some .int, 4, []),
  (⟨tw_R4, "readRow", "(I)I"⟩, prog_9_method_5_code, 4, some .int, 4, []),
  (⟨tw_R4, "readArmed", "(II)I"⟩, prog_9_method_6_code, 4, some .int, 4, []),
  (⟨tw_R4, "readTimed", "(II)I"⟩, prog_9_method_7_code, 6, some .int, 4, []),
  (⟨tw_R4, "readEithe\x72", "(I)I"⟩, prog_9_method_8_code, 5, some .int, 4, []),
  (⟨tw_R4, "readBoth", "(I)I"⟩, prog_9_method_9_code, 5, some .int, 4, []),
  (⟨tw_R4, "readOne", "(I)I"⟩, prog_9_method_10_code, 2, some .int, 4, []),
  (⟨tw_R4, "readWire", "()I"⟩, prog_9_method_11_code, 3, some .int, 4, []),
  (⟨tw_R4, "readCounted", "(I)I"⟩, prog_9_method_12_code, 4, some .int, 4, []),
  (⟨tw_R4, "readNot", "(I)I"⟩, prog_9_method_13_code, 3, some .int, 4, []),
  (⟨tw_R4, "readWithin", "(I)I"⟩, prog_9_method_14_code, 3, some .int, 4, []),
  (⟨tw_R4, "make", "(IIIII)I"⟩, prog_9_method_15_code, 7, some .int, 4, []),
  (⟨tw_R4, "refuse", "()I"⟩, prog_9_method_16_code, 1, some .int, 4, []),
  (⟨tw_R4, "passes", "(I)Z"⟩, prog_9_method_17_code, 2, some .boolean, 4, []),
  (⟨tw_R4, "advance", "()V"⟩, prog_9_method_18_code, 1, none, 4, []),
  (⟨tw_R4, "readNumbe\x72", "()V"⟩, prog_9_method_19_code, 2, none, 4, []),
  (⟨tw_R4, "starIsNext", "()Z"⟩, prog_9_method_20_code, 1, some .boolean, 4, []),
  (⟨tw_R4, "isDigit", "(I)Z"⟩, prog_9_method_21_code, 1, some .boolean, 4, []),
  (⟨tw_R4, "edgeOf", "(I)I"⟩, prog_9_method_22_code, 1, some .int, 4, []),
  (⟨tw_R5, "<init>", "()V"⟩, prog_5_method_1_code, 1, none, 5, []),
  (⟨tw_R5, "clea\x72", "()V"⟩, prog_5_method_2_code, 1, none, 5, []),
  (⟨tw_R5, "size", "()I"⟩, prog_5_method_3_code, 1, some .int, 5, []),
  (⟨tw_R5, "hitCount", "()I"⟩, prog_5_method_4_code, 1, some .int, 5, []),
  (⟨tw_R5, "hasRoom", "(I)Z"⟩, prog_5_method_5_code, 2, some .boolean, 5, []),
  (⟨tw_R5, "add", "(IZ)V"⟩, prog_5_method_6_code, 3, none, 5, []),
  (⟨tw_R5, "hasCome", "(I)Z"⟩, prog_5_method_7_code, 2, some .boolean, 5, []),
  (⟨tw_R5, "sampleAt", "(I)I"⟩, prog_5_method_8_code, 2, some .int, 5, []),
  (⟨tw_R5, "wireAt", "(II)I"⟩, prog_5_method_9_code, 3, some .int, 5, []),
  (⟨tw_R5, "isHit", "(I)Z"⟩, prog_5_method_10_code, 2, some .boolean, 5, []),
  (⟨tw_R5, "hitTick", "(I)I"⟩, prog_5_method_11_code, 4, some .int, 5, []),
  (⟨tw_R6, "<init>", "()V"⟩, prog_3_method_1_code, 1, none, 6, []),
  (⟨tw_R6, "clea\x72", "()V"⟩, prog_3_method_2_code, 1, none, 6, []),
  (⟨tw_R6, "size", "()I"⟩, prog_3_method_3_code, 1, some .int, 6, []),
  (⟨tw_R6, "add", "(I)V"⟩, prog_3_method_4_code, 2, none, 6, []),
  (⟨tw_R6, "sampleAt", "(I)I"⟩, prog_3_method_5_code, 2, some .int, 6, []),
  (⟨tw_R6, "countRuns", "(I)I"⟩, prog_3_method_6_code, 4, some .int, 6, []),
  (⟨tw_R6, "runStart", "(I)I"⟩, prog_3_method_7_code, 4, some .int, 6, []),
  (⟨tw_R6, "runLength", "(I)I"⟩, prog_3_method_8_code, 3, some .int, 6, []),
  (⟨tw_R6, "startsRun", "(II)Z"⟩, prog_3_method_9_code, 3, some .boolean, 6, []),
  (⟨tw_R7, "<init>", "()V"⟩, prog_6_method_1_code, 1, none, 7, []),
  (⟨tw_R7, "clea\x72", "()V"⟩, prog_6_method_2_code, 1, none, 7, []),
  (⟨tw_R7, "size", "()I"⟩, prog_6_method_3_code, 1, some .int, 7, []),
  (⟨tw_R7, "isFull", "()Z"⟩, prog_6_method_4_code, 1, some .boolean, 7, []),
  (⟨tw_R7, "addByte", "(II)V"⟩, prog_6_method_5_code, 3, none, 7, []),
  (⟨tw_R7, "addSign", "(II)V"⟩, prog_6_method_6_code, 3, none, 7, []),
  (⟨tw_R7, "detail", "(II)I"⟩, prog_6_method_7_code, 3, some .int, 7, []),
  (⟨tw_R7, "add", "(III)V"⟩, prog_6_method_8_code, 4, none, 7, []),
  (⟨tw_R8, "<init>", "(LTriggerLoom$History;LTriggerLoom$Marks;)V"⟩, prog_4_method_1_code, 3, none, 8, []),
  (⟨tw_R8, "readAll", "(II)V"⟩, prog_4_method_2_code, 6, none, 8, []),
  (⟨tw_R8, "findBeginning", "(II)I"⟩, prog_4_method_3_code, 5, some .int, 8, []),
  (⟨tw_R8, "readFrame", "(III)I"⟩, prog_4_method_4_code, 6, some .int, 8, []),
  (⟨tw_R8, "readValue", "(III)I"⟩, prog_4_method_5_code, 6, some .int, 8, []),
  (⟨tw_R9, "<init>", "(LTriggerLoom$History;LTriggerLoom$Marks;)V"⟩, prog_2_method_1_code, 3, none, 9, []),
  (⟨tw_R9, "readAll", "(II)V"⟩, prog_2_method_2_code, 7, none, 9, []),
  (⟨tw_R9, "lookAtData", "(III)V"⟩, prog_2_method_3_code, 4, none, 9, []),
  (⟨tw_R9, "clockFalls", "(II)V"⟩, prog_2_method_4_code, 3, none, 9, []),
  (⟨tw_R10, "<init>", "()V"⟩, prog_12_method_1_code, 1, none, 10, []),
  (⟨tw_R10, "in", "(JJJ)Z"⟩, prog_12_method_3_code, 6, some .boolean, 10, [0, 2, 4]),
  (⟨tw_R10, "feed", "(J)I"⟩, prog_12_method_4_code, 5, some .int, 10, [1]),
  (⟨tw_R10, "cut", "()I"⟩, prog_12_method_5_code, 2, some .int, 10, []),
  (⟨tw_R10, "isDigit", "(I)Z"⟩, prog_12_method_6_code, 2, some .boolean, 10, []),
  (⟨tw_R10, "isSignByte", "(I)Z"⟩, prog_12_method_7_code, 1, some .boolean, 10, []),
  (⟨tw_R10, "next", "()V"⟩, prog_12_method_8_code, 1, none, 10, []),
  (⟨tw_R10, "isSign", "(I)Z"⟩, prog_12_method_9_code, 2, some .boolean, 10, []),
  (⟨tw_R10, "node", "(IIIII)I"⟩, prog_12_method_10_code, 6, some .int, 10, []),
  (⟨tw_R10, "push", "(IIII)V"⟩, prog_12_method_11_code, 5, none, 10, []),
  (⟨tw_R10, "isTop", "(I)Z"⟩, prog_12_method_12_code, 2, some .boolean, 10, []),
  (⟨tw_R10, "wrongHere", "()V"⟩, prog_12_method_13_code, 1, none, 10, []),
  (⟨tw_R10, "oneNode", "()I"⟩, prog_12_method_14_code, 3, some .int, 10, []),
  (⟨tw_R10, "closed", "(I)I"⟩, prog_12_method_15_code, 3, some .int, 10, []),
  (⟨tw_R10, "goOn", "(I)V"⟩, prog_12_method_16_code, 5, none, 10, []),
  (⟨tw_R10, "parse", "()V"⟩, prog_12_method_17_code, 4, none, 10, []),
  (⟨tw_R10, "read", "()I"⟩, prog_12_method_18_code, 2, some .int, 10, []),
  (⟨tw_R10, "begin", "()V"⟩, prog_12_method_19_code, 2, none, 10, []),
  (⟨tw_R10, "fault", "()I"⟩, prog_12_method_20_code, 1, some .int, 10, []),
  (⟨tw_R10, "node", "(III)I"⟩, prog_12_method_21_code, 5, some .int, 10, []),
  (⟨tw_R10, "arm", "()I"⟩, prog_12_method_22_code, 2, some .int, 10, []),
  (⟨tw_R10, "bit", "(II)I"⟩, prog_12_method_23_code, 2, some .int, 10, []),
  (⟨tw_R10, "goesOn", "(II)Z"⟩, prog_12_method_24_code, 5, some .boolean, 10, []),
  (⟨tw_R10, "nodeHolds", "(II)Z"⟩, prog_12_method_25_code, 5, some .boolean, 10, []),
  (⟨tw_R10, "come", "(I)I"⟩, prog_12_method_26_code, 3, some .int, 10, []),
  (⟨tw_R10, "sample", "(II)I"⟩, prog_12_method_27_code, 5, some .int, 10, []),
  (⟨tw_R10, "holds", "(I)I"⟩, prog_12_method_28_code, 2, some .int, 10, []),
  (⟨tw_R10, "waits", "(I)I"⟩, prog_12_method_29_code, 2, some .int, 10, []),
  (⟨tw_R10, "noTick", "(I)Z"⟩, prog_12_method_30_code, 2, some .boolean, 10, []),
  (⟨tw_R10, "held", "(I)I"⟩, prog_12_method_31_code, 2, some .int, 10, []),
  (⟨tw_R10, "tickOf", "(I)I"⟩, prog_12_method_32_code, 4, some .int, 10, []),
  (⟨tw_R10, "when", "(I)I"⟩, prog_12_method_33_code, 2, some .int, 10, []),
  (⟨tw_R10, "at", "(I)I"⟩, prog_12_method_34_code, 2, some .int, 10, []),
  (⟨tw_R10, "grab", "(III)I"⟩, prog_12_method_35_code, 6, some .int, 10, []),
  (⟨tw_R10, "caught", "(I)I"⟩, prog_12_method_36_code, 2, some .int, 10, []),
  (⟨tw_R10, "runsBy", "(I)I"⟩, prog_12_method_37_code, 4, some .int, 10, []),
  (⟨tw_R10, "runs", "()I"⟩, prog_12_method_38_code, 1, some .int, 10, []),
  (⟨tw_R10, "run", "(II)I"⟩, prog_12_method_39_code, 7, some .int, 10, []),
  (⟨tw_R10, "squeezed", "(I)I"⟩, prog_12_method_40_code, 2, some .int, 10, []),
  (⟨tw_R10, "mark", "(III)V"⟩, prog_12_method_41_code, 4, none, 10, []),
  (⟨tw_R10, "isBeginning", "(II)Z"⟩, prog_12_method_42_code, 3, some .boolean, 10, []),
  (⟨tw_R10, "frame", "(III)I"⟩, prog_12_method_43_code, 8, some .int, 10, []),
  (⟨tw_R10, "frames", "(II)I"⟩, prog_12_method_44_code, 5, some .int, 10, []),
  (⟨tw_R10, "bytes", "(II)I"⟩, prog_12_method_45_code, 12, some .int, 10, []),
  (⟨tw_R10, "mark", "(II)I"⟩, prog_12_method_46_code, 3, some .int, 10, []),
  (⟨tw_R10, "others", "(I)I"⟩, prog_12_method_47_code, 2, some .int, 10, []),
  (⟨tw_R10, "sendFrame", "(III)I"⟩, prog_12_method_48_code, 8, some .int, 10, []),
  (⟨tw_R10, "sendByte", "(IIIZZ)I"⟩, prog_12_method_49_code, 12, some .int, 10, []),
  (⟨tw_R10, "total", "(I)I"⟩, prog_12_method_50_code, 4, some .int, 10, []),
  (⟨tw_R11, "law", "([I)Z"⟩, code, 4, some .boolean, 11, [])]
def tw_m (m : Nat) : tw_MT := tw_M.getD m (⟨"", "", ""⟩, code, 0, none, 0, [])
def tw_y (m : Nat) : MethodName := (tw_m m).1
def tw_cd (m : Nat) : ByteArray := (tw_m m).2.1
def tw_ml (m : Nat) : Nat := (tw_m m).2.2.1
def tw_rt (m : Nat) : Option FieldType := (tw_m m).2.2.2.1
def tw_ow (m : Nat) : Nat := (tw_m m).2.2.2.2.1
def tw_lp (m : Nat) : List Nat := (tw_m m).2.2.2.2.2
def tw_fls : List (Nat × Nat × Nat × Nat × Bool × Nat) := [(0, 12, 0, 7, false, 267), (0, 16, 0, 8, false, 268), (0, 22, 0, 0, false, 260), (0, 31, 0, 1, false, 261), (0, 38, 0, 2, false, 262), (0, 45, 0, 3, false, 263), (0, 52, 0, 4, false, 264), (0, 61, 0, 5, false, 265), (0, 68, 0, 6, false, 266), (1, 11, 1, 0, false, 118), (1, 18, 1, 1, false, 119), (1, 37, 2, 0, true, 91), (1, 40, 2, 1, true, 93), (1, 47, 2, 2, true, 95), (2, 9, 2, 0, false, 90), (2, 15, 2, 1, false, 92), (2, 18, 2, 2, false, 94), (2, 21, 2, 3, false, 96), (2, 24, 2, 4, false, 97), (2, 27, 2, 5, false, 98), (2, 31, 2, 6, false, 99), (2, 34, 2, 7, false, 100), (3, 9, 3, 0, false, 131), (3, 19, 3, 1, false, 132), (4, 9, 4, 6, false, 151), (4, 15, 4, 7, false, 152), (4, 18, 4, 0, false, 145), (4, 22, 4, 1, false, 146), (4, 31, 4, 5, false, 150), (4, 41, 4, 2, false, 147), (4, 69, 4, 3, false, 148), (4, 76, 4, 4, false, 149), (5, 9, 5, 0, false, 176), (5, 15, 5, 1, false, 177), (5, 19, 5, 2, false, 178), (5, 23, 5, 3, false, 179), (6, 9, 6, 0, false, 196), (6, 15, 6, 1, false, 197), (7, 9, 7, 0, false, 209), (7, 15, 7, 1, false, 210), (7, 18, 7, 2, false, 211), (7, 21, 7, 3, false, 212), (8, 9, 8, 0, false, 228), (8, 15, 8, 1, false, 229), (9, 9, 9, 0, false, 241), (9, 15, 9, 1, false, 242), (9, 24, 9, 2, false, 243), (9, 50, 9, 3, false, 244), (9, 56, 9, 4, false, 245), (9, 60, 9, 5, false, 246), (10, 7, 10, 1, false, 774), (10, 13, 10, 6, false, 779), (10, 16, 10, 7, false, 780), (10, 19, 10, 8, false, 781), (10, 22, 10, 9, false, 782), (10, 25, 10, 10, false, 783), (10, 28, 10, 12, false, 785), (10, 31, 10, 13, false, 786), (10, 34, 10, 14, false, 787), (10, 37, 10, 15, false, 788), (10, 40, 10, 16, false, 789), (10, 43, 10, 17, false, 790), (10, 47, 10, 18, false, 791), (10, 50, 10, 19, false, 792), (10, 53, 10, 21, false, 794), (10, 56, 10, 22, false, 795), (10, 59, 10, 24, false, 797), (10, 62, 10, 26, false, 799), (10, 65, 10, 27, false, 800), (10, 68, 10, 28, false, 801), (10, 71, 10, 34, false, 807), (10, 74, 10, 35, false, 808), (10, 77, 10, 36, false, 809), (10, 80, 10, 37, false, 810), (10, 83, 10, 0, false, 773), (10, 89, 10, 2, false, 775), (10, 100, 10, 29, false, 802), (10, 103, 10, 31, false, 804), (10, 106, 10, 32, false, 805), (10, 109, 10, 30, false, 803), (10, 123, 10, 11, false, 784), (10, 126, 10, 33, false, 806), (10, 129, 10, 38, false, 811), (10, 132, 10, 39, false, 812), (10, 155, 10, 40, false, 813), (10, 173, 10, 3, false, 776), (10, 176, 10, 5, false, 778), (10, 179, 10, 4, false, 777), (10, 185, 10, 20, false, 793), (10, 218, 10, 23, false, 796), (10, 225, 10, 25, false, 798)]
def tw_cls : List (Nat × Nat × Nat × Nat × Nat × Nat × Nat × Nat × Nat) := [(0, 11, 2, 35, 0, 79, 80, 58, 0), (0, 21, 5, 58, 0, 127, 128, 60, 0), (0, 28, 2, 66, 2, 141, 142, 61, 0), (0, 37, 5, 88, 0, 172, 173, 62, 0), (0, 44, 5, 99, 0, 192, 193, 63, 0), (0, 51, 5, 108, 0, 205, 206, 64, 0), (0, 58, 2, 116, 2, 224, 225, 65, 0), (0, 67, 2, 121, 2, 237, 238, 66, 0), (0, 72, 1, 59, 1, 292, 293, 60, 294), (0, 76, 1, 61, 0, 306, 307, 60, 308), (0, 80, 1, 60, 0, 310, 311, 60, 312), (0, 83, 1, 67, 1, 318, 319, 61, 320), (0, 87, 1, 69, 0, 420, 421, 61, 422), (0, 90, 1, 25, 0, 424, 426, 57, 16), (0, 93, 1, 37, 0, 440, 441, 58, 442), (0, 94, 1, 68, 0, 448, 417, 61, 418), (0, 97, 1, 39, 1, 453, 454, 58, 455), (0, 101, 1, 48, 1, 457, 458, 59, 459), (0, 107, 1, 49, 1, 465, 466, 59, 467), (0, 111, 1, 24, 0, 473, 475, 57, 18), (0, 115, 1, 90, 0, 477, 478, 62, 479), (0, 117, 1, 26, 1, 486, 488, 57, 19), (0, 120, 1, 28, 2, 494, 496, 57, 20), (0, 124, 1, 47, 0, 559, 520, 59, 521), (0, 127, 1, 50, 0, 564, 565, 59, 566), (0, 130, 1, 94, 1, 572, 503, 62, 504), (0, 133, 1, 97, 1, 573, 574, 62, 575), (0, 136, 1, 98, 1, 581, 582, 62, 583), (0, 139, 1, 95, 1, 498, 499, 62, 500), (0, 142, 1, 100, 0, 593, 594, 63, 595), (0, 151, 1, 102, 1, 601, 602, 63, 603), (0, 155, 1, 101, 0, 605, 606, 63, 607), (0, 156, 1, 103, 1, 613, 614, 63, 615), (0, 157, 1, 104, 1, 621, 622, 63, 623), (0, 160, 1, 105, 1, 634, 635, 63, 636), (0, 163, 1, 106, 1, 639, 640, 63, 641), (0, 166, 0, 32, 1, 651, 652, 57, 0), (0, 169, 0, 33, 1, 654, 655, 57, 0), (0, 172, 1, 117, 2, 657, 658, 65, 659), (0, 176, 1, 110, 0, 701, 702, 64, 703), (0, 177, 1, 122, 2, 709, 710, 66, 711), (0, 178, 1, 114, 2, 731, 732, 64, 733), (0, 180, 0, 34, 1, 739, 740, 57, 0), (0, 183, 1, 30, 3, 742, 744, 57, 31), (0, 187, 1, 27, 0, 746, 748, 57, 32), (0, 190, 1, 29, 3, 755, 757, 57, 33), (0, 193, 0, 31, 2, 750, 544, 57, 0), (0, 196, 1, 91, 0, 763, 764, 62, 765), (0, 199, 1, 89, 0, 428, 429, 62, 430), (0, 200, 1, 40, 0, 432, 433, 58, 434), (0, 203, 1, 92, 1, 490, 491, 62, 492), (0, 206, 1, 41, 3, 506, 507, 58, 508), (0, 210, 1, 93, 2, 550, 551, 62, 552), (1, 17, 5, 44, 0, 86, 87, 59, 0), (1, 22, 1, 45, 5, 380, 381, 59, 382), (1, 26, 1, 46, 0, 436, 437, 59, 438), (1, 29, 1, 42, 4, 510, 512, 58, 21), (1, 33, 1, 43, 1, 514, 516, 58, 22), (1, 43, 1, 53, 1, 523, 524, 59, 525), (1, 50, 1, 52, 2, 527, 528, 59, 529), (1, 54, 1, 54, 1, 531, 532, 59, 533), (1, 57, 1, 55, 3, 535, 536, 59, 537), (1, 61, 1, 51, 2, 539, 540, 59, 541), (1, 65, 1, 39, 1, 518, 454, 58, 455), (1, 69, 1, 47, 0, 519, 520, 59, 521), (2, 37, 1, 56, 0, 461, 463, 59, 17), (2, 41, 3, 31, 2, 543, 544, 57, 0), (2, 45, 1, 57, 2, 546, 548, 59, 23), (3, 15, 0, 64, 1, 296, 297, 60, 0), (3, 23, 0, 65, 2, 299, 300, 60, 0), (3, 27, 1, 62, 1, 334, 335, 60, 336), (4, 26, 1, 36, 0, 322, 323, 58, 324), (4, 34, 1, 83, 0, 326, 328, 61, 0), (4, 37, 1, 70, 1, 349, 351, 61, 2), (4, 44, 1, 81, 0, 384, 386, 61, 8), (4, 48, 1, 68, 0, 416, 417, 61, 418), (4, 51, 1, 73, 1, 353, 355, 61, 3), (4, 54, 1, 85, 0, 404, 406, 61, 13), (4, 58, 1, 72, 2, 408, 410, 61, 14), (4, 62, 1, 71, 2, 412, 414, 61, 15), (4, 65, 1, 80, 5, 372, 374, 61, 7), (4, 72, 1, 82, 1, 392, 394, 61, 10), (4, 79, 1, 74, 1, 357, 359, 61, 4), (4, 82, 1, 75, 1, 361, 363, 61, 5), (4, 85, 1, 76, 0, 365, 367, 61, 6), (4, 88, 1, 77, 1, 388, 390, 61, 9), (4, 91, 1, 78, 1, 396, 398, 61, 11), (4, 94, 1, 79, 1, 400, 402, 61, 12), (4, 97, 0, 87, 1, 369, 370, 61, 0), (4, 100, 1, 38, 5, 376, 377, 58, 378), (4, 103, 1, 63, 1, 330, 331, 60, 332), (4, 108, 1, 62, 1, 338, 335, 60, 336), (4, 111, 0, 86, 1, 339, 340, 61, 0), (4, 114, 1, 84, 0, 342, 344, 61, 1), (5, 26, 1, 92, 1, 554, 491, 62, 492), (5, 30, 1, 94, 1, 502, 503, 62, 504), (5, 33, 3, 31, 2, 674, 544, 57, 0), (6, 19, 1, 107, 2, 625, 627, 63, 24), (6, 24, 1, 103, 1, 629, 614, 63, 615), (7, 25, 1, 115, 3, 687, 689, 64, 27), (7, 29, 1, 111, 0, 691, 676, 64, 677), (8, 19, 1, 109, 0, 661, 662, 64, 663), (8, 24, 1, 118, 2, 665, 667, 65, 25), (8, 28, 1, 111, 0, 675, 676, 64, 677), (8, 32, 1, 119, 3, 679, 681, 65, 26), (8, 36, 1, 90, 0, 669, 478, 62, 479), (8, 42, 1, 96, 2, 670, 671, 62, 672), (8, 45, 1, 113, 2, 683, 684, 64, 685), (8, 49, 1, 94, 1, 692, 503, 62, 504), (8, 53, 1, 120, 3, 693, 695, 65, 28), (8, 56, 1, 112, 2, 697, 698, 64, 699), (9, 19, 1, 109, 0, 713, 662, 64, 663), (9, 28, 1, 90, 0, 714, 478, 62, 479), (9, 34, 1, 111, 0, 715, 676, 64, 677), (9, 38, 1, 96, 2, 716, 671, 62, 672), (9, 42, 1, 123, 3, 717, 719, 66, 29), (9, 46, 1, 124, 2, 722, 724, 66, 30), (9, 53, 1, 113, 2, 721, 684, 64, 685), (9, 63, 1, 112, 2, 726, 698, 64, 699), (10, 96, 0, 126, 3, 924, 925, 67, 0), (10, 112, 1, 129, 1, 918, 920, 67, 36), (10, 120, 0, 130, 1, 929, 930, 67, 0), (10, 135, 1, 132, 1, 936, 938, 67, 38), (10, 138, 1, 136, 0, 940, 942, 67, 39), (10, 141, 1, 131, 0, 914, 916, 67, 35), (10, 144, 1, 134, 4, 944, 946, 67, 40), (10, 148, 1, 133, 5, 948, 950, 67, 41), (10, 152, 1, 135, 1, 956, 958, 67, 43), (10, 158, 1, 137, 0, 932, 934, 67, 37), (10, 162, 1, 138, 1, 952, 954, 67, 42), (10, 166, 1, 139, 1, 960, 962, 67, 44), (10, 170, 1, 140, 0, 910, 912, 67, 34), (10, 183, 1, 142, 0, 964, 966, 67, 45), (10, 192, 0, 146, 2, 996, 997, 67, 0), (10, 196, 1, 147, 2, 999, 1001, 67, 48), (10, 200, 1, 148, 2, 992, 994, 67, 47), (10, 207, 1, 149, 1, 988, 990, 67, 46), (10, 210, 1, 153, 1, 1015, 1017, 67, 49), (10, 213, 1, 155, 1, 1023, 1025, 67, 50), (10, 222, 1, 160, 1, 1045, 1047, 67, 51), (10, 228, 1, 164, 3, 1071, 1073, 67, 54), (10, 236, 1, 165, 2, 1063, 1065, 67, 52), (10, 239, 1, 166, 3, 1067, 1069, 67, 53), (10, 243, 1, 170, 1, 1087, 1089, 67, 55), (11, 9, 2, 0, 0, 71, 72, 57, 0), (11, 12, 2, 125, 0, 769, 770, 67, 0), (11, 15, 1, 1, 1, 288, 289, 57, 290), (11, 19, 1, 127, 1, 897, 898, 67, 899), (11, 20, 1, 2, 0, 302, 303, 57, 304), (11, 24, 1, 128, 0, 902, 903, 67, 904), (11, 25, 1, 3, 0, 314, 315, 57, 316), (11, 28, 1, 141, 0, 906, 907, 67, 908), (11, 29, 1, 4, 0, 444, 445, 57, 446), (11, 32, 1, 143, 0, 968, 969, 67, 970), (11, 33, 1, 5, 3, 449, 450, 57, 451), (11, 37, 1, 144, 3, 972, 973, 67, 974), (11, 38, 1, 6, 0, 469, 470, 57, 471), (11, 41, 1, 145, 0, 978, 979, 67, 980), (11, 42, 1, 7, 2, 481, 482, 57, 483), (11, 46, 1, 150, 2, 982, 983, 67, 984), (11, 47, 1, 8, 1, 555, 556, 57, 557), (11, 51, 1, 151, 1, 1003, 1004, 67, 1005), (11, 52, 1, 9, 1, 560, 561, 57, 562), (11, 55, 1, 152, 1, 1007, 1008, 67, 1009), (11, 56, 1, 10, 1, 568, 569, 57, 570), (11, 59, 1, 154, 1, 1011, 1012, 67, 1013), (11, 60, 1, 11, 1, 577, 578, 57, 579), (11, 63, 1, 156, 1, 1019, 1020, 67, 1021), (11, 64, 1, 12, 1, 585, 586, 57, 587), (11, 67, 1, 157, 1, 1027, 1028, 67, 1029), (11, 68, 1, 13, 3, 589, 590, 57, 591), (11, 71, 1, 158, 3, 1031, 1032, 67, 1033), (11, 72, 1, 14, 1, 609, 610, 57, 611), (11, 75, 1, 159, 1, 1036, 1037, 67, 1038), (11, 76, 1, 15, 0, 617, 618, 57, 619), (11, 79, 1, 161, 0, 1040, 1041, 67, 1042), (11, 80, 1, 16, 2, 630, 631, 57, 632), (11, 83, 1, 162, 2, 1049, 1050, 67, 1051), (11, 84, 1, 17, 1, 643, 644, 57, 645), (11, 87, 1, 163, 1, 1053, 1054, 67, 1055), (11, 88, 1, 18, 2, 647, 648, 57, 649), (11, 91, 1, 167, 2, 1057, 1058, 67, 1059), (11, 92, 1, 19, 2, 705, 706, 57, 707), (11, 95, 1, 168, 2, 1075, 1076, 67, 1077), (11, 96, 1, 20, 2, 727, 728, 57, 729), (11, 99, 1, 169, 2, 1079, 1080, 67, 1081), (11, 100, 1, 21, 3, 735, 736, 57, 737), (11, 103, 1, 171, 3, 1083, 1084, 67, 1085), (11, 104, 1, 22, 5, 751, 752, 57, 753), (11, 108, 1, 172, 5, 1091, 1092, 67, 1093), (11, 109, 1, 23, 1, 759, 760, 57, 761), (11, 112, 1, 173, 1, 1095, 1096, 67, 1097)]
def tw_nws : List (Nat × Nat × Nat × Nat × Nat × Nat) := [(0, 9, 1, 77, 78, 58), (0, 19, 3, 125, 126, 60), (0, 26, 4, 139, 140, 61), (0, 35, 5, 170, 171, 62), (0, 42, 6, 190, 191, 63), (0, 49, 7, 203, 204, 64), (0, 56, 8, 222, 223, 65), (0, 65, 9, 235, 236, 66), (1, 9, 2, 83, 85, 59), (11, 7, 0, 69, 70, 57), (11, 10, 10, 767, 768, 67)]
def tw_lds : List (Nat × Nat × Int32 × Nat) := [(0, 116, 65535, 485), (6, 23, 65535, 638), (10, 221, 65535, 1044)]
def tw_ld2 : List (Nat × Nat × Int64 × Nat) := [(10, 87, 255, 901), (10, 92, 48, 922), (10, 94, 57, 923), (10, 116, 97, 927), (10, 118, 112, 928), (10, 188, 8, 976), (10, 190, 4, 977), (10, 203, 65535, 986), (10, 205, 1000, 987), (10, 216, 500, 1035), (10, 232, 15, 1061), (10, 234, 20, 1062), (11, 13, 4294967295, 1099)]
def tw_mas : List (Nat × Nat × Bool × Nat × Nat × Nat × Nat) := [(0, 143, false, 597, 347, 68, 348), (0, 148, true, 598, 599, 68, 600), (4, 117, false, 346, 347, 68, 348)]
def tw_ois : List (Nat × Nat × Nat) := [(0, 3, 74), (1, 3, 82), (2, 3, 89), (3, 3, 130), (4, 3, 144), (5, 3, 175), (6, 3, 195), (7, 3, 208), (8, 3, 227), (9, 3, 240), (10, 1, 772)]

def tw_fld (o i : Nat) : Option (Nat × Nat × Nat × Nat × Bool × Nat) := tw_fls.find? (fun q => q.1 == o && q.2.1 == i)
def tw_cal (o i : Nat) : Option (Nat × Nat × Nat × Nat × Nat × Nat × Nat × Nat × Nat) := tw_cls.find? (fun q => q.1 == o && q.2.1 == i)
def tw_new (o i : Nat) : Option (Nat × Nat × Nat × Nat × Nat × Nat) := tw_nws.find? (fun q => q.1 == o && q.2.1 == i)
def tw_ldc (o i : Nat) : Option (Nat × Nat × Int32 × Nat) := tw_lds.find? (fun q => q.1 == o && q.2.1 == i)
def tw_ldl (o i : Nat) : Option (Nat × Nat × Int64 × Nat) := tw_ld2.find? (fun q => q.1 == o && q.2.1 == i)
def tw_mat (o i : Nat) : Option (Nat × Nat × Bool × Nat × Nat × Nat × Nat) := tw_mas.find? (fun q => q.1 == o && q.2.1 == i)
def tw_oin (o i : Nat) : Option (Nat × Nat × Nat) := tw_ois.find? (fun q => q.1 == o && q.2.1 == i)

set_option maxRecDepth 100000 in
theorem tw_fls_ok : ∀ q ∈ tw_fls, lw_tbl[q.2.2.2.2.2]? = some (if q.2.2.2.2.1 = true then .fieldLinkNest (tw_R q.1) q.2.1 (tw_R q.2.2.1) (tw_fd q.2.2.1 q.2.2.2.1).1 (tw_fd q.2.2.1 q.2.2.2.1).2.1 tw_R0 else .fieldLink (tw_R q.1) q.2.1 (tw_R q.2.2.1) (tw_fd q.2.2.1 q.2.2.2.1).1 (tw_fd q.2.2.1 q.2.2.2.1).2.1) ∧ q.2.2.1 < 11 ∧ q.2.2.2.1 < tw_N q.2.2.1 := by decide +kernel
def tw_lpos : List (List Nat) := [[269, 271, 273, 275, 277, 279, 281, 283, 285], [120, 122], [101, 103, 105, 107, 109, 111, 113, 115], [133, 135], [153, 155, 157, 159, 161, 163, 165, 167], [180, 182, 184, 186], [198, 200], [213, 215, 217, 219], [230, 232], [247, 249, 251, 253, 255, 257], [814, 816, 818, 820, 822, 824, 826, 828, 830, 832, 834, 836, 838, 840, 842, 844, 846, 848, 850, 852, 854, 856, 858, 860, 862, 864, 866, 868, 870, 872, 874, 876, 878, 880, 882, 884, 886, 888, 890, 892, 894]]
set_option maxRecDepth 100000 in
theorem tw_lays_ok : ∀ c, c < 11 → ∀ w ∈ u_ws (tw_R c) (tw_F c) (tw_N c), w ∈ lw_tbl := by
  have h : ∀ c, c < 11 → ((u_ws (tw_R c) (tw_F c) (tw_N c)).zip (tw_lpos.getD c [])).map (fun q => lw_tbl[q.2]?) = (u_ws (tw_R c) (tw_F c) (tw_N c)).map some ∧ True := by decide +kernel
  intro c hc w hw
  have h1 := (h c hc).1
  have h2 : some w ∈ (u_ws (tw_R c) (tw_F c) (tw_N c)).map some := List.mem_map.mpr ⟨w, hw, rfl⟩
  rw [← h1] at h2
  obtain ⟨q, -, hq⟩ := List.mem_map.mp h2
  exact List.mem_of_getElem? hq
set_option maxRecDepth 100000 in
theorem tw_ty_ok : ∀ c, c < 11 → ∀ k, k < tw_N c → parseFieldDescriptor ((tw_F c) k).2.2.1 = some (tw_ty c k) := by decide +kernel
set_option maxRecDepth 100000 in
theorem tw_nm_ok : ∀ c, c < 11 → ∀ a, a < tw_N c → ∀ b, b < tw_N c → a ≠ b → ((tw_F c) a).2.1 ≠ ((tw_F c) b).2.1 := by decide +kernel
theorem tw_cl_at {c : Nat} (h : c < 11) : tw_cl[c]? = some (tw_R c, tw_F c, tw_N c) := by
  simp [tw_cl, h]

def tw_ny : Nat := 174
def tw_cpos : List Nat := [73, 291, 305, 317, 447, 452, 472, 484, 558, 563, 571, 580, 588, 592, 612, 620, 633, 646, 650, 708, 730, 738, 754, 762, 476, 427, 489, 749, 497, 758, 745, 545, 653, 656, 741, 81, 325, 443, 379, 456, 435, 509, 513, 517, 88, 383, 439, 522, 460, 468, 567, 542, 530, 526, 534, 538, 464, 549, 129, 295, 313, 309, 337, 333, 298, 301, 143, 321, 419, 423, 352, 415, 411, 356, 360, 364, 368, 391, 399, 403, 375, 387, 395, 329, 345, 407, 341, 371, 174, 431, 480, 766, 493, 553, 505, 501, 673, 576, 584, 194, 596, 608, 604, 616, 624, 637, 642, 628, 207, 664, 704, 678, 700, 686, 734, 690, 226, 660, 668, 682, 696, 239, 712, 720, 725, 771, 926, 900, 905, 921, 931, 917, 939, 951, 947, 959, 943, 935, 955, 963, 913, 909, 967, 971, 975, 981, 998, 1002, 995, 991, 985, 1006, 1010, 1018, 1014, 1026, 1022, 1030, 1034, 1039, 1048, 1043, 1052, 1056, 1074, 1066, 1070, 1060, 1078, 1082, 1090, 1086, 1094, 1098]
set_option maxRecDepth 100000 in
theorem tw_code_l : tw_cpos.map (fun i => lw_tbl[i]?) = (tw_M.take tw_ny).map (fun q => some (Cond.code q.1 q.2.1 q.2.2.1 q.2.2.2.1)) := rfl
theorem tw_code_ok {k : Nat} (h : k < tw_ny) : Cond.code (tw_y k) (tw_cd k) (tw_ml k) (tw_rt k) ∈ lw_tbl := by
  have hl : k < (tw_M.take tw_ny).length := h
  have h2 : ((tw_M.take tw_ny).map (fun q => some (Cond.code q.1 q.2.1 q.2.2.1 q.2.2.2.1)))[k]? = some (some (Cond.code (tw_y k) (tw_cd k) (tw_ml k) (tw_rt k))) := by
    rw [List.getElem?_map, List.getElem?_take_of_lt h]
    have h3 : k < tw_M.length := Nat.lt_of_lt_of_le h (by decide +kernel)
    rw [List.getElem?_eq_getElem h3]
    simp [tw_y, tw_cd, tw_ml, tw_rt, tw_m, List.getD_eq_getElem?_getD, List.getElem?_eq_getElem h3]
  rw [← tw_code_l, List.getElem?_map] at h2
  cases h4 : tw_cpos[k]? with
  | none => rw [h4] at h2; cases h2
  | some i => rw [h4] at h2; exact List.mem_of_getElem? (Option.some.inj h2)
set_option maxRecDepth 100000 in
theorem tw_plain_ok : ∀ k, k < tw_ny → plainName (tw_y k).cls = true ∧ tw_ow k < 11 ∧ (tw_y k).cls = tw_R (tw_ow k) ∧ tw_ml k ≤ 30 := by decide +kernel
set_option maxRecDepth 100000 in
theorem tw_cls_ok : ∀ q ∈ tw_cls, q.2.2.2.1 < tw_ny ∧ q.2.2.1 < 6 ∧
    lw_tbl[q.2.2.2.2.2.1]? = some (if q.2.2.1 < 3 then .methodLink (tw_R q.1) q.2.1 (tw_y q.2.2.2.1) else .methodLinkNest (tw_R q.1) q.2.1 (tw_y q.2.2.2.1) tw_R0) ∧
    lw_tbl[q.2.2.2.2.2.2.1]? = some (if q.2.2.1 % 3 = 0 then .static (tw_y q.2.2.2.1) else .instanceMethod (tw_y q.2.2.2.1)) ∧
    lw_tbl[q.2.2.2.2.2.2.2.1]? = some (.initialized (tw_y q.2.2.2.1).cls) ∧
    (q.2.2.1 % 3 = 1 → lw_tbl[q.2.2.2.2.2.2.2.2]? = some (.selects (tw_y q.2.2.2.1).cls (tw_y q.2.2.2.1) (tw_y q.2.2.2.1))) ∧
    (parseMethodDescriptor (tw_y q.2.2.2.1).desc).map (fun d => d.parameters.length) = some q.2.2.2.2.1 ∧
    ((tw_y q.2.2.2.1).cls ≠ "java/lang/invoke/MethodHandle" ∧ (tw_y q.2.2.2.1).cls ≠ "java/lang/invoke/VarHandle") ∧
    (q.2.2.1 % 3 = 2 → (tw_y q.2.2.2.1).name = "<init>" ∧ tw_rt q.2.2.2.1 = none) := by decide +kernel
set_option maxRecDepth 100000 in
theorem tw_nws_ok : ∀ q ∈ tw_nws, q.2.2.1 < 11 ∧ lw_tbl[q.2.2.2.1]? = some (.classLink (tw_R q.1) q.2.1 (tw_R q.2.2.1)) ∧ lw_tbl[q.2.2.2.2.1]? = some (.instantiable (tw_R q.2.2.1) (tw_N q.2.2.1)) ∧ lw_tbl[q.2.2.2.2.2]? = some (.initialized (tw_R q.2.2.1)) := by decide +kernel
set_option maxRecDepth 100000 in
theorem tw_lds_ok : ∀ q ∈ tw_lds, lw_tbl[q.2.2.2]? = some (.constant (tw_R q.1) q.2.1 q.2.2.1) := by decide +kernel
set_option maxRecDepth 100000 in
theorem tw_ld2_ok : ∀ q ∈ tw_ld2, lw_tbl[q.2.2.2]? = some (.constantLong (tw_R q.1) q.2.1 q.2.2.1) := by decide +kernel
set_option maxRecDepth 100000 in
theorem tw_mas_ok : ∀ q ∈ tw_mas, lw_tbl[q.2.2.2.1]? = some (.methodLink (tw_R q.1) q.2.1 (if q.2.2.1 = true then Lib.Math.max.name else Lib.Math.min.name)) ∧ lw_tbl[q.2.2.2.2.1]? = some (.static (if q.2.2.1 = true then Lib.Math.max.name else Lib.Math.min.name)) ∧ lw_tbl[q.2.2.2.2.2.1]? = some (.initialized "java/lang/Math") := by decide +kernel
set_option maxRecDepth 100000 in
theorem tw_max_code : Cond.code Lib.Math.max.name Lib.Math.max.code 2 (some .int) ∈ lw_tbl := List.mem_of_getElem? (i := 600) (by decide +kernel)
set_option maxRecDepth 100000 in
theorem tw_min_code : Cond.code Lib.Math.min.name Lib.Math.min.code 2 (some .int) ∈ lw_tbl := List.mem_of_getElem? (i := 348) (by decide +kernel)
set_option maxRecDepth 100000 in
theorem tw_ois_ok : ∀ q ∈ tw_ois, lw_tbl[q.2.2]? = some (.methodLink (tw_R q.1) q.2.1 Lib.objectInit) := by decide +kernel
set_option maxRecDepth 100000 in
theorem tw_oi_inst : Cond.instanceMethod Lib.objectInit ∈ lw_tbl := List.mem_of_getElem? (i := 75) (by decide +kernel)
set_option maxRecDepth 100000 in
theorem tw_oi_code : Cond.code Lib.objectInit ⟨#[0xb1]⟩ 1 none ∈ lw_tbl := List.mem_of_getElem? (i := 76) (by decide +kernel)
set_option maxRecDepth 100000 in
def tw_tb : List Cond := lw_tbl.filter goodWord
theorem tw_words : GoodIn tw_tb tw_tb := fun w hw => ⟨hw, good_of_word (List.mem_filter.mp hw).2⟩
theorem tw_in {w : Cond} (h : w ∈ lw_tbl) (g : goodWord w = true) : w ∈ tw_tb := List.mem_filter.mpr ⟨h, g⟩
theorem tw_at {w : Cond} {i : Nat} (h : lw_tbl[i]? = some w) (g : goodWord w = true) : w ∈ tw_tb := tw_in (List.mem_of_getElem? h) g
theorem tw_lays : ∀ c, c < 11 → ∀ w ∈ u_ws (tw_R c) (tw_F c) (tw_N c), w ∈ tw_tb := by
  intro c hc w hw
  refine tw_in (tw_lays_ok c hc w hw) ?_
  obtain ⟨k, -, rfl⟩ := List.mem_map.mp hw
  unfold u_lay
  split <;> rfl
theorem tw_code {k : Nat} (h : k < tw_ny) : Cond.code (tw_y k) (tw_cd k) (tw_ml k) (tw_rt k) ∈ tw_tb := tw_in (tw_code_ok h) rfl
set_option maxRecDepth 100000 in
theorem tw_ia : Cond.arrayClass .int ∈ lw_tbl := List.mem_of_getElem? (i := 138) (by decide +kernel)
set_option maxRecDepth 100000 in
theorem tw_za : Cond.arrayClass .boolean ∈ lw_tbl := List.mem_of_getElem? (i := 189) (by decide +kernel)
set_option maxRecDepth 100000 in
theorem tw_ao : Cond.arrayOver (.object tw_R2) ∈ lw_tbl := List.mem_of_getElem? (i := 84) (by decide +kernel)
set_option maxRecDepth 100000 in
theorem tw_ac : Cond.classLink tw_R1 9 tw_R2 ∈ lw_tbl := List.mem_of_getElem? (i := 83) (by decide +kernel)
end
section
/-! a small machine of our own, over cells that are numbered from 0 as they are made: an int or boolean field or array place is a number 'mi a k', a place for a reference 'mr a k'; 'g' says how many cells and slots are made, and of which kind each is (below 11: an object of that class; 20 ints, 21 booleans, 22 references; 99 none) and how long. The script is the value .retAddr 0. -/
abbrev tw_G : Type := Nat × Nat × (Nat → Nat × Nat)
abbrev tw_I : Type := Nat → Nat → Int32
abbrev tw_Q : Type := Nat → Nat → Option Nat
abbrev tw_L : Type := List (Option Value)
def tw_kd (g : tw_G) (a : Nat) : Nat := (g.2.2 a).1
def tw_ln (g : tw_G) (a : Nat) : Nat := (g.2.2 a).2
def tw_st {α : Type} (f : Nat → α) (a : Nat) (r : α) : Nat → α := fun b => if b = a then r else f b
def tw_rf (c k : Nat) : Bool := match tw_ty c k with
  | .object _ => true
  | .array _ => true
  | _ => false
def tw_to (pc : Nat) (off : Int) (ls : tw_L) (st : List Value) : Option (Nat × tw_L × List Value) := if 0 ≤ (pc : Int) + off then some (((pc : Int) + off).toNat, ls, st) else none
def tw_sto (m i : Nat) (v : Value) (ls : tw_L) : Option tw_L := if i < ls.length ∧ (tw_lp m).all (fun j => i != j && i != j + 1) = true then some (ls.set i (some v)) else none
def tw_ci (b : Jvm.ClassFile.Cond) (x y : Int32) : Bool := match b with
  | .eq => decide (x = y)
  | .ne => decide (¬ x = y)
  | .lt => decide (x < y)
  | .ge => decide (y ≤ x)
  | .gt => decide (y < x)
  | .le => decide (x ≤ y)
/-- loads and stores -/
def tw_ld (ins : Instr) (len : Nat) (pc : Nat) (ls : tw_L) (st : List Value) : Option (Nat × tw_L × List Value) :=
  match ins with
  | .iload_n k => if len = 1 then (match ls[(k : Nat)]? with | some (some (.int x)) => some (pc + 1, ls, .int x :: st) | _ => none) else none
  | .iload i => if len = 2 then (match ls[i]? with | some (some (.int x)) => some (pc + 2, ls, .int x :: st) | _ => none) else none
  | .lload_n k => if len = 1 then (match ls[(k : Nat)]? with | some (some (.long x)) => some (pc + 1, ls, .long x :: st) | _ => none) else none
  | .lload i => if len = 2 then (match ls[i]? with | some (some (.long x)) => some (pc + 2, ls, .long x :: st) | _ => none) else none
  | .aload_n k => if len = 1 then (match ls[(k : Nat)]? with | some (some (.ref x)) => some (pc + 1, ls, .ref x :: st) | some (some .null) => some (pc + 1, ls, .null :: st) | some (some (.retAddr x)) => some (pc + 1, ls, .retAddr x :: st) | _ => none) else none
  | .aload i => if len = 2 then (match ls[i]? with | some (some (.ref x)) => some (pc + 2, ls, .ref x :: st) | some (some .null) => some (pc + 2, ls, .null :: st) | _ => none) else none
  | _ => none
def tw_so (m : Nat) (ins : Instr) (len : Nat) (pc : Nat) (ls : tw_L) (st : List Value) : Option (Nat × tw_L × List Value) :=
  match ins with
  | .istore_n k => if len = 1 then (match st with | .int x :: r => (tw_sto m k (.int x) ls).map (fun l => (pc + 1, l, r)) | _ => none) else none
  | .istore i => if len = 2 then (match st with | .int x :: r => (tw_sto m i (.int x) ls).map (fun l => (pc + 2, l, r)) | _ => none) else none
  | .astore_n k => if len = 1 then (match st with | .ref x :: r => (tw_sto m k (.ref x) ls).map (fun l => (pc + 1, l, r)) | .null :: r => (tw_sto m k .null ls).map (fun l => (pc + 1, l, r)) | _ => none) else none
  | .astore i => if len = 2 then (match st with | .ref x :: r => (tw_sto m i (.ref x) ls).map (fun l => (pc + 2, l, r)) | .null :: r => (tw_sto m i .null ls).map (fun l => (pc + 2, l, r)) | _ => none) else none
  | .iinc i n => if len = 3 then (match ls[i]? with | some (some (.int x)) => (tw_sto m i (.int (x + Int32.ofInt n)) ls).map (fun l => (pc + 3, l, st)) | _ => none) else none
  | _ => none
/-- constants and arithmetic -/
def tw_ar (ins : Instr) (len : Nat) (st : List Value) : Option (List Value) :=
  match ins with
  | .iconst n => if len = 1 then some (.int (Int32.ofInt n) :: st) else none
  | .bipush n => if len = 2 then some (.int (Int8.ofInt n).toInt32 :: st) else none
  | .sipush n => if len = 3 then some (.int (Int16.ofInt n).toInt32 :: st) else none
  | .lconst n => if len = 1 then some (.long (Int64.ofNat (n : Nat)) :: st) else none
  | .aconst_null => if len = 1 then some (.null :: st) else none
  | .iadd => if len = 1 then (match st with | .int y :: .int x :: r => some (.int (x + y) :: r) | _ => none) else none
  | .isub => if len = 1 then (match st with | .int y :: .int x :: r => some (.int (x - y) :: r) | _ => none) else none
  | .imul => if len = 1 then (match st with | .int y :: .int x :: r => some (.int (x * y) :: r) | _ => none) else none
  | .iand => if len = 1 then (match st with | .int y :: .int x :: r => some (.int (x &&& y) :: r) | _ => none) else none
  | .ior => if len = 1 then (match st with | .int y :: .int x :: r => some (.int (x ||| y) :: r) | _ => none) else none
  | .ixor => if len = 1 then (match st with | .int y :: .int x :: r => some (.int (x ^^^ y) :: r) | _ => none) else none
  | .ishl => if len = 1 then (match st with | .int y :: .int x :: r => some (.int (x <<< (y &&& 31)) :: r) | _ => none) else none
  | .ishr => if len = 1 then (match st with | .int y :: .int x :: r => some (.int (x >>> (y &&& 31)) :: r) | _ => none) else none
  | .idiv => if len = 1 then (match st with | .int y :: .int x :: r => if y = 0 then none else some (.int (x / y) :: r) | _ => none) else none
  | .irem => if len = 1 then (match st with | .int y :: .int x :: r => if y = 0 then none else some (.int (x - x / y * y) :: r) | _ => none) else none
  | .land => if len = 1 then (match st with | .long y :: .long x :: r => some (.long (x &&& y) :: r) | _ => none) else none
  | .lor => if len = 1 then (match st with | .long y :: .long x :: r => some (.long (x ||| y) :: r) | _ => none) else none
  | .lshl => if len = 1 then (match st with | .int y :: .long x :: r => some (.long (x <<< (y.toInt64 &&& 63)) :: r) | _ => none) else none
  | .lshr => if len = 1 then (match st with | .int y :: .long x :: r => some (.long (x >>> (y.toInt64 &&& 63)) :: r) | _ => none) else none
  | .lushr => if len = 1 then (match st with | .int y :: .long x :: r => some (.long (x.toUInt64 >>> (y.toInt64.toUInt64 &&& Int64.toUInt64 63)).toInt64 :: r) | _ => none) else none
  | .lcmp => if len = 1 then (match st with | .long y :: .long x :: r => some (.int (lg_cmp x y) :: r) | _ => none) else none
  | .i2l => if len = 1 then (match st with | .int x :: r => some (.long x.toInt64 :: r) | _ => none) else none
  | .l2i => if len = 1 then (match st with | .long x :: r => some (.int x.toInt32 :: r) | _ => none) else none
  | .dup => if len = 1 then (match st with | v :: r => if v.category = 1 then some (v :: v :: r) else none | _ => none) else none
  | .dup2 => if len = 1 then (match st with | v :: w :: r => if v.category = 1 ∧ w.category = 1 then some (v :: w :: v :: w :: r) else none | _ => none) else none
  | .pop => if len = 1 then (match st with | v :: r => if v.category = 1 then some r else none | _ => none) else none
  | _ => none
/-- jumps -/
def tw_jp (ins : Instr) (len : Nat) (pc : Nat) (ls : tw_L) (st : List Value) : Option (Nat × tw_L × List Value) :=
  match ins with
  | .ifCond b off => if len = 3 ∧ 0 ≤ (pc : Int) + off then (match st with | .int x :: r => if tw_ci b x 0 = true then tw_to pc off ls r else some (pc + 3, ls, r) | _ => none) else none
  | .if_icmp b off => if len = 3 ∧ 0 ≤ (pc : Int) + off then (match st with | .int y :: .int x :: r => if tw_ci b x y = true then tw_to pc off ls r else some (pc + 3, ls, r) | _ => none) else none
  | .goto off => if len = 3 then tw_to pc off ls st else none
  | .ifnull off => if len = 3 then (match st with | .ref _ :: r => some (pc + 3, ls, r) | .null :: r => tw_to pc off ls r | _ => none) else none
  | .ifnonnull off => if len = 3 then (match st with | .ref _ :: r => tw_to pc off ls r | .null :: r => some (pc + 3, ls, r) | _ => none) else none
  | .tableswitch dflt lo hi offs => (match st with
    | .int x :: r => if x.toInt < lo ∨ hi < x.toInt then tw_to pc dflt ls r else (match offs[(x.toInt - lo).toNat]? with | some off => tw_to pc off ls r | none => none)
    | _ => none)
  | .lookupswitch dflt ps => (match st with
    | .int x :: r => if (ps.toList.zip (ps.toList.drop 1)).all (fun (a, next) => a.1 < next.1) = true then tw_to pc (Op.lookupswitch.offset ps.toList dflt x.toInt) ls r else none
    | _ => none)
  | _ => none
/-- what touches the cells; 'd': how many calls may stand open still -/
def tw_rd (sc : Nat × (Nat → Int32)) (m : Nat) (d : Nat) (ins : Instr) (len : Nat) (st : List Value) (g : tw_G) (mi : tw_I) (mr : tw_Q) : Option (List Value) :=
  match ins with
  | .getfield i => if len = 3 then (match st with
    | .ref a :: r => (match tw_fld (tw_ow m) i with
      | some q => if tw_kd g a = q.2.2.1 then (if tw_rf q.2.2.1 q.2.2.2.1 = true then some (va_rf (mr a q.2.2.2.1) :: r) else some (.int (mi a q.2.2.2.1) :: r)) else none
      | none => none)
    | _ => none) else none
  | .iaload => if len = 1 then (match st with
    | .int j :: .ref a :: r => if tw_kd g a = 20 ∧ ¬ (j < 0 ∨ tw_ln g a ≤ j.toNatClampNeg) then some (.int (mi a j.toNatClampNeg) :: r) else none
    | .int j :: .retAddr _ :: r => if ¬ (j < 0 ∨ sc.1 ≤ j.toNatClampNeg) then some (.int (sc.2 j.toNatClampNeg) :: r) else none
    | _ => none) else none
  | .baload => if len = 1 then (match st with
    | .int j :: .ref a :: r => if tw_kd g a = 21 ∧ ¬ (j < 0 ∨ tw_ln g a ≤ j.toNatClampNeg) then some (.int (mi a j.toNatClampNeg) :: r) else none
    | _ => none) else none
  | .aaload => if len = 1 then (match st with
    | .int j :: .ref a :: r => if tw_kd g a = 22 ∧ ¬ (j < 0 ∨ tw_ln g a ≤ j.toNatClampNeg) then some (va_rf (mr a j.toNatClampNeg) :: r) else none
    | _ => none) else none
  | .arraylength => if len = 1 then (match st with
    | .retAddr _ :: r => some (.int (Int32.ofNat sc.1) :: r)
    | _ => none) else none
  | .ldc i => if len = 2 then (match tw_ldc (tw_ow m) i with | some q => some (.int q.2.2.1 :: st) | none => none) else none
  | .ldc2_w i => if len = 3 then (match tw_ldl (tw_ow m) i with | some q => some (.long q.2.2.1 :: st) | none => none) else none
  | .invokestatic i => if len = 3 then (match st with
    | .int y :: .int x :: r => (match tw_mat (tw_ow m) i with
      | some q => if 1 ≤ d ∧ r.length ≤ 4 then (if q.2.2.1 = true then some (.int (if x < y then y else x) :: r) else some (.int (if y < x then y else x) :: r)) else none
      | none => none)
    | _ => none) else none
  | .invokespecial i => if len = 3 then (match st with
    | .ref _ :: r => (match tw_oin (tw_ow m) i with
      | some _ => if 1 ≤ d ∧ r.length ≤ 4 then some r else none
      | none => none)
    | _ => none) else none
  | _ => none
def tw_gn (g : tw_G) (k n s : Nat) : tw_G := (g.1 + 1, g.2.1 + s, tw_st g.2.2 g.1 (k, n))
def tw_wr (m : Nat) (ins : Instr) (len : Nat) (st : List Value) (g : tw_G) (mi : tw_I) (mr : tw_Q) : Option (List Value × tw_G × tw_I × tw_Q) :=
  match ins with
  | .putfield i => if len = 3 then (match tw_fld (tw_ow m) i with
    | some q => if q.2.2.2.2.1 = false ∧ ((tw_fd q.2.2.1 q.2.2.2.1).2.2.1 = false ∨ ((tw_y m).name = "<init>" ∧ q.2.2.1 = tw_ow m)) then
        (match st with
        | .int x :: .ref a :: r => if tw_kd g a = q.2.2.1 ∧ (tw_ty q.2.2.1 q.2.2.2.1 = .int ∨ (tw_ty q.2.2.1 q.2.2.2.1 = .boolean ∧ (x = 0 ∨ x = 1))) then some (r, g, tw_st mi a (tw_st (mi a) q.2.2.2.1 x), mr) else none
        | .ref b :: .ref a :: r => if tw_kd g a = q.2.2.1 ∧ tw_rf q.2.2.1 q.2.2.2.1 = true then some (r, g, mi, tw_st mr a (tw_st (mr a) q.2.2.2.1 (some b))) else none
        | _ => none)
      else none
    | none => none) else none
  | .iastore => if len = 1 then (match st with
    | .int x :: .int j :: .ref a :: r => if tw_kd g a = 20 ∧ ¬ (j < 0 ∨ tw_ln g a ≤ j.toNatClampNeg) then some (r, g, tw_st mi a (tw_st (mi a) j.toNatClampNeg x), mr) else none
    | _ => none) else none
  | .bastore => if len = 1 then (match st with
    | .int x :: .int j :: .ref a :: r => if tw_kd g a = 21 ∧ (x = 0 ∨ x = 1) ∧ ¬ (j < 0 ∨ tw_ln g a ≤ j.toNatClampNeg) then some (r, g, tw_st mi a (tw_st (mi a) j.toNatClampNeg x), mr) else none
    | _ => none) else none
  | .aastore => if len = 1 then (match st with
    | .ref b :: .int j :: .ref a :: r => if tw_kd g a = 22 ∧ tw_kd g b = 2 ∧ ¬ (j < 0 ∨ tw_ln g a ≤ j.toNatClampNeg) then some (r, g, mi, tw_st mr a (tw_st (mr a) j.toNatClampNeg (some b))) else none
    | _ => none) else none
  | .new i => if len = 3 then (match tw_new (tw_ow m) i with
    | some q => some (.ref g.1 :: st, tw_gn g q.2.2.1 0 (tw_N q.2.2.1), tw_st mi g.1 (fun _ => 0), tw_st mr g.1 (fun _ => none))
    | none => none) else none
  | .newarray .int => if len = 2 then (match st with
    | .int n :: r => if ¬ n < 0 ∧ n.toNatClampNeg ≤ 100000 then some (.ref g.1 :: r, tw_gn g 20 n.toNatClampNeg n.toNatClampNeg, tw_st mi g.1 (fun _ => 0), tw_st mr g.1 (fun _ => none)) else none
    | _ => none) else none
  | .newarray .boolean => if len = 2 then (match st with
    | .int n :: r => if ¬ n < 0 ∧ n.toNatClampNeg ≤ 100000 then some (.ref g.1 :: r, tw_gn g 21 n.toNatClampNeg n.toNatClampNeg, tw_st mi g.1 (fun _ => 0), tw_st mr g.1 (fun _ => none)) else none
    | _ => none) else none
  | .anewarray i => if len = 3 ∧ tw_ow m = 1 ∧ i = 9 then (match st with
    | .int n :: r => if ¬ n < 0 ∧ n.toNatClampNeg ≤ 100000 then some (.ref g.1 :: r, tw_gn g 22 n.toNatClampNeg n.toNatClampNeg, tw_st mi g.1 (fun _ => 0), tw_st mr g.1 (fun _ => none)) else none
    | _ => none) else none
  | _ => none
def tw_en : List Value → tw_L
  | [] => []
  | v :: t => if v.category = 2 then some v :: none :: tw_en t else some v :: tw_en t
def tw_lg : Nat → List Value → List Nat
  | _, [] => []
  | i, v :: t => if v.category = 2 then i :: tw_lg (i + 2) t else tw_lg (i + 1) t
/-- a call: of which method, with which arguments, and what stays on the stack -/
def tw_ca (m : Nat) (ins : Instr) (len : Nat) (st : List Value) (g : tw_G) : Option (Nat × List Value × List Value) :=
  match ins with
  | .invokestatic i => if len = 3 then (match tw_cal (tw_ow m) i with
    | some q => if q.2.2.1 % 3 = 0 ∧ q.2.2.2.2.1 ≤ st.length then some (q.2.2.2.1, (st.take q.2.2.2.2.1).reverse, st.drop q.2.2.2.2.1) else none
    | none => none) else none
  | .invokevirtual i => if len = 3 then (match tw_cal (tw_ow m) i with
    | some q => if q.2.2.1 = 1 ∧ q.2.2.2.2.1 ≤ st.length then (match st.drop q.2.2.2.2.1 with
      | .ref b :: r => if tw_kd g b = tw_ow q.2.2.2.1 then some (q.2.2.2.1, .ref b :: (st.take q.2.2.2.2.1).reverse, r) else none
      | _ => none) else none
    | none => none) else none
  | .invokespecial i => if len = 3 then (match tw_cal (tw_ow m) i with
    | some q => if q.2.2.1 % 3 = 2 ∧ q.2.2.2.2.1 ≤ st.length then (match st.drop q.2.2.2.2.1 with
      | .ref b :: r => some (q.2.2.2.1, .ref b :: (st.take q.2.2.2.2.1).reverse, r)
      | _ => none) else none
    | none => none) else none
  | _ => none
def tw_re (m : Nat) (ins : Instr) (len : Nat) (st : List Value) : Option (Option Value) :=
  match ins with
  | .ireturn => if len = 1 then (match st with
    | [.int v] => (match tw_rt m with
      | some .int => some (some (.int v))
      | some .boolean => if v = 0 ∨ v = 1 then some (some (.int v)) else none
      | _ => none)
    | _ => none) else none
  | .areturn => if len = 1 then (match st with
    | [.ref a] => (match tw_rt m with | some (.object _) => some (some (.ref a)) | _ => none)
    | [.null] => (match tw_rt m with | some (.object _) => some (some .null) | _ => none)
    | _ => none) else none
  | .return_ => if len = 1 then (match st with
    | [] => (match tw_rt m with | none => some none | _ => none)
    | _ => none) else none
  | _ => none
def tw_lo (m : Nat) (ins : Instr) (len : Nat) (pc : Nat) (ls : tw_L) (st : List Value) : Option (Nat × tw_L × List Value) :=
  match tw_ar ins len st with
  | some st' => some (pc + len, ls, st')
  | none => match tw_ld ins len pc ls st with
    | some r => some r
    | none => match tw_so m ins len pc ls st with
      | some r => some r
      | none => tw_jp ins len pc ls st
def tw_hp (sc : Nat × (Nat → Int32)) (m : Nat) (d : Nat) (ins : Instr) (len : Nat) (st : List Value) (g : tw_G) (mi : tw_I) (mr : tw_Q) : Option (List Value × tw_G × tw_I × tw_Q) :=
  match tw_rd sc m d ins len st g mi mr with
  | some st' => some (st', g, mi, mr)
  | none => tw_wr m ins len st g mi mr
def tw_n0 (k : Nat) (as : List Value) : tw_L := tw_en as ++ List.replicate (tw_ml k - (tw_en as).length) none
def tw_run (sc : Nat × (Nat → Int32)) : Nat → Nat → Nat → Nat → tw_L → List Value → tw_G → tw_I → tw_Q → Option (Option Value × tw_G × tw_I × tw_Q)
  | 0, _, _, _, _, _, _, _, _ => none
  | f + 1, d, m, pc, ls, st, g, mi, mr =>
    match decode (tw_cd m) pc with
    | .error _ => none
    | .ok (ins, len) =>
      match tw_lo m ins len pc ls st with
      | some (pc', ls', st') => tw_run sc f d m pc' ls' st' g mi mr
      | none => match tw_hp sc m d ins len st g mi mr with
        | some (st', g', mi', mr') => tw_run sc f d m (pc + len) ls st' g' mi' mr'
        | none => match tw_ca m ins len st g with
          | some (k, as, r) =>
            if 1 ≤ d ∧ r.length ≤ 4 ∧ k < tw_ny ∧ tw_lg 0 as = tw_lp k ∧ (tw_en as).length ≤ tw_ml k then
              match tw_run sc f (d - 1) k 0 (tw_n0 k as) [] g mi mr with
              | some (v, g', mi', mr') => tw_run sc f d m (pc + 3) ls (v.toList ++ r) g' mi' mr'
              | none => none
            else none
          | none => match tw_re m ins len st with
            | some v => some (v, g, mi, mr)
            | none => none
/-- from here the machine comes to the end of its method, and the end is as Q says -/
def tw_E (sc : Nat × (Nat → Int32)) (d m pc : Nat) (ls : tw_L) (st : List Value) (g : tw_G) (mi : tw_I) (mr : tw_Q) (Q : Option Value → tw_G → tw_I → tw_Q → Prop) : Prop :=
  ∃ (f : Nat) (v : Option Value) (g' : tw_G) (mi' : tw_I) (mr' : tw_Q), tw_run sc f d m pc ls st g mi mr = some (v, g', mi', mr') ∧ Q v g' mi' mr'
end
section
/-! the laws of the small machine: printed by wip/whole/gen2.py -/
section tw_laws
variable {sc : Nat × (Nat → Int32)} {d m pc : Nat} {ls : tw_L} {st : List Value} {g : tw_G} {mi : tw_I} {mr : tw_Q} {Q : Option Value → tw_G → tw_I → tw_Q → Prop}
theorem tw_mono1 : ∀ (f : Nat) (d m pc : Nat) (ls : tw_L) (st : List Value) (g : tw_G) (mi : tw_I) (mr : tw_Q) (r : Option Value × tw_G × tw_I × tw_Q), tw_run sc f d m pc ls st g mi mr = some r → tw_run sc (f + 1) d m pc ls st g mi mr = some r := by
  intro f
  induction f with
  | zero => intro d m pc ls st g mi mr r h; rw [tw_run] at h; cases h
  | succ f ih =>
    intro d m pc ls st g mi mr r h
    rw [tw_run] at h ⊢
    cases hd : decode (tw_cd m) pc with
    | error z => rw [hd] at h; cases h
    | ok q =>
      obtain ⟨ins, len⟩ := q
      simp only [hd] at h ⊢
      cases hl : tw_lo m ins len pc ls st with
      | some q => simp only [hl] at h ⊢; exact ih _ _ _ _ _ _ _ _ _ h
      | none =>
        simp only [hl] at h ⊢
        cases hh : tw_hp sc m d ins len st g mi mr with
        | some q => simp only [hh] at h ⊢; exact ih _ _ _ _ _ _ _ _ _ h
        | none =>
          simp only [hh] at h ⊢
          cases hc : tw_ca m ins len st g with
          | none => simp only [hc] at h ⊢; exact h
          | some q =>
            obtain ⟨k, as, r⟩ := q
            simp only [hc] at h ⊢
            split at h
            next hcond =>
              rw [if_pos hcond]
              cases h1 : tw_run sc f (d - 1) k 0 (tw_n0 k as) [] g mi mr with
              | none => simp only [h1] at h; cases h
              | some q => simp only [h1] at h; simp only [ih _ _ _ _ _ _ _ _ _ h1]; exact ih _ _ _ _ _ _ _ _ _ h
            next => cases h
theorem tw_mono {f f' : Nat} (hf : f ≤ f') {r : Option Value × tw_G × tw_I × tw_Q} (h : tw_run sc f d m pc ls st g mi mr = some r) : tw_run sc f' d m pc ls st g mi mr = some r := by
  induction hf with
  | refl => exact h
  | step _ ih => exact tw_mono1 _ _ _ _ _ _ _ _ _ _ ih
theorem tw_E_lo {ins : Instr} {len pc' : Nat} {ls' : tw_L} {st' : List Value} (hd : decode (tw_cd m) pc = .ok (ins, len)) (hl : tw_lo m ins len pc ls st = some (pc', ls', st')) : tw_E sc d m pc ls st g mi mr Q = tw_E sc d m pc' ls' st' g mi mr Q := by
  refine propext ⟨fun ⟨f, v, g1, i1, r1, h, hq⟩ => ?_, fun ⟨f, v, g1, i1, r1, h, hq⟩ => ⟨f + 1, v, g1, i1, r1, ?_, hq⟩⟩
  · cases f with
    | zero => rw [tw_run] at h; cases h
    | succ f =>
      rw [tw_run] at h
      simp only [hd, hl] at h
      exact ⟨f, v, g1, i1, r1, h, hq⟩
  · rw [tw_run]
    simp only [hd, hl]
    exact h
theorem tw_E_hp {ins : Instr} {len : Nat} {st' : List Value} {g' : tw_G} {mi' : tw_I} {mr' : tw_Q} (hd : decode (tw_cd m) pc = .ok (ins, len)) (hl : tw_lo m ins len pc ls st = none) (hh : tw_hp sc m d ins len st g mi mr = some (st', g', mi', mr')) : tw_E sc d m pc ls st g mi mr Q = tw_E sc d m (pc + len) ls st' g' mi' mr' Q := by
  refine propext ⟨fun ⟨f, v, g1, i1, r1, h, hq⟩ => ?_, fun ⟨f, v, g1, i1, r1, h, hq⟩ => ⟨f + 1, v, g1, i1, r1, ?_, hq⟩⟩
  · cases f with
    | zero => rw [tw_run] at h; cases h
    | succ f =>
      rw [tw_run] at h
      simp only [hd, hl, hh] at h
      exact ⟨f, v, g1, i1, r1, h, hq⟩
  · rw [tw_run]
    simp only [hd, hl, hh]
    exact h
theorem tw_E_no {ins : Instr} {len : Nat} (hd : decode (tw_cd m) pc = .ok (ins, len)) (hl : tw_lo m ins len pc ls st = none) (hh : tw_hp sc m d ins len st g mi mr = none) (hc : tw_ca m ins len st g = none) (hr : tw_re m ins len st = none) : tw_E sc d m pc ls st g mi mr Q = False := by
  refine propext ⟨fun ⟨f, v, g1, i1, r1, h, hq⟩ => ?_, fun h => h.elim⟩
  cases f with
  | zero => rw [tw_run] at h; cases h
  | succ f =>
    rw [tw_run] at h
    simp only [hd, hl, hh, hc, hr] at h
    cases h
theorem tw_E_re {ins : Instr} {len : Nat} {v : Option Value} (hd : decode (tw_cd m) pc = .ok (ins, len)) (hl : tw_lo m ins len pc ls st = none) (hh : tw_hp sc m d ins len st g mi mr = none) (hc : tw_ca m ins len st g = none) (hr : tw_re m ins len st = some v) : tw_E sc d m pc ls st g mi mr Q = Q v g mi mr := by
  refine propext ⟨fun ⟨f, v, g1, i1, r1, h, hq⟩ => ?_, fun h => ⟨1, v, g, mi, mr, ?_, h⟩⟩
  · cases f with
    | zero => rw [tw_run] at h; cases h
    | succ f =>
      rw [tw_run] at h
      simp only [hd, hl, hh, hc, hr] at h
      cases h
      exact hq
  · rw [tw_run]
    simp only [hd, hl, hh, hc, hr]
/-- what is done behind a call -/
def tw_K (sc : Nat × (Nat → Int32)) (d m pc : Nat) (ls : tw_L) (r : List Value) (Q : Option Value → tw_G → tw_I → tw_Q → Prop) : Option Value → tw_G → tw_I → tw_Q → Prop := fun v g mi mr => tw_E sc d m pc ls (v.toList ++ r) g mi mr Q
theorem tw_K_s {r : List Value} {v : Value} : tw_K sc d m pc ls r Q (some v) g mi mr = tw_E sc d m pc ls (v :: r) g mi mr Q := rfl
theorem tw_K_n {r : List Value} : tw_K sc d m pc ls r Q none g mi mr = tw_E sc d m pc ls r g mi mr Q := rfl
theorem tw_E_ca {ins : Instr} {len k : Nat} {as r : List Value} (hd : decode (tw_cd m) pc = .ok (ins, len)) (hl : tw_lo m ins len pc ls st = none) (hh : tw_hp sc m (d + 1) ins len st g mi mr = none) (hc : tw_ca m ins len st g = some (k, as, r)) (hcond : (decide (r.length ≤ 4) && (decide (k < tw_ny) && (decide (tw_lg 0 as = tw_lp k) && decide ((tw_en as).length ≤ tw_ml k)))) = true) : tw_E sc (d + 1) m pc ls st g mi mr Q = tw_E sc d k 0 (tw_n0 k as) [] g mi mr (tw_K sc (d + 1) m (pc + 3) ls r Q) := by
  simp only [Bool.and_eq_true, decide_eq_true_eq] at hcond
  have hcond : 1 ≤ d + 1 ∧ r.length ≤ 4 ∧ k < tw_ny ∧ tw_lg 0 as = tw_lp k ∧ (tw_en as).length ≤ tw_ml k := ⟨by omega, hcond⟩
  refine propext ⟨fun ⟨f, v, g1, i1, r1, h, hq⟩ => ?_, fun ⟨f, v, g1, i1, r1, h, f2, v2, g2, i2, r2, h2, hq⟩ => ⟨f + f2 + 1, v2, g2, i2, r2, ?_, hq⟩⟩
  · cases f with
    | zero => rw [tw_run] at h; cases h
    | succ f =>
      rw [tw_run] at h
      simp only [hd, hl, hh, hc, if_pos hcond] at h
      cases h1 : tw_run sc f (d + 1 - 1) k 0 (tw_n0 k as) [] g mi mr with
      | none => simp only [h1] at h; cases h
      | some q =>
        simp only [h1] at h
        exact ⟨f, q.1, q.2.1, q.2.2.1, q.2.2.2, h1, f, v, g1, i1, r1, h, hq⟩
  · rw [tw_run]
    simp only [hd, hl, hh, hc, if_pos hcond]
    have h1 : tw_run sc (f + f2) (d + 1 - 1) k 0 (tw_n0 k as) [] g mi mr = some (v, g1, i1, r1) := tw_mono (by omega) h
    simp only [h1]
    exact tw_mono (by omega) h2
/-! an instruction each -/
theorem tw_x_iconst {n : Int} {v : Int32} (hd : decode (tw_cd m) pc = .ok (.iconst n, 1)) (hv : Int32.ofInt n = v) : tw_E sc d m pc ls (st) g mi mr Q = tw_E sc d m (pc + 1) ls (.int v :: st) g mi mr Q := tw_E_lo hd (by simp [tw_lo, tw_ar, hv])
theorem tw_x_bipush {n : Int} {v : Int32} (hd : decode (tw_cd m) pc = .ok (.bipush n, 2)) (hv : (Int8.ofInt n).toInt32 = v) : tw_E sc d m pc ls (st) g mi mr Q = tw_E sc d m (pc + 2) ls (.int v :: st) g mi mr Q := tw_E_lo hd (by simp [tw_lo, tw_ar, hv])
theorem tw_x_sipush {n : Int} {v : Int32} (hd : decode (tw_cd m) pc = .ok (.sipush n, 3)) (hv : (Int16.ofInt n).toInt32 = v) : tw_E sc d m pc ls (st) g mi mr Q = tw_E sc d m (pc + 3) ls (.int v :: st) g mi mr Q := tw_E_lo hd (by simp [tw_lo, tw_ar, hv])
theorem tw_x_lconst {n : Fin 2} {v : Int64} (hd : decode (tw_cd m) pc = .ok (.lconst n, 1)) (hv : Int64.ofNat (n : Nat) = v) : tw_E sc d m pc ls (st) g mi mr Q = tw_E sc d m (pc + 1) ls (.long v :: st) g mi mr Q := tw_E_lo hd (by simp [tw_lo, tw_ar, hv])
theorem tw_x_aconst_null (hd : decode (tw_cd m) pc = .ok (.aconst_null, 1)) : tw_E sc d m pc ls (st) g mi mr Q = tw_E sc d m (pc + 1) ls (.null :: st) g mi mr Q := tw_E_lo hd (by simp [tw_lo, tw_ar])
theorem tw_x_iadd {x y : Int32} (hd : decode (tw_cd m) pc = .ok (.iadd, 1)) : tw_E sc d m pc ls (.int y :: .int x :: st) g mi mr Q = tw_E sc d m (pc + 1) ls (.int (x + y) :: st) g mi mr Q := tw_E_lo hd (by simp [tw_lo, tw_ar])
theorem tw_x_isub {x y : Int32} (hd : decode (tw_cd m) pc = .ok (.isub, 1)) : tw_E sc d m pc ls (.int y :: .int x :: st) g mi mr Q = tw_E sc d m (pc + 1) ls (.int (x - y) :: st) g mi mr Q := tw_E_lo hd (by simp [tw_lo, tw_ar])
theorem tw_x_imul {x y : Int32} (hd : decode (tw_cd m) pc = .ok (.imul, 1)) : tw_E sc d m pc ls (.int y :: .int x :: st) g mi mr Q = tw_E sc d m (pc + 1) ls (.int (x * y) :: st) g mi mr Q := tw_E_lo hd (by simp [tw_lo, tw_ar])
theorem tw_x_iand {x y : Int32} (hd : decode (tw_cd m) pc = .ok (.iand, 1)) : tw_E sc d m pc ls (.int y :: .int x :: st) g mi mr Q = tw_E sc d m (pc + 1) ls (.int (x &&& y) :: st) g mi mr Q := tw_E_lo hd (by simp [tw_lo, tw_ar])
theorem tw_x_ior {x y : Int32} (hd : decode (tw_cd m) pc = .ok (.ior, 1)) : tw_E sc d m pc ls (.int y :: .int x :: st) g mi mr Q = tw_E sc d m (pc + 1) ls (.int (x ||| y) :: st) g mi mr Q := tw_E_lo hd (by simp [tw_lo, tw_ar])
theorem tw_x_ixor {x y : Int32} (hd : decode (tw_cd m) pc = .ok (.ixor, 1)) : tw_E sc d m pc ls (.int y :: .int x :: st) g mi mr Q = tw_E sc d m (pc + 1) ls (.int (x ^^^ y) :: st) g mi mr Q := tw_E_lo hd (by simp [tw_lo, tw_ar])
theorem tw_x_ishl {x y : Int32} (hd : decode (tw_cd m) pc = .ok (.ishl, 1)) : tw_E sc d m pc ls (.int y :: .int x :: st) g mi mr Q = tw_E sc d m (pc + 1) ls (.int (x <<< (y &&& 31)) :: st) g mi mr Q := tw_E_lo hd (by simp [tw_lo, tw_ar])
theorem tw_x_ishr {x y : Int32} (hd : decode (tw_cd m) pc = .ok (.ishr, 1)) : tw_E sc d m pc ls (.int y :: .int x :: st) g mi mr Q = tw_E sc d m (pc + 1) ls (.int (x >>> (y &&& 31)) :: st) g mi mr Q := tw_E_lo hd (by simp [tw_lo, tw_ar])
theorem tw_x_land {x y : Int64} (hd : decode (tw_cd m) pc = .ok (.land, 1)) : tw_E sc d m pc ls (.long y :: .long x :: st) g mi mr Q = tw_E sc d m (pc + 1) ls (.long (x &&& y) :: st) g mi mr Q := tw_E_lo hd (by simp [tw_lo, tw_ar])
theorem tw_x_lor {x y : Int64} (hd : decode (tw_cd m) pc = .ok (.lor, 1)) : tw_E sc d m pc ls (.long y :: .long x :: st) g mi mr Q = tw_E sc d m (pc + 1) ls (.long (x ||| y) :: st) g mi mr Q := tw_E_lo hd (by simp [tw_lo, tw_ar])
theorem tw_x_lcmp {x y : Int64} (hd : decode (tw_cd m) pc = .ok (.lcmp, 1)) : tw_E sc d m pc ls (.long y :: .long x :: st) g mi mr Q = tw_E sc d m (pc + 1) ls (.int (lg_cmp x y) :: st) g mi mr Q := tw_E_lo hd (by simp [tw_lo, tw_ar])
theorem tw_x_lshl {x : Int64} {y : Int32} (hd : decode (tw_cd m) pc = .ok (.lshl, 1)) : tw_E sc d m pc ls (.int y :: .long x :: st) g mi mr Q = tw_E sc d m (pc + 1) ls (.long (x <<< (y.toInt64 &&& 63)) :: st) g mi mr Q := tw_E_lo hd (by simp [tw_lo, tw_ar])
theorem tw_x_lshr {x : Int64} {y : Int32} (hd : decode (tw_cd m) pc = .ok (.lshr, 1)) : tw_E sc d m pc ls (.int y :: .long x :: st) g mi mr Q = tw_E sc d m (pc + 1) ls (.long (x >>> (y.toInt64 &&& 63)) :: st) g mi mr Q := tw_E_lo hd (by simp [tw_lo, tw_ar])
theorem tw_x_lushr {x : Int64} {y : Int32} (hd : decode (tw_cd m) pc = .ok (.lushr, 1)) : tw_E sc d m pc ls (.int y :: .long x :: st) g mi mr Q = tw_E sc d m (pc + 1) ls (.long ((x.toUInt64 >>> (y.toInt64.toUInt64 &&& Int64.toUInt64 63)).toInt64) :: st) g mi mr Q := tw_E_lo hd (by simp [tw_lo, tw_ar])
theorem tw_x_i2l {x : Int32} (hd : decode (tw_cd m) pc = .ok (.i2l, 1)) : tw_E sc d m pc ls (.int x :: st) g mi mr Q = tw_E sc d m (pc + 1) ls (.long x.toInt64 :: st) g mi mr Q := tw_E_lo hd (by simp [tw_lo, tw_ar])
theorem tw_x_l2i {x : Int64} (hd : decode (tw_cd m) pc = .ok (.l2i, 1)) : tw_E sc d m pc ls (.long x :: st) g mi mr Q = tw_E sc d m (pc + 1) ls (.int x.toInt32 :: st) g mi mr Q := tw_E_lo hd (by simp [tw_lo, tw_ar])
theorem tw_x_dup_int {x : Int32} (hd : decode (tw_cd m) pc = .ok (.dup, 1)) : tw_E sc d m pc ls (.int x :: st) g mi mr Q = tw_E sc d m (pc + 1) ls (.int x :: .int x :: st) g mi mr Q := tw_E_lo hd (by simp [tw_lo, tw_ar, Value.category])
theorem tw_x_pop_int {x : Int32} (hd : decode (tw_cd m) pc = .ok (.pop, 1)) : tw_E sc d m pc ls (.int x :: st) g mi mr Q = tw_E sc d m (pc + 1) ls (st) g mi mr Q := tw_E_lo hd (by simp [tw_lo, tw_ar, Value.category])
theorem tw_x_dup_ref {x : Nat} (hd : decode (tw_cd m) pc = .ok (.dup, 1)) : tw_E sc d m pc ls (.ref x :: st) g mi mr Q = tw_E sc d m (pc + 1) ls (.ref x :: .ref x :: st) g mi mr Q := tw_E_lo hd (by simp [tw_lo, tw_ar, Value.category])
theorem tw_x_pop_ref {x : Nat} (hd : decode (tw_cd m) pc = .ok (.pop, 1)) : tw_E sc d m pc ls (.ref x :: st) g mi mr Q = tw_E sc d m (pc + 1) ls (st) g mi mr Q := tw_E_lo hd (by simp [tw_lo, tw_ar, Value.category])
theorem tw_x_dup2_ir {x : Nat} {y : Int32} (hd : decode (tw_cd m) pc = .ok (.dup2, 1)) : tw_E sc d m pc ls (.int y :: .ref x :: st) g mi mr Q = tw_E sc d m (pc + 1) ls (.int y :: .ref x :: .int y :: .ref x :: st) g mi mr Q := tw_E_lo hd (by simp [tw_lo, tw_ar, Value.category])
theorem tw_x_idiv {x y : Int32} (hd : decode (tw_cd m) pc = .ok (.idiv, 1)) : tw_E sc d m pc ls (.int y :: .int x :: st) g mi mr Q = (¬ y = 0 ∧ tw_E sc d m (pc + 1) ls (.int (x / y) :: st) g mi mr Q) := by
  by_cases h : y = 0
  · rw [tw_E_no hd (by simp [tw_lo, tw_ar, tw_ld, tw_so, tw_jp, h]) (by simp [tw_hp, tw_rd, tw_wr]) (by simp [tw_ca]) (by simp [tw_re])]; simp [h]
  · rw [tw_E_lo hd (show tw_lo m .idiv 1 pc ls (.int y :: .int x :: st) = some (pc + 1, ls, .int (x / y) :: st) by simp [tw_lo, tw_ar, h])]; simp [h]
theorem tw_x_irem {x y : Int32} (hd : decode (tw_cd m) pc = .ok (.irem, 1)) : tw_E sc d m pc ls (.int y :: .int x :: st) g mi mr Q = (¬ y = 0 ∧ tw_E sc d m (pc + 1) ls (.int (x - x / y * y) :: st) g mi mr Q) := by
  by_cases h : y = 0
  · rw [tw_E_no hd (by simp [tw_lo, tw_ar, tw_ld, tw_so, tw_jp, h]) (by simp [tw_hp, tw_rd, tw_wr]) (by simp [tw_ca]) (by simp [tw_re])]; simp [h]
  · rw [tw_E_lo hd (show tw_lo m .irem 1 pc ls (.int y :: .int x :: st) = some (pc + 1, ls, .int (x - x / y * y) :: st) by simp [tw_lo, tw_ar, h])]; simp [h]
theorem tw_x_iload {k : Nat} {x : Int32} (hd : decode (tw_cd m) pc = .ok (.iload k, 2)) (hx : ls[k]? = some (some (.int x))) : tw_E sc d m pc ls st g mi mr Q = tw_E sc d m (pc + 2) ls (.int x :: st) g mi mr Q := tw_E_lo hd (by simp [tw_lo, tw_ar, tw_ld, hx])
theorem tw_x_iload_n {k : Fin 4} {x : Int32} (hd : decode (tw_cd m) pc = .ok (.iload_n k, 1)) (hx : ls[(k : Nat)]? = some (some (.int x))) : tw_E sc d m pc ls st g mi mr Q = tw_E sc d m (pc + 1) ls (.int x :: st) g mi mr Q := tw_E_lo hd (by simp [tw_lo, tw_ar, tw_ld, hx])
theorem tw_x_lload {k : Nat} {x : Int64} (hd : decode (tw_cd m) pc = .ok (.lload k, 2)) (hx : ls[k]? = some (some (.long x))) : tw_E sc d m pc ls st g mi mr Q = tw_E sc d m (pc + 2) ls (.long x :: st) g mi mr Q := tw_E_lo hd (by simp [tw_lo, tw_ar, tw_ld, hx])
theorem tw_x_lload_n {k : Fin 4} {x : Int64} (hd : decode (tw_cd m) pc = .ok (.lload_n k, 1)) (hx : ls[(k : Nat)]? = some (some (.long x))) : tw_E sc d m pc ls st g mi mr Q = tw_E sc d m (pc + 1) ls (.long x :: st) g mi mr Q := tw_E_lo hd (by simp [tw_lo, tw_ar, tw_ld, hx])
theorem tw_x_aload {k : Nat} {x : Nat} (hd : decode (tw_cd m) pc = .ok (.aload k, 2)) (hx : ls[k]? = some (some (.ref x))) : tw_E sc d m pc ls st g mi mr Q = tw_E sc d m (pc + 2) ls (.ref x :: st) g mi mr Q := tw_E_lo hd (by simp [tw_lo, tw_ar, tw_ld, hx])
theorem tw_x_aloadN {k : Nat} (hd : decode (tw_cd m) pc = .ok (.aload k, 2)) (hx : ls[k]? = some (some (.null))) : tw_E sc d m pc ls st g mi mr Q = tw_E sc d m (pc + 2) ls (.null :: st) g mi mr Q := tw_E_lo hd (by simp [tw_lo, tw_ar, tw_ld, hx])
theorem tw_x_aload_n {k : Fin 4} {x : Nat} (hd : decode (tw_cd m) pc = .ok (.aload_n k, 1)) (hx : ls[(k : Nat)]? = some (some (.ref x))) : tw_E sc d m pc ls st g mi mr Q = tw_E sc d m (pc + 1) ls (.ref x :: st) g mi mr Q := tw_E_lo hd (by simp [tw_lo, tw_ar, tw_ld, hx])
theorem tw_x_aload_nN {k : Fin 4} (hd : decode (tw_cd m) pc = .ok (.aload_n k, 1)) (hx : ls[(k : Nat)]? = some (some (.null))) : tw_E sc d m pc ls st g mi mr Q = tw_E sc d m (pc + 1) ls (.null :: st) g mi mr Q := tw_E_lo hd (by simp [tw_lo, tw_ar, tw_ld, hx])
theorem tw_x_aload_nS {k : Fin 4} {x : Nat} (hd : decode (tw_cd m) pc = .ok (.aload_n k, 1)) (hx : ls[(k : Nat)]? = some (some (.retAddr x))) : tw_E sc d m pc ls st g mi mr Q = tw_E sc d m (pc + 1) ls (.retAddr x :: st) g mi mr Q := tw_E_lo hd (by simp [tw_lo, tw_ar, tw_ld, hx])
theorem tw_x_istore {k : Nat} {x : Int32} {lp : List Nat} (hd : decode (tw_cd m) pc = .ok (.istore k, 2)) (hp : tw_lp m = lp) (hn : (decide (k < ls.length) && lp.all (fun j => k != j && k != j + 1)) = true) : tw_E sc d m pc ls (.int x :: st) g mi mr Q = tw_E sc d m (pc + 2) (ls.set k (some (.int x))) st g mi mr Q := by
  subst hp
  simp only [Bool.and_eq_true, decide_eq_true_eq] at hn
  exact tw_E_lo hd (by simp only [tw_lo, tw_ar, tw_ld, tw_so, tw_sto, if_pos hn, ↓reduceIte, Option.map_some])
theorem tw_x_istore_n {k : Fin 4} {x : Int32} {lp : List Nat} (hd : decode (tw_cd m) pc = .ok (.istore_n k, 1)) (hp : tw_lp m = lp) (hn : (decide ((k : Nat) < ls.length) && lp.all (fun j => (k : Nat) != j && (k : Nat) != j + 1)) = true) : tw_E sc d m pc ls (.int x :: st) g mi mr Q = tw_E sc d m (pc + 1) (ls.set (k : Nat) (some (.int x))) st g mi mr Q := by
  subst hp
  simp only [Bool.and_eq_true, decide_eq_true_eq] at hn
  exact tw_E_lo hd (by simp only [tw_lo, tw_ar, tw_ld, tw_so, tw_sto, if_pos hn, ↓reduceIte, Option.map_some])
theorem tw_x_astore {k : Nat} {x : Nat} {lp : List Nat} (hd : decode (tw_cd m) pc = .ok (.astore k, 2)) (hp : tw_lp m = lp) (hn : (decide (k < ls.length) && lp.all (fun j => k != j && k != j + 1)) = true) : tw_E sc d m pc ls (.ref x :: st) g mi mr Q = tw_E sc d m (pc + 2) (ls.set k (some (.ref x))) st g mi mr Q := by
  subst hp
  simp only [Bool.and_eq_true, decide_eq_true_eq] at hn
  exact tw_E_lo hd (by simp only [tw_lo, tw_ar, tw_ld, tw_so, tw_sto, if_pos hn, ↓reduceIte, Option.map_some])
theorem tw_x_astore_n {k : Fin 4} {x : Nat} {lp : List Nat} (hd : decode (tw_cd m) pc = .ok (.astore_n k, 1)) (hp : tw_lp m = lp) (hn : (decide ((k : Nat) < ls.length) && lp.all (fun j => (k : Nat) != j && (k : Nat) != j + 1)) = true) : tw_E sc d m pc ls (.ref x :: st) g mi mr Q = tw_E sc d m (pc + 1) (ls.set (k : Nat) (some (.ref x))) st g mi mr Q := by
  subst hp
  simp only [Bool.and_eq_true, decide_eq_true_eq] at hn
  exact tw_E_lo hd (by simp only [tw_lo, tw_ar, tw_ld, tw_so, tw_sto, if_pos hn, ↓reduceIte, Option.map_some])
theorem tw_x_astoreN {k : Nat} {lp : List Nat} (hd : decode (tw_cd m) pc = .ok (.astore k, 2)) (hp : tw_lp m = lp) (hn : (decide (k < ls.length) && lp.all (fun j => k != j && k != j + 1)) = true) : tw_E sc d m pc ls (.null :: st) g mi mr Q = tw_E sc d m (pc + 2) (ls.set k (some (.null))) st g mi mr Q := by
  subst hp
  simp only [Bool.and_eq_true, decide_eq_true_eq] at hn
  exact tw_E_lo hd (by simp only [tw_lo, tw_ar, tw_ld, tw_so, tw_sto, if_pos hn, ↓reduceIte, Option.map_some])
theorem tw_x_astore_nN {k : Fin 4} {lp : List Nat} (hd : decode (tw_cd m) pc = .ok (.astore_n k, 1)) (hp : tw_lp m = lp) (hn : (decide ((k : Nat) < ls.length) && lp.all (fun j => (k : Nat) != j && (k : Nat) != j + 1)) = true) : tw_E sc d m pc ls (.null :: st) g mi mr Q = tw_E sc d m (pc + 1) (ls.set (k : Nat) (some (.null))) st g mi mr Q := by
  subst hp
  simp only [Bool.and_eq_true, decide_eq_true_eq] at hn
  exact tw_E_lo hd (by simp only [tw_lo, tw_ar, tw_ld, tw_so, tw_sto, if_pos hn, ↓reduceIte, Option.map_some])
theorem tw_x_iinc {k : Nat} {n : Int} {x v : Int32} {lp : List Nat} (hd : decode (tw_cd m) pc = .ok (.iinc k n, 3)) (hx : ls[k]? = some (some (.int x))) (hv : x + Int32.ofInt n = v) (hp : tw_lp m = lp) (hn : (decide (k < ls.length) && lp.all (fun j => k != j && k != j + 1)) = true) : tw_E sc d m pc ls st g mi mr Q = tw_E sc d m (pc + 3) (ls.set k (some (.int v))) st g mi mr Q := by
  subst hp
  subst hv
  simp only [Bool.and_eq_true, decide_eq_true_eq] at hn
  exact tw_E_lo hd (by simp only [tw_lo, tw_ar, tw_ld, tw_so, hx, tw_sto, if_pos hn, ↓reduceIte, Option.map_some])
theorem tw_to_ok {off : Int} {t : Nat} (ht : (pc : Int) + off = (t : Int)) : tw_to pc off ls st = some (t, ls, st) := by
  simp only [tw_to, ht]
  rw [if_pos (by omega)]
  simp
theorem tw_x_goto {off : Int} {t : Nat} (hd : decode (tw_cd m) pc = .ok (.goto off, 3)) (ht : (pc : Int) + off = (t : Int)) : tw_E sc d m pc ls st g mi mr Q = tw_E sc d m t ls st g mi mr Q := tw_E_lo hd (by simp only [tw_lo, tw_ar, tw_ld, tw_so, tw_jp, tw_to_ok ht, ↓reduceIte])
theorem tw_x_if_eq {x : Int32} {off : Int} {t : Nat} (hd : decode (tw_cd m) pc = .ok (.ifCond .eq off, 3)) (ht : (pc : Int) + off = (t : Int)) : tw_E sc d m pc ls (.int x :: st) g mi mr Q = if x = 0 then tw_E sc d m t ls st g mi mr Q else tw_E sc d m (pc + 3) ls st g mi mr Q := by
  by_cases h : x = 0
  · rw [if_pos h]; exact tw_E_lo hd (by simp only [tw_lo, tw_ar, tw_ld, tw_so, tw_jp, tw_ci, h, decide_true, not_true_eq_false, not_false_eq_true, tw_to_ok ht, ht, Int.natCast_nonneg, and_self, ↓reduceIte])
  · rw [if_neg h]; exact tw_E_lo hd (by simp only [tw_lo, tw_ar, tw_ld, tw_so, tw_jp, tw_ci, h, decide_false, Bool.false_eq_true, ht, Int.natCast_nonneg, and_self, ↓reduceIte])
theorem tw_x_ic_eq {x y : Int32} {off : Int} {t : Nat} (hd : decode (tw_cd m) pc = .ok (.if_icmp .eq off, 3)) (ht : (pc : Int) + off = (t : Int)) : tw_E sc d m pc ls (.int y :: .int x :: st) g mi mr Q = if x = y then tw_E sc d m t ls st g mi mr Q else tw_E sc d m (pc + 3) ls st g mi mr Q := by
  by_cases h : x = y
  · rw [if_pos h]; exact tw_E_lo hd (by simp only [tw_lo, tw_ar, tw_ld, tw_so, tw_jp, tw_ci, h, decide_true, not_true_eq_false, not_false_eq_true, tw_to_ok ht, ht, Int.natCast_nonneg, and_self, ↓reduceIte])
  · rw [if_neg h]; exact tw_E_lo hd (by simp only [tw_lo, tw_ar, tw_ld, tw_so, tw_jp, tw_ci, h, decide_false, Bool.false_eq_true, ht, Int.natCast_nonneg, and_self, ↓reduceIte])
theorem tw_x_if_ne {x : Int32} {off : Int} {t : Nat} (hd : decode (tw_cd m) pc = .ok (.ifCond .ne off, 3)) (ht : (pc : Int) + off = (t : Int)) : tw_E sc d m pc ls (.int x :: st) g mi mr Q = if ¬ x = 0 then tw_E sc d m t ls st g mi mr Q else tw_E sc d m (pc + 3) ls st g mi mr Q := by
  by_cases h : ¬ x = 0
  · rw [if_pos h]; exact tw_E_lo hd (by simp only [tw_lo, tw_ar, tw_ld, tw_so, tw_jp, tw_ci, h, decide_true, not_true_eq_false, not_false_eq_true, tw_to_ok ht, ht, Int.natCast_nonneg, and_self, ↓reduceIte])
  · rw [if_neg h]; exact tw_E_lo hd (by simp only [tw_lo, tw_ar, tw_ld, tw_so, tw_jp, tw_ci, h, decide_false, Bool.false_eq_true, ht, Int.natCast_nonneg, and_self, ↓reduceIte])
theorem tw_x_ic_ne {x y : Int32} {off : Int} {t : Nat} (hd : decode (tw_cd m) pc = .ok (.if_icmp .ne off, 3)) (ht : (pc : Int) + off = (t : Int)) : tw_E sc d m pc ls (.int y :: .int x :: st) g mi mr Q = if ¬ x = y then tw_E sc d m t ls st g mi mr Q else tw_E sc d m (pc + 3) ls st g mi mr Q := by
  by_cases h : ¬ x = y
  · rw [if_pos h]; exact tw_E_lo hd (by simp only [tw_lo, tw_ar, tw_ld, tw_so, tw_jp, tw_ci, h, decide_true, not_true_eq_false, not_false_eq_true, tw_to_ok ht, ht, Int.natCast_nonneg, and_self, ↓reduceIte])
  · rw [if_neg h]; exact tw_E_lo hd (by simp only [tw_lo, tw_ar, tw_ld, tw_so, tw_jp, tw_ci, h, decide_false, Bool.false_eq_true, ht, Int.natCast_nonneg, and_self, ↓reduceIte])
theorem tw_x_if_lt {x : Int32} {off : Int} {t : Nat} (hd : decode (tw_cd m) pc = .ok (.ifCond .lt off, 3)) (ht : (pc : Int) + off = (t : Int)) : tw_E sc d m pc ls (.int x :: st) g mi mr Q = if x < 0 then tw_E sc d m t ls st g mi mr Q else tw_E sc d m (pc + 3) ls st g mi mr Q := by
  by_cases h : x < 0
  · rw [if_pos h]; exact tw_E_lo hd (by simp only [tw_lo, tw_ar, tw_ld, tw_so, tw_jp, tw_ci, h, decide_true, not_true_eq_false, not_false_eq_true, tw_to_ok ht, ht, Int.natCast_nonneg, and_self, ↓reduceIte])
  · rw [if_neg h]; exact tw_E_lo hd (by simp only [tw_lo, tw_ar, tw_ld, tw_so, tw_jp, tw_ci, h, decide_false, Bool.false_eq_true, ht, Int.natCast_nonneg, and_self, ↓reduceIte])
theorem tw_x_ic_lt {x y : Int32} {off : Int} {t : Nat} (hd : decode (tw_cd m) pc = .ok (.if_icmp .lt off, 3)) (ht : (pc : Int) + off = (t : Int)) : tw_E sc d m pc ls (.int y :: .int x :: st) g mi mr Q = if x < y then tw_E sc d m t ls st g mi mr Q else tw_E sc d m (pc + 3) ls st g mi mr Q := by
  by_cases h : x < y
  · rw [if_pos h]; exact tw_E_lo hd (by simp only [tw_lo, tw_ar, tw_ld, tw_so, tw_jp, tw_ci, h, decide_true, not_true_eq_false, not_false_eq_true, tw_to_ok ht, ht, Int.natCast_nonneg, and_self, ↓reduceIte])
  · rw [if_neg h]; exact tw_E_lo hd (by simp only [tw_lo, tw_ar, tw_ld, tw_so, tw_jp, tw_ci, h, decide_false, Bool.false_eq_true, ht, Int.natCast_nonneg, and_self, ↓reduceIte])
theorem tw_x_if_ge {x : Int32} {off : Int} {t : Nat} (hd : decode (tw_cd m) pc = .ok (.ifCond .ge off, 3)) (ht : (pc : Int) + off = (t : Int)) : tw_E sc d m pc ls (.int x :: st) g mi mr Q = if 0 ≤ x then tw_E sc d m t ls st g mi mr Q else tw_E sc d m (pc + 3) ls st g mi mr Q := by
  by_cases h : 0 ≤ x
  · rw [if_pos h]; exact tw_E_lo hd (by simp only [tw_lo, tw_ar, tw_ld, tw_so, tw_jp, tw_ci, h, decide_true, not_true_eq_false, not_false_eq_true, tw_to_ok ht, ht, Int.natCast_nonneg, and_self, ↓reduceIte])
  · rw [if_neg h]; exact tw_E_lo hd (by simp only [tw_lo, tw_ar, tw_ld, tw_so, tw_jp, tw_ci, h, decide_false, Bool.false_eq_true, ht, Int.natCast_nonneg, and_self, ↓reduceIte])
theorem tw_x_ic_ge {x y : Int32} {off : Int} {t : Nat} (hd : decode (tw_cd m) pc = .ok (.if_icmp .ge off, 3)) (ht : (pc : Int) + off = (t : Int)) : tw_E sc d m pc ls (.int y :: .int x :: st) g mi mr Q = if y ≤ x then tw_E sc d m t ls st g mi mr Q else tw_E sc d m (pc + 3) ls st g mi mr Q := by
  by_cases h : y ≤ x
  · rw [if_pos h]; exact tw_E_lo hd (by simp only [tw_lo, tw_ar, tw_ld, tw_so, tw_jp, tw_ci, h, decide_true, not_true_eq_false, not_false_eq_true, tw_to_ok ht, ht, Int.natCast_nonneg, and_self, ↓reduceIte])
  · rw [if_neg h]; exact tw_E_lo hd (by simp only [tw_lo, tw_ar, tw_ld, tw_so, tw_jp, tw_ci, h, decide_false, Bool.false_eq_true, ht, Int.natCast_nonneg, and_self, ↓reduceIte])
theorem tw_x_if_gt {x : Int32} {off : Int} {t : Nat} (hd : decode (tw_cd m) pc = .ok (.ifCond .gt off, 3)) (ht : (pc : Int) + off = (t : Int)) : tw_E sc d m pc ls (.int x :: st) g mi mr Q = if 0 < x then tw_E sc d m t ls st g mi mr Q else tw_E sc d m (pc + 3) ls st g mi mr Q := by
  by_cases h : 0 < x
  · rw [if_pos h]; exact tw_E_lo hd (by simp only [tw_lo, tw_ar, tw_ld, tw_so, tw_jp, tw_ci, h, decide_true, not_true_eq_false, not_false_eq_true, tw_to_ok ht, ht, Int.natCast_nonneg, and_self, ↓reduceIte])
  · rw [if_neg h]; exact tw_E_lo hd (by simp only [tw_lo, tw_ar, tw_ld, tw_so, tw_jp, tw_ci, h, decide_false, Bool.false_eq_true, ht, Int.natCast_nonneg, and_self, ↓reduceIte])
theorem tw_x_ic_gt {x y : Int32} {off : Int} {t : Nat} (hd : decode (tw_cd m) pc = .ok (.if_icmp .gt off, 3)) (ht : (pc : Int) + off = (t : Int)) : tw_E sc d m pc ls (.int y :: .int x :: st) g mi mr Q = if y < x then tw_E sc d m t ls st g mi mr Q else tw_E sc d m (pc + 3) ls st g mi mr Q := by
  by_cases h : y < x
  · rw [if_pos h]; exact tw_E_lo hd (by simp only [tw_lo, tw_ar, tw_ld, tw_so, tw_jp, tw_ci, h, decide_true, not_true_eq_false, not_false_eq_true, tw_to_ok ht, ht, Int.natCast_nonneg, and_self, ↓reduceIte])
  · rw [if_neg h]; exact tw_E_lo hd (by simp only [tw_lo, tw_ar, tw_ld, tw_so, tw_jp, tw_ci, h, decide_false, Bool.false_eq_true, ht, Int.natCast_nonneg, and_self, ↓reduceIte])
theorem tw_x_if_le {x : Int32} {off : Int} {t : Nat} (hd : decode (tw_cd m) pc = .ok (.ifCond .le off, 3)) (ht : (pc : Int) + off = (t : Int)) : tw_E sc d m pc ls (.int x :: st) g mi mr Q = if x ≤ 0 then tw_E sc d m t ls st g mi mr Q else tw_E sc d m (pc + 3) ls st g mi mr Q := by
  by_cases h : x ≤ 0
  · rw [if_pos h]; exact tw_E_lo hd (by simp only [tw_lo, tw_ar, tw_ld, tw_so, tw_jp, tw_ci, h, decide_true, not_true_eq_false, not_false_eq_true, tw_to_ok ht, ht, Int.natCast_nonneg, and_self, ↓reduceIte])
  · rw [if_neg h]; exact tw_E_lo hd (by simp only [tw_lo, tw_ar, tw_ld, tw_so, tw_jp, tw_ci, h, decide_false, Bool.false_eq_true, ht, Int.natCast_nonneg, and_self, ↓reduceIte])
theorem tw_x_ic_le {x y : Int32} {off : Int} {t : Nat} (hd : decode (tw_cd m) pc = .ok (.if_icmp .le off, 3)) (ht : (pc : Int) + off = (t : Int)) : tw_E sc d m pc ls (.int y :: .int x :: st) g mi mr Q = if x ≤ y then tw_E sc d m t ls st g mi mr Q else tw_E sc d m (pc + 3) ls st g mi mr Q := by
  by_cases h : x ≤ y
  · rw [if_pos h]; exact tw_E_lo hd (by simp only [tw_lo, tw_ar, tw_ld, tw_so, tw_jp, tw_ci, h, decide_true, not_true_eq_false, not_false_eq_true, tw_to_ok ht, ht, Int.natCast_nonneg, and_self, ↓reduceIte])
  · rw [if_neg h]; exact tw_E_lo hd (by simp only [tw_lo, tw_ar, tw_ld, tw_so, tw_jp, tw_ci, h, decide_false, Bool.false_eq_true, ht, Int.natCast_nonneg, and_self, ↓reduceIte])
theorem tw_x_ifnull {x : Nat} {off : Int} (hd : decode (tw_cd m) pc = .ok (.ifnull off, 3)) : tw_E sc d m pc ls (.ref x :: st) g mi mr Q = tw_E sc d m (pc + 3) ls st g mi mr Q := tw_E_lo hd (by simp only [tw_lo, tw_ar, tw_ld, tw_so, tw_jp, ↓reduceIte])
theorem tw_x_ifnullN {off : Int} {t : Nat} (hd : decode (tw_cd m) pc = .ok (.ifnull off, 3)) (ht : (pc : Int) + off = (t : Int)) : tw_E sc d m pc ls (.null :: st) g mi mr Q = tw_E sc d m t ls st g mi mr Q := tw_E_lo hd (by simp only [tw_lo, tw_ar, tw_ld, tw_so, tw_jp, tw_to_ok ht, ↓reduceIte])
theorem tw_x_ifnonnull {x : Nat} {off : Int} {t : Nat} (hd : decode (tw_cd m) pc = .ok (.ifnonnull off, 3)) (ht : (pc : Int) + off = (t : Int)) : tw_E sc d m pc ls (.ref x :: st) g mi mr Q = tw_E sc d m t ls st g mi mr Q := tw_E_lo hd (by simp only [tw_lo, tw_ar, tw_ld, tw_so, tw_jp, tw_to_ok ht, ↓reduceIte])
theorem tw_x_ifnonnullN {off : Int} (hd : decode (tw_cd m) pc = .ok (.ifnonnull off, 3)) : tw_E sc d m pc ls (.null :: st) g mi mr Q = tw_E sc d m (pc + 3) ls st g mi mr Q := tw_E_lo hd (by simp only [tw_lo, tw_ar, tw_ld, tw_so, tw_jp, ↓reduceIte])
/-- the place behind a switch over a row of numbers from lo on -/
def tw_sw (x : Int32) (lo : Int) (ts : List Nat) (dflt : Nat) : Nat := if x.toInt < lo then dflt else ts.getD (x.toInt - lo).toNat dflt
theorem tw_x_ts {dflt lo hi : Int} {offs : Array Int} {len t : Nat} {ts : List Nat} {x : Int32} (hd : decode (tw_cd m) pc = .ok (.tableswitch dflt lo hi offs, len)) (ht : (pc : Int) + dflt = (t : Int)) (hz : (ts.length : Int) = hi - lo + 1) (hs : offs.toList.map (fun o => (pc : Int) + o) = ts.map Int.ofNat) : tw_E sc d m pc ls (.int x :: st) g mi mr Q = tw_E sc d m (tw_sw x lo ts t) ls st g mi mr Q := by
  have hsz : offs.size = ts.length := by
    have := congrArg List.length hs
    simpa using this
  refine tw_E_lo hd ?_
  simp only [tw_lo, tw_ar, tw_ld, tw_so, tw_jp]
  by_cases h1 : x.toInt < lo
  · rw [if_pos (Or.inl h1), tw_to_ok ht]
    simp [tw_sw, h1]
  · by_cases h2 : hi < x.toInt
    · rw [if_pos (Or.inr h2), tw_to_ok ht]
      have h3 : ts.length ≤ (x.toInt - lo).toNat := by omega
      simp [tw_sw, h1, List.getD_eq_getElem?_getD, List.getElem?_eq_none h3]
    · rw [if_neg (by omega)]
      have h3 : (x.toInt - lo).toNat < ts.length := by omega
      have h4 : (x.toInt - lo).toNat < offs.size := by omega
      rw [Array.getElem?_eq_getElem h4]
      have h5 : (pc : Int) + offs[(x.toInt - lo).toNat] = (ts[(x.toInt - lo).toNat] : Nat) := by
        have h6 := congrArg (fun l => l[(x.toInt - lo).toNat]?) hs
        simpa [h3, h4] using h6
      simp only [tw_to_ok h5]
      simp [tw_sw, h1, List.getD_eq_getElem?_getD, List.getElem?_eq_getElem h3]
theorem tw_x_ls {dflt : Int} {ps : Array (Int × Int)} {len t : Nat} {x : Int32} (hd : decode (tw_cd m) pc = .ok (.lookupswitch dflt ps, len)) (hp : (ps.toList.zip (ps.toList.drop 1)).all (fun (a, next) => a.1 < next.1) = true) (ht : (pc : Int) + Op.lookupswitch.offset ps.toList dflt x.toInt = (t : Int)) : tw_E sc d m pc ls (.int x :: st) g mi mr Q = tw_E sc d m t ls st g mi mr Q :=
  tw_E_lo hd (by simp only [tw_lo, tw_ar, tw_ld, tw_so, tw_jp, hp, tw_to_ok ht, ↓reduceIte])
theorem tw_x_geti {o i o2 i2 c k p a : Nat} {nn : Bool} (hd : decode (tw_cd m) pc = .ok (.getfield i, 3)) (ho : tw_ow m = o) (hf : tw_fld o i = some (o2, i2, c, k, nn, p)) (hr : tw_rf c k = false) : tw_E sc d m pc ls (.ref a :: st) g mi mr Q = (tw_kd g a = c ∧ tw_E sc d m (pc + 3) ls (.int (mi a k) :: st) g mi mr Q) := by
  subst ho
  by_cases h : tw_kd g a = c
  · rw [tw_E_hp hd (by simp [tw_lo, tw_ar, tw_ld, tw_so, tw_jp]) (show tw_hp sc m d (.getfield i) 3 (.ref a :: st) g mi mr = some (.int (mi a k) :: st, g, mi, mr) by simp [tw_hp, tw_rd, hf, h, hr])]
    simp [h]
  · rw [tw_E_no hd (by simp [tw_lo, tw_ar, tw_ld, tw_so, tw_jp]) (by simp [tw_hp, tw_rd, tw_wr, hf, h]) (by simp [tw_ca]) (by simp [tw_re])]
    simp [h]
theorem tw_x_getr {o i o2 i2 c k p a : Nat} {nn : Bool} (hd : decode (tw_cd m) pc = .ok (.getfield i, 3)) (ho : tw_ow m = o) (hf : tw_fld o i = some (o2, i2, c, k, nn, p)) (hr : tw_rf c k = true) : tw_E sc d m pc ls (.ref a :: st) g mi mr Q = (tw_kd g a = c ∧ tw_E sc d m (pc + 3) ls (va_rf (mr a k) :: st) g mi mr Q) := by
  subst ho
  by_cases h : tw_kd g a = c
  · rw [tw_E_hp hd (by simp [tw_lo, tw_ar, tw_ld, tw_so, tw_jp]) (show tw_hp sc m d (.getfield i) 3 (.ref a :: st) g mi mr = some (va_rf (mr a k) :: st, g, mi, mr) by simp [tw_hp, tw_rd, hf, h, hr])]
    simp [h]
  · rw [tw_E_no hd (by simp [tw_lo, tw_ar, tw_ld, tw_so, tw_jp]) (by simp [tw_hp, tw_rd, tw_wr, hf, h]) (by simp [tw_ca]) (by simp [tw_re])]
    simp [h]
theorem tw_x_puti {o i o2 i2 c k p a : Nat} {x : Int32} (hd : decode (tw_cd m) pc = .ok (.putfield i, 3)) (ho : tw_ow m = o) (hf : tw_fld o i = some (o2, i2, c, k, false, p)) (hn : (tw_fd c k).2.2.1 = false) (hr : tw_ty c k = .int) : tw_E sc d m pc ls (.int x :: .ref a :: st) g mi mr Q = (tw_kd g a = c ∧ tw_E sc d m (pc + 3) ls st g (tw_st mi a (tw_st (mi a) k x)) mr Q) := by
  subst ho
  by_cases h : tw_kd g a = c
  · rw [tw_E_hp hd (by simp [tw_lo, tw_ar, tw_ld, tw_so, tw_jp]) (show tw_hp sc m d (.putfield i) 3 (.int x :: .ref a :: st) g mi mr = some (st, g, tw_st mi a (tw_st (mi a) k x), mr) by simp [tw_hp, tw_rd, tw_wr, hf, h, hn, hr])]
    simp [h]
  · rw [tw_E_no hd (by simp [tw_lo, tw_ar, tw_ld, tw_so, tw_jp]) (by simp [tw_hp, tw_rd, tw_wr, hf, h, hn]) (by simp [tw_ca]) (by simp [tw_re])]
    simp [h]
theorem tw_x_putz {o i o2 i2 c k p a : Nat} {x : Int32} (hd : decode (tw_cd m) pc = .ok (.putfield i, 3)) (ho : tw_ow m = o) (hf : tw_fld o i = some (o2, i2, c, k, false, p)) (hn : (tw_fd c k).2.2.1 = false) (hr : tw_ty c k = .boolean) : tw_E sc d m pc ls (.int x :: .ref a :: st) g mi mr Q = ((tw_kd g a = c ∧ (x = 0 ∨ x = 1)) ∧ tw_E sc d m (pc + 3) ls st g (tw_st mi a (tw_st (mi a) k x)) mr Q) := by
  subst ho
  by_cases h : tw_kd g a = c ∧ (x = 0 ∨ x = 1)
  · rw [tw_E_hp hd (by simp [tw_lo, tw_ar, tw_ld, tw_so, tw_jp]) (show tw_hp sc m d (.putfield i) 3 (.int x :: .ref a :: st) g mi mr = some (st, g, tw_st mi a (tw_st (mi a) k x), mr) by simp [tw_hp, tw_rd, tw_wr, hf, h, hn, hr])]
    simp [h]
  · rw [tw_E_no hd (by simp [tw_lo, tw_ar, tw_ld, tw_so, tw_jp]) (by simp only [tw_hp, tw_rd, tw_wr, hf, hn, hr]; simp [h]) (by simp [tw_ca]) (by simp [tw_re])]
    simp [h]
theorem tw_x_putr {o i o2 i2 c k p a b : Nat} (hd : decode (tw_cd m) pc = .ok (.putfield i, 3)) (ho : tw_ow m = o) (hf : tw_fld o i = some (o2, i2, c, k, false, p)) (hn : (tw_fd c k).2.2.1 = false ∨ ((tw_y m).name = "<init>" ∧ c = o)) (hr : tw_rf c k = true) : tw_E sc d m pc ls (.ref b :: .ref a :: st) g mi mr Q = (tw_kd g a = c ∧ tw_E sc d m (pc + 3) ls st g mi (tw_st mr a (tw_st (mr a) k (some b))) Q) := by
  subst ho
  by_cases h : tw_kd g a = c
  · rw [tw_E_hp hd (by simp [tw_lo, tw_ar, tw_ld, tw_so, tw_jp]) (show tw_hp sc m d (.putfield i) 3 (.ref b :: .ref a :: st) g mi mr = some (st, g, mi, tw_st mr a (tw_st (mr a) k (some b))) by simp only [tw_hp, tw_rd, tw_wr, hf, hn, hr]; simp [h])]
    simp [h]
  · rw [tw_E_no hd (by simp [tw_lo, tw_ar, tw_ld, tw_so, tw_jp]) (by simp only [tw_hp, tw_rd, tw_wr, hf, hn]; simp [h]) (by simp [tw_ca]) (by simp [tw_re])]
    simp [h]
theorem tw_x_iald {a : Nat} {j : Int32} (hd : decode (tw_cd m) pc = .ok (.iaload, 1)) : tw_E sc d m pc ls (.int j :: .ref a :: st) g mi mr Q = ((tw_kd g a = 20 ∧ vp_in j (tw_ln g a)) ∧ tw_E sc d m (pc + 1) ls (.int (mi a j.toNatClampNeg) :: st) g mi mr Q) := by
  by_cases h : tw_kd g a = 20 ∧ ¬ (j < 0 ∨ tw_ln g a ≤ j.toNatClampNeg)
  · rw [tw_E_hp hd (by simp [tw_lo, tw_ar, tw_ld, tw_so, tw_jp]) (show tw_hp sc m d (.iaload) 1 (.int j :: .ref a :: st) g mi mr = some (.int (mi a j.toNatClampNeg) :: st, g, mi, mr) by simp only [tw_hp, tw_rd, if_pos h, ↓reduceIte])]
    exact propext ⟨fun q => ⟨h, q⟩, fun q => q.2⟩
  · rw [tw_E_no hd (by simp [tw_lo, tw_ar, tw_ld, tw_so, tw_jp]) (by simp only [tw_hp, tw_rd, tw_wr, if_neg h, ↓reduceIte]) (by simp [tw_ca]) (by simp [tw_re])]
    exact propext ⟨fun q => q.elim, fun q => h q.1⟩
theorem tw_x_zald {a : Nat} {j : Int32} (hd : decode (tw_cd m) pc = .ok (.baload, 1)) : tw_E sc d m pc ls (.int j :: .ref a :: st) g mi mr Q = ((tw_kd g a = 21 ∧ vp_in j (tw_ln g a)) ∧ tw_E sc d m (pc + 1) ls (.int (mi a j.toNatClampNeg) :: st) g mi mr Q) := by
  by_cases h : tw_kd g a = 21 ∧ ¬ (j < 0 ∨ tw_ln g a ≤ j.toNatClampNeg)
  · rw [tw_E_hp hd (by simp [tw_lo, tw_ar, tw_ld, tw_so, tw_jp]) (show tw_hp sc m d (.baload) 1 (.int j :: .ref a :: st) g mi mr = some (.int (mi a j.toNatClampNeg) :: st, g, mi, mr) by simp only [tw_hp, tw_rd, if_pos h, ↓reduceIte])]
    exact propext ⟨fun q => ⟨h, q⟩, fun q => q.2⟩
  · rw [tw_E_no hd (by simp [tw_lo, tw_ar, tw_ld, tw_so, tw_jp]) (by simp only [tw_hp, tw_rd, tw_wr, if_neg h, ↓reduceIte]) (by simp [tw_ca]) (by simp [tw_re])]
    exact propext ⟨fun q => q.elim, fun q => h q.1⟩
theorem tw_x_aald {a : Nat} {j : Int32} (hd : decode (tw_cd m) pc = .ok (.aaload, 1)) : tw_E sc d m pc ls (.int j :: .ref a :: st) g mi mr Q = ((tw_kd g a = 22 ∧ vp_in j (tw_ln g a)) ∧ tw_E sc d m (pc + 1) ls (va_rf (mr a j.toNatClampNeg) :: st) g mi mr Q) := by
  by_cases h : tw_kd g a = 22 ∧ ¬ (j < 0 ∨ tw_ln g a ≤ j.toNatClampNeg)
  · rw [tw_E_hp hd (by simp [tw_lo, tw_ar, tw_ld, tw_so, tw_jp]) (show tw_hp sc m d (.aaload) 1 (.int j :: .ref a :: st) g mi mr = some (va_rf (mr a j.toNatClampNeg) :: st, g, mi, mr) by simp only [tw_hp, tw_rd, if_pos h, ↓reduceIte])]
    exact propext ⟨fun q => ⟨h, q⟩, fun q => q.2⟩
  · rw [tw_E_no hd (by simp [tw_lo, tw_ar, tw_ld, tw_so, tw_jp]) (by simp only [tw_hp, tw_rd, tw_wr, if_neg h, ↓reduceIte]) (by simp [tw_ca]) (by simp [tw_re])]
    exact propext ⟨fun q => q.elim, fun q => h q.1⟩
theorem tw_x_sald {a : Nat} {j : Int32} (hd : decode (tw_cd m) pc = .ok (.iaload, 1)) : tw_E sc d m pc ls (.int j :: .retAddr a :: st) g mi mr Q = (vp_in j sc.1 ∧ tw_E sc d m (pc + 1) ls (.int (sc.2 j.toNatClampNeg) :: st) g mi mr Q) := by
  by_cases h : ¬ (j < 0 ∨ sc.1 ≤ j.toNatClampNeg)
  · rw [tw_E_hp hd (by simp [tw_lo, tw_ar, tw_ld, tw_so, tw_jp]) (show tw_hp sc m d (.iaload) 1 (.int j :: .retAddr a :: st) g mi mr = some (.int (sc.2 j.toNatClampNeg) :: st, g, mi, mr) by simp only [tw_hp, tw_rd, if_pos h, ↓reduceIte])]
    exact propext ⟨fun q => ⟨h, q⟩, fun q => q.2⟩
  · rw [tw_E_no hd (by simp [tw_lo, tw_ar, tw_ld, tw_so, tw_jp]) (by simp only [tw_hp, tw_rd, tw_wr, if_neg h, ↓reduceIte]) (by simp [tw_ca]) (by simp [tw_re])]
    exact propext ⟨fun q => q.elim, fun q => h q.1⟩
theorem tw_x_slen {a : Nat} (hd : decode (tw_cd m) pc = .ok (.arraylength, 1)) : tw_E sc d m pc ls (.retAddr a :: st) g mi mr Q = tw_E sc d m (pc + 1) ls (.int (Int32.ofNat sc.1) :: st) g mi mr Q := tw_E_hp hd (by simp [tw_lo, tw_ar, tw_ld, tw_so, tw_jp]) (by simp [tw_hp, tw_rd])
theorem tw_x_iast {a : Nat} {j x : Int32} (hd : decode (tw_cd m) pc = .ok (.iastore, 1)) : tw_E sc d m pc ls (.int x :: .int j :: .ref a :: st) g mi mr Q = ((tw_kd g a = 20 ∧ vp_in j (tw_ln g a)) ∧ tw_E sc d m (pc + 1) ls st g (tw_st mi a (tw_st (mi a) j.toNatClampNeg x)) mr Q) := by
  by_cases h : tw_kd g a = 20 ∧ ¬ (j < 0 ∨ tw_ln g a ≤ j.toNatClampNeg)
  · rw [tw_E_hp hd (by simp [tw_lo, tw_ar, tw_ld, tw_so, tw_jp]) (show tw_hp sc m d (.iastore) 1 (.int x :: .int j :: .ref a :: st) g mi mr = some (st, g, tw_st mi a (tw_st (mi a) j.toNatClampNeg x), mr) by simp only [tw_hp, tw_rd, tw_wr, if_pos h, ↓reduceIte])]
    exact propext ⟨fun q => ⟨h, q⟩, fun q => q.2⟩
  · rw [tw_E_no hd (by simp [tw_lo, tw_ar, tw_ld, tw_so, tw_jp]) (by simp only [tw_hp, tw_rd, tw_wr, if_neg h, ↓reduceIte]) (by simp [tw_ca]) (by simp [tw_re])]
    exact propext ⟨fun q => q.elim, fun q => h q.1⟩
theorem tw_x_zast {a : Nat} {j x : Int32} (hd : decode (tw_cd m) pc = .ok (.bastore, 1)) : tw_E sc d m pc ls (.int x :: .int j :: .ref a :: st) g mi mr Q = ((tw_kd g a = 21 ∧ (x = 0 ∨ x = 1) ∧ vp_in j (tw_ln g a)) ∧ tw_E sc d m (pc + 1) ls st g (tw_st mi a (tw_st (mi a) j.toNatClampNeg x)) mr Q) := by
  by_cases h : tw_kd g a = 21 ∧ (x = 0 ∨ x = 1) ∧ ¬ (j < 0 ∨ tw_ln g a ≤ j.toNatClampNeg)
  · rw [tw_E_hp hd (by simp [tw_lo, tw_ar, tw_ld, tw_so, tw_jp]) (show tw_hp sc m d (.bastore) 1 (.int x :: .int j :: .ref a :: st) g mi mr = some (st, g, tw_st mi a (tw_st (mi a) j.toNatClampNeg x), mr) by simp only [tw_hp, tw_rd, tw_wr, if_pos h, ↓reduceIte])]
    exact propext ⟨fun q => ⟨h, q⟩, fun q => q.2⟩
  · rw [tw_E_no hd (by simp [tw_lo, tw_ar, tw_ld, tw_so, tw_jp]) (by simp only [tw_hp, tw_rd, tw_wr, if_neg h, ↓reduceIte]) (by simp [tw_ca]) (by simp [tw_re])]
    exact propext ⟨fun q => q.elim, fun q => h q.1⟩
theorem tw_x_aast {a b : Nat} {j : Int32} (hd : decode (tw_cd m) pc = .ok (.aastore, 1)) : tw_E sc d m pc ls (.ref b :: .int j :: .ref a :: st) g mi mr Q = ((tw_kd g a = 22 ∧ tw_kd g b = 2 ∧ vp_in j (tw_ln g a)) ∧ tw_E sc d m (pc + 1) ls st g mi (tw_st mr a (tw_st (mr a) j.toNatClampNeg (some b))) Q) := by
  by_cases h : tw_kd g a = 22 ∧ tw_kd g b = 2 ∧ ¬ (j < 0 ∨ tw_ln g a ≤ j.toNatClampNeg)
  · rw [tw_E_hp hd (by simp [tw_lo, tw_ar, tw_ld, tw_so, tw_jp]) (show tw_hp sc m d (.aastore) 1 (.ref b :: .int j :: .ref a :: st) g mi mr = some (st, g, mi, tw_st mr a (tw_st (mr a) j.toNatClampNeg (some b))) by simp only [tw_hp, tw_rd, tw_wr, if_pos h, ↓reduceIte])]
    exact propext ⟨fun q => ⟨h, q⟩, fun q => q.2⟩
  · rw [tw_E_no hd (by simp [tw_lo, tw_ar, tw_ld, tw_so, tw_jp]) (by simp only [tw_hp, tw_rd, tw_wr, if_neg h, ↓reduceIte]) (by simp [tw_ca]) (by simp [tw_re])]
    exact propext ⟨fun q => q.elim, fun q => h q.1⟩
theorem tw_x_new {o i o2 i2 c p1 p2 p3 n : Nat} (hd : decode (tw_cd m) pc = .ok (.new i, 3)) (ho : tw_ow m = o) (hf : tw_new o i = some (o2, i2, c, p1, p2, p3)) (hn : tw_N c = n) : tw_E sc d m pc ls st g mi mr Q = tw_E sc d m (pc + 3) ls (.ref g.1 :: st) (tw_gn g c 0 n) (tw_st mi g.1 (fun _ => 0)) (tw_st mr g.1 (fun _ => none)) Q := by
  subst ho
  subst hn
  exact tw_E_hp hd (by simp [tw_lo, tw_ar, tw_ld, tw_so, tw_jp]) (by simp [tw_hp, tw_rd, tw_wr, hf])
theorem tw_x_newi {n : Int32} {N : Nat} (hd : decode (tw_cd m) pc = .ok (.newarray .int, 2)) (hn : (decide (¬ n < 0) && (decide (n.toNatClampNeg = N) && decide (N ≤ 100000))) = true) : tw_E sc d m pc ls (.int n :: st) g mi mr Q = tw_E sc d m (pc + 2) ls (.ref g.1 :: st) (tw_gn g 20 N N) (tw_st mi g.1 (fun _ => 0)) (tw_st mr g.1 (fun _ => none)) Q := by
  simp only [Bool.and_eq_true, decide_eq_true_eq] at hn
  obtain ⟨h1, rfl, h2⟩ := hn
  exact tw_E_hp hd (by simp [tw_lo, tw_ar, tw_ld, tw_so, tw_jp]) (by simp only [tw_hp, tw_rd, tw_wr, if_pos (And.intro h1 h2), ↓reduceIte])
theorem tw_x_newz {n : Int32} {N : Nat} (hd : decode (tw_cd m) pc = .ok (.newarray .boolean, 2)) (hn : (decide (¬ n < 0) && (decide (n.toNatClampNeg = N) && decide (N ≤ 100000))) = true) : tw_E sc d m pc ls (.int n :: st) g mi mr Q = tw_E sc d m (pc + 2) ls (.ref g.1 :: st) (tw_gn g 21 N N) (tw_st mi g.1 (fun _ => 0)) (tw_st mr g.1 (fun _ => none)) Q := by
  simp only [Bool.and_eq_true, decide_eq_true_eq] at hn
  obtain ⟨h1, rfl, h2⟩ := hn
  exact tw_E_hp hd (by simp [tw_lo, tw_ar, tw_ld, tw_so, tw_jp]) (by simp only [tw_hp, tw_rd, tw_wr, if_pos (And.intro h1 h2), ↓reduceIte])
theorem tw_x_newr {n : Int32} {N : Nat} (hd : decode (tw_cd m) pc = .ok (.anewarray 9, 3)) (ho : tw_ow m = 1) (hn : (decide (¬ n < 0) && (decide (n.toNatClampNeg = N) && decide (N ≤ 100000))) = true) : tw_E sc d m pc ls (.int n :: st) g mi mr Q = tw_E sc d m (pc + 3) ls (.ref g.1 :: st) (tw_gn g 22 N N) (tw_st mi g.1 (fun _ => 0)) (tw_st mr g.1 (fun _ => none)) Q := by
  simp only [Bool.and_eq_true, decide_eq_true_eq] at hn
  obtain ⟨h1, rfl, h2⟩ := hn
  exact tw_E_hp hd (by simp [tw_lo, tw_ar, tw_ld, tw_so, tw_jp]) (by simp only [tw_hp, tw_rd, tw_wr, ho, if_pos (And.intro h1 h2), and_self, ↓reduceIte])
theorem tw_x_ldc {o i o2 i2 p : Nat} {v : Int32} (hd : decode (tw_cd m) pc = .ok (.ldc i, 2)) (ho : tw_ow m = o) (hf : tw_ldc o i = some (o2, i2, v, p)) : tw_E sc d m pc ls st g mi mr Q = tw_E sc d m (pc + 2) ls (.int v :: st) g mi mr Q := by
  subst ho
  exact tw_E_hp hd (by simp [tw_lo, tw_ar, tw_ld, tw_so, tw_jp]) (by simp [tw_hp, tw_rd, hf])
theorem tw_x_ldl {o i o2 i2 p : Nat} {v : Int64} (hd : decode (tw_cd m) pc = .ok (.ldc2_w i, 3)) (ho : tw_ow m = o) (hf : tw_ldl o i = some (o2, i2, v, p)) : tw_E sc d m pc ls st g mi mr Q = tw_E sc d m (pc + 3) ls (.long v :: st) g mi mr Q := by
  subst ho
  exact tw_E_hp hd (by simp [tw_lo, tw_ar, tw_ld, tw_so, tw_jp]) (by simp [tw_hp, tw_rd, hf])
theorem tw_x_max {o i o2 i2 p1 p2 p3 p4 : Nat} {x y : Int32} (hd : decode (tw_cd m) pc = .ok (.invokestatic i, 3)) (ho : tw_ow m = o) (hf : tw_mat o i = some (o2, i2, true, p1, p2, p3, p4)) (hr : st.length ≤ 4) : tw_E sc (d + 1) m pc ls (.int y :: .int x :: st) g mi mr Q = tw_E sc (d + 1) m (pc + 3) ls (.int (if x < y then y else x) :: st) g mi mr Q := by
  subst ho
  exact tw_E_hp hd (by simp [tw_lo, tw_ar, tw_ld, tw_so, tw_jp]) (by simp [tw_hp, tw_rd, hf, hr])
theorem tw_x_min {o i o2 i2 p1 p2 p3 p4 : Nat} {x y : Int32} (hd : decode (tw_cd m) pc = .ok (.invokestatic i, 3)) (ho : tw_ow m = o) (hf : tw_mat o i = some (o2, i2, false, p1, p2, p3, p4)) (hr : st.length ≤ 4) : tw_E sc (d + 1) m pc ls (.int y :: .int x :: st) g mi mr Q = tw_E sc (d + 1) m (pc + 3) ls (.int (if y < x then y else x) :: st) g mi mr Q := by
  subst ho
  exact tw_E_hp hd (by simp [tw_lo, tw_ar, tw_ld, tw_so, tw_jp]) (by simp [tw_hp, tw_rd, hf, hr])
theorem tw_x_obj {o i o2 i2 p a : Nat} (hd : decode (tw_cd m) pc = .ok (.invokespecial i, 3)) (ho : tw_ow m = o) (hf : tw_oin o i = some (o2, i2, p)) (hr : st.length ≤ 4) : tw_E sc (d + 1) m pc ls (.ref a :: st) g mi mr Q = tw_E sc (d + 1) m (pc + 3) ls st g mi mr Q := by
  subst ho
  exact tw_E_hp hd (by simp [tw_lo, tw_ar, tw_ld, tw_so, tw_jp]) (by simp [tw_hp, tw_rd, hf, hr])
/-! calls -/
theorem tw_x_cs {o i o2 i2 kk k n p1 p2 p3 p4 : Nat} {as r : List Value} {l0 : tw_L} (hd : decode (tw_cd m) pc = .ok (.invokestatic i, 3)) (ho : tw_ow m = o) (hz : tw_mat o i = none) (hf : tw_cal o i = some (o2, i2, kk, k, n, p1, p2, p3, p4)) (hk : kk % 3 = 0) (hn : as.length = n) (hst : st = as.reverse ++ r) (hl : tw_n0 k as = l0) (hcond : (decide (r.length ≤ 4) && (decide (k < tw_ny) && (decide (tw_lg 0 as = tw_lp k) && decide ((tw_en as).length ≤ tw_ml k)))) = true) : tw_E sc (d + 1) m pc ls st g mi mr Q = tw_E sc d k 0 l0 [] g mi mr (tw_K sc (d + 1) m (pc + 3) ls r Q) := by
  subst ho
  subst hl
  subst hst
  subst hn
  have h0 : tw_rd sc m (d + 1) (.invokestatic i) 3 (as.reverse ++ r) g mi mr = none := by
    simp only [tw_rd, hz]
    (repeat' split) <;> rfl
  refine tw_E_ca hd (by simp [tw_lo, tw_ar, tw_ld, tw_so, tw_jp]) ?_ ?_ hcond
  · simp only [tw_hp, h0, tw_wr]
  · simp [tw_ca, hf, hk]
theorem tw_x_cv {o i o2 i2 k n p1 p2 p3 p4 b c : Nat} {as r : List Value} {l0 : tw_L} (hd : decode (tw_cd m) pc = .ok (.invokevirtual i, 3)) (ho : tw_ow m = o) (hf : tw_cal o i = some (o2, i2, 1, k, n, p1, p2, p3, p4)) (hc : tw_ow k = c) (hn : as.length = n) (hst : st = as.reverse ++ .ref b :: r) (hl : tw_n0 k (.ref b :: as) = l0) (hcond : (decide (r.length ≤ 4) && (decide (k < tw_ny) && (decide (tw_lg 0 (.ref b :: as) = tw_lp k) && decide ((tw_en (.ref b :: as)).length ≤ tw_ml k)))) = true) : tw_E sc (d + 1) m pc ls st g mi mr Q = (tw_kd g b = c ∧ tw_E sc d k 0 l0 [] g mi mr (tw_K sc (d + 1) m (pc + 3) ls r Q)) := by
  subst ho
  subst hl
  subst hst
  subst hn
  subst hc
  by_cases h : tw_kd g b = tw_ow k
  · rw [tw_E_ca hd (by simp [tw_lo, tw_ar, tw_ld, tw_so, tw_jp]) (by simp [tw_hp, tw_rd, tw_wr]) (show tw_ca m (.invokevirtual i) 3 (as.reverse ++ .ref b :: r) g = some (k, .ref b :: as, r) by simp [tw_ca, hf, h]) hcond]
    exact propext ⟨fun q => ⟨h, q⟩, fun q => q.2⟩
  · rw [tw_E_no hd (by simp [tw_lo, tw_ar, tw_ld, tw_so, tw_jp]) (by simp [tw_hp, tw_rd, tw_wr]) (by simp [tw_ca, hf, h]) (by simp [tw_re])]
    exact propext ⟨fun q => q.elim, fun q => h q.1⟩
theorem tw_x_ci {o i o2 i2 kk k n p1 p2 p3 p4 b : Nat} {as r : List Value} {l0 : tw_L} (hd : decode (tw_cd m) pc = .ok (.invokespecial i, 3)) (ho : tw_ow m = o) (hz : tw_oin o i = none) (hf : tw_cal o i = some (o2, i2, kk, k, n, p1, p2, p3, p4)) (hk : kk % 3 = 2) (hn : as.length = n) (hst : st = as.reverse ++ .ref b :: r) (hl : tw_n0 k (.ref b :: as) = l0) (hcond : (decide (r.length ≤ 4) && (decide (k < tw_ny) && (decide (tw_lg 0 (.ref b :: as) = tw_lp k) && decide ((tw_en (.ref b :: as)).length ≤ tw_ml k)))) = true) : tw_E sc (d + 1) m pc ls st g mi mr Q = tw_E sc d k 0 l0 [] g mi mr (tw_K sc (d + 1) m (pc + 3) ls r Q) := by
  subst ho
  subst hl
  subst hst
  subst hn
  have h0 : tw_rd sc m (d + 1) (.invokespecial i) 3 (as.reverse ++ .ref b :: r) g mi mr = none := by
    simp only [tw_rd, hz]
    (repeat' split) <;> rfl
  refine tw_E_ca hd (by simp [tw_lo, tw_ar, tw_ld, tw_so, tw_jp]) ?_ ?_ hcond
  · simp only [tw_hp, h0, tw_wr]
  · simp [tw_ca, hf, hk]
/-! ends -/
theorem tw_x_iret {v : Int32} (hd : decode (tw_cd m) pc = .ok (.ireturn, 1)) (hr : tw_rt m = some .int) : tw_E sc d m pc ls [.int v] g mi mr Q = Q (some (.int v)) g mi mr := tw_E_re hd (by simp [tw_lo, tw_ar, tw_ld, tw_so, tw_jp]) (by simp [tw_hp, tw_rd, tw_wr]) (by simp [tw_ca]) (by simp [tw_re, hr])
theorem tw_x_zret {v : Int32} (hd : decode (tw_cd m) pc = .ok (.ireturn, 1)) (hr : tw_rt m = some .boolean) : tw_E sc d m pc ls [.int v] g mi mr Q = ((v = 0 ∨ v = 1) ∧ Q (some (.int v)) g mi mr) := by
  by_cases h : v = 0 ∨ v = 1
  · rw [tw_E_re hd (by simp [tw_lo, tw_ar, tw_ld, tw_so, tw_jp]) (by simp [tw_hp, tw_rd, tw_wr]) (by simp [tw_ca]) (show tw_re m .ireturn 1 [.int v] = some (some (.int v)) by simp [tw_re, hr, h])]
    simp [h]
  · rw [tw_E_no hd (by simp [tw_lo, tw_ar, tw_ld, tw_so, tw_jp]) (by simp [tw_hp, tw_rd, tw_wr]) (by simp [tw_ca]) (by simp [tw_re, hr, h])]
    simp [h]
theorem tw_x_aret {c : String} {v : Nat} (hd : decode (tw_cd m) pc = .ok (.areturn, 1)) (hr : tw_rt m = some (.object c)) : tw_E sc d m pc ls [.ref v] g mi mr Q = Q (some (.ref v)) g mi mr := tw_E_re hd (by simp [tw_lo, tw_ar, tw_ld, tw_so, tw_jp]) (by simp [tw_hp, tw_rd, tw_wr]) (by simp [tw_ca]) (by simp [tw_re, hr])
theorem tw_x_aretN {c : String} (hd : decode (tw_cd m) pc = .ok (.areturn, 1)) (hr : tw_rt m = some (.object c)) : tw_E sc d m pc ls [.null] g mi mr Q = Q (some .null) g mi mr := tw_E_re hd (by simp [tw_lo, tw_ar, tw_ld, tw_so, tw_jp]) (by simp [tw_hp, tw_rd, tw_wr]) (by simp [tw_ca]) (by simp [tw_re, hr])
theorem tw_x_vret (hd : decode (tw_cd m) pc = .ok (.return_, 1)) (hr : tw_rt m = none) : tw_E sc d m pc ls [] g mi mr Q = Q none g mi mr := tw_E_re hd (by simp [tw_lo, tw_ar, tw_ld, tw_so, tw_jp]) (by simp [tw_hp, tw_rd, tw_wr]) (by simp [tw_ca]) (by simp [tw_re, hr])
end tw_laws
end
section
/-! the small machine tells what the machine does: cell a of the small one lies at B + a -/
def tw_cv (B b : Nat) : Value → Value
  | .ref a => .ref (B + a)
  | .retAddr _ => .ref b
  | v => v
def tw_fv (B : Nat) (mi : tw_I) (mr : tw_Q) (c a k : Nat) : Value := if tw_rf c k = true then va_rf ((mr a k).map (B + ·)) else .int (mi a k)
def tw_cell (D : va_G) (B : Nat) (U : State) (H : Heap) (g : tw_G) (mi : tw_I) (mr : tw_Q) (a : Nat) : Prop :=
  (tw_kd g a < 11 ∧ t_OB (B + a) (D.1 (tw_kd g a)) (tw_N (tw_kd g a)) (D.2 (tw_kd g a)) H (tw_fv B mi mr (tw_kd g a) a)) ∨
  (tw_kd g a = 20 ∧ ∃ cA, H[B + a]? = some (arrV cA (tw_ln g a) (fun j => .int (mi a j))) ∧ ArrOfT U cA .int) ∨
  (tw_kd g a = 21 ∧ ∃ cA, H[B + a]? = some (arrV cA (tw_ln g a) (fun j => .int (mi a j))) ∧ ArrOfT U cA .boolean) ∨
  (tw_kd g a = 22 ∧ ∃ cA, H[B + a]? = some (arrV cA (tw_ln g a) (fun j => va_rf ((mr a j).map (B + ·)))) ∧ ArrOfT U cA (.object tw_R2) ∧ va_RA U cA (.object tw_R2))
def tw_H (D : va_G) (B : Nat) (U : State) (H : Heap) (g : tw_G) (mi : tw_I) (mr : tw_Q) : Prop := H.size = B + g.1 ∧ (∀ a, g.1 ≤ a → tw_kd g a = 99) ∧ ∀ a, a < g.1 → tw_cell D B U H g mi mr a
def tw_NX (U : State) : Prop := (∀ q ∈ tw_fls, q.2.2.2.2.1 = true → va_Nw (.fieldLinkNest (tw_R q.1) q.2.1 (tw_R q.2.2.1) (tw_fd q.2.2.1 q.2.2.2.1).1 (tw_fd q.2.2.1 q.2.2.2.1).2.1 tw_R0) U) ∧ (∀ q ∈ tw_cls, ¬ q.2.2.1 < 3 → va_Nw (.methodLinkNest (tw_R q.1) q.2.1 (tw_y q.2.2.2.1) tw_R0) U) ∧ va_AO tw_R2 U
def tw_Fr (B : Nat) (H0 H : Heap) (locs : List Loc) : Prop := (∀ q, q < B → H[q]? = H0[q]?) ∧ ∀ z ∈ locs, B ≤ z.base
def tw_as (B b : Nat) : Nat → tw_L → List (Nat × Value)
  | _, [] => []
  | i, none :: t => tw_as B b (i + 1) t
  | i, some v :: t => (i, tw_cv B b v) :: tw_as B b (i + 1) t
def tw_LS (B b : Nat) (cs : Array Slot) (k : Nat) (ls : tw_L) : Prop := lv_has cs (tw_ml k) (tw_as B b 0 ls) ∧ ls.length = tw_ml k ∧ ∀ i v, ls[i]? = some (some v) → v.category = 2 → i ∈ tw_lp k
theorem tw_cat (B b : Nat) (v : Value) : (tw_cv B b v).category = v.category := by cases v <;> rfl
theorem tw_cv_rf (B b : Nat) (o : Option Nat) : tw_cv B b (va_rf o) = va_rf (o.map (B + ·)) := by cases o <;> rfl
theorem tw_cell_moved {D : va_G} {B : Nat} {u U : State} {H : Heap} {g : tw_G} {mi : tw_I} {mr : tw_Q} {a : Nat} (hvm : u.vm.Alike U.vm) (h : tw_cell D B u H g mi mr a) : tw_cell D B U H g mi mr a := by
  rcases h with h | ⟨h, cA, h1, h2⟩ | ⟨h, cA, h1, h2⟩ | ⟨h, cA, h1, h2, h3⟩
  · exact Or.inl h
  · exact Or.inr (Or.inl ⟨h, cA, h1, arrOfT_moved hvm h2⟩)
  · exact Or.inr (Or.inr (Or.inl ⟨h, cA, h1, arrOfT_moved hvm h2⟩))
  · exact Or.inr (Or.inr (Or.inr ⟨h, cA, h1, arrOfT_moved hvm h2, h3.moved hvm⟩))
theorem tw_H_moved {D : va_G} {B : Nat} {u U : State} {H : Heap} {g : tw_G} {mi : tw_I} {mr : tw_Q} (hvm : u.vm.Alike U.vm) (h : tw_H D B u H g mi mr) : tw_H D B U H g mi mr := ⟨h.1, h.2.1, fun a ha => tw_cell_moved hvm (h.2.2 a ha)⟩
theorem tw_cell_kept {D : va_G} {B : Nat} {U : State} {H H1 : Heap} {g g1 : tw_G} {mi mi1 : tw_I} {mr mr1 : tw_Q} {a : Nat} (h : tw_cell D B U H g mi mr a) (hq : H1[B + a]? = H[B + a]?) (hg : g1.2.2 a = g.2.2 a) (hi : mi1 a = mi a) (hr : mr1 a = mr a) : tw_cell D B U H1 g1 mi1 mr1 a := by
  have e1 : tw_kd g1 a = tw_kd g a := by unfold tw_kd; rw [hg]
  have e2 : tw_ln g1 a = tw_ln g a := by unfold tw_ln; rw [hg]
  have e3 : ∀ c, tw_fv B mi1 mr1 c a = tw_fv B mi mr c a := fun c => by funext k; simp only [tw_fv, hi, hr]
  unfold tw_cell at h ⊢
  rw [e1, e2, e3, hq, hi, hr]
  rcases h with h | h
  · exact Or.inl ⟨h.1, h.2.kept hq⟩
  · exact Or.inr h
theorem tw_as_mem {B b : Nat} {q : Nat × Value} : ∀ (ls : tw_L) (i : Nat), q ∈ tw_as B b i ls ↔ ∃ (k : Nat) (v : Value), ls[k]? = some (some v) ∧ q = (i + k, tw_cv B b v) := by
  intro ls
  induction ls with
  | nil => intro i; simp [tw_as]
  | cons x t ih =>
    intro i
    cases x with
    | none =>
      rw [tw_as, ih]
      constructor
      · rintro ⟨k, v, h1, h2⟩
        exact ⟨k + 1, v, by simpa using h1, by rw [h2]; congr 1; omega⟩
      · rintro ⟨k, v, h1, h2⟩
        cases k with
        | zero => simp at h1
        | succ k => exact ⟨k, v, by simpa using h1, by rw [h2]; congr 1; omega⟩
    | some w =>
      rw [tw_as, List.mem_cons, ih]
      constructor
      · rintro (h | ⟨k, v, h1, h2⟩)
        · exact ⟨0, w, rfl, by simpa using h⟩
        · exact ⟨k + 1, v, by simpa using h1, by rw [h2]; congr 1; omega⟩
      · rintro ⟨k, v, h1, h2⟩
        cases k with
        | zero =>
          simp at h1
          subst h1
          exact Or.inl (by simpa using h2)
        | succ k => exact Or.inr ⟨k, v, by simpa using h1, by rw [h2]; congr 1; omega⟩
theorem tw_LS_at {B b : Nat} {cs : Array Slot} {k : Nat} {ls : tw_L} (h : tw_LS B b cs k ls) {i : Nat} {v : Value} (hi : ls[i]? = some (some v)) : cs[i]? = some (.val (tw_cv B b v)) := by
  have := h.1.2.2 (i, tw_cv B b v) ((tw_as_mem ls 0).mpr ⟨i, v, hi, by simp⟩)
  exact this
theorem tw_LS_set {B b : Nat} {cs cs' : Array Slot} {k : Nat} {ls ls' : tw_L} (h : tw_LS B b cs k ls) {i : Nat} {v : Value} (hs : tw_sto k i v ls = some ls') (hv : v.category = 1) (h' : lv_has cs' (tw_ml k) ((i, tw_cv B b v) :: (tw_as B b 0 ls).filter (fun q => !(q.1 == i) && !(q.1 + 1 == i && q.2.category == 2)))) : tw_LS B b cs' k ls' := by
  unfold tw_sto at hs
  split at hs
  case isFalse => cases hs
  case isTrue hc =>
    cases hs
    obtain ⟨hlt, hall⟩ := hc
    refine ⟨⟨h'.1, h'.2.1, fun q hq => ?_⟩, by rw [List.length_set]; exact h.2.1, fun j w hj hw => ?_⟩
    · obtain ⟨j, w, h1, h2⟩ := (tw_as_mem _ 0).mp hq
      rw [h2]
      refine h'.2.2 _ ?_
      by_cases hji : j = i
      · subst hji
        rw [List.getElem?_set_self hlt] at h1
        cases h1
        simp
      · rw [List.getElem?_set_ne (Ne.symm hji)] at h1
        refine List.mem_cons_of_mem _ (List.mem_filter.mpr ⟨(tw_as_mem ls 0).mpr ⟨j, w, h1, rfl⟩, ?_⟩)
        simp only [Nat.zero_add, Bool.and_eq_true, Bool.not_eq_true', beq_eq_false_iff_ne, ne_eq, Bool.and_eq_false_iff, tw_cat]
        refine ⟨hji, ?_⟩
        by_cases hc2 : w.category = 2
        · have hm := h.2.2 j w h1 hc2
          have := List.all_eq_true.mp hall j hm
          simp only [Bool.and_eq_true, bne_iff_ne, ne_eq] at this
          exact Or.inl (fun e => this.2 e.symm)
        · exact Or.inr hc2
    · by_cases hji : j = i
      · subst hji
        rw [List.getElem?_set_self hlt] at hj
        cases hj
        omega
      · rw [List.getElem?_set_ne (Ne.symm hji)] at hj
        exact h.2.2 j w hj hw
theorem tw_sto_lt {k i : Nat} {v : Value} {ls ls' : tw_L} (hs : tw_sto k i v ls = some ls') : i < ls.length := by
  unfold tw_sto at hs
  split at hs
  case isFalse => cases hs
  case isTrue hc => exact hc.1
theorem tw_as_none (B b : Nat) (n : Nat) : ∀ i, tw_as B b i (List.replicate n none) = [] := by
  induction n with
  | zero => intro i; rfl
  | succ n ih => intro i; rw [List.replicate_succ, tw_as]; exact ih _
theorem tw_as_en (B b : Nat) (n : Nat) : ∀ (as : List Value) (i : Nat), tw_as B b i (tw_en as ++ List.replicate n none) = lv_args i (as.map (tw_cv B b)) := by
  intro as
  induction as with
  | nil => intro i; simpa [tw_en, lv_args] using tw_as_none B b n i
  | cons v t ih =>
    intro i
    simp only [tw_en, List.map_cons, lv_args, tw_cat]
    by_cases hc : v.category = 2
    · rw [if_pos hc, if_pos hc]
      simp only [List.cons_append, tw_as]
      rw [ih]
    · rw [if_neg hc, if_neg hc]
      simp only [List.cons_append, tw_as]
      rw [ih]
theorem tw_en_len (B b : Nat) : ∀ (as : List Value), (tw_en as).length = (lg_sl (as.map (tw_cv B b))).length := by
  intro as
  induction as with
  | nil => rfl
  | cons v t ih =>
    simp only [tw_en, List.map_cons, lg_sl, List.flatMap_cons, tw_cat] at ih ⊢
    by_cases hc : v.category = 2
    · rw [if_pos hc, if_pos hc]
      simp [ih]
    · rw [if_neg hc, if_neg hc]
      simp [ih]
theorem tw_en_lg : ∀ (as : List Value) (i j : Nat) (v : Value), (tw_en as)[j]? = some (some v) → v.category = 2 → i + j ∈ tw_lg i as := by
  intro as
  induction as with
  | nil => intro i j v h; simp [tw_en] at h
  | cons w t ih =>
    intro i j v h hv
    simp only [tw_en, tw_lg] at h ⊢
    by_cases hc : w.category = 2
    · rw [if_pos hc] at h ⊢
      cases j with
      | zero => simp
      | succ j =>
        cases j with
        | zero => simp at h
        | succ j =>
          have := ih (i + 2) j v (by simpa using h) hv
          refine List.mem_cons_of_mem _ ?_
          rw [show i + (j + 1 + 1) = i + 2 + j by omega]
          exact this
    · rw [if_neg hc] at h ⊢
      cases j with
      | zero =>
        simp at h
        subst h
        exact absurd hv hc
      | succ j =>
        have := ih (i + 1) j v (by simpa using h) hv
        rw [show i + (j + 1) = i + 1 + j by omega]
        exact this
theorem tw_LS_entry {B b k : Nat} {as : List Value} (hlg : tw_lg 0 as = tw_lp k) (hlen : (tw_en as).length ≤ tw_ml k) : tw_LS B b ((lg_sl (as.map (tw_cv B b)) ++ List.replicate (tw_ml k - (lg_sl (as.map (tw_cv B b))).length) Slot.unset).toArray) k (tw_n0 k as) := by
  refine ⟨?_, ?_, ?_⟩
  · unfold tw_n0
    rw [tw_as_en]
    exact lv_entry _ (by rw [← tw_en_len]; exact hlen)
  · unfold tw_n0
    simp
    omega
  · intro i v h hv
    unfold tw_n0 at h
    by_cases hi : i < (tw_en as).length
    · rw [List.getElem?_append_left hi] at h
      rw [← hlg]
      simpa using tw_en_lg as 0 i v h hv
    · rw [List.getElem?_append_right (by omega)] at h
      rw [List.getElem?_replicate] at h
      split at h <;> cases h
end
section
/-! an instruction of the small machine, as the machine does it -/
def tw_Bd (p : Program) (s : State) (m : MethodId) (args : Array Value) (meth : Method) (c : Code) (D : va_G) (k : Nat) : Prop :=
  p.tables.exec = Jvm.exec ∧ c.code = tw_cd k ∧ c.maxLocals = tw_ml k ∧ s.vm.findClass (tw_R (tw_ow k)) = some m.cls ∧ (∀ w ∈ tw_tb, w.before args s = true) ∧ tw_NX s ∧ va_K D tw_cl [] s ∧ ((tw_y k).name = "<init>" → meth.name = "<init>")
section tw_rules
variable {p : Program} {l : Launch} {e : Env} {R : Room} {s : State} {m : MethodId} {args : Array Value} {below : List Frame} {meth : Method} {c : Code} {H : Heap} {locs : List Loc} {cells slots : Nat} {Q : State → Prop}
variable {D : va_G} {B b k pc : Nat} {cs : Array Slot} {rest : List Value} {g : tw_G} {mi : tw_I} {mr : tw_Q} {ls ls' : tw_L} {st st' : List Value} {len : Nat}
set_option maxHeartbeats 4000000 in
theorem tw_w_ar (hC : tw_Bd p s m args meth c D k) {ins : Instr} (hdg : decode (tw_cd k) pc = .ok (ins, len)) (h : tw_ar ins len st = some st')
    (kk : W p l e R s m args below meth c H locs cells slots Q (F0 m (pc + len) cs (st'.map (tw_cv B b)))) : W p l e R s m args below meth c H locs cells slots Q (F0 m pc cs (st.map (tw_cv B b))) := by
  obtain ⟨hx, hb, -⟩ := hC
  cases ins
  all_goals try (simp only [tw_ar, reduceCtorEq] at h; done)
  all_goals simp only [tw_ar] at h
  all_goals (split at h; rotate_left; · cases h)
  all_goals rename_i hlen
  all_goals subst hlen
  case iconst => cases h; exact lv_iconst hx hb hdg rfl kk
  case bipush => cases h; exact lv_bipush hx hb hdg rfl kk
  case sipush => cases h; exact lv_sipush hx hb hdg rfl kk
  case lconst => cases h; exact lv_lconst hx hb hdg rfl kk
  case aconst_null => cases h; exact lv_null hx hb hdg kk
  case iadd => split at h; rotate_left; (· cases h); cases h; exact lv_iadd hx hb hdg kk
  case isub => split at h; rotate_left; (· cases h); cases h; exact lv_isub hx hb hdg kk
  case imul => split at h; rotate_left; (· cases h); cases h; exact lv_imul hx hb hdg kk
  case iand => split at h; rotate_left; (· cases h); cases h; exact lv_iand hx hb hdg kk
  case ior => split at h; rotate_left; (· cases h); cases h; exact lv_ior hx hb hdg kk
  case ixor => split at h; rotate_left; (· cases h); cases h; exact lv_ixor hx hb hdg kk
  case ishl => split at h; rotate_left; (· cases h); cases h; exact lv_ishl hx hb hdg kk
  case ishr => split at h; rotate_left; (· cases h); cases h; exact lv_ishr hx hb hdg kk
  case idiv => split at h; rotate_left; (· cases h); split at h; (· cases h); rename_i hne; cases h; exact lv_idiv hx hb hdg hne kk
  case irem => split at h; rotate_left; (· cases h); split at h; (· cases h); rename_i hne; cases h; exact lv_irem hx hb hdg hne kk
  case land => split at h; rotate_left; (· cases h); cases h; exact lv_land hx hb hdg kk
  case lor => split at h; rotate_left; (· cases h); cases h; exact lv_lor hx hb hdg kk
  case lshl => split at h; rotate_left; (· cases h); cases h; exact lv_lshl hx hb hdg rfl kk
  case lshr => split at h; rotate_left; (· cases h); cases h; exact lv_lshr hx hb hdg rfl kk
  case lushr => split at h; rotate_left; (· cases h); cases h; exact lv_lushr hx hb hdg rfl kk
  case lcmp => split at h; rotate_left; (· cases h); cases h; exact W.lcmp hx hb hdg kk
  case i2l => split at h; rotate_left; (· cases h); cases h; exact lv_i2l hx hb hdg rfl kk
  case l2i => split at h; rotate_left; (· cases h); cases h; exact lv_l2i hx hb hdg rfl kk
  case dup => split at h; rotate_left; (· cases h); split at h; rotate_left; (· cases h); rename_i hc; cases h; exact lv_dup hx hb hdg (by rw [tw_cat]; exact hc) kk
  case dup2 => split at h; rotate_left; (· cases h); split at h; rotate_left; (· cases h); rename_i hc; cases h; exact lv_dup2_11 hx hb hdg (by rw [tw_cat]; exact hc.1) (by rw [tw_cat]; exact hc.2) kk
  case pop => split at h; rotate_left; (· cases h); split at h; rotate_left; (· cases h); rename_i hc; cases h; exact lv_pop hx hb hdg (by rw [tw_cat]; exact hc) kk
set_option maxHeartbeats 4000000 in
theorem tw_w_ld {pc' : Nat} (hC : tw_Bd p s m args meth c D k) (hL : tw_LS B b cs k ls) {ins : Instr} (hdg : decode (tw_cd k) pc = .ok (ins, len)) (h : tw_ld ins len pc ls st = some (pc', ls', st'))
    (kk : ls' = ls → W p l e R s m args below meth c H locs cells slots Q (F0 m pc' cs (st'.map (tw_cv B b)))) : W p l e R s m args below meth c H locs cells slots Q (F0 m pc cs (st.map (tw_cv B b))) := by
  obtain ⟨hx, hb, -⟩ := hC
  cases ins
  all_goals try (simp only [tw_ld, reduceCtorEq] at h; done)
  all_goals simp only [tw_ld] at h
  all_goals (split at h; rotate_left; · cases h)
  all_goals rename_i hlen
  all_goals subst hlen
  case iload_n => split at h; rotate_left; (· cases h); rename_i hv; cases h; exact lv_iload_n hx hb hdg rfl (tw_LS_at hL hv) (kk rfl)
  case iload => split at h; rotate_left; (· cases h); rename_i hv; cases h; exact lv_iload hx hb hdg (tw_LS_at hL hv) (kk rfl)
  case lload_n => split at h; rotate_left; (· cases h); rename_i hv; cases h; exact lv_lload_n hx hb hdg rfl (tw_LS_at hL hv) (kk rfl)
  case lload => split at h; rotate_left; (· cases h); rename_i hv; cases h; exact lv_lload hx hb hdg (tw_LS_at hL hv) (kk rfl)
  case aload_n =>
    split at h
    · rename_i hv; cases h; exact lv_aload_n hx hb hdg rfl (tw_LS_at hL hv) (kk rfl)
    · rename_i hv; cases h; exact lv_aload_nN hx hb hdg rfl (tw_LS_at hL hv) (kk rfl)
    · rename_i hv; cases h; exact lv_aload_n hx hb hdg rfl (tw_LS_at hL hv) (kk rfl)
    · cases h
  case aload =>
    split at h
    · rename_i hv; cases h; exact lv_aload hx hb hdg (tw_LS_at hL hv) (kk rfl)
    · rename_i hv; cases h; exact lv_aloadN hx hb hdg (tw_LS_at hL hv) (kk rfl)
    · cases h
set_option maxHeartbeats 4000000 in
theorem tw_w_so {pc' : Nat} (hC : tw_Bd p s m args meth c D k) (hL : tw_LS B b cs k ls) {ins : Instr} (hdg : decode (tw_cd k) pc = .ok (ins, len)) (h : tw_so k ins len pc ls st = some (pc', ls', st'))
    (kk : ∀ cs', tw_LS B b cs' k ls' → W p l e R s m args below meth c H locs cells slots Q (F0 m pc' cs' (st'.map (tw_cv B b)))) : W p l e R s m args below meth c H locs cells slots Q (F0 m pc cs (st.map (tw_cv B b))) := by
  obtain ⟨hx, hb, -⟩ := hC
  cases ins
  all_goals try (simp only [tw_so, reduceCtorEq] at h; done)
  all_goals simp only [tw_so] at h
  all_goals (split at h; rotate_left; · cases h)
  all_goals rename_i hlen
  all_goals subst hlen
  case istore_n =>
    split at h; rotate_left; (· cases h)
    obtain ⟨l1, hs, h1⟩ := Option.map_eq_some_iff.mp h
    cases h1
    exact lv_istore_n hx hb hdg rfl hL.1 (by rw [← hL.2.1]; exact tw_sto_lt hs) rfl (fun cs' h' => kk cs' (tw_LS_set hL hs rfl h'))
  case istore =>
    split at h; rotate_left; (· cases h)
    obtain ⟨l1, hs, h1⟩ := Option.map_eq_some_iff.mp h
    cases h1
    exact lv_istore hx hb hdg hL.1 (by rw [← hL.2.1]; exact tw_sto_lt hs) rfl (fun cs' h' => kk cs' (tw_LS_set hL hs rfl h'))
  case astore_n =>
    split at h
    · obtain ⟨l1, hs, h1⟩ := Option.map_eq_some_iff.mp h
      cases h1
      exact lv_astore_n hx hb hdg rfl hL.1 (by rw [← hL.2.1]; exact tw_sto_lt hs) rfl (fun cs' h' => kk cs' (tw_LS_set hL hs rfl h'))
    · obtain ⟨l1, hs, h1⟩ := Option.map_eq_some_iff.mp h
      cases h1
      exact lv_astore_nN hx hb hdg rfl hL.1 (by rw [← hL.2.1]; exact tw_sto_lt hs) rfl (fun cs' h' => kk cs' (tw_LS_set hL hs rfl h'))
    · cases h
  case astore =>
    split at h
    · obtain ⟨l1, hs, h1⟩ := Option.map_eq_some_iff.mp h
      cases h1
      exact lv_astore hx hb hdg hL.1 (by rw [← hL.2.1]; exact tw_sto_lt hs) rfl (fun cs' h' => kk cs' (tw_LS_set hL hs rfl h'))
    · obtain ⟨l1, hs, h1⟩ := Option.map_eq_some_iff.mp h
      cases h1
      exact lv_astoreN hx hb hdg hL.1 (by rw [← hL.2.1]; exact tw_sto_lt hs) rfl (fun cs' h' => kk cs' (tw_LS_set hL hs rfl h'))
    · cases h
  case iinc i n =>
    split at h; rotate_left; (· cases h)
    rename_i x hv
    obtain ⟨l1, hs, h1⟩ := Option.map_eq_some_iff.mp h
    cases h1
    have hm : (i, Value.int x) ∈ tw_as B b 0 ls := (tw_as_mem ls 0).mpr ⟨i, .int x, hv, by simp [tw_cv]⟩
    obtain ⟨j, hj⟩ := List.getElem?_of_mem hm
    exact lv_iinc hx hb hdg hL.1 hj rfl (by rw [← hL.2.1]; exact tw_sto_lt hs) rfl (fun cs' h' => kk cs' (tw_LS_set hL hs rfl h'))
theorem tw_to_spec {pc pc' : Nat} {off : Int} {ls ls' : tw_L} {st st' : List Value} (h : tw_to pc off ls st = some (pc', ls', st')) : (pc : Int) + off = (pc' : Int) ∧ ls' = ls ∧ st' = st := by
  unfold tw_to at h
  split at h
  · cases h
    exact ⟨by omega, rfl, rfl⟩
  · cases h
set_option maxHeartbeats 4000000 in
theorem tw_w_jp {pc' : Nat} (hC : tw_Bd p s m args meth c D k) {ins : Instr} (hdg : decode (tw_cd k) pc = .ok (ins, len)) (h : tw_jp ins len pc ls st = some (pc', ls', st'))
    (kk : ls' = ls → W p l e R s m args below meth c H locs cells slots Q (F0 m pc' cs (st'.map (tw_cv B b)))) : W p l e R s m args below meth c H locs cells slots Q (F0 m pc cs (st.map (tw_cv B b))) := by
  obtain ⟨hx, hb, -⟩ := hC
  cases ins
  all_goals try (simp only [tw_jp, reduceCtorEq] at h; done)
  all_goals simp only [tw_jp] at h
  case tableswitch dflt lo hi offs =>
    split at h; rotate_left; (· cases h)
    split at h
    · rename_i hr
      obtain ⟨h1, h2, rfl⟩ := tw_to_spec h
      exact lv_tableOut hx hb hdg hr h1 (kk h2)
    · rename_i hr
      split at h; rotate_left; (· cases h)
      rename_i ho
      obtain ⟨h1, h2, rfl⟩ := tw_to_spec h
      exact lv_tableIn hx hb hdg (fun q => hr (Or.inl q)) (fun q => hr (Or.inr q)) ho h1 (kk h2)
  case lookupswitch dflt ps =>
    split at h; rotate_left; (· cases h)
    split at h; rotate_left; (· cases h)
    rename_i hp
    obtain ⟨h1, h2, rfl⟩ := tw_to_spec h
    exact lv_lookup hx hb hdg hp rfl h1 (kk h2)
  case ifCond bb off =>
    split at h; rotate_left; (· cases h)
    rename_i hlen
    obtain ⟨rfl, ht⟩ := hlen
    split at h; rotate_left; (· cases h)
    have e1 : (pc : Int) + off = ((((pc : Int) + off).toNat : Nat) : Int) := by omega
    simp only [tw_to, if_pos ht] at h
    cases bb <;> simp only [tw_ci, decide_eq_true_eq] at h
    · refine lv_if_eq hx hb hdg e1 (fun q => ?_) (fun q => ?_) <;> simp only [q, ↓reduceIte] at h <;> cases h <;> exact kk rfl
    · refine lv_if_ne hx hb hdg e1 (fun q => ?_) (fun q => ?_) <;> simp only [q, ↓reduceIte, not_true_eq_false, not_false_eq_true] at h <;> cases h <;> exact kk rfl
    · refine lv_if_lt hx hb hdg e1 (fun q => ?_) (fun q => ?_) <;> simp only [q, ↓reduceIte] at h <;> cases h <;> exact kk rfl
    · refine lv_if_ge hx hb hdg e1 (fun q => ?_) (fun q => ?_) <;> simp only [q, ↓reduceIte] at h <;> cases h <;> exact kk rfl
    · refine lv_if_gt hx hb hdg e1 (fun q => ?_) (fun q => ?_) <;> simp only [q, ↓reduceIte] at h <;> cases h <;> exact kk rfl
    · refine lv_if_le hx hb hdg e1 (fun q => ?_) (fun q => ?_) <;> simp only [q, ↓reduceIte] at h <;> cases h <;> exact kk rfl
  case if_icmp bb off =>
    split at h; rotate_left; (· cases h)
    rename_i hlen
    obtain ⟨rfl, ht⟩ := hlen
    split at h; rotate_left; (· cases h)
    have e1 : (pc : Int) + off = ((((pc : Int) + off).toNat : Nat) : Int) := by omega
    simp only [tw_to, if_pos ht] at h
    cases bb <;> simp only [tw_ci, decide_eq_true_eq] at h
    · refine lv_icmp_eq hx hb hdg e1 (fun q => ?_) (fun q => ?_) <;> simp only [q, ↓reduceIte] at h <;> cases h <;> exact kk rfl
    · refine lv_icmp_ne hx hb hdg e1 (fun q => ?_) (fun q => ?_) <;> simp only [q, ↓reduceIte, not_true_eq_false, not_false_eq_true] at h <;> cases h <;> exact kk rfl
    · refine lv_icmp_lt hx hb hdg e1 (fun q => ?_) (fun q => ?_) <;> simp only [q, ↓reduceIte] at h <;> cases h <;> exact kk rfl
    · refine lv_icmp_ge hx hb hdg e1 (fun q => ?_) (fun q => ?_) <;> simp only [q, ↓reduceIte] at h <;> cases h <;> exact kk rfl
    · refine lv_icmp_gt hx hb hdg e1 (fun q => ?_) (fun q => ?_) <;> simp only [q, ↓reduceIte] at h <;> cases h <;> exact kk rfl
    · refine lv_icmp_le hx hb hdg e1 (fun q => ?_) (fun q => ?_) <;> simp only [q, ↓reduceIte] at h <;> cases h <;> exact kk rfl
  all_goals (split at h; rotate_left; · cases h)
  all_goals rename_i hlen
  all_goals subst hlen
  case goto =>
    obtain ⟨h1, h2, rfl⟩ := tw_to_spec h
    exact lv_goto hx hb hdg h1 (kk h2)
  case ifnull =>
    split at h
    · cases h; exact lv_ifnull hx hb hdg (kk rfl)
    · obtain ⟨h1, h2, rfl⟩ := tw_to_spec h
      exact lv_ifnullN hx hb hdg h1 (kk h2)
    · cases h
  case ifnonnull =>
    split at h
    · obtain ⟨h1, h2, rfl⟩ := tw_to_spec h
      exact lv_ifnonnull hx hb hdg h1 (kk h2)
    · cases h; exact lv_ifnonnullN hx hb hdg (kk rfl)
    · cases h
end tw_rules
end
section
/-! reading and writing cells: the small machine's, as the machine does it -/
theorem tw_find {α : Type} {l : List (Nat × Nat × α)} {o i : Nat} {q : Nat × Nat × α} (h : l.find? (fun q => q.1 == o && q.2.1 == i) = some q) : q ∈ l ∧ q.1 = o ∧ q.2.1 = i := by
  have h1 := List.find?_some h
  simp only [Bool.and_eq_true, beq_iff_eq] at h1
  exact ⟨List.mem_of_find?_eq_some h, h1⟩
theorem tw_rd_kd {D : va_G} {B : Nat} {U : State} {H : Heap} {g : tw_G} {mi : tw_I} {mr : tw_Q} (hH : tw_H D B U H g mi mr) {a : Nat} (ha : tw_kd g a ≠ 99) : a < g.1 ∧ tw_cell D B U H g mi mr a := by
  have h1 : a < g.1 := by
    rcases Nat.lt_or_ge a g.1 with h | h
    · exact h
    · exact absurd (hH.2.1 a h) ha
  exact ⟨h1, hH.2.2 a h1⟩
theorem tw_obj {D : va_G} {B : Nat} {U : State} {H : Heap} {g : tw_G} {mi : tw_I} {mr : tw_Q} (hH : tw_H D B U H g mi mr) {a c : Nat} (hc : c < 11) (ha : tw_kd g a = c) : a < g.1 ∧ t_OB (B + a) (D.1 c) (tw_N c) (D.2 c) H (tw_fv B mi mr c a) := by
  obtain ⟨h1, h2⟩ := tw_rd_kd hH (a := a) (by omega)
  refine ⟨h1, ?_⟩
  rcases h2 with ⟨-, h⟩ | ⟨h, -⟩ | ⟨h, -⟩ | ⟨h, -⟩
  · rw [ha] at h; exact h
  · omega
  · omega
  · omega
theorem tw_arr {D : va_G} {B : Nat} {U : State} {H : Heap} {g : tw_G} {mi : tw_I} {mr : tw_Q} (hH : tw_H D B U H g mi mr) {a : Nat} (ha : tw_kd g a = 20) : a < g.1 ∧ ∃ cA, H[B + a]? = some (arrV cA (tw_ln g a) (fun j => .int (mi a j))) ∧ ArrOfT U cA .int := by
  obtain ⟨h1, h2⟩ := tw_rd_kd hH (a := a) (by omega)
  refine ⟨h1, ?_⟩
  rcases h2 with ⟨h, -⟩ | ⟨-, h⟩ | ⟨h, -⟩ | ⟨h, -⟩
  · omega
  · exact h
  · omega
  · omega
theorem tw_arz {D : va_G} {B : Nat} {U : State} {H : Heap} {g : tw_G} {mi : tw_I} {mr : tw_Q} (hH : tw_H D B U H g mi mr) {a : Nat} (ha : tw_kd g a = 21) : a < g.1 ∧ ∃ cA, H[B + a]? = some (arrV cA (tw_ln g a) (fun j => .int (mi a j))) ∧ ArrOfT U cA .boolean := by
  obtain ⟨h1, h2⟩ := tw_rd_kd hH (a := a) (by omega)
  refine ⟨h1, ?_⟩
  rcases h2 with ⟨h, -⟩ | ⟨h, -⟩ | ⟨-, h⟩ | ⟨h, -⟩
  · omega
  · omega
  · exact h
  · omega
theorem tw_arq {D : va_G} {B : Nat} {U : State} {H : Heap} {g : tw_G} {mi : tw_I} {mr : tw_Q} (hH : tw_H D B U H g mi mr) {a : Nat} (ha : tw_kd g a = 22) : a < g.1 ∧ ∃ cA, H[B + a]? = some (arrV cA (tw_ln g a) (fun j => va_rf ((mr a j).map (B + ·)))) ∧ ArrOfT U cA (.object tw_R2) ∧ va_RA U cA (.object tw_R2) := by
  obtain ⟨h1, h2⟩ := tw_rd_kd hH (a := a) (by omega)
  refine ⟨h1, ?_⟩
  rcases h2 with ⟨h, -⟩ | ⟨h, -⟩ | ⟨h, -⟩ | ⟨-, h⟩
  · omega
  · omega
  · omega
  · exact h
/-- one cell is changed, its kind stays -/
theorem tw_H_put {D : va_G} {B : Nat} {U : State} {H H1 : Heap} {g : tw_G} {mi mi1 : tw_I} {mr mr1 : tw_Q} (hH : tw_H D B U H g mi mr) {a : Nat} (hz : H1.size = H.size) (ho : ∀ q, q ≠ B + a → H1[q]? = H[q]?) (hi : ∀ x, x ≠ a → mi1 x = mi x) (hr : ∀ x, x ≠ a → mr1 x = mr x) (hc : tw_cell D B U H1 g mi1 mr1 a) : tw_H D B U H1 g mi1 mr1 := by
  refine ⟨by rw [hz]; exact hH.1, hH.2.1, fun x hx => ?_⟩
  by_cases hxa : x = a
  · subst hxa; exact hc
  · exact tw_cell_kept (hH.2.2 x hx) (ho _ (by omega)) rfl (hi x hxa) (hr x hxa)
theorem tw_Fr_put {B : Nat} {H0 H H1 : Heap} {locs : List Loc} {a j : Nat} (h : tw_Fr B H0 H locs) (ho : ∀ q, q ≠ B + a → H1[q]? = H[q]?) : tw_Fr B H0 H1 (locs ++ [⟨B + a, j⟩]) := by
  refine ⟨fun q hq => by rw [ho q (by omega)]; exact h.1 q hq, fun z hz => ?_⟩
  rcases List.mem_append.mp hz with h1 | h1
  · exact h.2 z h1
  · rw [List.mem_singleton.mp h1]; exact Nat.le_add_right _ _
/-- a cell is made -/
theorem tw_H_new {D : va_G} {B : Nat} {U : State} {H H1 : Heap} {g : tw_G} {mi : tw_I} {mr : tw_Q} (hH : tw_H D B U H g mi mr) {kd n s : Nat} {fi : Nat → Int32} {fr : Nat → Option Nat} (hz : H1.size = H.size + 1) (ho : ∀ q, q < H.size → H1[q]? = H[q]?) (hc : tw_cell D B U H1 (tw_gn g kd n s) (tw_st mi g.1 fi) (tw_st mr g.1 fr) g.1) : tw_H D B U H1 (tw_gn g kd n s) (tw_st mi g.1 fi) (tw_st mr g.1 fr) := by
  have hs : ∀ {α : Type} (f : Nat → α) (v : α) (x : Nat), x ≠ g.1 → tw_st f g.1 v x = f x := fun f v x h => by simp [tw_st, h]
  refine ⟨by rw [hz, hH.1]; show B + g.1 + 1 = B + (g.1 + 1); omega, fun a ha => ?_, fun x hx => ?_⟩
  · have h1 : g.1 + 1 ≤ a := ha
    have h2 := hH.2.1 a (by omega)
    unfold tw_kd at h2 ⊢
    show (tw_st g.2.2 g.1 (kd, n) a).1 = 99
    rw [hs _ _ _ (by omega)]
    exact h2
  · have h1 : x < g.1 + 1 := hx
    by_cases hxa : x = g.1
    · subst hxa; exact hc
    · exact tw_cell_kept (hH.2.2 x (by omega)) (ho _ (by rw [hH.1]; omega)) (hs _ _ _ hxa) (hs _ _ _ hxa) (hs _ _ _ hxa)
theorem tw_Fr_new {B : Nat} {H0 H H1 : Heap} {locs : List Loc} (h : tw_Fr B H0 H locs) (hz : B ≤ H.size) (ho : ∀ q, q < H.size → H1[q]? = H[q]?) : tw_Fr B H0 H1 locs := ⟨fun q hq => by rw [ho q (by omega)]; exact h.1 q hq, h.2⟩
theorem tw_gn_kd (g : tw_G) (kd n s : Nat) : tw_kd (tw_gn g kd n s) g.1 = kd ∧ tw_ln (tw_gn g kd n s) g.1 = n := by simp [tw_kd, tw_ln, tw_gn, tw_st]
theorem tw_st_s {α : Type} (f : Nat → α) (a : Nat) (v : α) : tw_st f a v a = v := by simp [tw_st]
theorem tw_st_n {α : Type} (f : Nat → α) {a b : Nat} (v : α) (h : b ≠ a) : tw_st f a v b = f b := by simp [tw_st, h]
theorem tw_updV {α : Type} (f : Nat → α) (h : α → Value) (j : Nat) (v : α) : updV (fun i => h (f i)) j (h v) = fun i => h (tw_st f j v i) := by
  funext i
  by_cases hi : i = j
  · subst hi; simp [updV, tw_st]
  · simp [updV, tw_st, hi]
section tw_cells
variable {p : Program} {l : Launch} {e : Env} {R : Room} {s : State} {m : MethodId} {args : Array Value} {below : List Frame} {meth : Method} {c : Code} {H : Heap} {locs : List Loc} {cells slots : Nat} {Q : State → Prop}
variable {D : va_G} {B b k pc : Nat} {cs : Array Slot} {rest : List Value} {g : tw_G} {mi : tw_I} {mr : tw_Q} {H0 : Heap}
theorem tw_Kn (hK : va_K D tw_cl [] s) {c : Nat} (h : c < 11) : u_Kn s (tw_R c) (tw_F c) (tw_N c) (D.1 c) (D.2 c) := hK.1 c _ (tw_cl_at h)
theorem tw_w_get (hC : tw_Bd p s m args meth c D k) (hH : tw_H D B s H g mi mr) {i a : Nat} {q : Nat × Nat × Nat × Nat × Bool × Nat} (hf : tw_fld (tw_ow k) i = some q) (ha : tw_kd g a = q.2.2.1) (hdg : decode (tw_cd k) pc = .ok (.getfield i, 3))
    (kk : W p l e R s m args below meth c H locs cells slots Q (F0 m (pc + 3) cs (tw_fv B mi mr q.2.2.1 a q.2.2.2.1 :: rest))) : W p l e R s m args below meth c H locs cells slots Q (F0 m pc cs (.ref (B + a) :: rest)) := by
  obtain ⟨hx, hb, -, hown, hts, hNX, hK, -⟩ := hC
  obtain ⟨hq, e1, e2⟩ := tw_find hf
  obtain ⟨hw, hc11, hkN⟩ := tw_fls_ok q hq
  rw [e1, e2] at hw
  obtain ⟨-, cell, q1, q2, q3, q4⟩ := tw_obj hH hc11 ha
  obtain ⟨hS, hfc, kC, hkC, hkind⟩ := tw_Kn hK hc11
  obtain ⟨cf, kf, fi, f, hi, hsl⟩ := hS _ hkN
  have hst := (u_facts hfc hkC (u_lays hts (tw_lays _ hc11) hkN) hi).1
  by_cases hn : q.2.2.2.2.1 = true
  · have hl := hNX.1 q hq hn
    rw [e1, e2] at hl
    refine va_Wgetf hx hb hown (va_Nw.use rfl hl) hi hst q1 (by rw [q3]; exact fun h => by cases h) ?_ rfl rfl hdg kk
    rw [hsl, q4 _ hkN]
  · rw [if_neg hn] at hw
    refine W.getf hx hb hown (hts _ (tw_at hw rfl)) hi hst q1 (by rw [q3]; exact fun h => by cases h) ?_ rfl rfl hdg kk
    rw [hsl, q4 _ hkN]
theorem tw_apart {D : va_G} (hts : ∀ w ∈ tw_tb, w.before args s = true) (hK : va_K D tw_cl [] s) {c : Nat} (h : c < 11) : ∀ x y, x < tw_N c → y < tw_N c → x ≠ y → (D.2 c) x ≠ (D.2 c) y :=
  va_apart (own := tw_R c) hts (tw_lays c h) (tw_ty c) (tw_ty_ok c h) (tw_nm_ok c h) hK (tw_cl_at h)
theorem tw_w_put (hC : tw_Bd p s m args meth c D k) (hH : tw_H D B s H g mi mr) (hF : tw_Fr B H0 H locs) {i a : Nat} {q : Nat × Nat × Nat × Nat × Bool × Nat} {mi1 : tw_I} {mr1 : tw_Q} {v : Value} (hf : tw_fld (tw_ow k) i = some q) (hn : q.2.2.2.2.1 = false) (hfin : (tw_fd q.2.2.1 q.2.2.2.1).2.2.1 = false ∨ ((tw_y k).name = "<init>" ∧ q.2.2.1 = tw_ow k)) (ha : tw_kd g a = q.2.2.1)
    (hna : narrow (tw_ty q.2.2.1 q.2.2.2.1) v = v) (hfit : fits (tw_ty q.2.2.1 q.2.2.2.1) v = true) (hi1 : ∀ x, x ≠ a → mi1 x = mi x) (hr1 : ∀ x, x ≠ a → mr1 x = mr x) (hfv : ∀ j, j < tw_N q.2.2.1 → updV (tw_fv B mi mr q.2.2.1 a) q.2.2.2.1 v j = tw_fv B mi1 mr1 q.2.2.1 a j) (hdg : decode (tw_cd k) pc = .ok (.putfield i, 3))
    (kk : ∀ (H1 : Heap) (locs1 : List Loc), tw_H D B s H1 g mi1 mr1 → tw_Fr B H0 H1 locs1 → W p l e R s m args below meth c H1 locs1 cells slots Q (F0 m (pc + 3) cs rest)) : W p l e R s m args below meth c H locs cells slots Q (F0 m pc cs (v :: .ref (B + a) :: rest)) := by
  obtain ⟨hx, hb, -, hown, hts, -, hK, hin⟩ := hC
  obtain ⟨hq, e1, e2⟩ := tw_find hf
  obtain ⟨hw, hc11, hkN⟩ := tw_fls_ok q hq
  rw [e1, e2, hn, if_neg (by decide)] at hw
  have hlink := hts _ (tw_at hw rfl)
  have hap := tw_apart hts hK hc11
  obtain ⟨-, cell, q1, q2, q3, q4⟩ := tw_obj hH hc11 ha
  obtain ⟨hS, hfc, kC, hkC, hkind⟩ := tw_Kn hK hc11
  obtain ⟨cf, kf, fi, f, hi, hsl⟩ := hS _ hkN
  have hst := (u_facts hfc hkC (u_lays hts (tw_lays _ hc11) hkN) hi).1
  have hlay := hts _ (tw_lays _ hc11 _ (u_in_lay hkN))
  have hd := tw_ty_ok _ hc11 _ hkN
  have fin : ∀ H', H'[B + a]? = some (cell.setSlot f.slot v) → H'.size = H.size → (∀ q, q ≠ B + a → H'[q]? = H[q]?) → W p l e R s m args below meth c H' (locs ++ [⟨B + a, f.slot⟩]) cells slots Q (F0 m (pc + 3) cs rest) := by
    intro H' z1 z2 z3
    rw [hsl] at z1 ⊢
    refine kk H' _ (tw_H_put hH z2 z3 hi1 hr1 (Or.inl ⟨by omega, ?_⟩)) (tw_Fr_put hF z3)
    rw [ha]
    exact t_OB.to (V := updV (tw_fv B mi mr q.2.2.1 a) q.2.2.2.1 v) ⟨_, z1, q2, q3, t_set q4 hap hkN v⟩ hfv
  unfold u_lay at hlay
  by_cases hfi : (tw_fd q.2.2.1 q.2.2.2.1).2.2.1 = false
  · have h0 : ((tw_F q.2.2.1) q.2.2.2.1).2.2.2 = false := hfi
    rw [if_neg (by rw [h0]; decide)] at hlay
    have h6 := u_store hfc hkC hkind hlay hi hd hna hfit
    exact W.putK hx hb (f := f) ⟨hown, hlink, ⟨_, _, _, hi⟩, hst⟩ (by rw [q2]; exact h6) q1 q3 (by rw [hsl]; exact k2_hasslot (q4 _ hkN)) rfl rfl hdg fin
  · have h0 : ((tw_F q.2.2.1) q.2.2.2.1).2.2.2 = true := by
      show (tw_fd q.2.2.1 q.2.2.2.1).2.2.1 = true
      simpa using hfi
    rw [if_pos h0] at hlay
    obtain ⟨hi0, hco⟩ := hfin.resolve_left hfi
    have hcf : m.cls = cf := by
      obtain ⟨_, _, c', _, _, _, -, -, hf', -, -, -, hown2, -⟩ := Cond.laysFinal_spec hlay
      have z1 : c' = cf := by have := hi.symm.trans hf'; simp at this; exact this.1.symm
      have hown3 : s.vm.findClass (tw_R q.2.2.1) = some c' := hown2
      rw [hco] at hown3
      rw [← z1]; exact Option.some.inj (hown.symm.trans hown3)
    have h6 := u_fits hfc hkC hkind (Or.inr hlay) hi hd hna hfit
    exact W.putFinK hx hb hown hlink hi hst hcf (hin hi0) (by rw [q2]; exact h6) q1 q3 (by rw [hsl]; exact k2_hasslot (q4 _ hkN)) rfl rfl hdg fin
theorem tw_w_iald (hC : tw_Bd p s m args meth c D k) (hH : tw_H D B s H g mi mr) {a : Nat} {j : Int32} (ha : tw_kd g a = 20) (hin : ¬ (j < 0 ∨ tw_ln g a ≤ j.toNatClampNeg)) (hdg : decode (tw_cd k) pc = .ok (.iaload, 1))
    (kk : W p l e R s m args below meth c H locs cells slots Q (F0 m (pc + 1) cs (.int (mi a j.toNatClampNeg) :: rest))) : W p l e R s m args below meth c H locs cells slots Q (F0 m pc cs (.int j :: .ref (B + a) :: rest)) := by
  obtain ⟨hx, hb, -⟩ := hC
  obtain ⟨-, cA, h1, h2⟩ := tw_arr hH ha
  have hlt : j.toNatClampNeg < tw_ln g a := Nat.not_le.mp fun q => hin (Or.inr q)
  exact W.iald (v := .int (mi a j.toNatClampNeg)) hx hb h1 (h2 _ _) (fun q => by cases q) (by rw [arrV_size]; exact hin) (by rw [arrV_read _ _ hlt]) rfl rfl hdg kk
theorem tw_w_zald (hC : tw_Bd p s m args meth c D k) (hH : tw_H D B s H g mi mr) {a : Nat} {j : Int32} (ha : tw_kd g a = 21) (hin : ¬ (j < 0 ∨ tw_ln g a ≤ j.toNatClampNeg)) (hdg : decode (tw_cd k) pc = .ok (.baload, 1))
    (kk : W p l e R s m args below meth c H locs cells slots Q (F0 m (pc + 1) cs (.int (mi a j.toNatClampNeg) :: rest))) : W p l e R s m args below meth c H locs cells slots Q (F0 m pc cs (.int j :: .ref (B + a) :: rest)) := by
  obtain ⟨hx, hb, -⟩ := hC
  obtain ⟨-, cA, h1, h2⟩ := tw_arz hH ha
  have hlt : j.toNatClampNeg < tw_ln g a := Nat.not_le.mp fun q => hin (Or.inr q)
  exact W.zald (v := .int (mi a j.toNatClampNeg)) hx hb h1 (h2 _ _) (fun q => by cases q) (by rw [arrV_size]; exact hin) (by rw [arrV_read _ _ hlt]) rfl rfl hdg kk
theorem tw_w_aald (hC : tw_Bd p s m args meth c D k) (hH : tw_H D B s H g mi mr) {a : Nat} {j : Int32} (ha : tw_kd g a = 22) (hin : ¬ (j < 0 ∨ tw_ln g a ≤ j.toNatClampNeg)) (hdg : decode (tw_cd k) pc = .ok (.aaload, 1))
    (kk : W p l e R s m args below meth c H locs cells slots Q (F0 m (pc + 1) cs (va_rf ((mr a j.toNatClampNeg).map (B + ·)) :: rest))) : W p l e R s m args below meth c H locs cells slots Q (F0 m pc cs (.int j :: .ref (B + a) :: rest)) := by
  obtain ⟨hx, hb, -⟩ := hC
  obtain ⟨-, cA, h1, h2, -⟩ := tw_arq hH ha
  have hlt : j.toNatClampNeg < tw_ln g a := Nat.not_le.mp fun q => hin (Or.inr q)
  exact W.aald (v := va_rf ((mr a j.toNatClampNeg).map (B + ·))) (ty := .object tw_R2) hx hb h1 (h2 _ _) rfl (fun q => by cases q) (by rw [arrV_size]; exact hin) (by rw [arrV_read _ _ hlt]) rfl rfl hdg kk
theorem tw_w_iast (hC : tw_Bd p s m args meth c D k) (hH : tw_H D B s H g mi mr) (hF : tw_Fr B H0 H locs) {a : Nat} {j x : Int32} (ha : tw_kd g a = 20) (hin : ¬ (j < 0 ∨ tw_ln g a ≤ j.toNatClampNeg)) (hdg : decode (tw_cd k) pc = .ok (.iastore, 1))
    (kk : ∀ (H1 : Heap) (locs1 : List Loc), tw_H D B s H1 g (tw_st mi a (tw_st (mi a) j.toNatClampNeg x)) mr → tw_Fr B H0 H1 locs1 → W p l e R s m args below meth c H1 locs1 cells slots Q (F0 m (pc + 1) cs rest)) : W p l e R s m args below meth c H locs cells slots Q (F0 m pc cs (.int x :: .int j :: .ref (B + a) :: rest)) := by
  obtain ⟨hx, hb, -⟩ := hC
  obtain ⟨-, cA, h1, h2⟩ := tw_arr hH ha
  refine W.iast hx hb h1 (h2 _ _) (fun q => by cases q) (by rw [arrV_size]; exact hin) rfl rfl hdg fun H1 z1 z2 z3 => ?_
  refine kk H1 _ (tw_H_put hH z2 z3 (fun y hy => tw_st_n _ _ hy) (fun y hy => rfl) (Or.inr (Or.inl ⟨ha, cA, ?_, h2⟩))) (tw_Fr_put hF z3)
  rw [z1, arrV_store, tw_st_s]
  exact congrArg (fun f => some (arrV cA (tw_ln g a) f)) (tw_updV (mi a) Value.int _ x)
theorem tw_w_zast (hC : tw_Bd p s m args meth c D k) (hH : tw_H D B s H g mi mr) (hF : tw_Fr B H0 H locs) {a : Nat} {j x : Int32} (hx01 : x = 0 ∨ x = 1) (ha : tw_kd g a = 21) (hin : ¬ (j < 0 ∨ tw_ln g a ≤ j.toNatClampNeg)) (hdg : decode (tw_cd k) pc = .ok (.bastore, 1))
    (kk : ∀ (H1 : Heap) (locs1 : List Loc), tw_H D B s H1 g (tw_st mi a (tw_st (mi a) j.toNatClampNeg x)) mr → tw_Fr B H0 H1 locs1 → W p l e R s m args below meth c H1 locs1 cells slots Q (F0 m (pc + 1) cs rest)) : W p l e R s m args below meth c H locs cells slots Q (F0 m pc cs (.int x :: .int j :: .ref (B + a) :: rest)) := by
  obtain ⟨hx, hb, -⟩ := hC
  obtain ⟨-, cA, h1, h2⟩ := tw_arz hH ha
  refine W.zast hx hb h1 (h2 _ _) (fun q => by cases q) (by rw [arrV_size]; exact hin) rfl rfl hdg fun H1 z1 z2 z3 => ?_
  refine kk H1 _ (tw_H_put hH z2 z3 (fun y hy => tw_st_n _ _ hy) (fun y hy => rfl) (Or.inr (Or.inr (Or.inl ⟨ha, cA, ?_, h2⟩)))) (tw_Fr_put hF z3)
  have hnar : narrow .boolean (.int x) = .int x := by rcases hx01 with rfl | rfl <;> rfl
  rw [z1, hnar, arrV_store, tw_st_s]
  exact congrArg (fun f => some (arrV cA (tw_ln g a) f)) (tw_updV (mi a) Value.int _ x)
theorem tw_w_aast (hC : tw_Bd p s m args meth c D k) (hH : tw_H D B s H g mi mr) (hF : tw_Fr B H0 H locs) {a v : Nat} {j : Int32} (ha : tw_kd g a = 22) (hv : tw_kd g v = 2) (hin : ¬ (j < 0 ∨ tw_ln g a ≤ j.toNatClampNeg)) (hdg : decode (tw_cd k) pc = .ok (.aastore, 1))
    (kk : ∀ (H1 : Heap) (locs1 : List Loc), tw_H D B s H1 g mi (tw_st mr a (tw_st (mr a) j.toNatClampNeg (some v))) → tw_Fr B H0 H1 locs1 → W p l e R s m args below meth c H1 locs1 cells slots Q (F0 m (pc + 1) cs rest)) : W p l e R s m args below meth c H locs cells slots Q (F0 m pc cs (.ref (B + v) :: .int j :: .ref (B + a) :: rest)) := by
  obtain ⟨hx, hb, -, -, -, -, hK, -⟩ := hC
  obtain ⟨-, cA, h1, h2, h3⟩ := tw_arq hH ha
  have hlt : j.toNatClampNeg < tw_ln g a := Nat.not_le.mp fun q => hin (Or.inr q)
  have h0 : ¬ j < 0 := fun q => hin (Or.inl q)
  obtain ⟨-, cellV, g1, g2, g3, -⟩ := tw_obj hH (c := 2) (by omega) hv
  have hcls := (tw_Kn hK (c := 2) (by omega)).2
  obtain ⟨kA, comp, k1, k2, k3, k4⟩ := h3
  have hcomp : comp = D.1 2 := Option.some.inj (k3.symm.trans hcls.1)
  subst hcomp
  have hcls2 := hcls.2
  obtain ⟨kC, hkC, -⟩ := hcls2
  refine W.aast hx hb h1 (fun q h => by cases h) (fun h => by cases h) k1 k2 rfl hkC ⟨h0, by rw [arrV_size]; exact hlt⟩ g1 (fun q h => by rw [g3] at h; cases h) (by rw [g2]; exact hkC) (by rw [g2]; exact va_assign hcls) rfl rfl hdg fun H1 z1 z2 z3 => ?_
  refine kk H1 _ (tw_H_put hH z2 z3 (fun y hy => rfl) (fun y hy => tw_st_n _ _ hy) (Or.inr (Or.inr (Or.inr ⟨ha, cA, ?_, h2, kA, D.1 2, k1, k2, k3, ?_⟩)))) (tw_Fr_put hF z3)
  · rw [z1, arrV_store, tw_st_s]
    exact congrArg (fun f => some (arrV cA (tw_ln g a) f)) (tw_updV (mr a) (fun o => va_rf (o.map (B + ·))) _ (some v))
  · exact k4
end tw_cells
end
section
/-! cells that are made, constants, the JDK's own two; then the small machine's rows read and written as a whole -/
section tw_news
variable {p : Program} {l : Launch} {e : Env} {R : Room} {s : State} {m : MethodId} {args : Array Value} {below : List Frame} {meth : Method} {c : Code} {H : Heap} {locs : List Loc} {cells slots : Nat} {Q : State → Prop}
variable {D : va_G} {B b k pc : Nat} {cs : Array Slot} {rest : List Value} {g : tw_G} {mi : tw_I} {mr : tw_Q} {H0 : Heap} {sc : Nat × (Nat → Int32)}
theorem tw_w_new (hC : tw_Bd p s m args meth c D k) (hH : tw_H D B s H g mi mr) (hF : tw_Fr B H0 H locs) {i : Nat} {q : Nat × Nat × Nat × Nat × Nat × Nat} (hf : tw_new (tw_ow k) i = some q) (hcells : cells + 1 ≤ R.cells) (hslots : slots + tw_N q.2.2.1 ≤ R.slots) (hdg : decode (tw_cd k) pc = .ok (.new i, 3))
    (kk : ∀ (H1 : Heap), tw_H D B s H1 (tw_gn g q.2.2.1 0 (tw_N q.2.2.1)) (tw_st mi g.1 (fun _ => 0)) (tw_st mr g.1 (fun _ => none)) → tw_Fr B H0 H1 locs → W p l e R s m args below meth c H1 locs (cells + 1) (slots + tw_N q.2.2.1) Q (F0 m (pc + 3) cs (.ref (B + g.1) :: rest))) : W p l e R s m args below meth c H locs cells slots Q (F0 m pc cs rest) := by
  obtain ⟨hx, hb, -, hown, hts, -, hK, -⟩ := hC
  obtain ⟨hq, e1, e2⟩ := tw_find hf
  obtain ⟨hc11, w1, w2, w3⟩ := tw_nws_ok q hq
  rw [e1, e2] at w1
  have hKn := tw_Kn hK hc11
  refine W.newcK hx hb hown (hts _ (tw_at w1 rfl)) (hts _ (tw_at w2 rfl)) (hts _ (tw_at w3 rfl)) rfl hdg hcells hslots hKn.2.1 hH.1 fun H1 kC hkC z1 z2 z3 => ?_
  have z3' : ∀ y, y < H.size → H1[y]? = H[y]? := fun y hy => z3 y (by rw [← hH.1]; exact hy)
  refine kk H1 (tw_H_new hH (by rw [z2, hH.1]) z3' (Or.inl ?_)) (tw_Fr_new hF (by rw [hH.1]; omega) z3')
  rw [(tw_gn_kd _ _ _ _).1]
  refine ⟨hc11, (u_born (tw_ty q.2.2.1) hts (tw_lays _ hc11) hKn hkC z1 (tw_ty_ok _ hc11)).to fun j hj => ?_⟩
  have hd : ∀ c, c < 11 → ∀ j, j < tw_N c → defaultValue (tw_ty c j) = (if tw_rf c j = true then Value.null else .int 0) := by decide +kernel
  rw [hd _ hc11 j hj]
  simp only [tw_fv, tw_st_s]
  rfl
theorem tw_w_newi (hC : tw_Bd p s m args meth c D k) (hH : tw_H D B s H g mi mr) (hF : tw_Fr B H0 H locs) {n : Int32} (hn : ¬ n < 0) (hn2 : n.toNatClampNeg ≤ 100000) (hcells : cells + 1 ≤ R.cells) (hslots : slots + n.toNatClampNeg ≤ R.slots) (hdg : decode (tw_cd k) pc = .ok (.newarray .int, 2))
    (kk : ∀ (H1 : Heap), tw_H D B s H1 (tw_gn g 20 n.toNatClampNeg n.toNatClampNeg) (tw_st mi g.1 (fun _ => 0)) (tw_st mr g.1 (fun _ => none)) → tw_Fr B H0 H1 locs → W p l e R s m args below meth c H1 locs (cells + 1) (slots + n.toNatClampNeg) Q (F0 m (pc + 2) cs (.ref (B + g.1) :: rest))) : W p l e R s m args below meth c H locs cells slots Q (F0 m pc cs (.int n :: rest)) := by
  obtain ⟨hx, hb, -, hown, hts, -, hK, -⟩ := hC
  refine va_newaK (atype := .int) hx hb (hts _ (tw_in tw_ia rfl)) rfl hdg rfl hn rfl (by show n.toNatClampNeg * 4 ≤ 536870912; omega) hcells hslots hH.1 fun H1 cA z1 z2 z3 hAr hNm => ?_
  have z3' : ∀ y, y < H.size → H1[y]? = H[y]? := fun y hy => z3 y (by rw [← hH.1]; exact hy)
  refine kk H1 (tw_H_new hH (by rw [z2, hH.1]) z3' (Or.inr (Or.inl ⟨(tw_gn_kd _ _ _ _).1, cA, ?_, hAr⟩))) (tw_Fr_new hF (by rw [hH.1]; omega) z3')
  rw [(tw_gn_kd _ _ _ _).2, tw_st_s]
  exact z1
theorem tw_w_newz (hC : tw_Bd p s m args meth c D k) (hH : tw_H D B s H g mi mr) (hF : tw_Fr B H0 H locs) {n : Int32} (hn : ¬ n < 0) (hn2 : n.toNatClampNeg ≤ 100000) (hcells : cells + 1 ≤ R.cells) (hslots : slots + n.toNatClampNeg ≤ R.slots) (hdg : decode (tw_cd k) pc = .ok (.newarray .boolean, 2))
    (kk : ∀ (H1 : Heap), tw_H D B s H1 (tw_gn g 21 n.toNatClampNeg n.toNatClampNeg) (tw_st mi g.1 (fun _ => 0)) (tw_st mr g.1 (fun _ => none)) → tw_Fr B H0 H1 locs → W p l e R s m args below meth c H1 locs (cells + 1) (slots + n.toNatClampNeg) Q (F0 m (pc + 2) cs (.ref (B + g.1) :: rest))) : W p l e R s m args below meth c H locs cells slots Q (F0 m pc cs (.int n :: rest)) := by
  obtain ⟨hx, hb, -, hown, hts, -, hK, -⟩ := hC
  refine va_newaK (atype := .boolean) hx hb (hts _ (tw_in tw_za rfl)) rfl hdg rfl hn rfl (by show n.toNatClampNeg * 1 ≤ 536870912; omega) hcells hslots hH.1 fun H1 cA z1 z2 z3 hAr hNm => ?_
  have z3' : ∀ y, y < H.size → H1[y]? = H[y]? := fun y hy => z3 y (by rw [← hH.1]; exact hy)
  refine kk H1 (tw_H_new hH (by rw [z2, hH.1]) z3' (Or.inr (Or.inr (Or.inl ⟨(tw_gn_kd _ _ _ _).1, cA, ?_, hAr⟩)))) (tw_Fr_new hF (by rw [hH.1]; omega) z3')
  rw [(tw_gn_kd _ _ _ _).2, tw_st_s]
  exact z1
theorem tw_w_newr (hC : tw_Bd p s m args meth c D k) (ho : tw_ow k = 1) (hH : tw_H D B s H g mi mr) (hF : tw_Fr B H0 H locs) {n : Int32} (hn : ¬ n < 0) (hn2 : n.toNatClampNeg ≤ 100000) (hcells : cells + 1 ≤ R.cells) (hslots : slots + n.toNatClampNeg ≤ R.slots) (hdg : decode (tw_cd k) pc = .ok (.anewarray 9, 3))
    (kk : ∀ (H1 : Heap), tw_H D B s H1 (tw_gn g 22 n.toNatClampNeg n.toNatClampNeg) (tw_st mi g.1 (fun _ => 0)) (tw_st mr g.1 (fun _ => none)) → tw_Fr B H0 H1 locs → W p l e R s m args below meth c H1 locs (cells + 1) (slots + n.toNatClampNeg) Q (F0 m (pc + 3) cs (.ref (B + g.1) :: rest))) : W p l e R s m args below meth c H locs cells slots Q (F0 m pc cs (.int n :: rest)) := by
  obtain ⟨hx, hb, -, hown, hts, hNX, hK, -⟩ := hC
  rw [ho] at hown
  refine W.anew hx hb hown (hts _ (tw_in tw_ac rfl)) (va_AO.use hNX.2.2) rfl hdg rfl hn (by omega) hcells hslots fun cA kA comp f1 f2 f3 f4 => ?_
  generalize hH1 : H.push ({ cls := cA, slots := Array.replicate n.toNatClampNeg .null, vm := .none } : Cell) = H1
  have z2 : H1.size = H.size + 1 := by rw [← hH1, Array.size_push]
  have z1 : H1[H.size]? = some (arrV cA n.toNatClampNeg (fun _ => .null)) := by rw [← hH1, Array.getElem?_push_size, ← arrV_new]
  have z3 : ∀ q : Nat, q < H.size → H1[q]? = H[q]? := fun q hq => by rw [← hH1, Array.getElem?_push, if_neg (Nat.ne_of_lt hq)]
  have hAr : ArrOfT s cA (.object tw_R2) := fun N z => ⟨(fun k h => by cases h), kA, f2, comp, f3⟩
  rw [hH.1]
  refine kk H1 (tw_H_new hH z2 z3 (Or.inr (Or.inr (Or.inr ⟨(tw_gn_kd _ _ _ _).1, cA, ?_, hAr, kA, comp, f2, f3, f4, f1⟩)))) (tw_Fr_new hF (by rw [hH.1]; omega) z3)
  rw [(tw_gn_kd _ _ _ _).2, tw_st_s, ← hH.1]
  exact z1
theorem tw_w_sald (hC : tw_Bd p s m args meth c D k) (hX : va_X b sc.1 sc.2 s H0) (hbB : b < B) (hF : tw_Fr B H0 H locs) {j : Int32} (hin : ¬ (j < 0 ∨ sc.1 ≤ j.toNatClampNeg)) (hdg : decode (tw_cd k) pc = .ok (.iaload, 1))
    (kk : W p l e R s m args below meth c H locs cells slots Q (F0 m (pc + 1) cs (.int (sc.2 j.toNatClampNeg) :: rest))) : W p l e R s m args below meth c H locs cells slots Q (F0 m pc cs (.int j :: .ref b :: rest)) := by
  obtain ⟨hx, hb, -⟩ := hC
  obtain ⟨scr, h1, h2, h3, h4, h5⟩ := hX
  have hlt : j.toNatClampNeg < sc.1 := Nat.not_le.mp fun q => hin (Or.inr q)
  exact W.iald (v := .int (sc.2 j.toNatClampNeg)) hx hb (by rw [hF.1 b hbB]; exact h1) h2 h3 (by rw [h4]; exact hin) (h5 _ hlt) rfl rfl hdg kk
theorem tw_w_slen (hC : tw_Bd p s m args meth c D k) (hX : va_X b sc.1 sc.2 s H0) (hbB : b < B) (hF : tw_Fr B H0 H locs) (hdg : decode (tw_cd k) pc = .ok (.arraylength, 1))
    (kk : W p l e R s m args below meth c H locs cells slots Q (F0 m (pc + 1) cs (.int (Int32.ofNat sc.1) :: rest))) : W p l e R s m args below meth c H locs cells slots Q (F0 m pc cs (.ref b :: rest)) := by
  obtain ⟨hx, hb, -⟩ := hC
  obtain ⟨scr, h1, h2, h3, h4, h5⟩ := hX
  exact W.alen hx hb (by rw [hF.1 b hbB]; exact h1) h2 (by rw [h4]) rfl rfl hdg kk
theorem tw_cats (B b : Nat) (r : List Value) (h : r.length ≤ 4) : ((r.map (tw_cv B b)).map fun v => v.category).sum ≤ 8 := by
  have h2 : ∀ (r : List Value), ((r.map (tw_cv B b)).map fun v => v.category).sum ≤ 2 * r.length := by
    intro r
    induction r with
    | nil => simp
    | cons v t ih =>
      simp only [List.map_cons, List.sum_cons, List.length_cons]
      have hv : (tw_cv B b v).category ≤ 2 := by
        rcases lv_cat (tw_cv B b v) with h | h <;> omega
      omega
  have := h2 r
  omega
set_option maxHeartbeats 4000000 in
theorem tw_w_rd {d : Nat} (hC : tw_Bd p s m args meth c D k) (hH : tw_H D B s H g mi mr) (hX : va_X b sc.1 sc.2 s H0) (hbB : b < B) (hF : tw_Fr B H0 H locs) (hsz : cs.size = tw_ml k) (hdf : d ≤ R.frames) (hdl : 60 * d ≤ R.locals) (hc : cells ≤ R.cells) (hs : slots ≤ R.slots) {ins : Instr} {len : Nat} {st st' : List Value} (hdg : decode (tw_cd k) pc = .ok (ins, len)) (h : tw_rd sc k d ins len st g mi mr = some st')
    (kk : W p l e R s m args below meth c H locs cells slots Q (F0 m (pc + len) cs (st'.map (tw_cv B b)))) : W p l e R s m args below meth c H locs cells slots Q (F0 m pc cs (st.map (tw_cv B b))) := by
  have hC' := hC
  obtain ⟨hx, hb, hml, hown, hts, -⟩ := hC'
  cases ins
  all_goals try (simp only [tw_rd, reduceCtorEq] at h; done)
  all_goals simp only [tw_rd] at h
  all_goals (split at h; rotate_left; · cases h)
  all_goals rename_i hlen
  all_goals subst hlen
  case getfield i =>
    split at h; rotate_left; (· cases h)
    rename_i a r
    split at h; rotate_left; (· cases h)
    rename_i q hf
    split at h; rotate_left; (· cases h)
    rename_i ha
    refine tw_w_get hC hH hf ha hdg ?_
    split at h
    · rename_i hr
      cases h
      rw [List.map_cons, tw_cv_rf] at kk
      simp only [tw_fv, if_pos hr]
      exact kk
    · rename_i hr
      cases h
      simp only [tw_fv, if_neg hr]
      exact kk
  case iaload =>
    split at h
    · split at h; rotate_left; (· cases h)
      rename_i ha
      cases h
      exact tw_w_iald hC hH ha.1 ha.2 hdg kk
    · split at h; rotate_left; (· cases h)
      rename_i ha
      cases h
      exact tw_w_sald hC hX hbB hF ha hdg kk
    · cases h
  case baload =>
    split at h; rotate_left; (· cases h)
    split at h; rotate_left; (· cases h)
    rename_i ha
    cases h
    exact tw_w_zald hC hH ha.1 ha.2 hdg kk
  case aaload =>
    split at h; rotate_left; (· cases h)
    split at h; rotate_left; (· cases h)
    rename_i ha
    cases h
    rw [List.map_cons, tw_cv_rf] at kk
    exact tw_w_aald hC hH ha.1 ha.2 hdg kk
  case arraylength =>
    split at h; rotate_left; (· cases h)
    cases h
    exact tw_w_slen hC hX hbB hF hdg kk
  case ldc i =>
    split at h; rotate_left; (· cases h)
    rename_i q hf
    cases h
    obtain ⟨hq, e1, e2⟩ := tw_find hf
    have hw := tw_lds_ok q hq
    rw [e1, e2] at hw
    exact lv_ldc hx hb hown (hts _ (tw_at hw rfl)) hdg kk
  case ldc2_w i =>
    split at h; rotate_left; (· cases h)
    rename_i q hf
    cases h
    obtain ⟨hq, e1, e2⟩ := tw_find hf
    have hw := tw_ld2_ok q hq
    rw [e1, e2] at hw
    exact lv_ldc2 hx hb hown (hts _ (tw_at hw rfl)) hdg kk
  case invokestatic i =>
    split at h; rotate_left; (· cases h)
    rename_i y x r
    split at h; rotate_left; (· cases h)
    rename_i q hf
    split at h; rotate_left; (· cases h)
    rename_i hd
    obtain ⟨hq, e1, e2⟩ := tw_find hf
    obtain ⟨w1, w2, w3⟩ := tw_mas_ok q hq
    rw [e1, e2] at w1
    have hcat := tw_cats B b r hd.2
    split at h
    · rename_i hm
      cases h
      rw [if_pos hm] at w1 w2
      exact va_mmax hx hb (by rw [hml, hsz]) hown (hts _ (tw_at w1 rfl)) (hts _ (tw_at w2 rfl)) (hts _ (tw_at w3 rfl)) (hts _ (tw_in tw_max_code rfl)) (by omega) (by omega) hc hs hdg kk
    · rename_i hm
      cases h
      rw [if_neg hm] at w1 w2
      exact va_mmin hx hb (by rw [hml, hsz]) hown (hts _ (tw_at w1 rfl)) (hts _ (tw_at w2 rfl)) (hts _ (tw_at w3 rfl)) (hts _ (tw_in tw_min_code rfl)) (by omega) (by omega) hc hs hdg kk
  case invokespecial i =>
    split at h; rotate_left; (· cases h)
    rename_i a r
    split at h; rotate_left; (· cases h)
    rename_i q hf
    split at h; rotate_left; (· cases h)
    rename_i hd
    cases h
    obtain ⟨hq, e1, e2⟩ := tw_find hf
    have w1 := tw_ois_ok q hq
    rw [e1, e2] at w1
    have hcat := tw_cats B b st' hd.2
    exact W.objInit hx hb hown (hts _ (tw_at w1 rfl)) (hts _ (tw_in tw_oi_inst rfl)) (hts _ (tw_in tw_oi_code rfl)) rfl (by show cs.size = _; rw [hml, hsz]) rfl hdg (by omega) (by rw [show JFrame.monitorRoom (F0 m pc cs (List.map (tw_cv B b) (Value.ref a :: st'))) = 0 from rfl]; omega) kk
end tw_news
end
section
/-! the small machine's run is the machine's -/
section tw_sims
variable {p : Program} {l : Launch} {e : Env} {R : Room} {s : State} {m : MethodId} {args : Array Value} {below : List Frame} {meth : Method} {c : Code} {H : Heap} {locs : List Loc} {cells slots : Nat} {Q : State → Prop}
variable {D : va_G} {B b k pc : Nat} {cs : Array Slot} {rest : List Value} {g : tw_G} {mi : tw_I} {mr : tw_Q} {H0 : Heap} {sc : Nat × (Nat → Int32)}
theorem tw_fv_sti {c a kf : Nat} {x : Int32} (h : tw_rf c kf = false) (j : Nat) : updV (tw_fv B mi mr c a) kf (.int x) j = tw_fv B (tw_st mi a (tw_st (mi a) kf x)) mr c a j := by
  by_cases hj : j = kf
  · subst hj
    simp [updV, tw_fv, h, tw_st_s]
  · simp [updV, tw_fv, hj, tw_st_s, tw_st_n]
theorem tw_fv_str {c a kf v : Nat} (h : tw_rf c kf = true) (j : Nat) : updV (tw_fv B mi mr c a) kf (.ref (B + v)) j = tw_fv B mi (tw_st mr a (tw_st (mr a) kf (some v))) c a j := by
  by_cases hj : j = kf
  · subst hj
    simp [updV, tw_fv, h, tw_st_s, va_rf]
  · simp [updV, tw_fv, hj, tw_st_s, tw_st_n]
theorem tw_wr_le {k : Nat} {ins : Instr} {len : Nat} {st st' : List Value} {g' : tw_G} {mi' : tw_I} {mr' : tw_Q} (h : tw_wr k ins len st g mi mr = some (st', g', mi', mr')) : g.1 ≤ g'.1 ∧ g.2.1 ≤ g'.2.1 := by
  cases ins
  all_goals try (simp only [tw_wr, reduceCtorEq] at h; done)
  case newarray t => cases t <;> simp only [tw_wr, reduceCtorEq] at h <;> ((repeat' split at h) <;> first | (cases h; done) | (cases h; exact ⟨Nat.le_succ _, Nat.le_add_right _ _⟩))
  all_goals simp only [tw_wr] at h
  all_goals ((repeat' split at h) <;> first | (cases h; done) | (cases h; exact ⟨Nat.le_refl _, Nat.le_refl _⟩) | (cases h; exact ⟨Nat.le_succ _, Nat.le_add_right _ _⟩))
set_option maxHeartbeats 4000000 in
theorem tw_w_wr (hC : tw_Bd p s m args meth c D k) (hH : tw_H D B s H g mi mr) (hF : tw_Fr B H0 H locs) {ins : Instr} {len : Nat} {st st' : List Value} {g' : tw_G} {mi' : tw_I} {mr' : tw_Q} (hc : cells + (g'.1 - g.1) ≤ R.cells) (hs : slots + (g'.2.1 - g.2.1) ≤ R.slots) (hdg : decode (tw_cd k) pc = .ok (ins, len)) (h : tw_wr k ins len st g mi mr = some (st', g', mi', mr'))
    (kk : ∀ (H1 : Heap) (locs1 : List Loc), tw_H D B s H1 g' mi' mr' → tw_Fr B H0 H1 locs1 → W p l e R s m args below meth c H1 locs1 (cells + (g'.1 - g.1)) (slots + (g'.2.1 - g.2.1)) Q (F0 m (pc + len) cs (st'.map (tw_cv B b)))) : W p l e R s m args below meth c H locs cells slots Q (F0 m pc cs (st.map (tw_cv B b))) := by
  cases ins
  all_goals try (simp only [tw_wr, reduceCtorEq] at h; done)
  case newarray t =>
    cases t <;> simp only [tw_wr, reduceCtorEq] at h
    · split at h; rotate_left; (· cases h)
      rename_i hlen
      subst hlen
      split at h; rotate_left; (· cases h)
      split at h; rotate_left; (· cases h)
      rename_i n r hn
      cases h
      simp only [tw_gn, Nat.add_sub_cancel_left] at hc hs kk
      exact tw_w_newz hC hH hF hn.1 hn.2 hc hs hdg (fun H1 z1 z2 => kk H1 _ z1 z2)
    · split at h; rotate_left; (· cases h)
      rename_i hlen
      subst hlen
      split at h; rotate_left; (· cases h)
      split at h; rotate_left; (· cases h)
      rename_i n r hn
      cases h
      simp only [tw_gn, Nat.add_sub_cancel_left] at hc hs kk
      exact tw_w_newi hC hH hF hn.1 hn.2 hc hs hdg (fun H1 z1 z2 => kk H1 _ z1 z2)
  all_goals simp only [tw_wr] at h
  all_goals (split at h; rotate_left; · cases h)
  all_goals rename_i hlen
  case anewarray i =>
    obtain ⟨rfl, ho, rfl⟩ := hlen
    split at h; rotate_left; (· cases h)
    split at h; rotate_left; (· cases h)
    rename_i n r hn
    cases h
    simp only [tw_gn, Nat.add_sub_cancel_left] at hc hs kk
    exact tw_w_newr hC ho hH hF hn.1 hn.2 hc hs hdg (fun H1 z1 z2 => kk H1 _ z1 z2)
  all_goals subst hlen
  case new i =>
    split at h; rotate_left; (· cases h)
    rename_i q hf
    cases h
    simp only [tw_gn, Nat.add_sub_cancel_left] at hc hs kk
    exact tw_w_new hC hH hF hf hc hs hdg (fun H1 z1 z2 => kk H1 _ z1 z2)
  case iastore =>
    split at h; rotate_left; (· cases h)
    split at h; rotate_left; (· cases h)
    rename_i ha
    cases h
    simp only [Nat.sub_self, Nat.add_zero] at kk
    exact tw_w_iast hC hH hF ha.1 ha.2 hdg kk
  case bastore =>
    split at h; rotate_left; (· cases h)
    split at h; rotate_left; (· cases h)
    rename_i ha
    cases h
    simp only [Nat.sub_self, Nat.add_zero] at kk
    exact tw_w_zast hC hH hF ha.2.1 ha.1 ha.2.2 hdg kk
  case aastore =>
    split at h; rotate_left; (· cases h)
    split at h; rotate_left; (· cases h)
    rename_i ha
    cases h
    simp only [Nat.sub_self, Nat.add_zero] at kk
    exact tw_w_aast hC hH hF ha.1 ha.2.1 ha.2.2 hdg kk
  case putfield i =>
    split at h; rotate_left; (· cases h)
    rename_i q hf
    split at h; rotate_left; (· cases h)
    rename_i hn
    split at h
    · split at h; rotate_left; (· cases h)
      rename_i x a r ha
      cases h
      simp only [Nat.sub_self, Nat.add_zero] at kk
      have hrf : tw_rf q.2.2.1 q.2.2.2.1 = false := by
        unfold tw_rf
        rcases ha.2 with h1 | ⟨h1, -⟩ <;> rw [h1]
      refine tw_w_put (v := .int x) hC hH hF hf hn.1 hn.2 ha.1 ?_ ?_ (fun y hy => tw_st_n _ _ hy) (fun y hy => rfl) (fun j _ => tw_fv_sti hrf j) hdg kk
      · rcases ha.2 with h1 | ⟨h1, h2⟩
        · rw [h1]; rfl
        · rw [h1]; rcases h2 with rfl | rfl <;> rfl
      · rcases ha.2 with h1 | ⟨h1, h2⟩
        · rw [h1]; rfl
        · rw [h1]; rcases h2 with rfl | rfl <;> rfl
    · split at h; rotate_left; (· cases h)
      rename_i v a r ha
      cases h
      simp only [Nat.sub_self, Nat.add_zero] at kk
      have hrf := ha.2
      refine tw_w_put (v := .ref (B + v)) hC hH hF hf hn.1 hn.2 ha.1 ?_ ?_ (fun y hy => rfl) (fun y hy => tw_st_n _ _ hy) (fun j _ => tw_fv_str hrf j) hdg kk
      · unfold tw_rf at hrf
        split at hrf
        · rename_i h1; rw [h1]; rfl
        · rename_i h1; rw [h1]; rfl
        · cases hrf
      · unfold tw_rf at hrf
        split at hrf
        · rename_i h1; rw [h1]; rfl
        · rename_i h1; rw [h1]; rfl
        · cases hrf
    · cases h
theorem tw_hp_le {k d : Nat} {ins : Instr} {len : Nat} {st st' : List Value} {g' : tw_G} {mi' : tw_I} {mr' : tw_Q} (h : tw_hp sc k d ins len st g mi mr = some (st', g', mi', mr')) : g.1 ≤ g'.1 ∧ g.2.1 ≤ g'.2.1 := by
  unfold tw_hp at h
  split at h
  · cases h; exact ⟨Nat.le_refl _, Nat.le_refl _⟩
  · exact tw_wr_le h
theorem tw_run_le : ∀ (f d k pc : Nat) (ls : tw_L) (st : List Value) (g : tw_G) (mi : tw_I) (mr : tw_Q) (v : Option Value) (g' : tw_G) (mi' : tw_I) (mr' : tw_Q), tw_run sc f d k pc ls st g mi mr = some (v, g', mi', mr') → g.1 ≤ g'.1 ∧ g.2.1 ≤ g'.2.1 := by
  intro f
  induction f with
  | zero => intro d k pc ls st g mi mr v g' mi' mr' h; rw [tw_run] at h; cases h
  | succ f ih =>
    intro d k pc ls st g mi mr v g' mi' mr' h
    rw [tw_run] at h
    cases hd : decode (tw_cd k) pc with
    | error z => rw [hd] at h; cases h
    | ok q =>
      obtain ⟨ins, len⟩ := q
      simp only [hd] at h
      cases hl : tw_lo k ins len pc ls st with
      | some q => simp only [hl] at h; exact ih _ _ _ _ _ _ _ _ _ _ _ _ h
      | none =>
        simp only [hl] at h
        cases hh : tw_hp sc k d ins len st g mi mr with
        | some q =>
          obtain ⟨st1, g1, mi1, mr1⟩ := q
          simp only [hh] at h
          have h1 := tw_hp_le hh
          have h2 := ih _ _ _ _ _ _ _ _ _ _ _ _ h
          exact ⟨Nat.le_trans h1.1 h2.1, Nat.le_trans h1.2 h2.2⟩
        | none =>
          simp only [hh] at h
          cases hc : tw_ca k ins len st g with
          | none =>
            simp only [hc] at h
            split at h
            · cases h; exact ⟨Nat.le_refl _, Nat.le_refl _⟩
            · cases h
          | some q =>
            obtain ⟨k2, as, r⟩ := q
            simp only [hc] at h
            split at h
            next hcond =>
              cases h1 : tw_run sc f (d - 1) k2 0 (tw_n0 k2 as) [] g mi mr with
              | none => simp only [h1] at h; cases h
              | some q =>
                obtain ⟨v1, g1, mi1, mr1⟩ := q
                simp only [h1] at h
                have e1 := ih _ _ _ _ _ _ _ _ _ _ _ _ h1
                have e2 := ih _ _ _ _ _ _ _ _ _ _ _ _ h
                exact ⟨Nat.le_trans e1.1 e2.1, Nat.le_trans e1.2 e2.2⟩
            next => cases h
end tw_sims
end
section
/-! calls, and the whole run -/
theorem tw_NX_warm {s U : State} (hW : s.WarmedH U.vm) (h : tw_NX s) : tw_NX U := ⟨fun q hq hn => va_Nw.warmF hW (h.1 q hq hn), fun q hq hn => va_Nw.warmM hW (h.2.1 q hq hn), va_AO.moved hW.alike h.2.2⟩
def tw_Pc (D : va_G) (B b : Nat) (sc : Nat × (Nat → Int32)) (g : tw_G) (mi : tw_I) (mr : tw_Q) (as : List Value) : Array Value → State → Prop := fun a U => a = (as.map (tw_cv B b)).toArray ∧ tw_H D B U U.heap g mi mr ∧ va_K D tw_cl [] U ∧ tw_NX U ∧ va_X b sc.1 sc.2 U U.heap
def tw_Qc (D : va_G) (B b : Nat) (v : Option Value) (g : tw_G) (mi : tw_I) (mr : tw_Q) : Array Value → State → Outcome → State → Prop := fun _ st oc t => oc = .returned (v.map (tw_cv B b)) ∧ tw_H D B t t.heap g mi mr ∧ ∀ q, q < B → t.heap[q]? = st.heap[q]?
theorem tw_Pc_blind {D : va_G} {B b : Nat} {sc : Nat × (Nat → Int32)} {g : tw_G} {mi : tw_I} {mr : tw_Q} {as : List Value} : FrameBlind (tw_Pc D B b sc g mi mr as) := by
  intro a U fr mk ⟨h1, h2, h3, h4, h5⟩
  refine ⟨h1, tw_H_moved (u := U) (U := U.calling fr mk a) (Vm.Alike.refl U.vm) h2, va_K.moved (u := U) (U := U.calling fr mk a) (Vm.Alike.refl U.vm) h3, ⟨fun q hq hn => va_Nw.same (u := U) (U := U.calling fr mk a) rfl rfl (h4.1 q hq hn), fun q hq hn => va_Nw.same (u := U) (U := U.calling fr mk a) rfl rfl (h4.2.1 q hq hn), va_AO.moved (u := U) (U := U.calling fr mk a) (Vm.Alike.refl U.vm) h4.2.2⟩, va_X.moved (u := U) (U := U.calling fr mk a) (Vm.Alike.refl U.vm) h5⟩
theorem tw_Pc_of {D : va_G} {B b : Nat} {sc : Nat × (Nat → Int32)} {g : tw_G} {mi : tw_I} {mr : tw_Q} {as : List Value} {s U : State} {H0 H : Heap} {locs : List Loc} (hbB : b < B) (hK : va_K D tw_cl [] s) (hNX : tw_NX s) (hX : va_X b sc.1 sc.2 s H0) (hH : tw_H D B s H g mi mr) (hF : tw_Fr B H0 H locs) (hU : U.heap = H) (hW : s.WarmedH U.vm) : tw_Pc D B b sc g mi mr as (as.map (tw_cv B b)).toArray U := by
  refine ⟨rfl, tw_H_moved hW.alike (by rw [hU]; exact hH), va_K.moved hW.alike hK, tw_NX_warm hW hNX, va_X.moved hW.alike (hX.kept ?_)⟩
  rw [hU]
  exact hF.1 b hbB
def tw_S (l : Launch) (D : va_G) (B b : Nat) (sc : Nat × (Nat → Int32)) (f : Nat) : Prop := ∀ (d k pc : Nat) (ls : tw_L) (st : List Value) (g : tw_G) (mi : tw_I) (mr : tw_Q) (v : Option Value) (g' : tw_G) (mi' : tw_I) (mr' : tw_Q), tw_run sc f d k pc ls st g mi mr = some (v, g', mi', mr') →
  ∀ (p : Program) (e : Env) (R : Room) (s : State) (m : MethodId) (args : Array Value) (below : List Frame) (meth : Method) (c : Code) (H0 H : Heap) (locs : List Loc) (cells slots : Nat) (cs : Array Slot) (Q : State → Prop),
  tw_Bd p s m args meth c D k → d ≤ R.frames → 60 * d ≤ R.locals → va_X b sc.1 sc.2 s H0 → tw_H D B s H g mi mr → tw_Fr B H0 H locs → tw_LS B b cs k ls → cells + (g'.1 - g.1) ≤ R.cells → slots + (g'.2.1 - g.2.1) ≤ R.slots →
  (∀ (pcr : Nat) (csr : Array Slot) (Hr : Heap) (locsr : List Loc) (ins : Instr) (len : Nat) (str : List Value), decode (tw_cd k) pcr = .ok (ins, len) → tw_re k ins len str = some v → tw_H D B s Hr g' mi' mr' → tw_Fr B H0 Hr locsr → W p l e R s m args below meth c Hr locsr (cells + (g'.1 - g.1)) (slots + (g'.2.1 - g.2.1)) Q (F0 m pcr csr (str.map (tw_cv B b)))) →
  W p l e R s m args below meth c H locs cells slots Q (F0 m pc cs (st.map (tw_cv B b)))
theorem tw_goodk {k : Nat} (hk : k < tw_ny) : GoodIn tw_tb (Cond.code (tw_y k) (tw_cd k) (tw_ml k) (tw_rt k) :: tw_tb) := by
  intro w hw
  rcases List.mem_cons.mp hw with rfl | h
  · exact tw_words _ (tw_code hk)
  · exact tw_words _ h
set_option maxHeartbeats 4000000 in
theorem tw_met {l : Launch} {D : va_G} {B b : Nat} {sc : Nat × (Nat → Int32)} {f : Nat} (hS : tw_S l D B b sc f) {d k : Nat} {as : List Value} {g g' : tw_G} {mi mi' : tw_I} {mr mr' : tw_Q} {v : Option Value} (hk : k < tw_ny) (hlg : tw_lg 0 as = tw_lp k) (hlen : (tw_en as).length ≤ tw_ml k) (hrun : tw_run sc f d k 0 (tw_n0 k as) [] g mi mr = some (v, g', mi', mr')) :
    Met l (tw_y k) (Cond.code (tw_y k) (tw_cd k) (tw_ml k) (tw_rt k) :: tw_tb) { frames := d, cells := g'.1 - g.1, slots := g'.2.1 - g.2.1, locals := 60 * d } (tw_Pc D B b sc g mi mr as) (tw_Qc D B b v g' mi' mr') (g'.1 - g.1) (g'.2.1 - g.2.1) (fun q => B ≤ q) := by
  obtain ⟨hpl, ho11, hcls, -⟩ := tw_plain_ok k hk
  refine Met.ofW (cc := tw_cd k) (maxL := tw_ml k) (ret := tw_rt k) hpl rfl ?_
  intro p e s m args below meth c s₁ Bd hml hv
  obtain ⟨rfl, hH, hK, hNX, hX⟩ := hv
  have hx := Bd.exec
  have hb := Bd.bytes
  have hr := Bd.returns
  have hts0 := atoms_spec (ws := Cond.code (tw_y k) (tw_cd k) (tw_ml k) (tw_rt k) :: tw_tb) Bd.pre
  have hown : s.vm.findClass (tw_y k).cls = some m.cls := findClass_of_methodNamed Bd.named
  have hlocks := Bd.notSynchronized
  rw [hcls] at hown
  have hnm : meth.name = (tw_y k).name := (name_of_methodNamed Bd.named Bd.method).1
  have hC : tw_Bd p s m (as.map (tw_cv B b)).toArray meth c D k := ⟨hx, hb, hml, hown, fun w hw => hts0 w (List.mem_cons_of_mem _ hw), hNX, hK, fun h => hnm.trans h⟩
  rw [lg_entry_eq]
  refine hS d k 0 (tw_n0 k as) [] g mi mr v g' mi' mr' hrun p e _ s m _ below meth c s.heap s.heap [] 0 0 _ _ hC (Nat.le_refl _) (Nat.le_refl _) hX hH ⟨fun q hq => rfl, fun z hz => by cases hz⟩ (tw_LS_entry hlg hlen) (by rw [Nat.zero_add]; exact Nat.le_refl _) (by rw [Nat.zero_add]; exact Nat.le_refl _) ?_
  intro pcr csr Hr locsr ins len str hdg hre hHr hFr
  refine W.cs (Nat.zero_add _) (Nat.zero_add _) ?_
  have hq : ∀ t : State, t.heap = Hr → s.WarmedH t.vm → tw_Qc D B b v g' mi' mr' (as.map (tw_cv B b)).toArray s (.returned (v.map (tw_cv B b))) t := fun t ht hW => ⟨rfl, tw_H_moved hW.alike (by rw [ht]; exact hHr), fun q hq => by rw [ht]; exact hFr.1 q hq⟩
  cases ins
  all_goals try (simp only [tw_re, reduceCtorEq] at hre; done)
  all_goals simp only [tw_re] at hre
  all_goals (split at hre; rotate_left; · cases hre)
  all_goals rename_i hlen1
  all_goals subst hlen1
  case ireturn =>
    split at hre; rotate_left; (· cases hre)
    split at hre
    · rename_i hrt
      cases hre
      exact W.zret hx hb (hr.trans hrt) rfl hq hFr.2 hdg
    · rename_i hrt
      split at hre; rotate_left; (· cases hre)
      rename_i h01
      cases hre
      exact W.zret hx hb (hr.trans hrt) (by rcases h01 with rfl | rfl <;> rfl) hq hFr.2 hdg
    · cases hre
  case areturn =>
    split at hre
    · split at hre; rotate_left; (· cases hre)
      rename_i hrt
      cases hre
      exact W.aret hx hb (hr.trans hrt) (Or.inl ⟨_, rfl⟩) (Or.inr ⟨_, rfl⟩) hq hFr.2 hdg
    · split at hre; rotate_left; (· cases hre)
      rename_i hrt
      cases hre
      exact W.aret hx hb (hr.trans hrt) (Or.inl ⟨_, rfl⟩) (Or.inl rfl) hq hFr.2 hdg
    · cases hre
  case return_ =>
    split at hre; rotate_left; (· cases hre)
    split at hre; rotate_left; (· cases hre)
    rename_i hrt
    cases hre
    exact W.vret hx hb (hr.trans hrt) hq hFr.2 hdg
section tw_callw
variable {p : Program} {l : Launch} {e : Env} {R : Room} {s : State} {m : MethodId} {args : Array Value} {below : List Frame} {meth : Method} {c : Code} {H : Heap} {locs : List Loc} {cells slots : Nat} {Q : State → Prop}
variable {D : va_G} {B b k pc : Nat} {cs : Array Slot} {rest : List Value} {g : tw_G} {mi : tw_I} {mr : tw_Q} {H0 : Heap} {sc : Nat × (Nat → Int32)}
theorem tw_after {mc ms : Nat} {st0 : List Value} {v : Option Value} {g' : tw_G} {mi' : tw_I} {mr' : tw_Q} {a : Array Value} (hF : tw_Fr B H0 H locs) (hr : va_Run p l e R s m args below meth c H locs cells slots mc ms (F0 m pc cs st0) rest (tw_Qc D B b v g' mi' mr' a) (fun q => B ≤ q))
    (kk : ∀ (H1 : Heap) (locs1 : List Loc), tw_H D B s H1 g' mi' mr' → tw_Fr B H0 H1 locs1 → W p l e R s m args below meth c H1 locs1 (cells + mc) (slots + ms) Q (F0 m (pc + 3) cs ((v.map (tw_cv B b)).toList ++ rest))) : W p l e R s m args below meth c H locs cells slots Q (F0 m pc cs st0) := by
  intro T hT X
  obtain ⟨v', st₀, t, T', L, h0, X', hL, e1, e2, ⟨hv, hH', hk⟩, st⟩ := hr T hT X
  have hv' := Outcome.returned.inj hv
  subst hv'
  have hal : s.vm.Alike t.vm := by rw [← e2]; exact X'.warmed.alike
  obtain ⟨t2, a1, b1⟩ := kk T'.heap (locs ++ L) (tw_H_moved hal.symm (by rw [e1]; exact hH')) ⟨fun q hq => by rw [e1, hk q hq, h0]; exact hF.1 q hq, fun z hz => by
    rcases List.mem_append.mp hz with h | h
    · exact hF.2 z h
    · exact hL z h⟩ T' rfl X'
  exact ⟨t2, st t2 a1, b1⟩
set_option maxHeartbeats 4000000 in
theorem tw_w_ca {f d len k2 : Nat} {ins : Instr} {st as r : List Value} {v : Option Value} {g' : tw_G} {mi' : tw_I} {mr' : tw_Q} (hS : tw_S l D B b sc f) (hbB : b < B) (hC : tw_Bd p s m args meth c D k) (hdf : d ≤ R.frames) (hdl : 60 * d ≤ R.locals) (hX : va_X b sc.1 sc.2 s H0) (hH : tw_H D B s H g mi mr) (hF : tw_Fr B H0 H locs) (hsz : cs.size = tw_ml k) (hd1 : 1 ≤ d) (hca : tw_ca k ins len st g = some (k2, as, r)) (hr4 : r.length ≤ 4) (hk2 : k2 < tw_ny) (hlg : tw_lg 0 as = tw_lp k2) (hlen : (tw_en as).length ≤ tw_ml k2)
    (hrun : tw_run sc f (d - 1) k2 0 (tw_n0 k2 as) [] g mi mr = some (v, g', mi', mr')) (hc : cells + (g'.1 - g.1) ≤ R.cells) (hs : slots + (g'.2.1 - g.2.1) ≤ R.slots) (hdg : decode (tw_cd k) pc = .ok (ins, len))
    (kk : ∀ (H1 : Heap) (locs1 : List Loc), tw_H D B s H1 g' mi' mr' → tw_Fr B H0 H1 locs1 → W p l e R s m args below meth c H1 locs1 (cells + (g'.1 - g.1)) (slots + (g'.2.1 - g.2.1)) Q (F0 m (pc + 3) cs ((v.toList ++ r).map (tw_cv B b)))) : W p l e R s m args below meth c H locs cells slots Q (F0 m pc cs (st.map (tw_cv B b))) := by
  have hM := tw_met hS hk2 hlg hlen hrun
  obtain ⟨hx, hb, hml, hown, hts, hNX, hK, -⟩ := hC
  obtain ⟨-, -, -, hml30⟩ := tw_plain_ok k2 hk2
  have hR : (d - 1) + 1 ≤ R.frames ∧ 8 + (tw_ml k2 + 11) + 60 * (d - 1) ≤ R.locals := ⟨by omega, by omega⟩
  have hPc : ∀ U : State, U.heap = H → s.WarmedH U.vm → tw_Pc D B b sc g mi mr as (as.map (tw_cv B b)).toArray U := fun U hU hW => tw_Pc_of hbB hK hNX hX hH hF hU hW
  have hfix : CallFix p m c (tw_cd k) (tw_ml k) s args tw_tb (tw_R (tw_ow k)) := ⟨hx, hb, hml, hown, hts⟩
  have hcat := tw_cats B b r hr4
  have hvr : (v.toList ++ r).map (tw_cv B b) = (v.map (tw_cv B b)).toList ++ r.map (tw_cv B b) := by cases v <;> simp
  have kk' : ∀ (H1 : Heap) (locs1 : List Loc), tw_H D B s H1 g' mi' mr' → tw_Fr B H0 H1 locs1 → W p l e R s m args below meth c H1 locs1 (cells + (g'.1 - g.1)) (slots + (g'.2.1 - g.2.1)) Q (F0 m (pc + 3) cs ((v.map (tw_cv B b)).toList ++ r.map (tw_cv B b))) := fun H1 locs1 z1 z2 => by rw [← hvr]; exact kk H1 locs1 z1 z2
  have hmon : ∀ z, 2 * JFrame.monitorRoom (F0 m pc cs z) + ((r.map (tw_cv B b)).map fun v => v.category).sum ≤ 8 := fun z => by
    rw [show JFrame.monitorRoom (F0 m pc cs z) = 0 from rfl]; omega
  cases ins
  all_goals try (simp only [tw_ca, reduceCtorEq] at hca; done)
  all_goals simp only [tw_ca] at hca
  all_goals (split at hca; rotate_left; · cases hca)
  all_goals rename_i hlen3
  all_goals subst hlen3
  case invokestatic i =>
    split at hca; rotate_left; (· cases hca)
    rename_i q hf
    obtain ⟨hq, e1, e2⟩ := tw_find hf
    obtain ⟨-, h6, w1, w2, w3, w4, w5, w6, w7⟩ := tw_cls_ok q hq
    split at hca; rotate_left; (· cases hca)
    rename_i hcond
    cases hca
    rw [if_pos hcond.1] at w2
    have hstk : st.map (tw_cv B b) = (((st.take q.2.2.2.2.1).reverse).map (tw_cv B b)).reverse ++ (st.drop q.2.2.2.2.1).map (tw_cv B b) := by
      rw [← List.map_reverse, List.reverse_reverse, ← List.map_append, List.take_append_drop]
    have hn : (((st.take q.2.2.2.2.1).reverse).map (tw_cv B b)).length = q.2.2.2.2.1 := by simp; omega
    by_cases h3 : q.2.2.1 < 3
    · rw [if_pos h3, e1, e2] at w1
      exact tw_after hF (va_runS hfix hM ⟨callB_of q.2.2.2.2.1 hts (tw_goodk hk2) rfl rfl rfl (hts _ (tw_at w3 rfl)) (hts _ (tw_at w1 rfl)) ⟨w6.1, w6.2, w5⟩ hR, hts _ (tw_at w2 rfl)⟩ ⟨tw_Pc_blind, hPc⟩ rfl hn hsz hstk (hmon _) hdg ⟨hc, hs⟩) kk'
    · have hl := hNX.2.1 q hq h3
      rw [e1, e2] at hl
      exact tw_after hF (va_runSN hfix hM ⟨va_cnB q.2.2.2.2.1 hts (tw_goodk hk2) rfl rfl rfl hl (hts _ (tw_at w3 rfl)) ⟨w6.1, w6.2, w5⟩ hR, hts _ (tw_at w2 rfl), trivial⟩ ⟨tw_Pc_blind, hPc⟩ rfl hn hsz hstk (hmon _) hdg ⟨hc, hs⟩) kk'
  case invokevirtual i =>
    split at hca; rotate_left; (· cases hca)
    rename_i q hf
    obtain ⟨hq, e1, e2⟩ := tw_find hf
    obtain ⟨-, h6, w1, w2, w3, w4, w5, w6, w7⟩ := tw_cls_ok q hq
    split at hca; rotate_left; (· cases hca)
    rename_i hcond
    split at hca; rotate_left; (· cases hca)
    rename_i b0 r0 hdrop
    split at hca; rotate_left; (· cases hca)
    rename_i hkd
    cases hca
    rw [if_pos (by omega), e1, e2] at w1
    rw [if_neg (by omega)] at w2
    have w4' := w4 (by omega)
    have hstk : st.map (tw_cv B b) = (((st.take q.2.2.2.2.1).reverse).map (tw_cv B b)).reverse ++ .ref (B + b0) :: r.map (tw_cv B b) := by
      rw [← List.map_reverse, List.reverse_reverse, show (Value.ref (B + b0) :: r.map (tw_cv B b)) = (Value.ref b0 :: r).map (tw_cv B b) from rfl, ← hdrop, ← List.map_append, List.take_append_drop]
    have hn : (((st.take q.2.2.2.2.1).reverse).map (tw_cv B b)).length = q.2.2.2.2.1 := by simp; omega
    obtain ⟨-, ho11, hcls, -⟩ := tw_plain_ok _ hk2
    obtain ⟨-, cellB, g1, g2, g3, -⟩ := tw_obj hH ho11 hkd
    have hrecv : ∃ cellB : Cell, H[B + b0]? = some cellB ∧ cellB.vm.isStatics = false ∧ s.vm.findClass (tw_y q.2.2.2.1).cls = some cellB.cls := ⟨cellB, g1, by rw [g3]; rfl, by rw [g2, hcls]; exact (tw_Kn hK ho11).2.1⟩
    exact tw_after hF (va_runV hfix hM ⟨callB_of q.2.2.2.2.1 hts (tw_goodk hk2) rfl rfl rfl (hts _ (tw_at w3 rfl)) (hts _ (tw_at w1 rfl)) ⟨w6.1, w6.2, w5⟩ hR, hts _ (tw_at w2 rfl), hts _ (tw_at w4' rfl)⟩ ⟨tw_Pc_blind, hrecv, hPc⟩ rfl hn hsz hstk (hmon _) hdg ⟨hc, hs⟩) kk'
  case invokespecial i =>
    split at hca; rotate_left; (· cases hca)
    rename_i q hf
    obtain ⟨hq, e1, e2⟩ := tw_find hf
    obtain ⟨-, h6, w1, w2, w3, w4, w5, w6, w7⟩ := tw_cls_ok q hq
    split at hca; rotate_left; (· cases hca)
    rename_i hcond
    split at hca; rotate_left; (· cases hca)
    rename_i b0 r0 hdrop
    cases hca
    rw [if_neg (by omega)] at w2
    obtain ⟨hini, hrt⟩ := w7 hcond.1
    have hstk : st.map (tw_cv B b) = (((st.take q.2.2.2.2.1).reverse).map (tw_cv B b)).reverse ++ .ref (B + b0) :: r.map (tw_cv B b) := by
      rw [← List.map_reverse, List.reverse_reverse, show (Value.ref (B + b0) :: r.map (tw_cv B b)) = (Value.ref b0 :: r).map (tw_cv B b) from rfl, ← hdrop, ← List.map_append, List.take_append_drop]
    have hn : (((st.take q.2.2.2.2.1).reverse).map (tw_cv B b)).length = q.2.2.2.2.1 := by simp; omega
    have hw0 : (Cond.code (tw_y q.2.2.2.1) (tw_cd q.2.2.2.1) (tw_ml q.2.2.2.1) (tw_rt q.2.2.2.1) :: tw_tb) = (Cond.code (tw_y q.2.2.2.1) (tw_cd q.2.2.2.1) (tw_ml q.2.2.2.1) none :: tw_tb) := by rw [hrt]
    by_cases h3 : q.2.2.1 < 3
    · rw [if_pos h3, e1, e2] at w1
      exact tw_after hF (va_runI hfix hM ⟨callB_of q.2.2.2.2.1 hts (tw_goodk hk2) hw0 rfl rfl (hts _ (tw_at w3 rfl)) (hts _ (tw_at w1 rfl)) ⟨w6.1, w6.2, w5⟩ hR, hini, hts _ (tw_at w2 rfl)⟩ ⟨tw_Pc_blind, hPc⟩ rfl hn hsz hstk (hmon _) hdg ⟨hc, hs⟩) kk'
    · have hl := hNX.2.1 q hq h3
      rw [e1, e2] at hl
      exact tw_after hF (va_runIN hfix hM ⟨va_cnB q.2.2.2.2.1 hts (tw_goodk hk2) hw0 rfl rfl hl (hts _ (tw_at w3 rfl)) ⟨w6.1, w6.2, w5⟩ hR, hini, hts _ (tw_at w2 rfl)⟩ ⟨tw_Pc_blind, hPc⟩ rfl hn hsz hstk (hmon _) hdg ⟨hc, hs⟩) kk'
end tw_callw
set_option maxHeartbeats 4000000 in
theorem tw_sim (l : Launch) (D : va_G) (B b : Nat) (sc : Nat × (Nat → Int32)) (hbB : b < B) : ∀ f, tw_S l D B b sc f := by
  intro f
  induction f with
  | zero => intro d k pc ls st g mi mr v g' mi' mr' h; rw [tw_run] at h; cases h
  | succ f ih =>
    intro d k pc ls st g mi mr v g' mi' mr' h p e R s m args below meth c H0 H locs cells slots cs Q hC hdf hdl hX hH hF hL hc hs kk
    have hle := tw_run_le _ _ _ _ _ _ _ _ _ _ _ _ _ h
    rw [tw_run] at h
    cases hd : decode (tw_cd k) pc with
    | error z => rw [hd] at h; cases h
    | ok q =>
      obtain ⟨ins, len⟩ := q
      simp only [hd] at h
      cases hl : tw_lo k ins len pc ls st with
      | some q =>
        obtain ⟨pc', ls', st'⟩ := q
        simp only [hl] at h
        have go : ∀ cs', tw_LS B b cs' k ls' → W p l e R s m args below meth c H locs cells slots Q (F0 m pc' cs' (st'.map (tw_cv B b))) := fun cs' hL' => ih d k pc' ls' st' g mi mr v g' mi' mr' h p e R s m args below meth c H0 H locs cells slots cs' Q hC hdf hdl hX hH hF hL' hc hs kk
        unfold tw_lo at hl
        split at hl
        · rename_i h1
          cases hl
          exact tw_w_ar hC hd h1 (go cs hL)
        · split at hl
          · rename_i h1
            cases hl
            exact tw_w_ld hC hL hd h1 (fun e1 => go cs (by rw [e1]; exact hL))
          · split at hl
            · rename_i h1
              cases hl
              exact tw_w_so hC hL hd h1 go
            · exact tw_w_jp hC hd hl (fun e1 => go cs (by rw [e1]; exact hL))
      | none =>
        simp only [hl] at h
        cases hh : tw_hp sc k d ins len st g mi mr with
        | some q =>
          obtain ⟨st1, g1, mi1, mr1⟩ := q
          simp only [hh] at h
          have l1 := tw_hp_le hh
          have l2 := tw_run_le _ _ _ _ _ _ _ _ _ _ _ _ _ h
          have go : ∀ (H1 : Heap) (locs1 : List Loc), tw_H D B s H1 g1 mi1 mr1 → tw_Fr B H0 H1 locs1 → W p l e R s m args below meth c H1 locs1 (cells + (g1.1 - g.1)) (slots + (g1.2.1 - g.2.1)) Q (F0 m (pc + len) cs (st1.map (tw_cv B b))) := fun H1 locs1 z1 z2 => by
            refine ih d k (pc + len) ls st1 g1 mi1 mr1 v g' mi' mr' h p e R s m args below meth c H0 H1 locs1 _ _ cs Q hC hdf hdl hX z1 z2 hL (by omega) (by omega) ?_
            rw [show cells + (g1.1 - g.1) + (g'.1 - g1.1) = cells + (g'.1 - g.1) by omega, show slots + (g1.2.1 - g.2.1) + (g'.2.1 - g1.2.1) = slots + (g'.2.1 - g.2.1) by omega]
            exact kk
          unfold tw_hp at hh
          split at hh
          · rename_i h1
            cases hh
            have go' := go H locs hH hF
            simp only [Nat.sub_self, Nat.add_zero] at go'
            exact tw_w_rd hC hH hX hbB hF hL.1.1 hdf hdl (by omega) (by omega) hd h1 go'
          · exact tw_w_wr hC hH hF (by omega) (by omega) hd hh go
        | none =>
          simp only [hh] at h
          cases hca : tw_ca k ins len st g with
          | none =>
            simp only [hca] at h
            split at h
            · rename_i v1 hre
              cases h
              have := kk pc cs H locs ins len st hd hre hH hF
              simp only [Nat.sub_self, Nat.add_zero] at this
              exact this
            · cases h
          | some q =>
            obtain ⟨k2, as, r⟩ := q
            simp only [hca] at h
            split at h
            next hcond =>
              obtain ⟨hd1, hr4, hk2, hlg, hlen⟩ := hcond
              cases h1 : tw_run sc f (d - 1) k2 0 (tw_n0 k2 as) [] g mi mr with
              | none => simp only [h1] at h; cases h
              | some q =>
                obtain ⟨v1, g1, mi1, mr1⟩ := q
                simp only [h1] at h
                have l1 := tw_run_le _ _ _ _ _ _ _ _ _ _ _ _ _ h1
                have l2 := tw_run_le _ _ _ _ _ _ _ _ _ _ _ _ _ h
                refine tw_w_ca ih hbB hC hdf hdl hX hH hF hL.1.1 hd1 hca hr4 hk2 hlg hlen h1 (by omega) (by omega) hd (fun H1 locs1 z1 z2 => ?_)
                refine ih d k (pc + 3) ls _ g1 mi1 mr1 v g' mi' mr' h p e R s m args below meth c H0 H1 locs1 _ _ cs Q hC hdf hdl hX z1 z2 hL (by omega) (by omega) ?_
                rw [show cells + (g1.1 - g.1) + (g'.1 - g1.1) = cells + (g'.1 - g.1) by omega, show slots + (g1.2.1 - g.2.1) + (g'.2.1 - g1.2.1) = slots + (g'.2.1 - g.2.1) by omega]
                exact kk
            next => cases h
end
section
theorem tw_pure (sc : Nat × (Nat → Int32)) (h : sc.1 ≤ 3072) : tw_E sc 1000 174 0 [some (.retAddr 0), none, none, none] [] (0, 0, fun _ => (99, 0)) (fun _ _ => 0) (fun _ _ => none) (fun v g _ _ => v = some (.int 1) ∧ g.1 ≤ 600000 ∧ g.2.1 ≤ 7302250) := by
  sorry
end
section
/-! the claim out of the small machine's run of the law: the kit's skeleton of this claim, with our part in it -/
/-! THE CLAIM OUT OF ONE WALK OF THE LAW'S BODY. Your part is whole_start (and what it stands on); all else here is the same for every law, but numbers. -/
def R_law : String := "TriggerLoomLaw"
def lw_P (b : Addr) (xs : List Int32) (args : Array Value) (s : State) : Prop := args = #[.ref b] ∧ s.IntsAt b xs ∧ xs.length ≤ 3072 ∧ (Jvm.Cond.and given_1 narrow_1).before args s = true
def lw_Q (_ : Array Value) (s : State) (o : Outcome) (t : State) : Prop := o = .returned (some (.int 1)) ∧ Framed s o t [] 600000 7302250
def lw_Z (below : List Frame) (a : Array Value) (s : State) : State → Prop := fun t => ∃ o, t.status = .running ∧ Ended t below o ∧ lw_Q a s o t
/-- the law's own end, with 1 on the stack, nothing written that was there before, its room as the claim has it -/
theorem lw_ret {p : Program} {l : Launch} {e : Env} {s : State} {m : MethodId} {below : List Frame} {meth : Method} {c : Code} {b : Nat} (hx : p.tables.exec = Jvm.exec) (hb : c.code = code) (hr : meth.sig.returnType = ret) (hlocks : meth.locks = false) {pc : Nat} {H : Heap} {ls : Array Slot} (hdg : decode code pc = .ok (.ireturn, 1)) : W p l e room_1 s m #[Value.ref b] below meth c H [] 600000 7302250 (lw_Z below #[Value.ref b] s) (F0 m pc ls [.int 1]) := by
  intro T hT X
  obtain ⟨fs, hret, hrun, hended, hW, hframe⟩ := X.leave (v := some (.int 1)) (hlocks := hlocks) (fun h => by rw [hr] at h; cases h)
  have hmeth' : T.vm.method? m = some meth := X.method'
  refine ⟨T.setFrames fs, ?_, .returned (some (.int 1)), hrun, hended, rfl, ⟨_, rfl⟩, hW, hframe⟩
  jvm_step X.here [X.here.top, hx, hb, hdg, hmeth', hr, ret, narrow_b1]
  (try refine ⟨rfl, ?_⟩); (try refine ⟨rfl, ?_⟩)
  first | (intro acts; rw [hret _ acts rfl rfl rfl]) | rw [hret _ _ rfl rfl rfl]
  exact Steps.refl _
/-- what holds at the law's entry: the machine, the code, the tables' words (any of lw_tbl by 'hts w (by decide +kernel)'), the script of L ints xs at the cell b, what the Statement gives of the start (any of its parts by flat_of_before) -/
def lw_At (p : Program) (s : State) (m : MethodId) (meth : Method) (c : Code) (b L : Nat) (xs : Nat → Int32) : Prop :=
  p.tables.exec = Jvm.exec ∧ c.code = code ∧ meth.sig.returnType = ret ∧ c.maxLocals = 4 ∧ s.vm.findClass R_law = some m.cls ∧ (∀ w ∈ lw_tbl, w.before #[Value.ref b] s = true) ∧ va_X b L xs s s.heap ∧ b < s.heap.size ∧ meth.locks = false ∧ (Jvm.Cond.and given_1 narrow_1).before #[Value.ref b] s = true

set_option maxRecDepth 100000 in
theorem tw_lawfacts : tw_cd 174 = code ∧ tw_ml 174 = 4 ∧ tw_rt 174 = some .boolean ∧ tw_lp 174 = [] ∧ tw_R (tw_ow 174) = R_law ∧ (tw_y 174).name ≠ "<init>" := ⟨rfl, rfl, rfl, rfl, by decide +kernel, by decide +kernel⟩
theorem tw_known {s : State} {args : Array Value} (hts : ∀ w ∈ lw_tbl, w.before args s = true) : ∃ D : va_G, va_K D tw_cl [] s := by
  have h : ∀ c, ∃ q : ClassId × (Nat → Nat), c < 11 → u_Kn s (tw_R c) (tw_F c) (tw_N c) q.1 q.2 := by
    intro c
    by_cases hc : c < 11
    · have hi : ∃ q ∈ tw_nws, q.2.2.1 = c := by
        have h0 : ∀ c, c < 11 → ∃ q ∈ tw_nws, q.2.2.1 = c := by decide +kernel
        exact h0 c hc
      obtain ⟨q, hq, rfl⟩ := hi
      obtain ⟨-, -, w2, -⟩ := tw_nws_ok q hq
      obtain ⟨cC, iS, hK⟩ := u_known (ws := lw_tbl) hts (tw_lays_ok _ hc) (hts _ (List.mem_of_getElem? w2))
      exact ⟨(cC, iS), fun _ => hK⟩
    · exact ⟨(0, fun _ => 0), fun h => absurd h hc⟩
  refine ⟨(fun c => (Classical.choose (h c)).1, fun c => (Classical.choose (h c)).2), fun c q hq => ?_, fun k q h => by simp at h⟩
  have hc : c < 11 := by
    have := (List.getElem?_eq_some_iff.mp hq).1
    simpa [tw_cl] using this
  rw [tw_cl_at hc] at hq
  cases hq
  exact Classical.choose_spec (h c) hc
/-- from the entry, for every script of at most 3072 ints, the law comes to its end with true -/
theorem whole_start {p : Program} {e : Env} {s : State} {m : MethodId} {below : List Frame} {meth : Method} {c : Code} (l : Launch) (hflags : l.flags = flags0) {b L : Nat} {xs : Nat → Int32} (hL : L ≤ 3072) (C0 : lw_At p s m meth c b L xs) : W p l e room_1 s m #[Value.ref b] below meth c s.heap [] 0 0 (lw_Z below #[Value.ref b] s) (entryFrame m ([Value.ref b] : List Value).toArray 4) := by
  obtain ⟨hx, hb, hr, hml, hown, hts, hX, hbl, hlocks, hgv⟩ := C0
  obtain ⟨f1, f2, f3, f4, f5, f6⟩ := tw_lawfacts
  obtain ⟨D, hK⟩ := tw_known hts
  obtain ⟨f, v, g', mi', mr', hrun, hv, hg1, hg2⟩ := tw_pure (L, xs) hL
  subst hv
  have hNX : tw_NX s := by
    refine ⟨fun q hq hn => ?_, fun q hq hn => ?_, ?_⟩
    · obtain ⟨hw, -, -⟩ := tw_fls_ok q hq
      rw [if_pos hn] at hw
      exact va_Nw.of rfl (hts _ (List.mem_of_getElem? hw))
    · obtain ⟨-, -, hw, -⟩ := tw_cls_ok q hq
      rw [if_neg hn] at hw
      exact va_Nw.of rfl (hts _ (List.mem_of_getElem? hw))
    · exact va_AO.of (hts _ tw_ao)
  have hC : tw_Bd p s m #[Value.ref b] meth c D 174 := ⟨hx, hb.trans f1.symm, hml.trans f2.symm, by rw [f5]; exact hown, fun w hw => hts w (List.mem_filter.mp hw).1, hNX, hK, fun h => absurd h f6⟩
  rw [lg_entry_eq]
  have hLS : tw_LS s.heap.size b ((lg_sl ([.ref b] : List Value) ++ List.replicate (4 - (lg_sl ([.ref b] : List Value)).length) Slot.unset).toArray) 174 [some (.retAddr 0), none, none, none] := by
    refine ⟨?_, f2.symm, fun i v hi hv => ?_⟩
    · rw [f2]
      exact lv_entry [.ref b] (n := 4) (Nat.le_of_ble_eq_true rfl)
    · rcases i with _ | _ | _ | _ | i <;> simp at hi
      subst hi
      cases hv
  refine tw_sim l D s.heap.size b (L, xs) hbl f 1000 174 0 [some (.retAddr 0), none, none, none] [] (0, 0, fun _ => (99, 0)) (fun _ _ => 0) (fun _ _ => none) _ g' mi' mr' hrun p e room_1 s m _ below meth c s.heap s.heap [] 0 0 _ _ hC (Nat.le_of_ble_eq_true rfl) (Nat.le_of_ble_eq_true rfl) hX ⟨rfl, fun a _ => rfl, fun a ha => absurd ha (Nat.not_lt_zero a)⟩ ⟨fun q hq => rfl, fun z hz => by cases hz⟩ hLS (by rw [Nat.zero_add]; exact hg1) (by rw [Nat.zero_add]; exact hg2) ?_
  intro pcr csr Hr locsr ins len str hdg hre hHr hFr
  refine va_forget (fun q hq => hFr.2 q hq) ?_
  refine W.widen (k := 600000) (n := 7302250) (by rw [Nat.zero_add]; exact hg1) (by rw [Nat.zero_add]; exact hg2) ?_
  cases ins
  all_goals try (simp only [tw_re, reduceCtorEq] at hre; done)
  all_goals simp only [tw_re] at hre
  all_goals (split at hre; rotate_left; · cases hre)
  all_goals rename_i hlen1
  all_goals subst hlen1
  case ireturn =>
    split at hre; rotate_left; (· cases hre)
    rw [f3] at hre
    simp only at hre
    split at hre; rotate_left; (· cases hre)
    cases hre
    rw [f1] at hdg
    exact lw_ret hx hb hr hlocks hdg
  case areturn =>
    split at hre
    · rw [f3] at hre; cases hre
    · rw [f3] at hre; cases hre
    · cases hre
  case return_ =>
    split at hre; rotate_left; (· cases hre)
    rw [f3] at hre; cases hre
-- ===== YOUR PART ENDS =====
set_option maxHeartbeats 4000000 in
theorem lw_walk (l : Launch) (hflags : l.flags = flags0) (b : Addr) (xs : List Int32) : MetFree l x (headSpec (Jvm.Cond.code x code maxLocals ret :: tables_1) room_1) (lw_P b xs) (fun _ _ _ _ _ => True) lw_Q := by
  refine MetFree.of_bodyS (code := code) (maxLocals := maxLocals) (ret := ret) (by decide) ?_ ?_
  · intro args s m h hn
    obtain ⟨meth, c, h1, h2, h3, h4, h5, h6, -, -⟩ := Cond.code_spec hn (atoms_spec (ws := Jvm.Cond.code x code maxLocals ret :: tables_1) h _ List.mem_cons_self)
    exact ⟨meth, c, h1, h2, h3, h4, h5, h6⟩
  · intro p e s m args below meth c s₁ B hml0 hP _
    obtain ⟨rfl, hx, hbd, hgv⟩ := hP
    obtain ⟨scr, harrAt, hlist, hof, hsmall⟩ := hx
    obtain ⟨hcb, hkn, -, -⟩ := State.arrayAt?_spec harrAt
    have hown : s.vm.findClass R_law = some m.cls := findClass_of_methodNamed B.named
    have hts0 : ∀ c ∈ (Jvm.Cond.code x code maxLocals ret :: tables_1), c.before #[Value.ref b] s = true := atoms_spec (ws := Jvm.Cond.code x code maxLocals ret :: tables_1) B.pre
    have hts : ∀ w ∈ lw_tbl, w.before #[Value.ref b] s = true := k2_hts_sels lw_privs (fun w hw => hts0 w (List.mem_cons_of_mem _ hw)) lw_privs_ok
    have hml : c.maxLocals = 4 := B.maxLocals_eq (hts0 _ List.mem_cons_self)
    have X₀ : Stand p l e room_1 s m #[Value.ref b] below meth c s₁ [] 0 0 := Stand.of_body B
    have hh0 : s₁.heap = s.heap := by rw [B.state]; rfl
    have hsz : scr.slots.size = xs.length := by rw [← Array.length_toList, hlist, List.length_map]
    have hval : ∀ j : Nat, j < xs.length → scr.slots[j]? = some (.int (xs.getD j 0)) := fun j hj => by
      rw [← Array.getElem?_toList, hlist]
      simp [hj]
    have hbl : b < s.heap.size := (Array.getElem?_eq_some_iff.mp hcb).1
    have hX : va_X b xs.length (fun j => xs.getD j 0) s s.heap := ⟨scr, hcb, hof, hkn, hsz, hval⟩
    have K : W p l e room_1 s m #[Value.ref b] below meth c s₁.heap [] 0 0 (lw_Z below #[Value.ref b] s) (entryFrame m ([Value.ref b] : List Value).toArray 4) := by
      rw [hh0]
      exact whole_start l hflags hbd ⟨B.exec, B.bytes, B.returns, hml, hown, hts, hX, hbl, B.notSynchronized, hgv⟩
    obtain ⟨t, a1, o, b1, b2, b3⟩ := K s₁ rfl X₀
    exact ⟨t, o, a1, b1, b2, b3⟩
theorem lw_pre_spec {args : Array Value} {s : State} (h : (Jvm.Cond.and given_1 narrow_1).before args s = true) (hr : rest_1_c.before args s = true) : ∃ (b : Addr) (xs : List Int32), lw_P b xs args s := by
  have hs := flat_of_before _ h
  have hq := flat_of_before _ hr
  have hc : (Cond.count 1).before args s = true := hs _ (by decide +kernel)
  have harr : (Cond.arrayOf (.arg 0) .int).before args s = true := hs _ (by decide +kernel)
  have hle : (Cond.le (.length (.arg 0)) (.int 3072)).before args s = true := hs _ (by decide +kernel)
  have hlen : (Cond.isInt (.length (.arg 0))).before args s = true := hq _ (by decide +kernel)
  have hall : (Cond.all (.arg 0) (.isInt (.elem (.arg 0) (.index 0)))).before args s = true := hq _ (by decide +kernel)
  obtain ⟨b, xs, hb, hx⟩ := State.ints_of_pre rfl harr hlen hall
  have hsm : xs.length < 2 ^ 31 := hx.choose_spec.2.2.2
  have hev : (Term.length (.arg 0)).eval args s none [] s = some (.int xs.length.toInt32) := hx.length_eval hb
  have hv := Cond.le_ints hev (show (Term.int 3072).eval args s none [] s = some (.int 3072) from rfl)
  have hd : xs.length.toInt32 ≤ 3072 := by
    simpa [Cond.before, Cond.holds, hv] using hle
  have hN : xs.length ≤ 3072 := (Int32.ofNat_le_ofNat hsm (by decide)).mp (show Int32.ofNat xs.length ≤ Int32.ofNat 3072 from hd)
  exact ⟨b, xs, Cond.one_arg hc (show args[0]? = some (.ref b) from hb), hx, hN, h⟩
theorem lw_comes (l : Launch) (hflags : l.flags = flags0) : Comes l x (Jvm.Cond.code x code maxLocals ret :: tables_1) room_1 (fun tb e args s => Calls_1 tb e args s ∧ rest_1 tb e args s ∧ Pre_1 tb e args s)
    (fun _ _ args s o t => lw_Q args s o t) := by
  intro p e ha hc hk s m args below hf hfit hheap happ hpre
  obtain ⟨b, xs, hP⟩ := lw_pre_spec hpre.2.2 hpre.2.1
  obtain ⟨k, o, h1, h2, h3, hQ⟩ := lw_walk l hflags b xs p e ha hc hk s m args below hf ((Spec.applies_iff_loose hf).mp happ).1 hP trivial
  exact ⟨k, o, h1, h2, h3, hQ⟩
theorem lw_frame {s t : State} {o : Outcome} {args : Array Value} (h : Framed s o t [] 600000 7302250) :
    Framed s o t (fieldLocs frame_1_writes args s ++ arrayLocs frame_1_arrays args s ++ staticLocs frame_1_statics s) 600000 7302250 := h
theorem lw_limb (L : Cond) (hL : ∀ (args : Array Value) (s t : State), L.after args s (.returned (some (.int 1))) t = true) :
    ArmFor flags0 classFile x code maxLocals ret World_1 tables_1 room_1 Calls_1 rest_1 Pre_1
      (fun tb e a s o t => postC L tb e a s o t ∧ Framed s o t (fieldLocs frame_1_writes a s ++ arrayLocs frame_1_arrays a s ++ staticLocs frame_1_statics s) 600000 7302250) := by
  intro l hflags _ _ p e ha hc hk s m args below hf hfit hheap happ hpre
  obtain ⟨k, o, h1, h2, h3, rfl, hF⟩ := lw_comes l hflags p e ha hc hk s m args below hf hfit hheap happ hpre
  exact ⟨k, _, h1, h2, h3, hL args s _, lw_frame hF⟩
theorem i_vc : Claimed_1_1 ∧ Claimed_1_2 := ⟨lw_limb limb_1_1 (fun args s t => by simp [limb_1_1, Cond.after, Cond.holds, Cond.value]), lw_limb limb_1_2 (fun args s t => Cond.after_iff.mpr (by
  first | (rw [show limb_1_2 = Cond.eq .result (.int 1) from rfl, Cond.eq_ints (x := 1) (y := 1) rfl rfl]; simp; done) | (simp [limb_1_2, Cond.value, Term.eval]; done)))⟩
end
