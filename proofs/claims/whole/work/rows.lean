section
-- ===== PART A: goes FIRST, ahead of the names: the tables' words, and 'selects' of the private methods out of them =====
/-- a private method of a class that the tables say can be made, by its rows of tables_1 -/
def lw_okq (q : MethodName × Nat) : Prop := (q.1.cls ≠ "java/lang/invoke/MethodHandle" ∧ q.1.cls ≠ "java/lang/invoke/VarHandle") ∧ Cond.instantiable q.1.cls q.2 ∈ tables_1 ∧ Cond.privateMethod q.1 ∈ tables_1 ∧ Cond.instanceMethod q.1 ∈ tables_1
theorem lw_p0 : lw_okq (⟨"BackYear$Year", "needable", "(II)I"⟩, 12) := ⟨⟨by decide +kernel, by decide +kernel⟩, List.mem_of_getElem? (i := 21) (by decide +kernel), List.mem_of_getElem? (i := 168) (by decide +kernel), List.mem_of_getElem? (i := 169) (by decide +kernel)⟩
theorem lw_p1 : lw_okq (⟨"BackYear$Year", "add", "(III)Z"⟩, 12) := ⟨⟨by decide +kernel, by decide +kernel⟩, List.mem_of_getElem? (i := 21) (by decide +kernel), List.mem_of_getElem? (i := 175) (by decide +kernel), List.mem_of_getElem? (i := 176) (by decide +kernel)⟩
theorem lw_p2 : lw_okq (⟨"BackYear$Year", "has", "(I)Z"⟩, 12) := ⟨⟨by decide +kernel, by decide +kernel⟩, List.mem_of_getElem? (i := 21) (by decide +kernel), List.mem_of_getElem? (i := 183) (by decide +kernel), List.mem_of_getElem? (i := 184) (by decide +kernel)⟩
theorem lw_p3 : lw_okq (⟨"BackYear$Year", "standing", "(I)I"⟩, 12) := ⟨⟨by decide +kernel, by decide +kernel⟩, List.mem_of_getElem? (i := 21) (by decide +kernel), List.mem_of_getElem? (i := 187) (by decide +kernel), List.mem_of_getElem? (i := 188) (by decide +kernel)⟩
theorem lw_p4 : lw_okq (⟨"BackYear$Year", "wouldStand", "(II)Z"⟩, 12) := ⟨⟨by decide +kernel, by decide +kernel⟩, List.mem_of_getElem? (i := 21) (by decide +kernel), List.mem_of_getElem? (i := 194) (by decide +kernel), List.mem_of_getElem? (i := 195) (by decide +kernel)⟩
theorem lw_p5 : lw_okq (⟨"BackYear$Year", "worthTo", "(II)I"⟩, 12) := ⟨⟨by decide +kernel, by decide +kernel⟩, List.mem_of_getElem? (i := 21) (by decide +kernel), List.mem_of_getElem? (i := 217) (by decide +kernel), List.mem_of_getElem? (i := 218) (by decide +kernel)⟩
theorem lw_p6 : lw_okq (⟨"BackYear$Year", "all", "()I"⟩, 12) := ⟨⟨by decide +kernel, by decide +kernel⟩, List.mem_of_getElem? (i := 21) (by decide +kernel), List.mem_of_getElem? (i := 229) (by decide +kernel), List.mem_of_getElem? (i := 230) (by decide +kernel)⟩
theorem lw_p7 : lw_okq (⟨"BackYear$Tape", "add", "(C)Z"⟩, 4) := ⟨⟨by decide +kernel, by decide +kernel⟩, List.mem_of_getElem? (i := 89) (by decide +kernel), List.mem_of_getElem? (i := 237) (by decide +kernel), List.mem_of_getElem? (i := 238) (by decide +kernel)⟩
theorem lw_p8 : lw_okq (⟨"BackYear$Year", "clear", "()V"⟩, 12) := ⟨⟨by decide +kernel, by decide +kernel⟩, List.mem_of_getElem? (i := 21) (by decide +kernel), List.mem_of_getElem? (i := 245) (by decide +kernel), List.mem_of_getElem? (i := 246) (by decide +kernel)⟩
theorem lw_p9 : lw_okq (⟨"BackYear$Tape", "readInto", "(LBackYear$Year;)I"⟩, 4) := ⟨⟨by decide +kernel, by decide +kernel⟩, List.mem_of_getElem? (i := 89) (by decide +kernel), List.mem_of_getElem? (i := 249) (by decide +kernel), List.mem_of_getElem? (i := 250) (by decide +kernel)⟩
theorem lw_p10 : lw_okq (⟨"BackYear$Tape", "takes", "(CLBackYear$Year;)Z"⟩, 4) := ⟨⟨by decide +kernel, by decide +kernel⟩, List.mem_of_getElem? (i := 89) (by decide +kernel), List.mem_of_getElem? (i := 253) (by decide +kernel), List.mem_of_getElem? (i := 254) (by decide +kernel)⟩
theorem lw_p11 : lw_okq (⟨"BackYear$Tape", "takesKind", "(C)Z"⟩, 4) := ⟨⟨by decide +kernel, by decide +kernel⟩, List.mem_of_getElem? (i := 89) (by decide +kernel), List.mem_of_getElem? (i := 257) (by decide +kernel), List.mem_of_getElem? (i := 258) (by decide +kernel)⟩
theorem lw_p12 : lw_okq (⟨"BackYear$Tape", "takesDay", "(CLBackYear$Year;)Z"⟩, 4) := ⟨⟨by decide +kernel, by decide +kernel⟩, List.mem_of_getElem? (i := 89) (by decide +kernel), List.mem_of_getElem? (i := 261) (by decide +kernel), List.mem_of_getElem? (i := 262) (by decide +kernel)⟩
theorem lw_p13 : lw_okq (⟨"BackYear$Tape", "takesComma", "(LBackYear$Year;)Z"⟩, 4) := ⟨⟨by decide +kernel, by decide +kernel⟩, List.mem_of_getElem? (i := 89) (by decide +kernel), List.mem_of_getElem? (i := 267) (by decide +kernel), List.mem_of_getElem? (i := 268) (by decide +kernel)⟩
theorem lw_p14 : lw_okq (⟨"BackYear$Tape", "takesNeed", "(CLBackYear$Year;)Z"⟩, 4) := ⟨⟨by decide +kernel, by decide +kernel⟩, List.mem_of_getElem? (i := 89) (by decide +kernel), List.mem_of_getElem? (i := 271) (by decide +kernel), List.mem_of_getElem? (i := 272) (by decide +kernel)⟩
theorem lw_p15 : lw_okq (⟨"BackYear$Year", "become", "(LBackYear$Year;)V"⟩, 12) := ⟨⟨by decide +kernel, by decide +kernel⟩, List.mem_of_getElem? (i := 21) (by decide +kernel), List.mem_of_getElem? (i := 278) (by decide +kernel), List.mem_of_getElem? (i := 279) (by decide +kernel)⟩
def lw_privs_1 : List (MethodName × Nat) := [(⟨"BackYear$Year", "needable", "(II)I"⟩, 12), (⟨"BackYear$Year", "add", "(III)Z"⟩, 12), (⟨"BackYear$Year", "has", "(I)Z"⟩, 12), (⟨"BackYear$Year", "standing", "(I)I"⟩, 12), (⟨"BackYear$Year", "wouldStand", "(II)Z"⟩, 12), (⟨"BackYear$Year", "worthTo", "(II)I"⟩, 12), (⟨"BackYear$Year", "all", "()I"⟩, 12), (⟨"BackYear$Tape", "add", "(C)Z"⟩, 4), (⟨"BackYear$Year", "clear", "()V"⟩, 12), (⟨"BackYear$Tape", "readInto", "(LBackYear$Year;)I"⟩, 4), (⟨"BackYear$Tape", "takes", "(CLBackYear$Year;)Z"⟩, 4), (⟨"BackYear$Tape", "takesKind", "(C)Z"⟩, 4), (⟨"BackYear$Tape", "takesDay", "(CLBackYear$Year;)Z"⟩, 4), (⟨"BackYear$Tape", "takesComma", "(LBackYear$Year;)Z"⟩, 4), (⟨"BackYear$Tape", "takesNeed", "(CLBackYear$Year;)Z"⟩, 4), (⟨"BackYear$Year", "become", "(LBackYear$Year;)V"⟩, 12)]
theorem lw_r1 : ∀ q ∈ lw_privs_1, lw_okq q := List.forall_mem_cons.mpr ⟨lw_p0, List.forall_mem_cons.mpr ⟨lw_p1, List.forall_mem_cons.mpr ⟨lw_p2, List.forall_mem_cons.mpr ⟨lw_p3, List.forall_mem_cons.mpr ⟨lw_p4, List.forall_mem_cons.mpr ⟨lw_p5, List.forall_mem_cons.mpr ⟨lw_p6, List.forall_mem_cons.mpr ⟨lw_p7, List.forall_mem_cons.mpr ⟨lw_p8, List.forall_mem_cons.mpr ⟨lw_p9, List.forall_mem_cons.mpr ⟨lw_p10, List.forall_mem_cons.mpr ⟨lw_p11, List.forall_mem_cons.mpr ⟨lw_p12, List.forall_mem_cons.mpr ⟨lw_p13, List.forall_mem_cons.mpr ⟨lw_p14, List.forall_mem_cons.mpr ⟨lw_p15, fun _ h => absurd h List.not_mem_nil⟩⟩⟩⟩⟩⟩⟩⟩⟩⟩⟩⟩⟩⟩⟩⟩
theorem lw_p16 : lw_okq (⟨"BackYear$Year", "ofDay", "(I)I"⟩, 12) := ⟨⟨by decide +kernel, by decide +kernel⟩, List.mem_of_getElem? (i := 21) (by decide +kernel), List.mem_of_getElem? (i := 293) (by decide +kernel), List.mem_of_getElem? (i := 294) (by decide +kernel)⟩
theorem lw_p17 : lw_okq (⟨"BackYear$Year", "beginNext", "()V"⟩, 12) := ⟨⟨by decide +kernel, by decide +kernel⟩, List.mem_of_getElem? (i := 21) (by decide +kernel), List.mem_of_getElem? (i := 306) (by decide +kernel), List.mem_of_getElem? (i := 307) (by decide +kernel)⟩
theorem lw_p18 : lw_okq (⟨"BackYear$Year", "sumBy", "(I)I"⟩, 12) := ⟨⟨by decide +kernel, by decide +kernel⟩, List.mem_of_getElem? (i := 21) (by decide +kernel), List.mem_of_getElem? (i := 321) (by decide +kernel), List.mem_of_getElem? (i := 322) (by decide +kernel)⟩
theorem lw_p19 : lw_okq (⟨"BackYear$Year", "valueOf", "(III)I"⟩, 12) := ⟨⟨by decide +kernel, by decide +kernel⟩, List.mem_of_getElem? (i := 21) (by decide +kernel), List.mem_of_getElem? (i := 325) (by decide +kernel), List.mem_of_getElem? (i := 326) (by decide +kernel)⟩
theorem lw_p20 : lw_okq (⟨"BackYear$Year", "bearer", "(I)I"⟩, 12) := ⟨⟨by decide +kernel, by decide +kernel⟩, List.mem_of_getElem? (i := 21) (by decide +kernel), List.mem_of_getElem? (i := 330) (by decide +kernel), List.mem_of_getElem? (i := 331) (by decide +kernel)⟩
theorem lw_p21 : lw_okq (⟨"BackYear$Year", "isPerson", "(I)Z"⟩, 12) := ⟨⟨by decide +kernel, by decide +kernel⟩, List.mem_of_getElem? (i := 21) (by decide +kernel), List.mem_of_getElem? (i := 334) (by decide +kernel), List.mem_of_getElem? (i := 335) (by decide +kernel)⟩
theorem lw_p22 : lw_okq (⟨"BackYear$Year", "valueBy", "(II)I"⟩, 12) := ⟨⟨by decide +kernel, by decide +kernel⟩, List.mem_of_getElem? (i := 21) (by decide +kernel), List.mem_of_getElem? (i := 338) (by decide +kernel), List.mem_of_getElem? (i := 339) (by decide +kernel)⟩
theorem lw_p23 : lw_okq (⟨"BackYear$Year", "worthToAll", "(I)I"⟩, 12) := ⟨⟨by decide +kernel, by decide +kernel⟩, List.mem_of_getElem? (i := 21) (by decide +kernel), List.mem_of_getElem? (i := 445) (by decide +kernel), List.mem_of_getElem? (i := 446) (by decide +kernel)⟩
theorem lw_p24 : lw_okq (⟨"BackYear$Sheets", "faultOf", "(IIII)I"⟩, 3) := ⟨⟨by decide +kernel, by decide +kernel⟩, List.mem_of_getElem? (i := 110) (by decide +kernel), List.mem_of_getElem? (i := 477) (by decide +kernel), List.mem_of_getElem? (i := 478) (by decide +kernel)⟩
theorem lw_p25 : lw_okq (⟨"BackYear$Sheets", "holds", "(I)Z"⟩, 3) := ⟨⟨by decide +kernel, by decide +kernel⟩, List.mem_of_getElem? (i := 110) (by decide +kernel), List.mem_of_getElem? (i := 487) (by decide +kernel), List.mem_of_getElem? (i := 488) (by decide +kernel)⟩
theorem lw_p26 : lw_okq (⟨"BackYear$Sheets", "reaches", "(III)Z"⟩, 3) := ⟨⟨by decide +kernel, by decide +kernel⟩, List.mem_of_getElem? (i := 110) (by decide +kernel), List.mem_of_getElem? (i := 491) (by decide +kernel), List.mem_of_getElem? (i := 492) (by decide +kernel)⟩
theorem lw_p27 : lw_okq (⟨"BackYear$Sheets", "at", "(II)J"⟩, 3) := ⟨⟨by decide +kernel, by decide +kernel⟩, List.mem_of_getElem? (i := 110) (by decide +kernel), List.mem_of_getElem? (i := 495) (by decide +kernel), List.mem_of_getElem? (i := 496) (by decide +kernel)⟩
theorem lw_p28 : lw_okq (⟨"BackYear", "takeToldYears", "(III)Z"⟩, 9) := ⟨⟨by decide +kernel, by decide +kernel⟩, List.mem_of_getElem? (i := 13) (by decide +kernel), List.mem_of_getElem? (i := 508) (by decide +kernel), List.mem_of_getElem? (i := 509) (by decide +kernel)⟩
theorem lw_p29 : lw_okq (⟨"BackYear$Sheets", "put", "(IIJ)V"⟩, 3) := ⟨⟨by decide +kernel, by decide +kernel⟩, List.mem_of_getElem? (i := 110) (by decide +kernel), List.mem_of_getElem? (i := 520) (by decide +kernel), List.mem_of_getElem? (i := 521) (by decide +kernel)⟩
theorem lw_p30 : lw_okq (⟨"BackYear$Sheets", "begin", "(III)V"⟩, 3) := ⟨⟨by decide +kernel, by decide +kernel⟩, List.mem_of_getElem? (i := 110) (by decide +kernel), List.mem_of_getElem? (i := 533) (by decide +kernel), List.mem_of_getElem? (i := 534) (by decide +kernel)⟩
theorem lw_p31 : lw_okq (⟨"BackYear$Sheets", "move", "(IIIII)V"⟩, 3) := ⟨⟨by decide +kernel, by decide +kernel⟩, List.mem_of_getElem? (i := 110) (by decide +kernel), List.mem_of_getElem? (i := 551) (by decide +kernel), List.mem_of_getElem? (i := 552) (by decide +kernel)⟩
def lw_privs_2 : List (MethodName × Nat) := [(⟨"BackYear$Year", "ofDay", "(I)I"⟩, 12), (⟨"BackYear$Year", "beginNext", "()V"⟩, 12), (⟨"BackYear$Year", "sumBy", "(I)I"⟩, 12), (⟨"BackYear$Year", "valueOf", "(III)I"⟩, 12), (⟨"BackYear$Year", "bearer", "(I)I"⟩, 12), (⟨"BackYear$Year", "isPerson", "(I)Z"⟩, 12), (⟨"BackYear$Year", "valueBy", "(II)I"⟩, 12), (⟨"BackYear$Year", "worthToAll", "(I)I"⟩, 12), (⟨"BackYear$Sheets", "faultOf", "(IIII)I"⟩, 3), (⟨"BackYear$Sheets", "holds", "(I)Z"⟩, 3), (⟨"BackYear$Sheets", "reaches", "(III)Z"⟩, 3), (⟨"BackYear$Sheets", "at", "(II)J"⟩, 3), (⟨"BackYear", "takeToldYears", "(III)Z"⟩, 9), (⟨"BackYear$Sheets", "put", "(IIJ)V"⟩, 3), (⟨"BackYear$Sheets", "begin", "(III)V"⟩, 3), (⟨"BackYear$Sheets", "move", "(IIIII)V"⟩, 3)]
theorem lw_r2 : ∀ q ∈ lw_privs_2, lw_okq q := List.forall_mem_cons.mpr ⟨lw_p16, List.forall_mem_cons.mpr ⟨lw_p17, List.forall_mem_cons.mpr ⟨lw_p18, List.forall_mem_cons.mpr ⟨lw_p19, List.forall_mem_cons.mpr ⟨lw_p20, List.forall_mem_cons.mpr ⟨lw_p21, List.forall_mem_cons.mpr ⟨lw_p22, List.forall_mem_cons.mpr ⟨lw_p23, List.forall_mem_cons.mpr ⟨lw_p24, List.forall_mem_cons.mpr ⟨lw_p25, List.forall_mem_cons.mpr ⟨lw_p26, List.forall_mem_cons.mpr ⟨lw_p27, List.forall_mem_cons.mpr ⟨lw_p28, List.forall_mem_cons.mpr ⟨lw_p29, List.forall_mem_cons.mpr ⟨lw_p30, List.forall_mem_cons.mpr ⟨lw_p31, fun _ h => absurd h List.not_mem_nil⟩⟩⟩⟩⟩⟩⟩⟩⟩⟩⟩⟩⟩⟩⟩⟩
theorem lw_p32 : lw_okq (⟨"BackYearModel", "adds", "(III)V"⟩, 37) := ⟨⟨by decide +kernel, by decide +kernel⟩, List.mem_of_getElem? (i := 556) (by decide +kernel), List.mem_of_getElem? (i := 691) (by decide +kernel), List.mem_of_getElem? (i := 692) (by decide +kernel)⟩
theorem lw_p33 : lw_okq (⟨"BackYearModel", "isDeed", "(J)Z"⟩, 37) := ⟨⟨by decide +kernel, by decide +kernel⟩, List.mem_of_getElem? (i := 556) (by decide +kernel), List.mem_of_getElem? (i := 699) (by decide +kernel), List.mem_of_getElem? (i := 700) (by decide +kernel)⟩
theorem lw_p34 : lw_okq (⟨"BackYearModel", "stands", "(II)I"⟩, 37) := ⟨⟨by decide +kernel, by decide +kernel⟩, List.mem_of_getElem? (i := 556) (by decide +kernel), List.mem_of_getElem? (i := 703) (by decide +kernel), List.mem_of_getElem? (i := 704) (by decide +kernel)⟩
theorem lw_p35 : lw_okq (⟨"BackYearModel", "is", "(III)Z"⟩, 37) := ⟨⟨by decide +kernel, by decide +kernel⟩, List.mem_of_getElem? (i := 556) (by decide +kernel), List.mem_of_getElem? (i := 707) (by decide +kernel), List.mem_of_getElem? (i := 708) (by decide +kernel)⟩
theorem lw_p36 : lw_okq (⟨"BackYearModel", "areDeeds", "(J)Z"⟩, 37) := ⟨⟨by decide +kernel, by decide +kernel⟩, List.mem_of_getElem? (i := 556) (by decide +kernel), List.mem_of_getElem? (i := 730) (by decide +kernel), List.mem_of_getElem? (i := 731) (by decide +kernel)⟩
theorem lw_p37 : lw_okq (⟨"BackYearModel", "readDeed", "()V"⟩, 37) := ⟨⟨by decide +kernel, by decide +kernel⟩, List.mem_of_getElem? (i := 556) (by decide +kernel), List.mem_of_getElem? (i := 748) (by decide +kernel), List.mem_of_getElem? (i := 749) (by decide +kernel)⟩
theorem lw_p38 : lw_okq (⟨"BackYearModel", "here", "()I"⟩, 37) := ⟨⟨by decide +kernel, by decide +kernel⟩, List.mem_of_getElem? (i := 556) (by decide +kernel), List.mem_of_getElem? (i := 752) (by decide +kernel), List.mem_of_getElem? (i := 753) (by decide +kernel)⟩
theorem lw_p39 : lw_okq (⟨"BackYearModel", "ofDay", "(I)I"⟩, 37) := ⟨⟨by decide +kernel, by decide +kernel⟩, List.mem_of_getElem? (i := 556) (by decide +kernel), List.mem_of_getElem? (i := 762) (by decide +kernel), List.mem_of_getElem? (i := 763) (by decide +kernel)⟩
theorem lw_p40 : lw_okq (⟨"BackYearModel", "bearer", "(I)I"⟩, 37) := ⟨⟨by decide +kernel, by decide +kernel⟩, List.mem_of_getElem? (i := 556) (by decide +kernel), List.mem_of_getElem? (i := 782) (by decide +kernel), List.mem_of_getElem? (i := 783) (by decide +kernel)⟩
theorem lw_p41 : lw_okq (⟨"BackYearModel", "isOne", "(I)Z"⟩, 37) := ⟨⟨by decide +kernel, by decide +kernel⟩, List.mem_of_getElem? (i := 556) (by decide +kernel), List.mem_of_getElem? (i := 790) (by decide +kernel), List.mem_of_getElem? (i := 791) (by decide +kernel)⟩
theorem lw_p42 : lw_okq (⟨"BackYearModel", "counts", "(II)V"⟩, 37) := ⟨⟨by decide +kernel, by decide +kernel⟩, List.mem_of_getElem? (i := 556) (by decide +kernel), List.mem_of_getElem? (i := 794) (by decide +kernel), List.mem_of_getElem? (i := 795) (by decide +kernel)⟩
theorem lw_p43 : lw_okq (⟨"BackYearModel", "bestOf", "(IZI)I"⟩, 37) := ⟨⟨by decide +kernel, by decide +kernel⟩, List.mem_of_getElem? (i := 556) (by decide +kernel), List.mem_of_getElem? (i := 802) (by decide +kernel), List.mem_of_getElem? (i := 803) (by decide +kernel)⟩
theorem lw_p44 : lw_okq (⟨"BackYearModel", "isWalk", "(II)Z"⟩, 37) := ⟨⟨by decide +kernel, by decide +kernel⟩, List.mem_of_getElem? (i := 556) (by decide +kernel), List.mem_of_getElem? (i := 806) (by decide +kernel), List.mem_of_getElem? (i := 807) (by decide +kernel)⟩
theorem lw_p45 : lw_okq (⟨"BackYearModel", "plays", "(I)I"⟩, 37) := ⟨⟨by decide +kernel, by decide +kernel⟩, List.mem_of_getElem? (i := 556) (by decide +kernel), List.mem_of_getElem? (i := 818) (by decide +kernel), List.mem_of_getElem? (i := 819) (by decide +kernel)⟩
theorem lw_p46 : lw_okq (⟨"BackYearModel", "own", "(II)I"⟩, 37) := ⟨⟨by decide +kernel, by decide +kernel⟩, List.mem_of_getElem? (i := 556) (by decide +kernel), List.mem_of_getElem? (i := 822) (by decide +kernel), List.mem_of_getElem? (i := 823) (by decide +kernel)⟩
theorem lw_p47 : lw_okq (⟨"BackYearModel", "owes", "()V"⟩, 37) := ⟨⟨by decide +kernel, by decide +kernel⟩, List.mem_of_getElem? (i := 556) (by decide +kernel), List.mem_of_getElem? (i := 838) (by decide +kernel), List.mem_of_getElem? (i := 839) (by decide +kernel)⟩
def lw_privs_3 : List (MethodName × Nat) := [(⟨"BackYearModel", "adds", "(III)V"⟩, 37), (⟨"BackYearModel", "isDeed", "(J)Z"⟩, 37), (⟨"BackYearModel", "stands", "(II)I"⟩, 37), (⟨"BackYearModel", "is", "(III)Z"⟩, 37), (⟨"BackYearModel", "areDeeds", "(J)Z"⟩, 37), (⟨"BackYearModel", "readDeed", "()V"⟩, 37), (⟨"BackYearModel", "here", "()I"⟩, 37), (⟨"BackYearModel", "ofDay", "(I)I"⟩, 37), (⟨"BackYearModel", "bearer", "(I)I"⟩, 37), (⟨"BackYearModel", "isOne", "(I)Z"⟩, 37), (⟨"BackYearModel", "counts", "(II)V"⟩, 37), (⟨"BackYearModel", "bestOf", "(IZI)I"⟩, 37), (⟨"BackYearModel", "isWalk", "(II)Z"⟩, 37), (⟨"BackYearModel", "plays", "(I)I"⟩, 37), (⟨"BackYearModel", "own", "(II)I"⟩, 37), (⟨"BackYearModel", "owes", "()V"⟩, 37)]
theorem lw_r3 : ∀ q ∈ lw_privs_3, lw_okq q := List.forall_mem_cons.mpr ⟨lw_p32, List.forall_mem_cons.mpr ⟨lw_p33, List.forall_mem_cons.mpr ⟨lw_p34, List.forall_mem_cons.mpr ⟨lw_p35, List.forall_mem_cons.mpr ⟨lw_p36, List.forall_mem_cons.mpr ⟨lw_p37, List.forall_mem_cons.mpr ⟨lw_p38, List.forall_mem_cons.mpr ⟨lw_p39, List.forall_mem_cons.mpr ⟨lw_p40, List.forall_mem_cons.mpr ⟨lw_p41, List.forall_mem_cons.mpr ⟨lw_p42, List.forall_mem_cons.mpr ⟨lw_p43, List.forall_mem_cons.mpr ⟨lw_p44, List.forall_mem_cons.mpr ⟨lw_p45, List.forall_mem_cons.mpr ⟨lw_p46, List.forall_mem_cons.mpr ⟨lw_p47, fun _ h => absurd h List.not_mem_nil⟩⟩⟩⟩⟩⟩⟩⟩⟩⟩⟩⟩⟩⟩⟩⟩
theorem lw_p48 : lw_okq (⟨"BackYearModel", "isZero", "(I)Z"⟩, 37) := ⟨⟨by decide +kernel, by decide +kernel⟩, List.mem_of_getElem? (i := 556) (by decide +kernel), List.mem_of_getElem? (i := 846) (by decide +kernel), List.mem_of_getElem? (i := 847) (by decide +kernel)⟩
theorem lw_p49 : lw_okq (⟨"BackYearModel", "expects", "()V"⟩, 37) := ⟨⟨by decide +kernel, by decide +kernel⟩, List.mem_of_getElem? (i := 556) (by decide +kernel), List.mem_of_getElem? (i := 858) (by decide +kernel), List.mem_of_getElem? (i := 859) (by decide +kernel)⟩
theorem lw_p50 : lw_okq (⟨"BackYearModel", "notes", "([II)I"⟩, 37) := ⟨⟨by decide +kernel, by decide +kernel⟩, List.mem_of_getElem? (i := 556) (by decide +kernel), List.mem_of_getElem? (i := 874) (by decide +kernel), List.mem_of_getElem? (i := 875) (by decide +kernel)⟩
theorem lw_p51 : lw_okq (⟨"BackYearModel", "gives", "(I[I)I"⟩, 37) := ⟨⟨by decide +kernel, by decide +kernel⟩, List.mem_of_getElem? (i := 556) (by decide +kernel), List.mem_of_getElem? (i := 882) (by decide +kernel), List.mem_of_getElem? (i := 883) (by decide +kernel)⟩
theorem lw_p52 : lw_okq (⟨"BackYearModel", "why", "(IIII)I"⟩, 37) := ⟨⟨by decide +kernel, by decide +kernel⟩, List.mem_of_getElem? (i := 556) (by decide +kernel), List.mem_of_getElem? (i := 896) (by decide +kernel), List.mem_of_getElem? (i := 897) (by decide +kernel)⟩
theorem lw_p53 : lw_okq (⟨"BackYearModel", "puts", "(IIJ)V"⟩, 37) := ⟨⟨by decide +kernel, by decide +kernel⟩, List.mem_of_getElem? (i := 556) (by decide +kernel), List.mem_of_getElem? (i := 910) (by decide +kernel), List.mem_of_getElem? (i := 911) (by decide +kernel)⟩
def lw_privs_4 : List (MethodName × Nat) := [(⟨"BackYearModel", "isZero", "(I)Z"⟩, 37), (⟨"BackYearModel", "expects", "()V"⟩, 37), (⟨"BackYearModel", "notes", "([II)I"⟩, 37), (⟨"BackYearModel", "gives", "(I[I)I"⟩, 37), (⟨"BackYearModel", "why", "(IIII)I"⟩, 37), (⟨"BackYearModel", "puts", "(IIJ)V"⟩, 37)]
theorem lw_r4 : ∀ q ∈ lw_privs_4, lw_okq q := List.forall_mem_cons.mpr ⟨lw_p48, List.forall_mem_cons.mpr ⟨lw_p49, List.forall_mem_cons.mpr ⟨lw_p50, List.forall_mem_cons.mpr ⟨lw_p51, List.forall_mem_cons.mpr ⟨lw_p52, List.forall_mem_cons.mpr ⟨lw_p53, fun _ h => absurd h List.not_mem_nil⟩⟩⟩⟩⟩⟩
def lw_privs : List (MethodName × Nat) := lw_privs_1 ++ (lw_privs_2 ++ (lw_privs_3 ++ (lw_privs_4)))
def lw_tbl : List Cond := k2_sels lw_privs ++ tables_1
theorem lw_privs_ok : ∀ q ∈ lw_privs, lw_okq q := by
  show ∀ q ∈ lw_privs_1 ++ (lw_privs_2 ++ (lw_privs_3 ++ (lw_privs_4))), lw_okq q
  exact List.forall_mem_append.mpr ⟨lw_r1, List.forall_mem_append.mpr ⟨lw_r2, List.forall_mem_append.mpr ⟨lw_r3, lw_r4⟩⟩⟩
end
section
/-! ===== BEGIN printed: names, fields, word lists, decode rows ===== -/
def RX0 : String := "BackYear$Bills"
def TX0 : u_T := fun k => match k with
  | _ => ("", "", "", false)
def tyX0 : Nat → FieldType := fun k => match k with
  | _ => .int
theorem nmX0 : ∀ a, a < 0 → ∀ b, b < 0 → a ≠ b → (TX0 a).2.1 ≠ (TX0 b).2.1 := by decide +kernel
theorem tyX0_ok : ∀ k, k < 0 → parseFieldDescriptor (TX0 k).2.2.1 = some (tyX0 k) := by decide +kernel
abbrev cX0_dueTo : ByteArray := prog_2_method_2_code
def yX0_dueTo : MethodName := ⟨RX0, "dueTo", "(LBackYear$Year;I)I"⟩
abbrev cX0_dueFor : ByteArray := prog_2_method_3_code
def yX0_dueFor : MethodName := ⟨RX0, "dueFor", "(LBackYear$Year;II)I"⟩
abbrev cX0_fewestPayments : ByteArray := prog_2_method_4_code
def yX0_fewestPayments : MethodName := ⟨RX0, "fewestPayments", "([I)I"⟩
abbrev cX0_mostSets : ByteArray := prog_2_method_5_code
def yX0_mostSets : MethodName := ⟨RX0, "mostSets", "([II)I"⟩
abbrev cX0_sumOf : ByteArray := prog_2_method_6_code
def yX0_sumOf : MethodName := ⟨RX0, "sumOf", "([II)I"⟩
def RX1 : String := "BackYear$Guesses"
def TX1 : u_T := fun k => match k with
  | _ => ("", "", "", false)
def tyX1 : Nat → FieldType := fun k => match k with
  | _ => .int
theorem nmX1 : ∀ a, a < 0 → ∀ b, b < 0 → a ≠ b → (TX1 a).2.1 ≠ (TX1 b).2.1 := by decide +kernel
theorem tyX1_ok : ∀ k, k < 0 → parseFieldDescriptor (TX1 k).2.2.1 = some (tyX1 k) := by decide +kernel
abbrev cX1_fits : ByteArray := prog_3_method_2_code
def yX1_fits : MethodName := ⟨RX1, "fits", "(III[II)Z"⟩
abbrev cX1_explains : ByteArray := prog_3_method_3_code
def yX1_explains : MethodName := ⟨RX1, "explains", "(LBackYear$Year;II)Z"⟩
abbrev cX1_parts : ByteArray := prog_3_method_4_code
def yX1_parts : MethodName := ⟨RX1, "parts", "(I)J"⟩
abbrev cX1_halvings : ByteArray := prog_3_method_5_code
def yX1_halvings : MethodName := ⟨RX1, "halvings", "(JI)I"⟩
abbrev cX1_mean : ByteArray := prog_3_method_6_code
def yX1_mean : MethodName := ⟨RX1, "mean", "(LBackYear$Year;III)J"⟩
def RX2 : String := "BackYear$Sheets"
def TX2 : u_T := fun k => match k with
  | 0 => ("BackYear$Sheets", "lane", "[I", true)
  | 1 => ("BackYear$Sheets", "size", "[I", true)
  | _ => ("BackYear$Sheets", "items", "[J", true)
def tyX2 : Nat → FieldType := fun k => match k with
  | 0 => .array .int
  | 1 => .array .int
  | _ => .array .long
theorem nmX2 : ∀ a, a < 3 → ∀ b, b < 3 → a ≠ b → (TX2 a).2.1 ≠ (TX2 b).2.1 := by decide +kernel
theorem tyX2_ok : ∀ k, k < 3 → parseFieldDescriptor (TX2 k).2.2.1 = some (tyX2 k) := by decide +kernel
abbrev cX2_init : ByteArray := prog_4_method_1_code
def yX2_init : MethodName := ⟨RX2, "<init>", "()V"⟩
abbrev cX2_holds : ByteArray := prog_4_method_2_code
def yX2_holds : MethodName := ⟨RX2, "holds", "(I)Z"⟩
abbrev cX2_faultOf : ByteArray := prog_4_method_3_code
def yX2_faultOf : MethodName := ⟨RX2, "faultOf", "(IIII)I"⟩
abbrev cX2_reaches : ByteArray := prog_4_method_4_code
def yX2_reaches : MethodName := ⟨RX2, "reaches", "(III)Z"⟩
abbrev cX2_begin : ByteArray := prog_4_method_5_code
def yX2_begin : MethodName := ⟨RX2, "begin", "(III)V"⟩
abbrev cX2_at : ByteArray := prog_4_method_6_code
def yX2_at : MethodName := ⟨RX2, "at", "(II)J"⟩
abbrev cX2_put : ByteArray := prog_4_method_7_code
def yX2_put : MethodName := ⟨RX2, "put", "(IIJ)V"⟩
abbrev cX2_lowest : ByteArray := prog_4_method_8_code
def yX2_lowest : MethodName := ⟨RX2, "lowest", "(IJ)J"⟩
abbrev cX2_move : ByteArray := prog_4_method_9_code
def yX2_move : MethodName := ⟨RX2, "move", "(IIIII)V"⟩
def RX3 : String := "BackYear$Tape"
def TX3 : u_T := fun k => match k with
  | 0 => ("BackYear$Tape", "letters", "[C", true)
  | 1 => ("BackYear$Tape", "typed", "I", false)
  | 2 => ("BackYear$Tape", "awaited", "I", false)
  | _ => ("BackYear$Tape", "kind", "I", false)
def tyX3 : Nat → FieldType := fun k => match k with
  | 0 => .array .char
  | 1 => .int
  | 2 => .int
  | _ => .int
theorem nmX3 : ∀ a, a < 4 → ∀ b, b < 4 → a ≠ b → (TX3 a).2.1 ≠ (TX3 b).2.1 := by decide +kernel
theorem tyX3_ok : ∀ k, k < 4 → parseFieldDescriptor (TX3 k).2.2.1 = some (tyX3 k) := by decide +kernel
abbrev cX3_init : ByteArray := prog_5_method_1_code
def yX3_init : MethodName := ⟨RX3, "<init>", "()V"⟩
abbrev cX3_add : ByteArray := prog_5_method_2_code
def yX3_add : MethodName := ⟨RX3, "add", "(C)Z"⟩
abbrev cX3_readInto : ByteArray := prog_5_method_3_code
def yX3_readInto : MethodName := ⟨RX3, "readInto", "(LBackYear$Year;)I"⟩
abbrev cX3_takes : ByteArray := prog_5_method_4_code
def yX3_takes : MethodName := ⟨RX3, "takes", "(CLBackYear$Year;)Z"⟩
abbrev cX3_takesKind : ByteArray := prog_5_method_5_code
def yX3_takesKind : MethodName := ⟨RX3, "takesKind", "(C)Z"⟩
abbrev cX3_takesDay : ByteArray := prog_5_method_6_code
def yX3_takesDay : MethodName := ⟨RX3, "takesDay", "(CLBackYear$Year;)Z"⟩
abbrev cX3_takesComma : ByteArray := prog_5_method_7_code
def yX3_takesComma : MethodName := ⟨RX3, "takesComma", "(LBackYear$Year;)Z"⟩
abbrev cX3_takesNeed : ByteArray := prog_5_method_8_code
def yX3_takesNeed : MethodName := ⟨RX3, "takesNeed", "(CLBackYear$Year;)Z"⟩
def RX4 : String := "BackYear$Walks"
def TX4 : u_T := fun k => match k with
  | _ => ("", "", "", false)
def tyX4 : Nat → FieldType := fun k => match k with
  | _ => .int
theorem nmX4 : ∀ a, a < 0 → ∀ b, b < 0 → a ≠ b → (TX4 a).2.1 ≠ (TX4 b).2.1 := by decide +kernel
theorem tyX4_ok : ∀ k, k < 0 → parseFieldDescriptor (TX4 k).2.2.1 = some (tyX4 k) := by decide +kernel
abbrev cX4_most : ByteArray := prog_6_method_2_code
def yX4_most : MethodName := ⟨RX4, "most", "(LBackYear$Year;IZ)I"⟩
abbrev cX4_fewest : ByteArray := prog_6_method_3_code
def yX4_fewest : MethodName := ⟨RX4, "fewest", "(LBackYear$Year;II)I"⟩
abbrev cX4_isWalk : ByteArray := prog_6_method_4_code
def yX4_isWalk : MethodName := ⟨RX4, "isWalk", "(LBackYear$Year;III)Z"⟩
abbrev cX4_isFair : ByteArray := prog_6_method_5_code
def yX4_isFair : MethodName := ⟨RX4, "isFair", "(LBackYear$Year;I)Z"⟩
abbrev cX4_selfish : ByteArray := prog_6_method_6_code
def yX4_selfish : MethodName := ⟨RX4, "selfish", "(LBackYear$Year;I)I"⟩
abbrev cX4_play : ByteArray := prog_6_method_7_code
def yX4_play : MethodName := ⟨RX4, "play", "(LBackYear$Year;IIII)I"⟩
abbrev cX4_chooser : ByteArray := prog_6_method_8_code
def yX4_chooser : MethodName := ⟨RX4, "chooser", "(LBackYear$Year;I)I"⟩
def RX5 : String := "BackYear$Year"
def TX5 : u_T := fun k => match k with
  | 0 => ("BackYear$Year", "people", "I", false)
  | 1 => ("BackYear$Year", "deeds", "I", false)
  | 2 => ("BackYear$Year", "theDay", "I", false)
  | 3 => ("BackYear$Year", "years", "I", false)
  | 4 => ("BackYear$Year", "lastYear", "I", false)
  | 5 => ("BackYear$Year", "righted", "I", false)
  | 6 => ("BackYear$Year", "kind", "[I", true)
  | 7 => ("BackYear$Year", "day", "[I", true)
  | 8 => ("BackYear$Year", "needs", "[I", true)
  | 9 => ("BackYear$Year", "cost", "[I", true)
  | 10 => ("BackYear$Year", "odds", "[I", true)
  | _ => ("BackYear$Year", "worth", "[I", true)
def tyX5 : Nat → FieldType := fun k => match k with
  | 0 => .int
  | 1 => .int
  | 2 => .int
  | 3 => .int
  | 4 => .int
  | 5 => .int
  | 6 => .array .int
  | 7 => .array .int
  | 8 => .array .int
  | 9 => .array .int
  | 10 => .array .int
  | _ => .array .int
theorem nmX5 : ∀ a, a < 12 → ∀ b, b < 12 → a ≠ b → (TX5 a).2.1 ≠ (TX5 b).2.1 := by decide +kernel
theorem tyX5_ok : ∀ k, k < 12 → parseFieldDescriptor (TX5 k).2.2.1 = some (tyX5 k) := by decide +kernel
abbrev cX5_init : ByteArray := prog_7_method_1_code
def yX5_init : MethodName := ⟨RX5, "<init>", "()V"⟩
abbrev cX5_become : ByteArray := prog_7_method_2_code
def yX5_become : MethodName := ⟨RX5, "become", "(LBackYear$Year;)V"⟩
abbrev cX5_clear : ByteArray := prog_7_method_3_code
def yX5_clear : MethodName := ⟨RX5, "clear", "()V"⟩
abbrev cX5_add : ByteArray := prog_7_method_4_code
def yX5_add : MethodName := ⟨RX5, "add", "(III)Z"⟩
abbrev cX5_beginNext : ByteArray := prog_7_method_5_code
def yX5_beginNext : MethodName := ⟨RX5, "beginNext", "()V"⟩
abbrev cX5_has : ByteArray := prog_7_method_6_code
def yX5_has : MethodName := ⟨RX5, "has", "(I)Z"⟩
abbrev cX5_isPerson : ByteArray := prog_7_method_7_code
def yX5_isPerson : MethodName := ⟨RX5, "isPerson", "(I)Z"⟩
abbrev cX5_all : ByteArray := prog_7_method_8_code
def yX5_all : MethodName := ⟨RX5, "all", "()I"⟩
abbrev cX5_ofDay : ByteArray := prog_7_method_9_code
def yX5_ofDay : MethodName := ⟨RX5, "ofDay", "(I)I"⟩
abbrev cX5_needable : ByteArray := prog_7_method_10_code
def yX5_needable : MethodName := ⟨RX5, "needable", "(II)I"⟩
abbrev cX5_worthTo : ByteArray := prog_7_method_11_code
def yX5_worthTo : MethodName := ⟨RX5, "worthTo", "(II)I"⟩
abbrev cX5_worthToAll : ByteArray := prog_7_method_12_code
def yX5_worthToAll : MethodName := ⟨RX5, "worthToAll", "(I)I"⟩
abbrev cX5_wouldStand : ByteArray := prog_7_method_13_code
def yX5_wouldStand : MethodName := ⟨RX5, "wouldStand", "(II)Z"⟩
abbrev cX5_isMet : ByteArray := prog_7_method_14_code
def yX5_isMet : MethodName := ⟨RX5, "isMet", "(III)Z"⟩
abbrev cX5_standing : ByteArray := prog_7_method_15_code
def yX5_standing : MethodName := ⟨RX5, "standing", "(I)I"⟩
abbrev cX5_bearer : ByteArray := prog_7_method_16_code
def yX5_bearer : MethodName := ⟨RX5, "bearer", "(I)I"⟩
abbrev cX5_valueBy : ByteArray := prog_7_method_17_code
def yX5_valueBy : MethodName := ⟨RX5, "valueBy", "(II)I"⟩
abbrev cX5_sumBy : ByteArray := prog_7_method_18_code
def yX5_sumBy : MethodName := ⟨RX5, "sumBy", "(I)I"⟩
abbrev cX5_valueOf : ByteArray := prog_7_method_19_code
def yX5_valueOf : MethodName := ⟨RX5, "valueOf", "(III)I"⟩
def RX6 : String := "BackYear"
def TX6 : u_T := fun k => match k with
  | 0 => ("BackYear", "now", "LBackYear$Year;", true)
  | 1 => ("BackYear", "kept", "LBackYear$Year;", true)
  | 2 => ("BackYear", "draft", "LBackYear$Year;", true)
  | 3 => ("BackYear", "tape", "LBackYear$Tape;", true)
  | 4 => ("BackYear", "sheets", "LBackYear$Sheets;", true)
  | 5 => ("BackYear", "begun", "[I", true)
  | 6 => ("BackYear", "toldYears", "[I", true)
  | 7 => ("BackYear", "dues", "[I", true)
  | _ => ("BackYear", "imaged", "Z", false)
def tyX6 : Nat → FieldType := fun k => match k with
  | 0 => .object "BackYear$Year"
  | 1 => .object "BackYear$Year"
  | 2 => .object "BackYear$Year"
  | 3 => .object "BackYear$Tape"
  | 4 => .object "BackYear$Sheets"
  | 5 => .array .int
  | 6 => .array .int
  | 7 => .array .int
  | _ => .boolean
theorem nmX6 : ∀ a, a < 9 → ∀ b, b < 9 → a ≠ b → (TX6 a).2.1 ≠ (TX6 b).2.1 := by decide +kernel
theorem tyX6_ok : ∀ k, k < 9 → parseFieldDescriptor (TX6 k).2.2.1 = some (tyX6 k) := by decide +kernel
abbrev cX6_init : ByteArray := prog_1_method_1_code
def yX6_init : MethodName := ⟨RX6, "<init>", "()V"⟩
abbrev cX6_people : ByteArray := prog_1_method_2_code
def yX6_people : MethodName := ⟨RX6, "people", "(I)I"⟩
abbrev cX6_deed : ByteArray := prog_1_method_3_code
def yX6_deed : MethodName := ⟨RX6, "deed", "(III)I"⟩
abbrev cX6_told : ByteArray := prog_1_method_4_code
def yX6_told : MethodName := ⟨RX6, "told", "(II)I"⟩
abbrev cX6_set : ByteArray := prog_1_method_5_code
def yX6_set : MethodName := ⟨RX6, "set", "(III)I"⟩
abbrev cX6_worth : ByteArray := prog_1_method_6_code
def yX6_worth : MethodName := ⟨RX6, "worth", "(III)I"⟩
abbrev cX6_worthOf : ByteArray := prog_1_method_7_code
def yX6_worthOf : MethodName := ⟨RX6, "worthOf", "(II)I"⟩
abbrev cX6_last : ByteArray := prog_1_method_8_code
def yX6_last : MethodName := ⟨RX6, "last", "(I)I"⟩
abbrev cX6_type : ByteArray := prog_1_method_9_code
def yX6_type : MethodName := ⟨RX6, "type", "(I)I"⟩
abbrev cX6_text : ByteArray := prog_1_method_10_code
def yX6_text : MethodName := ⟨RX6, "text", "()I"⟩
abbrev cX6_count : ByteArray := prog_1_method_11_code
def yX6_count : MethodName := ⟨RX6, "count", "(I)I"⟩
abbrev cX6_right : ByteArray := prog_1_method_12_code
def yX6_right : MethodName := ⟨RX6, "right", "(I)I"⟩
abbrev cX6_back : ByteArray := prog_1_method_13_code
def yX6_back : MethodName := ⟨RX6, "back", "()I"⟩
abbrev cX6_year : ByteArray := prog_1_method_14_code
def yX6_year : MethodName := ⟨RX6, "year", "()I"⟩
abbrev cX6_value : ByteArray := prog_1_method_15_code
def yX6_value : MethodName := ⟨RX6, "value", "(I)I"⟩
abbrev cX6_bears : ByteArray := prog_1_method_16_code
def yX6_bears : MethodName := ⟨RX6, "bears", "(I)I"⟩
abbrev cX6_best : ByteArray := prog_1_method_17_code
def yX6_best : MethodName := ⟨RX6, "best", "(III)I"⟩
abbrev cX6_wanted : ByteArray := prog_1_method_18_code
def yX6_wanted : MethodName := ⟨RX6, "wanted", "(II)I"⟩
abbrev cX6_self : ByteArray := prog_1_method_19_code
def yX6_self : MethodName := ⟨RX6, "self", "()I"⟩
abbrev cX6_turn : ByteArray := prog_1_method_20_code
def yX6_turn : MethodName := ⟨RX6, "turn", "(I)I"⟩
abbrev cX6_bargain : ByteArray := prog_1_method_21_code
def yX6_bargain : MethodName := ⟨RX6, "bargain", "(IIII)I"⟩
abbrev cX6_due : ByteArray := prog_1_method_22_code
def yX6_due : MethodName := ⟨RX6, "due", "(I)I"⟩
abbrev cX6_payments : ByteArray := prog_1_method_23_code
def yX6_payments : MethodName := ⟨RX6, "payments", "()I"⟩
abbrev cX6_forgotten : ByteArray := prog_1_method_24_code
def yX6_forgotten : MethodName := ⟨RX6, "forgotten", "(III)I"⟩
abbrev cX6_upper : ByteArray := prog_1_method_25_code
def yX6_upper : MethodName := ⟨RX6, "upper", "()J"⟩
abbrev cX6_lower : ByteArray := prog_1_method_26_code
def yX6_lower : MethodName := ⟨RX6, "lower", "()J"⟩
abbrev cX6_comes : ByteArray := prog_1_method_27_code
def yX6_comes : MethodName := ⟨RX6, "comes", "(II)I"⟩
abbrev cX6_image : ByteArray := prog_1_method_28_code
def yX6_image : MethodName := ⟨RX6, "image", "()I"⟩
abbrev cX6_restore : ByteArray := prog_1_method_29_code
def yX6_restore : MethodName := ⟨RX6, "restore", "()I"⟩
abbrev cX6_judged : ByteArray := prog_1_method_30_code
def yX6_judged : MethodName := ⟨RX6, "judged", "(III)I"⟩
abbrev cX6_net : ByteArray := prog_1_method_31_code
def yX6_net : MethodName := ⟨RX6, "net", "(IIIIII)I"⟩
abbrev cX6_film : ByteArray := prog_1_method_32_code
def yX6_film : MethodName := ⟨RX6, "film", "(III)I"⟩
abbrev cX6_sheet : ByteArray := prog_1_method_33_code
def yX6_sheet : MethodName := ⟨RX6, "sheet", "(III)I"⟩
abbrev cX6_drop : ByteArray := prog_1_method_34_code
def yX6_drop : MethodName := ⟨RX6, "drop", "(I)I"⟩
abbrev cX6_item : ByteArray := prog_1_method_35_code
def yX6_item : MethodName := ⟨RX6, "item", "(IIIJ)I"⟩
abbrev cX6_copy : ByteArray := prog_1_method_36_code
def yX6_copy : MethodName := ⟨RX6, "copy", "(IIIII)I"⟩
abbrev cX6_takeToldYears : ByteArray := prog_1_method_37_code
def yX6_takeToldYears : MethodName := ⟨RX6, "takeToldYears", "(III)Z"⟩
abbrev cX6_isDay : ByteArray := prog_1_method_38_code
def yX6_isDay : MethodName := ⟨RX6, "isDay", "(I)Z"⟩
abbrev cX6_isEverPerson : ByteArray := prog_1_method_39_code
def yX6_isEverPerson : MethodName := ⟨RX6, "isEverPerson", "(I)Z"⟩
abbrev cX6_isWalkLength : ByteArray := prog_1_method_40_code
def yX6_isWalkLength : MethodName := ⟨RX6, "isWalkLength", "(I)Z"⟩
abbrev cX6_isChoice : ByteArray := prog_1_method_41_code
def yX6_isChoice : MethodName := ⟨RX6, "isChoice", "(I)Z"⟩
abbrev cX6_isSheet : ByteArray := prog_1_method_42_code
def yX6_isSheet : MethodName := ⟨RX6, "isSheet", "(I)Z"⟩
abbrev cX6_isLane : ByteArray := prog_1_method_43_code
def yX6_isLane : MethodName := ⟨RX6, "isLane", "(I)Z"⟩
abbrev cX6_isIn : ByteArray := prog_1_method_44_code
def yX6_isIn : MethodName := ⟨RX6, "isIn", "(II)Z"⟩
abbrev cX6_isOneOf : ByteArray := prog_1_method_45_code
def yX6_isOneOf : MethodName := ⟨RX6, "isOneOf", "(JI)Z"⟩
abbrev cX6_isWithin : ByteArray := prog_1_method_46_code
def yX6_isWithin : MethodName := ⟨RX6, "isWithin", "(II)Z"⟩
def RX7 : String := "BackYearModel"
def TX7 : u_T := fun k => match k with
  | 0 => ("BackYearModel", "people", "I", false)
  | 1 => ("BackYearModel", "deeds", "I", false)
  | 2 => ("BackYearModel", "kinds", "[I", true)
  | 3 => ("BackYearModel", "days", "[I", true)
  | 4 => ("BackYearModel", "needs", "[I", true)
  | 5 => ("BackYearModel", "costs", "[I", true)
  | 6 => ("BackYearModel", "odds", "[I", true)
  | 7 => ("BackYearModel", "worths", "[I", true)
  | 8 => ("BackYearModel", "last", "I", false)
  | 9 => ("BackYearModel", "righted", "I", false)
  | 10 => ("BackYearModel", "day", "I", false)
  | 11 => ("BackYearModel", "years", "I", false)
  | 12 => ("BackYearModel", "tape", "[I", true)
  | 13 => ("BackYearModel", "taped", "I", false)
  | 14 => ("BackYearModel", "at", "I", false)
  | 15 => ("BackYearModel", "wrong", "Z", false)
  | 16 => ("BackYearModel", "readDeeds", "I", false)
  | 17 => ("BackYearModel", "readKinds", "[I", true)
  | 18 => ("BackYearModel", "readDays", "[I", true)
  | 19 => ("BackYearModel", "readNeeds", "[I", true)
  | 20 => ("BackYearModel", "values", "[I", true)
  | 21 => ("BackYearModel", "sum", "I", false)
  | 22 => ("BackYearModel", "base", "[I", true)
  | 23 => ("BackYearModel", "bestSum", "I", false)
  | 24 => ("BackYearModel", "chosen", "[I", true)
  | 25 => ("BackYearModel", "tries", "[I", true)
  | 26 => ("BackYearModel", "ends", "[I", true)
  | 27 => ("BackYearModel", "dues", "[I", true)
  | 28 => ("BackYearModel", "upper", "J", false)
  | 29 => ("BackYearModel", "lower", "J", false)
  | 30 => ("BackYearModel", "olds", "[I", true)
  | 31 => ("BackYearModel", "image", "[I", true)
  | 32 => ("BackYearModel", "isImage", "Z", false)
  | 33 => ("BackYearModel", "lanes", "[I", true)
  | 34 => ("BackYearModel", "sizes", "[I", true)
  | 35 => ("BackYearModel", "items", "[J", true)
  | _ => ("BackYearModel", "moved", "[J", true)
def tyX7 : Nat → FieldType := fun k => match k with
  | 0 => .int
  | 1 => .int
  | 2 => .array .int
  | 3 => .array .int
  | 4 => .array .int
  | 5 => .array .int
  | 6 => .array .int
  | 7 => .array .int
  | 8 => .int
  | 9 => .int
  | 10 => .int
  | 11 => .int
  | 12 => .array .int
  | 13 => .int
  | 14 => .int
  | 15 => .boolean
  | 16 => .int
  | 17 => .array .int
  | 18 => .array .int
  | 19 => .array .int
  | 20 => .array .int
  | 21 => .int
  | 22 => .array .int
  | 23 => .int
  | 24 => .array .int
  | 25 => .array .int
  | 26 => .array .int
  | 27 => .array .int
  | 28 => .long
  | 29 => .long
  | 30 => .array .int
  | 31 => .array .int
  | 32 => .boolean
  | 33 => .array .int
  | 34 => .array .int
  | 35 => .array .long
  | _ => .array .long
theorem nmX7 : ∀ a, a < 37 → ∀ b, b < 37 → a ≠ b → (TX7 a).2.1 ≠ (TX7 b).2.1 := by decide +kernel
theorem tyX7_ok : ∀ k, k < 37 → parseFieldDescriptor (TX7 k).2.2.1 = some (tyX7 k) := by decide +kernel
abbrev cX7_in : ByteArray := prog_9_method_2_code
def yX7_in : MethodName := ⟨RX7, "in", "(JJJ)Z"⟩
abbrev cX7_init : ByteArray := prog_9_method_3_code
def yX7_init : MethodName := ⟨RX7, "<init>", "()V"⟩
abbrev cX7_isDeed : ByteArray := prog_9_method_4_code
def yX7_isDeed : MethodName := ⟨RX7, "isDeed", "(J)Z"⟩
abbrev cX7_isOne : ByteArray := prog_9_method_5_code
def yX7_isOne : MethodName := ⟨RX7, "isOne", "(I)Z"⟩
abbrev cX7_areDeeds : ByteArray := prog_9_method_6_code
def yX7_areDeeds : MethodName := ⟨RX7, "areDeeds", "(J)Z"⟩
abbrev cX7_people : ByteArray := prog_9_method_7_code
def yX7_people : MethodName := ⟨RX7, "people", "(I)I"⟩
abbrev cX7_ahead : ByteArray := prog_9_method_8_code
def yX7_ahead : MethodName := ⟨RX7, "ahead", "(II[I)I"⟩
abbrev cX7_adds : ByteArray := prog_9_method_9_code
def yX7_adds : MethodName := ⟨RX7, "adds", "(III)V"⟩
abbrev cX7_deed : ByteArray := prog_9_method_10_code
def yX7_deed : MethodName := ⟨RX7, "deed", "(III)I"⟩
abbrev cX7_is : ByteArray := prog_9_method_11_code
def yX7_is : MethodName := ⟨RX7, "is", "(III)Z"⟩
abbrev cX7_stands : ByteArray := prog_9_method_12_code
def yX7_stands : MethodName := ⟨RX7, "stands", "(II)I"⟩
abbrev cX7_told : ByteArray := prog_9_method_13_code
def yX7_told : MethodName := ⟨RX7, "told", "(II)I"⟩
abbrev cX7_set : ByteArray := prog_9_method_14_code
def yX7_set : MethodName := ⟨RX7, "set", "(III)I"⟩
abbrev cX7_worth : ByteArray := prog_9_method_15_code
def yX7_worth : MethodName := ⟨RX7, "worth", "(III)I"⟩
abbrev cX7_worthOf : ByteArray := prog_9_method_16_code
def yX7_worthOf : MethodName := ⟨RX7, "worthOf", "(II)I"⟩
abbrev cX7_last : ByteArray := prog_9_method_17_code
def yX7_last : MethodName := ⟨RX7, "last", "(I)I"⟩
abbrev cX7_count : ByteArray := prog_9_method_18_code
def yX7_count : MethodName := ⟨RX7, "count", "(I)I"⟩
abbrev cX7_type : ByteArray := prog_9_method_19_code
def yX7_type : MethodName := ⟨RX7, "type", "(I)I"⟩
abbrev cX7_here : ByteArray := prog_9_method_20_code
def yX7_here : MethodName := ⟨RX7, "here", "()I"⟩
abbrev cX7_readDeed : ByteArray := prog_9_method_21_code
def yX7_readDeed : MethodName := ⟨RX7, "readDeed", "()V"⟩
abbrev cX7_text : ByteArray := prog_9_method_22_code
def yX7_text : MethodName := ⟨RX7, "text", "()I"⟩
abbrev cX7_ofDay : ByteArray := prog_9_method_23_code
def yX7_ofDay : MethodName := ⟨RX7, "ofDay", "(I)I"⟩
abbrev cX7_right : ByteArray := prog_9_method_24_code
def yX7_right : MethodName := ⟨RX7, "right", "(I)I"⟩
abbrev cX7_back : ByteArray := prog_9_method_25_code
def yX7_back : MethodName := ⟨RX7, "back", "()I"⟩
abbrev cX7_size : ByteArray := prog_9_method_26_code
def yX7_size : MethodName := ⟨RX7, "size", "(I)I"⟩
abbrev cX7_year : ByteArray := prog_9_method_27_code
def yX7_year : MethodName := ⟨RX7, "year", "()I"⟩
abbrev cX7_bearer : ByteArray := prog_9_method_28_code
def yX7_bearer : MethodName := ⟨RX7, "bearer", "(I)I"⟩
abbrev cX7_bears : ByteArray := prog_9_method_29_code
def yX7_bears : MethodName := ⟨RX7, "bears", "(I)I"⟩
abbrev cX7_counts : ByteArray := prog_9_method_30_code
def yX7_counts : MethodName := ⟨RX7, "counts", "(II)V"⟩
abbrev cX7_value : ByteArray := prog_9_method_31_code
def yX7_value : MethodName := ⟨RX7, "value", "(I)I"⟩
abbrev cX7_isWalk : ByteArray := prog_9_method_32_code
def yX7_isWalk : MethodName := ⟨RX7, "isWalk", "(II)Z"⟩
abbrev cX7_bestOf : ByteArray := prog_9_method_33_code
def yX7_bestOf : MethodName := ⟨RX7, "bestOf", "(IZI)I"⟩
abbrev cX7_best : ByteArray := prog_9_method_34_code
def yX7_best : MethodName := ⟨RX7, "best", "(III)I"⟩
abbrev cX7_wanted : ByteArray := prog_9_method_35_code
def yX7_wanted : MethodName := ⟨RX7, "wanted", "(II)I"⟩
abbrev cX7_own : ByteArray := prog_9_method_36_code
def yX7_own : MethodName := ⟨RX7, "own", "(II)I"⟩
abbrev cX7_plays : ByteArray := prog_9_method_37_code
def yX7_plays : MethodName := ⟨RX7, "plays", "(I)I"⟩
abbrev cX7_self : ByteArray := prog_9_method_38_code
def yX7_self : MethodName := ⟨RX7, "self", "()I"⟩
abbrev cX7_turn : ByteArray := prog_9_method_39_code
def yX7_turn : MethodName := ⟨RX7, "turn", "(I)I"⟩
abbrev cX7_bargain : ByteArray := prog_9_method_40_code
def yX7_bargain : MethodName := ⟨RX7, "bargain", "(IIII)I"⟩
abbrev cX7_owes : ByteArray := prog_9_method_41_code
def yX7_owes : MethodName := ⟨RX7, "owes", "()V"⟩
abbrev cX7_due : ByteArray := prog_9_method_42_code
def yX7_due : MethodName := ⟨RX7, "due", "(I)I"⟩
abbrev cX7_isZero : ByteArray := prog_9_method_43_code
def yX7_isZero : MethodName := ⟨RX7, "isZero", "(I)Z"⟩
abbrev cX7_payments : ByteArray := prog_9_method_44_code
def yX7_payments : MethodName := ⟨RX7, "payments", "()I"⟩
abbrev cX7_forgotten : ByteArray := prog_9_method_45_code
def yX7_forgotten : MethodName := ⟨RX7, "forgotten", "(III)I"⟩
abbrev cX7_expects : ByteArray := prog_9_method_46_code
def yX7_expects : MethodName := ⟨RX7, "expects", "()V"⟩
abbrev cX7_upper : ByteArray := prog_9_method_47_code
def yX7_upper : MethodName := ⟨RX7, "upper", "()J"⟩
abbrev cX7_lower : ByteArray := prog_9_method_48_code
def yX7_lower : MethodName := ⟨RX7, "lower", "()J"⟩
abbrev cX7_comes : ByteArray := prog_9_method_49_code
def yX7_comes : MethodName := ⟨RX7, "comes", "(II)I"⟩
abbrev cX7_notes : ByteArray := prog_9_method_50_code
def yX7_notes : MethodName := ⟨RX7, "notes", "([II)I"⟩
abbrev cX7_gives : ByteArray := prog_9_method_51_code
def yX7_gives : MethodName := ⟨RX7, "gives", "(I[I)I"⟩
abbrev cX7_image : ByteArray := prog_9_method_52_code
def yX7_image : MethodName := ⟨RX7, "image", "()I"⟩
abbrev cX7_restore : ByteArray := prog_9_method_53_code
def yX7_restore : MethodName := ⟨RX7, "restore", "()I"⟩
abbrev cX7_isSheet : ByteArray := prog_9_method_54_code
def yX7_isSheet : MethodName := ⟨RX7, "isSheet", "(I)Z"⟩
abbrev cX7_isLane : ByteArray := prog_9_method_55_code
def yX7_isLane : MethodName := ⟨RX7, "isLane", "(I)Z"⟩
abbrev cX7_why : ByteArray := prog_9_method_56_code
def yX7_why : MethodName := ⟨RX7, "why", "(IIII)I"⟩
abbrev cX7_judged : ByteArray := prog_9_method_57_code
def yX7_judged : MethodName := ⟨RX7, "judged", "(III)I"⟩
abbrev cX7_net : ByteArray := prog_9_method_58_code
def yX7_net : MethodName := ⟨RX7, "net", "(IIIIII)I"⟩
abbrev cX7_puts : ByteArray := prog_9_method_59_code
def yX7_puts : MethodName := ⟨RX7, "puts", "(IIJ)V"⟩
abbrev cX7_film : ByteArray := prog_9_method_60_code
def yX7_film : MethodName := ⟨RX7, "film", "(III)I"⟩
abbrev cX7_sheet : ByteArray := prog_9_method_61_code
def yX7_sheet : MethodName := ⟨RX7, "sheet", "(III)I"⟩
abbrev cX7_drop : ByteArray := prog_9_method_62_code
def yX7_drop : MethodName := ⟨RX7, "drop", "(I)I"⟩
abbrev cX7_item : ByteArray := prog_9_method_63_code
def yX7_item : MethodName := ⟨RX7, "item", "(IIIJ)I"⟩
abbrev cX7_copy : ByteArray := prog_9_method_64_code
def yX7_copy : MethodName := ⟨RX7, "copy", "(IIIII)I"⟩
def RJ6 : String := "java/lang/Integer"
def TJ6 : u_T := fun k => match k with
  | _ => ("", "", "", false)
def tyJ6 : Nat → FieldType := fun k => match k with
  | _ => .int
theorem nmJ6 : ∀ a, a < 0 → ∀ b, b < 0 → a ≠ b → (TJ6 a).2.1 ≠ (TJ6 b).2.1 := by decide +kernel
theorem tyJ6_ok : ∀ k, k < 0 → parseFieldDescriptor (TJ6 k).2.2.1 = some (tyJ6 k) := by decide +kernel
abbrev cJ6_bitCount_0f7a4 : ByteArray := prog_10_method_49_code
def yJ6_bitCount_0f7a4 : MethodName := ⟨RJ6, "bitCount", "(I)I"⟩
def RJ9 : String := "java/lang/Math"
def TJ9 : u_T := fun k => match k with
  | _ => ("", "", "", false)
def tyJ9 : Nat → FieldType := fun k => match k with
  | _ => .int
theorem nmJ9 : ∀ a, a < 0 → ∀ b, b < 0 → a ≠ b → (TJ9 a).2.1 ≠ (TJ9 b).2.1 := by decide +kernel
theorem tyJ9_ok : ∀ k, k < 0 → parseFieldDescriptor (TJ9 k).2.2.1 = some (tyJ9 k) := by decide +kernel
abbrev cJ9_max_7cf53 : ByteArray := prog_11_method_65_code
def yJ9_max_7cf53 : MethodName := ⟨RJ9, "max", "(II)I"⟩
def RJ10 : String := "java/lang/System"
def TJ10 : u_T := fun k => match k with
  | _ => ("", "", "", false)
def tyJ10 : Nat → FieldType := fun k => match k with
  | _ => .int
theorem nmJ10 : ∀ a, a < 0 → ∀ b, b < 0 → a ≠ b → (TJ10 a).2.1 ≠ (TJ10 b).2.1 := by decide +kernel
theorem tyJ10_ok : ∀ k, k < 0 → parseFieldDescriptor (TJ10 k).2.2.1 = some (tyJ10 k) := by decide +kernel
def RL : String := "BackYearLaw"
abbrev cL_law : ByteArray := code
def yL_law : MethodName := ⟨RL, "law", "([I)Z"⟩
end
section
def isNest : Cond → Bool
  | .fieldLinkNest .. => true
  | .methodLinkNest .. => true
  | _ => false
def gw (w : Cond) : Bool := goodWord w || isNest w
/-- the words of the tables that last -/
def TBL : List Cond := lw_tbl.filter gw
theorem tbl_of {args : Array Value} {s : State} (h : ∀ w ∈ lw_tbl, w.before args s = true) : ∀ w ∈ TBL, w.before args s = true := fun w hw => h w (List.mem_filter.mp hw).1
theorem tbl_sel {w : Cond} (i : Nat) (h : (k2_sels lw_privs)[i]? = some w) (hg : gw w = true) : w ∈ TBL := List.mem_filter.mpr ⟨List.mem_append_left _ (List.mem_of_getElem? h), hg⟩
theorem tbl_tab {w : Cond} (i : Nat) (h : tables_1[i]? = some w) (hg : gw w = true) : w ∈ TBL := List.mem_filter.mpr ⟨List.mem_append_right _ (List.mem_of_getElem? h), hg⟩
set_option maxHeartbeats 4000000 in
theorem warm_of {args : Array Value} {s : State} (h : ∀ w ∈ TBL, w.before args s = true) : ∀ w ∈ TBL, ∀ (a' : Array Value) (U : State), s.WarmedH U.vm → w.before a' U = true := by
  intro w hw a' U hW
  have h1 := h w hw
  have h2 : gw w = true := (List.mem_filter.mp hw).2
  have h3 : goodWord w = true ∨ isNest w = true := by
    cases hg : goodWord w with
    | true => exact Or.inl rfl
    | false => exact Or.inr (by unfold gw at h2; rw [hg] at h2; exact h2)
  rcases h3 with h3 | h3
  · exact word_at hW (good_of_word h3) h1
  · cases w <;> first | exact va_Nw.use rfl (va_Nw.warmF hW (va_Nw.of rfl h1)) | exact va_Nw.use rfl (va_Nw.warmM hW (va_Nw.of rfl h1)) | exact Bool.noConfusion h3
/-- the classes whose objects the worlds hold -/
abbrev classes : List vw_C := [(RX5, TX5, 12), (RX3, TX3, 4), (RX2, TX2, 3), (RX6, TX6, 9), (RX7, TX7, 37)]
abbrev tysD (D : va_G) : List (ClassId × FieldType) := [(D.1 10, .int), (D.1 11, .long), (D.1 12, .char)]
def Cx (p : Program) (s : State) (m : MethodId) (args : Array Value) (meth : Method) (c : Code) (cc : ByteArray) (own : String) (nL : Nat) (ret : Option FieldType) (D : va_G) : Prop :=
  p.tables.exec = Jvm.exec ∧ c.code = cc ∧ (∀ w ∈ TBL, w.before args s = true) ∧ s.vm.findClass own = some m.cls ∧ c.maxLocals = nL ∧ va_K D classes (tysD D) s ∧ meth.sig.returnType = ret ∧ meth.locks = false
def G (p : Program) (l : Launch) (e : Env) (R : Room) (s : State) (m : MethodId) (args : Array Value) (below : List Frame) (meth : Method) (c : Code) (D : va_G) (H0 : Heap) (A : Nat → Prop) (nL : Nat) (Q : State → Prop) (ws : va_W) (pc : Nat) (lv : List (Nat × Value)) (st : List Value) : Prop :=
  ∀ (H : Heap) (locs : List Loc) (ls : Array Slot), va_P D classes ws H → va_S A H0 H locs → lv_has ls nL lv → W p l e R s m args below meth c H locs 0 0 Q (F0 m pc ls st)
/-- the addresses of a world -/
def Ad (ws : va_W) : Nat → Prop := fun q => ∃ (k : Nat) (e : va_E), ws[k]? = some (q, e)
/-- a contract: from the world ws to the world ws1, the answer rv, no cell outside A touched -/
def ct (l : Launch) (y : MethodName) (b : ByteArray) (nL : Nat) (ret : Option FieldType) (fr lo : Nat) (D : va_G) (av : List Value) (ws ws1 : va_W) (A : Nat → Prop) (rv : Option Value) : Prop :=
  Met l y (Cond.code y b nL ret :: TBL) { frames := fr, cells := 0, slots := 0, locals := lo } (va_Pc av (fun U => va_P D classes ws U.heap ∧ va_K D classes (tysD D) U)) (fun _ st o t => o = .returned rv ∧ va_P D classes ws1 t.heap ∧ va_F A st t) 0 0 A
theorem ct_intro {l : Launch} {y : MethodName} {b : ByteArray} {nL : Nat} {ret : Option FieldType} {fr lo : Nat} {D : va_G} {av : List Value} {ws ws1 : va_W} {A : Nat → Prop} {rv : Option Value} {own : String} {lv : List (Nat × Value)}
    (hplain : plainName y.cls = true) (hown : y.cls = own) (hn : (lg_sl av).length ≤ nL) (hlv : lv_args 0 av = lv)
    (body : ∀ (p : Program) (e : Env) (s : State) (m : MethodId) (below : List Frame) (meth : Method) (c : Code), Cx p s m av.toArray meth c b own nL ret D →
      G p l e { frames := fr, cells := 0, slots := 0, locals := lo } s m av.toArray below meth c D s.heap A nL (MQ below (fun _ st o t => o = .returned rv ∧ va_P D classes ws1 t.heap ∧ va_F A st t) av.toArray s 0 0 A) ws 0 lv []) :
    ct l y b nL ret fr lo D av ws ws1 A rv := by
  refine Met.ofW (cc := b) (maxL := nL) (ret := ret) hplain rfl ?_
  intro p e s m args below meth c s₁ B hml hv
  obtain ⟨rfl, hP, hK⟩ := hv
  have hts := atoms_spec (ws := Cond.code y b nL ret :: TBL) B.pre
  have hown2 : s.vm.findClass own = some m.cls := by rw [← hown]; exact findClass_of_methodNamed B.named
  have hl := lv_entry av (n := nL) hn
  rw [hlv] at hl
  rw [lg_entry_eq]
  exact body p e s m below meth c ⟨B.exec, B.bytes, fun w hw => hts w (List.mem_cons_of_mem _ hw), hown2, hml, hK, B.returns, B.notSynchronized⟩ s.heap [] _ hP va_S.rf hl
end
section
section GR
variable {p : Program} {l : Launch} {e : Env} {R : Room} {s : State} {m : MethodId} {args : Array Value} {below : List Frame} {meth : Method} {c : Code} {D : va_G} {H0 : Heap} {A : Nat → Prop} {nL : Nat} {Q : State → Prop} {ws : va_W} {pc : Nat} {lv : List (Nat × Value)} {st : List Value} {cc : ByteArray} {own : String} {ret : Option FieldType}
theorem r_ic (C : Cx p s m args meth c cc own nL ret D) {n : Int} {v : Int32} (hdg : decode cc pc = .ok (.iconst n, 1)) (hv : Int32.ofInt n = v) (k : G p l e R s m args below meth c D H0 A nL Q ws (pc + 1) lv (.int v :: st)) : G p l e R s m args below meth c D H0 A nL Q ws pc lv st :=
  fun H locs ls hP hS hl => lv_iconst C.1 C.2.1 hdg hv (k H locs ls hP hS hl)
theorem r_bp (C : Cx p s m args meth c cc own nL ret D) {n : Int} {v : Int32} (hdg : decode cc pc = .ok (.bipush n, 2)) (hv : (Int8.ofInt n).toInt32 = v) (k : G p l e R s m args below meth c D H0 A nL Q ws (pc + 2) lv (.int v :: st)) : G p l e R s m args below meth c D H0 A nL Q ws pc lv st :=
  fun H locs ls hP hS hl => lv_bipush C.1 C.2.1 hdg hv (k H locs ls hP hS hl)
theorem r_sp (C : Cx p s m args meth c cc own nL ret D) {n : Int} {v : Int32} (hdg : decode cc pc = .ok (.sipush n, 3)) (hv : (Int16.ofInt n).toInt32 = v) (k : G p l e R s m args below meth c D H0 A nL Q ws (pc + 3) lv (.int v :: st)) : G p l e R s m args below meth c D H0 A nL Q ws pc lv st :=
  fun H locs ls hP hS hl => lv_sipush C.1 C.2.1 hdg hv (k H locs ls hP hS hl)
theorem r_lc (C : Cx p s m args meth c cc own nL ret D) {n : Fin 2} {v : Int64} (hdg : decode cc pc = .ok (.lconst n, 1)) (hv : Int64.ofNat (n : Nat) = v) (k : G p l e R s m args below meth c D H0 A nL Q ws (pc + 1) lv (.long v :: st)) : G p l e R s m args below meth c D H0 A nL Q ws pc lv st :=
  fun H locs ls hP hS hl => lv_lconst C.1 C.2.1 hdg hv (k H locs ls hP hS hl)
theorem r_iln (C : Cx p s m args meth c cc own nL ret D) {k : Fin 4} {i : Nat} {x : Int32} (hdg : decode cc pc = .ok (.iload_n k, 1)) (hi : (k : Nat) = i) (q : Nat) (hq : lv[q]? = some (i, .int x)) (kk : G p l e R s m args below meth c D H0 A nL Q ws (pc + 1) lv (.int x :: st)) : G p l e R s m args below meth c D H0 A nL Q ws pc lv st :=
  fun H locs ls hP hS hl => lv_iload_n C.1 C.2.1 hdg hi (lv_at hl q hq) (kk H locs ls hP hS hl)
theorem r_il (C : Cx p s m args meth c cc own nL ret D) {i : Nat} {x : Int32} (hdg : decode cc pc = .ok (.iload i, 2)) (q : Nat) (hq : lv[q]? = some (i, .int x)) (kk : G p l e R s m args below meth c D H0 A nL Q ws (pc + 2) lv (.int x :: st)) : G p l e R s m args below meth c D H0 A nL Q ws pc lv st :=
  fun H locs ls hP hS hl => lv_iload C.1 C.2.1 hdg (lv_at hl q hq) (kk H locs ls hP hS hl)
theorem r_lln (C : Cx p s m args meth c cc own nL ret D) {k : Fin 4} {i : Nat} {x : Int64} (hdg : decode cc pc = .ok (.lload_n k, 1)) (hi : (k : Nat) = i) (q : Nat) (hq : lv[q]? = some (i, .long x)) (kk : G p l e R s m args below meth c D H0 A nL Q ws (pc + 1) lv (.long x :: st)) : G p l e R s m args below meth c D H0 A nL Q ws pc lv st :=
  fun H locs ls hP hS hl => lv_lload_n C.1 C.2.1 hdg hi (lv_at hl q hq) (kk H locs ls hP hS hl)
theorem r_ll (C : Cx p s m args meth c cc own nL ret D) {i : Nat} {x : Int64} (hdg : decode cc pc = .ok (.lload i, 2)) (q : Nat) (hq : lv[q]? = some (i, .long x)) (kk : G p l e R s m args below meth c D H0 A nL Q ws (pc + 2) lv (.long x :: st)) : G p l e R s m args below meth c D H0 A nL Q ws pc lv st :=
  fun H locs ls hP hS hl => lv_lload C.1 C.2.1 hdg (lv_at hl q hq) (kk H locs ls hP hS hl)
theorem r_aln (C : Cx p s m args meth c cc own nL ret D) {k : Fin 4} {i : Nat} {x : Nat} (hdg : decode cc pc = .ok (.aload_n k, 1)) (hi : (k : Nat) = i) (q : Nat) (hq : lv[q]? = some (i, .ref x)) (kk : G p l e R s m args below meth c D H0 A nL Q ws (pc + 1) lv (.ref x :: st)) : G p l e R s m args below meth c D H0 A nL Q ws pc lv st :=
  fun H locs ls hP hS hl => lv_aload_n C.1 C.2.1 hdg hi (lv_at hl q hq) (kk H locs ls hP hS hl)
theorem r_al (C : Cx p s m args meth c cc own nL ret D) {i : Nat} {x : Nat} (hdg : decode cc pc = .ok (.aload i, 2)) (q : Nat) (hq : lv[q]? = some (i, .ref x)) (kk : G p l e R s m args below meth c D H0 A nL Q ws (pc + 2) lv (.ref x :: st)) : G p l e R s m args below meth c D H0 A nL Q ws pc lv st :=
  fun H locs ls hP hS hl => lv_aload C.1 C.2.1 hdg (lv_at hl q hq) (kk H locs ls hP hS hl)
theorem r_isn (C : Cx p s m args meth c cc own nL ret D) {k : Fin 4} {i : Nat} {x : Int32} {lv' : List (Nat × Value)} (hdg : decode cc pc = .ok (.istore_n k, 1)) (hi : (k : Nat) = i) (hn : i < nL) (h : (i, Value.int x) :: lv.filter (fun q => !(q.1 == i) && !(q.1 + 1 == i && q.2.category == 2)) = lv') (kk : G p l e R s m args below meth c D H0 A nL Q ws (pc + 1) lv' st) : G p l e R s m args below meth c D H0 A nL Q ws pc lv (.int x :: st) :=
  fun H locs _ hP hS hl => lv_istore_n C.1 C.2.1 hdg hi hl hn h (fun ls hl => kk H locs ls hP hS hl)
theorem r_is (C : Cx p s m args meth c cc own nL ret D) {i : Nat} {x : Int32} {lv' : List (Nat × Value)} (hdg : decode cc pc = .ok (.istore i, 2)) (hn : i < nL) (h : (i, Value.int x) :: lv.filter (fun q => !(q.1 == i) && !(q.1 + 1 == i && q.2.category == 2)) = lv') (kk : G p l e R s m args below meth c D H0 A nL Q ws (pc + 2) lv' st) : G p l e R s m args below meth c D H0 A nL Q ws pc lv (.int x :: st) :=
  fun H locs _ hP hS hl => lv_istore C.1 C.2.1 hdg hl hn h (fun ls hl => kk H locs ls hP hS hl)
theorem r_lsn (C : Cx p s m args meth c cc own nL ret D) {k : Fin 4} {i : Nat} {x : Int64} {lv' : List (Nat × Value)} (hdg : decode cc pc = .ok (.lstore_n k, 1)) (hi : (k : Nat) = i) (hn : i + 1 < nL) (h : (i, Value.long x) :: lv.filter (fun q => !(q.1 == i) && (!(q.1 == i + 1) && !(q.1 + 1 == i && q.2.category == 2))) = lv') (kk : G p l e R s m args below meth c D H0 A nL Q ws (pc + 1) lv' st) : G p l e R s m args below meth c D H0 A nL Q ws pc lv (.long x :: st) :=
  fun H locs _ hP hS hl => lv_lstore_n C.1 C.2.1 hdg hi hl hn h (fun ls hl => kk H locs ls hP hS hl)
theorem r_ls (C : Cx p s m args meth c cc own nL ret D) {i : Nat} {x : Int64} {lv' : List (Nat × Value)} (hdg : decode cc pc = .ok (.lstore i, 2)) (hn : i + 1 < nL) (h : (i, Value.long x) :: lv.filter (fun q => !(q.1 == i) && (!(q.1 == i + 1) && !(q.1 + 1 == i && q.2.category == 2))) = lv') (kk : G p l e R s m args below meth c D H0 A nL Q ws (pc + 2) lv' st) : G p l e R s m args below meth c D H0 A nL Q ws pc lv (.long x :: st) :=
  fun H locs _ hP hS hl => lv_lstore C.1 C.2.1 hdg hl hn h (fun ls hl => kk H locs ls hP hS hl)
theorem r_asn (C : Cx p s m args meth c cc own nL ret D) {k : Fin 4} {i : Nat} {x : Nat} {lv' : List (Nat × Value)} (hdg : decode cc pc = .ok (.astore_n k, 1)) (hi : (k : Nat) = i) (hn : i < nL) (h : (i, Value.ref x) :: lv.filter (fun q => !(q.1 == i) && !(q.1 + 1 == i && q.2.category == 2)) = lv') (kk : G p l e R s m args below meth c D H0 A nL Q ws (pc + 1) lv' st) : G p l e R s m args below meth c D H0 A nL Q ws pc lv (.ref x :: st) :=
  fun H locs _ hP hS hl => lv_astore_n C.1 C.2.1 hdg hi hl hn h (fun ls hl => kk H locs ls hP hS hl)
theorem r_as (C : Cx p s m args meth c cc own nL ret D) {i : Nat} {x : Nat} {lv' : List (Nat × Value)} (hdg : decode cc pc = .ok (.astore i, 2)) (hn : i < nL) (h : (i, Value.ref x) :: lv.filter (fun q => !(q.1 == i) && !(q.1 + 1 == i && q.2.category == 2)) = lv') (kk : G p l e R s m args below meth c D H0 A nL Q ws (pc + 2) lv' st) : G p l e R s m args below meth c D H0 A nL Q ws pc lv (.ref x :: st) :=
  fun H locs _ hP hS hl => lv_astore C.1 C.2.1 hdg hl hn h (fun ls hl => kk H locs ls hP hS hl)
theorem r_inc (C : Cx p s m args meth c cc own nL ret D) {i : Nat} {n : Int} {x v : Int32} {lv' : List (Nat × Value)} (hdg : decode cc pc = .ok (.iinc i n, 3)) (q : Nat) (hk : lv[q]? = some (i, .int x)) (hv : x + Int32.ofInt n = v) (hn : i < nL) (h : (i, Value.int v) :: lv.filter (fun q => !(q.1 == i) && !(q.1 + 1 == i && q.2.category == 2)) = lv') (kk : G p l e R s m args below meth c D H0 A nL Q ws (pc + 3) lv' st) : G p l e R s m args below meth c D H0 A nL Q ws pc lv st :=
  fun H locs _ hP hS hl => lv_iinc C.1 C.2.1 hdg hl hk hv hn h (fun ls hl => kk H locs ls hP hS hl)
theorem r_lv {lv' : List (Nat × Value)} (ks : List Nat) (h : lv_pick lv ks = lv') (k : G p l e R s m args below meth c D H0 A nL Q ws pc lv' st) : G p l e R s m args below meth c D H0 A nL Q ws pc lv st :=
  fun H locs ls hP hS hl => k H locs ls hP hS (lv_sub hl ks h)
theorem r_goto (C : Cx p s m args meth c cc own nL ret D) {off : Int} {tgt : Nat} (hdg : decode cc pc = .ok (.goto off, 3)) (ht : (pc : Int) + off = (tgt : Int)) (k : G p l e R s m args below meth c D H0 A nL Q ws tgt lv st) : G p l e R s m args below meth c D H0 A nL Q ws pc lv st :=
  fun H locs ls hP hS hl => lv_goto C.1 C.2.1 hdg ht (k H locs ls hP hS hl)
theorem r_dup (C : Cx p s m args meth c cc own nL ret D) {v : Value} (hdg : decode cc pc = .ok (.dup, 1)) (hv : v.category = 1) (k : G p l e R s m args below meth c D H0 A nL Q ws (pc + 1) lv (v :: v :: st)) : G p l e R s m args below meth c D H0 A nL Q ws pc lv (v :: st) :=
  fun H locs ls hP hS hl => lv_dup C.1 C.2.1 hdg hv (k H locs ls hP hS hl)
theorem r_dup211 (C : Cx p s m args meth c cc own nL ret D) {v w : Value} (hdg : decode cc pc = .ok (.dup2, 1)) (hv : v.category = 1) (hw : w.category = 1) (k : G p l e R s m args below meth c D H0 A nL Q ws (pc + 1) lv (v :: w :: v :: w :: st)) : G p l e R s m args below meth c D H0 A nL Q ws pc lv (v :: w :: st) :=
  fun H locs ls hP hS hl => lv_dup2_11 C.1 C.2.1 hdg hv hw (k H locs ls hP hS hl)
theorem r_pop (C : Cx p s m args meth c cc own nL ret D) {v : Value} (hdg : decode cc pc = .ok (.pop, 1)) (hv : v.category = 1) (k : G p l e R s m args below meth c D H0 A nL Q ws (pc + 1) lv st) : G p l e R s m args below meth c D H0 A nL Q ws pc lv (v :: st) :=
  fun H locs ls hP hS hl => lv_pop C.1 C.2.1 hdg hv (k H locs ls hP hS hl)
theorem r_iadd (C : Cx p s m args meth c cc own nL ret D) {x y : Int32} (hdg : decode cc pc = .ok (.iadd, 1)) (k : G p l e R s m args below meth c D H0 A nL Q ws (pc + 1) lv (.int (x + y) :: st)) : G p l e R s m args below meth c D H0 A nL Q ws pc lv (.int y :: .int x :: st) :=
  fun H locs ls hP hS hl => lv_iadd C.1 C.2.1 hdg (k H locs ls hP hS hl)
theorem r_isub (C : Cx p s m args meth c cc own nL ret D) {x y : Int32} (hdg : decode cc pc = .ok (.isub, 1)) (k : G p l e R s m args below meth c D H0 A nL Q ws (pc + 1) lv (.int (x - y) :: st)) : G p l e R s m args below meth c D H0 A nL Q ws pc lv (.int y :: .int x :: st) :=
  fun H locs ls hP hS hl => lv_isub C.1 C.2.1 hdg (k H locs ls hP hS hl)
theorem r_imul (C : Cx p s m args meth c cc own nL ret D) {x y : Int32} (hdg : decode cc pc = .ok (.imul, 1)) (k : G p l e R s m args below meth c D H0 A nL Q ws (pc + 1) lv (.int (x * y) :: st)) : G p l e R s m args below meth c D H0 A nL Q ws pc lv (.int y :: .int x :: st) :=
  fun H locs ls hP hS hl => lv_imul C.1 C.2.1 hdg (k H locs ls hP hS hl)
theorem r_iand (C : Cx p s m args meth c cc own nL ret D) {x y : Int32} (hdg : decode cc pc = .ok (.iand, 1)) (k : G p l e R s m args below meth c D H0 A nL Q ws (pc + 1) lv (.int (x &&& y) :: st)) : G p l e R s m args below meth c D H0 A nL Q ws pc lv (.int y :: .int x :: st) :=
  fun H locs ls hP hS hl => lv_iand C.1 C.2.1 hdg (k H locs ls hP hS hl)
theorem r_ior (C : Cx p s m args meth c cc own nL ret D) {x y : Int32} (hdg : decode cc pc = .ok (.ior, 1)) (k : G p l e R s m args below meth c D H0 A nL Q ws (pc + 1) lv (.int (x ||| y) :: st)) : G p l e R s m args below meth c D H0 A nL Q ws pc lv (.int y :: .int x :: st) :=
  fun H locs ls hP hS hl => lv_ior C.1 C.2.1 hdg (k H locs ls hP hS hl)
theorem r_ixor (C : Cx p s m args meth c cc own nL ret D) {x y : Int32} (hdg : decode cc pc = .ok (.ixor, 1)) (k : G p l e R s m args below meth c D H0 A nL Q ws (pc + 1) lv (.int (x ^^^ y) :: st)) : G p l e R s m args below meth c D H0 A nL Q ws pc lv (.int y :: .int x :: st) :=
  fun H locs ls hP hS hl => lv_ixor C.1 C.2.1 hdg (k H locs ls hP hS hl)
theorem r_ishl (C : Cx p s m args meth c cc own nL ret D) {x y : Int32} (hdg : decode cc pc = .ok (.ishl, 1)) (k : G p l e R s m args below meth c D H0 A nL Q ws (pc + 1) lv (.int (x <<< (y &&& 31)) :: st)) : G p l e R s m args below meth c D H0 A nL Q ws pc lv (.int y :: .int x :: st) :=
  fun H locs ls hP hS hl => lv_ishl C.1 C.2.1 hdg (k H locs ls hP hS hl)
theorem r_ishr (C : Cx p s m args meth c cc own nL ret D) {x y : Int32} (hdg : decode cc pc = .ok (.ishr, 1)) (k : G p l e R s m args below meth c D H0 A nL Q ws (pc + 1) lv (.int (x >>> (y &&& 31)) :: st)) : G p l e R s m args below meth c D H0 A nL Q ws pc lv (.int y :: .int x :: st) :=
  fun H locs ls hP hS hl => lv_ishr C.1 C.2.1 hdg (k H locs ls hP hS hl)
theorem r_idiv (C : Cx p s m args meth c cc own nL ret D) {x y : Int32} (hdg : decode cc pc = .ok (.idiv, 1)) (hne : ¬ y = 0) (k : G p l e R s m args below meth c D H0 A nL Q ws (pc + 1) lv (.int (x / y) :: st)) : G p l e R s m args below meth c D H0 A nL Q ws pc lv (.int y :: .int x :: st) :=
  fun H locs ls hP hS hl => lv_idiv C.1 C.2.1 hdg hne (k H locs ls hP hS hl)
theorem r_irem (C : Cx p s m args meth c cc own nL ret D) {x y : Int32} (hdg : decode cc pc = .ok (.irem, 1)) (hne : ¬ y = 0) (k : G p l e R s m args below meth c D H0 A nL Q ws (pc + 1) lv (.int (x - x / y * y) :: st)) : G p l e R s m args below meth c D H0 A nL Q ws pc lv (.int y :: .int x :: st) :=
  fun H locs ls hP hS hl => lv_irem C.1 C.2.1 hdg hne (k H locs ls hP hS hl)
theorem r_ineg (C : Cx p s m args meth c cc own nL ret D) {x : Int32} (hdg : decode cc pc = .ok (.ineg, 1)) (k : G p l e R s m args below meth c D H0 A nL Q ws (pc + 1) lv (.int (-x) :: st)) : G p l e R s m args below meth c D H0 A nL Q ws pc lv (.int x :: st) :=
  fun H locs ls hP hS hl => lv_ineg C.1 C.2.1 hdg (k H locs ls hP hS hl)
theorem r_ladd (C : Cx p s m args meth c cc own nL ret D) {x y : Int64} (hdg : decode cc pc = .ok (.ladd, 1)) (k : G p l e R s m args below meth c D H0 A nL Q ws (pc + 1) lv (.long (x + y) :: st)) : G p l e R s m args below meth c D H0 A nL Q ws pc lv (.long y :: .long x :: st) :=
  fun H locs ls hP hS hl => lv_ladd C.1 C.2.1 hdg (k H locs ls hP hS hl)
theorem r_lsub (C : Cx p s m args meth c cc own nL ret D) {x y : Int64} (hdg : decode cc pc = .ok (.lsub, 1)) (k : G p l e R s m args below meth c D H0 A nL Q ws (pc + 1) lv (.long (x - y) :: st)) : G p l e R s m args below meth c D H0 A nL Q ws pc lv (.long y :: .long x :: st) :=
  fun H locs ls hP hS hl => lv_lsub C.1 C.2.1 hdg (k H locs ls hP hS hl)
theorem r_lmul (C : Cx p s m args meth c cc own nL ret D) {x y : Int64} (hdg : decode cc pc = .ok (.lmul, 1)) (k : G p l e R s m args below meth c D H0 A nL Q ws (pc + 1) lv (.long (x * y) :: st)) : G p l e R s m args below meth c D H0 A nL Q ws pc lv (.long y :: .long x :: st) :=
  fun H locs ls hP hS hl => lv_lmul C.1 C.2.1 hdg (k H locs ls hP hS hl)
theorem r_land (C : Cx p s m args meth c cc own nL ret D) {x y : Int64} (hdg : decode cc pc = .ok (.land, 1)) (k : G p l e R s m args below meth c D H0 A nL Q ws (pc + 1) lv (.long (x &&& y) :: st)) : G p l e R s m args below meth c D H0 A nL Q ws pc lv (.long y :: .long x :: st) :=
  fun H locs ls hP hS hl => lv_land C.1 C.2.1 hdg (k H locs ls hP hS hl)
theorem r_lor (C : Cx p s m args meth c cc own nL ret D) {x y : Int64} (hdg : decode cc pc = .ok (.lor, 1)) (k : G p l e R s m args below meth c D H0 A nL Q ws (pc + 1) lv (.long (x ||| y) :: st)) : G p l e R s m args below meth c D H0 A nL Q ws pc lv (.long y :: .long x :: st) :=
  fun H locs ls hP hS hl => lv_lor C.1 C.2.1 hdg (k H locs ls hP hS hl)
theorem r_lxor (C : Cx p s m args meth c cc own nL ret D) {x y : Int64} (hdg : decode cc pc = .ok (.lxor, 1)) (k : G p l e R s m args below meth c D H0 A nL Q ws (pc + 1) lv (.long (x ^^^ y) :: st)) : G p l e R s m args below meth c D H0 A nL Q ws pc lv (.long y :: .long x :: st) :=
  fun H locs ls hP hS hl => lv_lxor C.1 C.2.1 hdg (k H locs ls hP hS hl)
theorem r_ldiv (C : Cx p s m args meth c cc own nL ret D) {x y : Int64} (hdg : decode cc pc = .ok (.ldiv, 1)) (hne : ¬ y = 0) (k : G p l e R s m args below meth c D H0 A nL Q ws (pc + 1) lv (.long (x / y) :: st)) : G p l e R s m args below meth c D H0 A nL Q ws pc lv (.long y :: .long x :: st) :=
  fun H locs ls hP hS hl => lv_ldiv C.1 C.2.1 hdg hne (k H locs ls hP hS hl)
theorem r_lrem (C : Cx p s m args meth c cc own nL ret D) {x y : Int64} (hdg : decode cc pc = .ok (.lrem, 1)) (hne : ¬ y = 0) (k : G p l e R s m args below meth c D H0 A nL Q ws (pc + 1) lv (.long (x - x / y * y) :: st)) : G p l e R s m args below meth c D H0 A nL Q ws pc lv (.long y :: .long x :: st) :=
  fun H locs ls hP hS hl => lv_lrem C.1 C.2.1 hdg hne (k H locs ls hP hS hl)
theorem r_lneg (C : Cx p s m args meth c cc own nL ret D) {x : Int64} (hdg : decode cc pc = .ok (.lneg, 1)) (k : G p l e R s m args below meth c D H0 A nL Q ws (pc + 1) lv (.long (-x) :: st)) : G p l e R s m args below meth c D H0 A nL Q ws pc lv (.long x :: st) :=
  fun H locs ls hP hS hl => lv_lneg C.1 C.2.1 hdg (k H locs ls hP hS hl)
theorem r_lcmp (C : Cx p s m args meth c cc own nL ret D) {x y : Int64} (hdg : decode cc pc = .ok (.lcmp, 1)) (k : G p l e R s m args below meth c D H0 A nL Q ws (pc + 1) lv (.int (lg_cmp x y) :: st)) : G p l e R s m args below meth c D H0 A nL Q ws pc lv (.long y :: .long x :: st) :=
  fun H locs ls hP hS hl => W.lcmp C.1 C.2.1 hdg (k H locs ls hP hS hl)
theorem r_i2l (C : Cx p s m args meth c cc own nL ret D) {x : Int32} (hdg : decode cc pc = .ok (.i2l, 1)) (k : G p l e R s m args below meth c D H0 A nL Q ws (pc + 1) lv (.long x.toInt64 :: st)) : G p l e R s m args below meth c D H0 A nL Q ws pc lv (.int x :: st) :=
  fun H locs ls hP hS hl => lv_i2l C.1 C.2.1 hdg rfl (k H locs ls hP hS hl)
theorem r_l2i (C : Cx p s m args meth c cc own nL ret D) {x : Int64} (hdg : decode cc pc = .ok (.l2i, 1)) (k : G p l e R s m args below meth c D H0 A nL Q ws (pc + 1) lv (.int x.toInt32 :: st)) : G p l e R s m args below meth c D H0 A nL Q ws pc lv (.long x :: st) :=
  fun H locs ls hP hS hl => lv_l2i C.1 C.2.1 hdg rfl (k H locs ls hP hS hl)
theorem r_i2b (C : Cx p s m args meth c cc own nL ret D) {x : Int32} (hdg : decode cc pc = .ok (.i2b, 1)) (k : G p l e R s m args below meth c D H0 A nL Q ws (pc + 1) lv (.int x.toInt8.toInt32 :: st)) : G p l e R s m args below meth c D H0 A nL Q ws pc lv (.int x :: st) :=
  fun H locs ls hP hS hl => lv_i2b C.1 C.2.1 hdg rfl (k H locs ls hP hS hl)
theorem r_i2s (C : Cx p s m args meth c cc own nL ret D) {x : Int32} (hdg : decode cc pc = .ok (.i2s, 1)) (k : G p l e R s m args below meth c D H0 A nL Q ws (pc + 1) lv (.int x.toInt16.toInt32 :: st)) : G p l e R s m args below meth c D H0 A nL Q ws pc lv (.int x :: st) :=
  fun H locs ls hP hS hl => lv_i2s C.1 C.2.1 hdg rfl (k H locs ls hP hS hl)
theorem r_iushr (C : Cx p s m args meth c cc own nL ret D) {x y : Int32} (hdg : decode cc pc = .ok (.iushr, 1)) (k : G p l e R s m args below meth c D H0 A nL Q ws (pc + 1) lv (.int ((x.toUInt32 >>> (y.toUInt32 &&& Int32.toUInt32 31)).toInt32) :: st)) : G p l e R s m args below meth c D H0 A nL Q ws pc lv (.int y :: .int x :: st) :=
  fun H locs ls hP hS hl => lv_iushr C.1 C.2.1 hdg rfl (k H locs ls hP hS hl)
theorem r_lshl (C : Cx p s m args meth c cc own nL ret D) {x : Int64} {y : Int32} (hdg : decode cc pc = .ok (.lshl, 1)) (k : G p l e R s m args below meth c D H0 A nL Q ws (pc + 1) lv (.long (x <<< (y.toInt64 &&& 63)) :: st)) : G p l e R s m args below meth c D H0 A nL Q ws pc lv (.int y :: .long x :: st) :=
  fun H locs ls hP hS hl => lv_lshl C.1 C.2.1 hdg rfl (k H locs ls hP hS hl)
theorem r_lshr (C : Cx p s m args meth c cc own nL ret D) {x : Int64} {y : Int32} (hdg : decode cc pc = .ok (.lshr, 1)) (k : G p l e R s m args below meth c D H0 A nL Q ws (pc + 1) lv (.long (x >>> (y.toInt64 &&& 63)) :: st)) : G p l e R s m args below meth c D H0 A nL Q ws pc lv (.int y :: .long x :: st) :=
  fun H locs ls hP hS hl => lv_lshr C.1 C.2.1 hdg rfl (k H locs ls hP hS hl)
theorem r_ifeq (C : Cx p s m args meth c cc own nL ret D) {x : Int32} {off : Int} {tgt : Nat} (hdg : decode cc pc = .ok (.ifCond .eq off, 3)) (ht : (pc : Int) + off = (tgt : Int)) (kt : x = (0 : Int32) → G p l e R s m args below meth c D H0 A nL Q ws tgt lv st) (kf : ¬ x = (0 : Int32) → G p l e R s m args below meth c D H0 A nL Q ws (pc + 3) lv st) : G p l e R s m args below meth c D H0 A nL Q ws pc lv (.int x :: st) :=
  fun H locs ls hP hS hl => lv_if_eq C.1 C.2.1 hdg ht (fun z => kt z H locs ls hP hS hl) (fun z => kf z H locs ls hP hS hl)
theorem r_iceq (C : Cx p s m args meth c cc own nL ret D) {x y : Int32} {off : Int} {tgt : Nat} (hdg : decode cc pc = .ok (.if_icmp .eq off, 3)) (ht : (pc : Int) + off = (tgt : Int)) (kt : x = y → G p l e R s m args below meth c D H0 A nL Q ws tgt lv st) (kf : ¬ x = y → G p l e R s m args below meth c D H0 A nL Q ws (pc + 3) lv st) : G p l e R s m args below meth c D H0 A nL Q ws pc lv (.int y :: .int x :: st) :=
  fun H locs ls hP hS hl => lv_icmp_eq C.1 C.2.1 hdg ht (fun z => kt z H locs ls hP hS hl) (fun z => kf z H locs ls hP hS hl)
theorem r_ifne (C : Cx p s m args meth c cc own nL ret D) {x : Int32} {off : Int} {tgt : Nat} (hdg : decode cc pc = .ok (.ifCond .ne off, 3)) (ht : (pc : Int) + off = (tgt : Int)) (kt : ¬ x = (0 : Int32) → G p l e R s m args below meth c D H0 A nL Q ws tgt lv st) (kf : x = (0 : Int32) → G p l e R s m args below meth c D H0 A nL Q ws (pc + 3) lv st) : G p l e R s m args below meth c D H0 A nL Q ws pc lv (.int x :: st) :=
  fun H locs ls hP hS hl => lv_if_ne C.1 C.2.1 hdg ht (fun z => kt z H locs ls hP hS hl) (fun z => kf z H locs ls hP hS hl)
theorem r_icne (C : Cx p s m args meth c cc own nL ret D) {x y : Int32} {off : Int} {tgt : Nat} (hdg : decode cc pc = .ok (.if_icmp .ne off, 3)) (ht : (pc : Int) + off = (tgt : Int)) (kt : ¬ x = y → G p l e R s m args below meth c D H0 A nL Q ws tgt lv st) (kf : x = y → G p l e R s m args below meth c D H0 A nL Q ws (pc + 3) lv st) : G p l e R s m args below meth c D H0 A nL Q ws pc lv (.int y :: .int x :: st) :=
  fun H locs ls hP hS hl => lv_icmp_ne C.1 C.2.1 hdg ht (fun z => kt z H locs ls hP hS hl) (fun z => kf z H locs ls hP hS hl)
theorem r_iflt (C : Cx p s m args meth c cc own nL ret D) {x : Int32} {off : Int} {tgt : Nat} (hdg : decode cc pc = .ok (.ifCond .lt off, 3)) (ht : (pc : Int) + off = (tgt : Int)) (kt : x < (0 : Int32) → G p l e R s m args below meth c D H0 A nL Q ws tgt lv st) (kf : ¬ x < (0 : Int32) → G p l e R s m args below meth c D H0 A nL Q ws (pc + 3) lv st) : G p l e R s m args below meth c D H0 A nL Q ws pc lv (.int x :: st) :=
  fun H locs ls hP hS hl => lv_if_lt C.1 C.2.1 hdg ht (fun z => kt z H locs ls hP hS hl) (fun z => kf z H locs ls hP hS hl)
theorem r_iclt (C : Cx p s m args meth c cc own nL ret D) {x y : Int32} {off : Int} {tgt : Nat} (hdg : decode cc pc = .ok (.if_icmp .lt off, 3)) (ht : (pc : Int) + off = (tgt : Int)) (kt : x < y → G p l e R s m args below meth c D H0 A nL Q ws tgt lv st) (kf : ¬ x < y → G p l e R s m args below meth c D H0 A nL Q ws (pc + 3) lv st) : G p l e R s m args below meth c D H0 A nL Q ws pc lv (.int y :: .int x :: st) :=
  fun H locs ls hP hS hl => lv_icmp_lt C.1 C.2.1 hdg ht (fun z => kt z H locs ls hP hS hl) (fun z => kf z H locs ls hP hS hl)
theorem r_ifge (C : Cx p s m args meth c cc own nL ret D) {x : Int32} {off : Int} {tgt : Nat} (hdg : decode cc pc = .ok (.ifCond .ge off, 3)) (ht : (pc : Int) + off = (tgt : Int)) (kt : ¬ x < (0 : Int32) → G p l e R s m args below meth c D H0 A nL Q ws tgt lv st) (kf : x < (0 : Int32) → G p l e R s m args below meth c D H0 A nL Q ws (pc + 3) lv st) : G p l e R s m args below meth c D H0 A nL Q ws pc lv (.int x :: st) :=
  fun H locs ls hP hS hl => lv_if_ge C.1 C.2.1 hdg ht (fun z => kt (Int32.not_lt.mpr z) H locs ls hP hS hl) (fun z => kf (Int32.not_le.mp z) H locs ls hP hS hl)
theorem r_icge (C : Cx p s m args meth c cc own nL ret D) {x y : Int32} {off : Int} {tgt : Nat} (hdg : decode cc pc = .ok (.if_icmp .ge off, 3)) (ht : (pc : Int) + off = (tgt : Int)) (kt : ¬ x < y → G p l e R s m args below meth c D H0 A nL Q ws tgt lv st) (kf : x < y → G p l e R s m args below meth c D H0 A nL Q ws (pc + 3) lv st) : G p l e R s m args below meth c D H0 A nL Q ws pc lv (.int y :: .int x :: st) :=
  fun H locs ls hP hS hl => lv_icmp_ge C.1 C.2.1 hdg ht (fun z => kt (Int32.not_lt.mpr z) H locs ls hP hS hl) (fun z => kf (Int32.not_le.mp z) H locs ls hP hS hl)
theorem r_ifgt (C : Cx p s m args meth c cc own nL ret D) {x : Int32} {off : Int} {tgt : Nat} (hdg : decode cc pc = .ok (.ifCond .gt off, 3)) (ht : (pc : Int) + off = (tgt : Int)) (kt : (0 : Int32) < x → G p l e R s m args below meth c D H0 A nL Q ws tgt lv st) (kf : ¬ (0 : Int32) < x → G p l e R s m args below meth c D H0 A nL Q ws (pc + 3) lv st) : G p l e R s m args below meth c D H0 A nL Q ws pc lv (.int x :: st) :=
  fun H locs ls hP hS hl => lv_if_gt C.1 C.2.1 hdg ht (fun z => kt z H locs ls hP hS hl) (fun z => kf z H locs ls hP hS hl)
theorem r_icgt (C : Cx p s m args meth c cc own nL ret D) {x y : Int32} {off : Int} {tgt : Nat} (hdg : decode cc pc = .ok (.if_icmp .gt off, 3)) (ht : (pc : Int) + off = (tgt : Int)) (kt : y < x → G p l e R s m args below meth c D H0 A nL Q ws tgt lv st) (kf : ¬ y < x → G p l e R s m args below meth c D H0 A nL Q ws (pc + 3) lv st) : G p l e R s m args below meth c D H0 A nL Q ws pc lv (.int y :: .int x :: st) :=
  fun H locs ls hP hS hl => lv_icmp_gt C.1 C.2.1 hdg ht (fun z => kt z H locs ls hP hS hl) (fun z => kf z H locs ls hP hS hl)
theorem r_ifle (C : Cx p s m args meth c cc own nL ret D) {x : Int32} {off : Int} {tgt : Nat} (hdg : decode cc pc = .ok (.ifCond .le off, 3)) (ht : (pc : Int) + off = (tgt : Int)) (kt : ¬ (0 : Int32) < x → G p l e R s m args below meth c D H0 A nL Q ws tgt lv st) (kf : (0 : Int32) < x → G p l e R s m args below meth c D H0 A nL Q ws (pc + 3) lv st) : G p l e R s m args below meth c D H0 A nL Q ws pc lv (.int x :: st) :=
  fun H locs ls hP hS hl => lv_if_le C.1 C.2.1 hdg ht (fun z => kt (Int32.not_lt.mpr z) H locs ls hP hS hl) (fun z => kf (Int32.not_le.mp z) H locs ls hP hS hl)
theorem r_icle (C : Cx p s m args meth c cc own nL ret D) {x y : Int32} {off : Int} {tgt : Nat} (hdg : decode cc pc = .ok (.if_icmp .le off, 3)) (ht : (pc : Int) + off = (tgt : Int)) (kt : ¬ y < x → G p l e R s m args below meth c D H0 A nL Q ws tgt lv st) (kf : y < x → G p l e R s m args below meth c D H0 A nL Q ws (pc + 3) lv st) : G p l e R s m args below meth c D H0 A nL Q ws pc lv (.int y :: .int x :: st) :=
  fun H locs ls hP hS hl => lv_icmp_le C.1 C.2.1 hdg ht (fun z => kt (Int32.not_lt.mpr z) H locs ls hP hS hl) (fun z => kf (Int32.not_le.mp z) H locs ls hP hS hl)
theorem r_i2c (C : Cx p s m args meth c cc own nL ret D) {x : Int32} (hdg : decode cc pc = .ok (.i2c, 1)) (k : G p l e R s m args below meth c D H0 A nL Q ws (pc + 1) lv (.int ((x.toUInt32 % 65536).toInt32) :: st)) : G p l e R s m args below meth c D H0 A nL Q ws pc lv (.int x :: st) :=
  fun H locs ls hP hS hl => lv_i2c C.1 C.2.1 hdg rfl (k H locs ls hP hS hl)
theorem r_ldc (C : Cx p s m args meth c cc own nL ret D) {index : Nat} {v : Int32} (hw : Cond.constant own index v ∈ TBL) (hdg : decode cc pc = .ok (.ldc index, 2)) (k : G p l e R s m args below meth c D H0 A nL Q ws (pc + 2) lv (.int v :: st)) : G p l e R s m args below meth c D H0 A nL Q ws pc lv st :=
  fun H locs ls hP hS hl => lv_ldc C.1 C.2.1 C.2.2.2.1 (C.2.2.1 _ hw) hdg (k H locs ls hP hS hl)
theorem r_ldcw (C : Cx p s m args meth c cc own nL ret D) {index : Nat} {v : Int32} (hw : Cond.constant own index v ∈ TBL) (hdg : decode cc pc = .ok (.ldc_w index, 3)) (k : G p l e R s m args below meth c D H0 A nL Q ws (pc + 3) lv (.int v :: st)) : G p l e R s m args below meth c D H0 A nL Q ws pc lv st :=
  fun H locs ls hP hS hl => lv_ldcw C.1 C.2.1 C.2.2.2.1 (C.2.2.1 _ hw) hdg (k H locs ls hP hS hl)
theorem r_ldc2 (C : Cx p s m args meth c cc own nL ret D) {index : Nat} {v : Int64} (hw : Cond.constantLong own index v ∈ TBL) (hdg : decode cc pc = .ok (.ldc2_w index, 3)) (k : G p l e R s m args below meth c D H0 A nL Q ws (pc + 3) lv (.long v :: st)) : G p l e R s m args below meth c D H0 A nL Q ws pc lv st :=
  fun H locs ls hP hS hl => lv_ldc2 C.1 C.2.1 C.2.2.2.1 (C.2.2.1 _ hw) hdg (k H locs ls hP hS hl)
theorem r_tabIn (C : Cx p s m args meth c cc own nL ret D) {dflt lo hi : Int} {offs : Array Int} {len : Nat} {x : Int32} {off : Int} {tgt : Nat} (hdg : decode cc pc = .ok (.tableswitch dflt lo hi offs, len)) (h1 : ¬ x.toInt < lo) (h2 : ¬ hi < x.toInt) (ho : offs[(x.toInt - lo).toNat]? = some off) (ht : (pc : Int) + off = (tgt : Int)) (k : G p l e R s m args below meth c D H0 A nL Q ws tgt lv st) : G p l e R s m args below meth c D H0 A nL Q ws pc lv (.int x :: st) :=
  fun H locs ls hP hS hl => lv_tableIn C.1 C.2.1 hdg h1 h2 ho ht (k H locs ls hP hS hl)
theorem r_tabOut (C : Cx p s m args meth c cc own nL ret D) {dflt lo hi : Int} {offs : Array Int} {len : Nat} {x : Int32} {tgt : Nat} (hdg : decode cc pc = .ok (.tableswitch dflt lo hi offs, len)) (h : x.toInt < lo ∨ hi < x.toInt) (ht : (pc : Int) + dflt = (tgt : Int)) (k : G p l e R s m args below meth c D H0 A nL Q ws tgt lv st) : G p l e R s m args below meth c D H0 A nL Q ws pc lv (.int x :: st) :=
  fun H locs ls hP hS hl => lv_tableOut C.1 C.2.1 hdg h ht (k H locs ls hP hS hl)
theorem r_look (C : Cx p s m args meth c cc own nL ret D) {dflt : Int} {ps : Array (Int × Int)} {len : Nat} {x : Int32} {off : Int} {tgt : Nat} (hdg : decode cc pc = .ok (.lookupswitch dflt ps, len)) (hp : (ps.toList.zip (ps.toList.drop 1)).all (fun (a, next) => a.1 < next.1) = true) (ho : Op.lookupswitch.offset ps.toList dflt x.toInt = off) (ht : (pc : Int) + off = (tgt : Int)) (k : G p l e R s m args below meth c D H0 A nL Q ws tgt lv st) : G p l e R s m args below meth c D H0 A nL Q ws pc lv (.int x :: st) :=
  fun H locs ls hP hS hl => lv_lookup C.1 C.2.1 hdg hp ho ht (k H locs ls hP hS hl)
theorem r_iald (C : Cx p s m args meth c cc own nL ret D) (q0 : Nat) {a n : Nat} {f : Nat → Int32} {i : Int32} {y : Int32} (j : Nat) (ha : ws[q0]? = some (a, .inl (D.1 10, n, .inl f))) (hi : i = nI j) (hj : j < n) (hn : n ≤ 200) (hy : f j = y) (hdg : decode cc pc = .ok (.iaload, 1)) (k : G p l e R s m args below meth c D H0 A nL Q ws (pc + 1) lv (.int y :: st)) : G p l e R s m args below meth c D H0 A nL Q ws pc lv (.int i :: .ref a :: st) := by
  intro H locs ls hP hS hl
  subst hi; subst hy
  have e : (nI j).toNatClampNeg = j := nI_clamp (by omega)
  refine va_iald C.1 C.2.1 C.2.2.2.2.2.1 hP q0 0 ha rfl (vp_in_nI hj (by omega)) hdg ?_
  rw [e]
  exact k H locs ls hP hS hl
theorem r_cald (C : Cx p s m args meth c cc own nL ret D) (q0 : Nat) {a n : Nat} {f : Nat → Int32} {i : Int32} {y : Int32} (j : Nat) (ha : ws[q0]? = some (a, .inl (D.1 12, n, .inl f))) (hi : i = nI j) (hj : j < n) (hn : n ≤ 200) (hy : f j = y) (hdg : decode cc pc = .ok (.caload, 1)) (k : G p l e R s m args below meth c D H0 A nL Q ws (pc + 1) lv (.int y :: st)) : G p l e R s m args below meth c D H0 A nL Q ws pc lv (.int i :: .ref a :: st) := by
  intro H locs ls hP hS hl
  subst hi; subst hy
  have e : (nI j).toNatClampNeg = j := nI_clamp (by omega)
  refine va_cald C.1 C.2.1 C.2.2.2.2.2.1 hP q0 2 ha rfl (vp_in_nI hj (by omega)) hdg ?_
  rw [e]
  exact k H locs ls hP hS hl
theorem r_lald (C : Cx p s m args meth c cc own nL ret D) (q0 : Nat) {a n : Nat} {f : Nat → Int64} {i : Int32} {y : Int64} (j : Nat) (ha : ws[q0]? = some (a, .inl (D.1 11, n, .inr (.inl f)))) (hi : i = nI j) (hj : j < n) (hn : n ≤ 200) (hy : f j = y) (hdg : decode cc pc = .ok (.laload, 1)) (k : G p l e R s m args below meth c D H0 A nL Q ws (pc + 1) lv (.long y :: st)) : G p l e R s m args below meth c D H0 A nL Q ws pc lv (.int i :: .ref a :: st) := by
  intro H locs ls hP hS hl
  subst hi; subst hy
  have e : (nI j).toNatClampNeg = j := nI_clamp (by omega)
  refine va_lald C.1 C.2.1 C.2.2.2.2.2.1 hP q0 1 ha rfl (vp_in_nI hj (by omega)) hdg ?_
  rw [e]
  exact k H locs ls hP hS hl
theorem r_alen (C : Cx p s m args meth c cc own nL ret D) (q0 t0 : Nat) {a n : Nat} {ty : FieldType} {x : (Nat → Int32) ⊕ (Nat → Int64) ⊕ (Nat → UInt32) ⊕ (Nat → UInt64) ⊕ (Nat → Option Nat)} {cA : ClassId} (ha : ws[q0]? = some (a, .inl (cA, n, x))) (ht : (tysD D)[t0]? = some (cA, ty)) (hdg : decode cc pc = .ok (.arraylength, 1)) (k : G p l e R s m args below meth c D H0 A nL Q ws (pc + 1) lv (.int (nI n) :: st)) : G p l e R s m args below meth c D H0 A nL Q ws pc lv (.ref a :: st) :=
  fun H locs ls hP hS hl => va_alen C.1 C.2.1 C.2.2.2.2.2.1 hP q0 t0 ha ht rfl hdg (k H locs ls hP hS hl)
/-- distinct addresses, whatever the cells hold -/
theorem dis_of {w0 : va_W} {B : Nat → Prop} (h0 : va_D B w0) (h : ws.map (·.1) = w0.map (·.1)) : va_D (Ad w0) ws := by
  have at0 : ∀ (k : Nat) (q : Nat × va_E), ws[k]? = some q → ∃ e, w0[k]? = some (q.1, e) := by
    intro k q hq
    have h1 : (ws.map (·.1))[k]? = some q.1 := by rw [List.getElem?_map, hq]; rfl
    rw [h, List.getElem?_map] at h1
    cases h2 : w0[k]? with
    | none => rw [h2] at h1; cases h1
    | some z => rw [h2] at h1; exact ⟨z.2, by rw [← Option.some.inj h1]⟩
  refine ⟨fun i j p q hi hj hpq => ?_, fun k q hk => ?_⟩
  · obtain ⟨e1, h1⟩ := at0 i p hi
    obtain ⟨e2, h2⟩ := at0 j q hj
    exact h0.1 i j _ _ h1 h2 hpq
  · obtain ⟨e1, h1⟩ := at0 k q hk
    exact ⟨k, e1, h1⟩
theorem r_iast (C : Cx p s m args meth c cc own nL ret D) {w0 ws2 : va_W} {B : Nat → Prop} (h0 : va_D B w0) (hA : Ad w0 = A) (q0 : Nat) {a n : Nat} {f : Nat → Int32} {i x : Int32} (j : Nat) (ha : ws[q0]? = some (a, .inl (D.1 10, n, .inl f))) (hi : i = nI j) (hj : j < n) (hn : n ≤ 200) (hdg : decode cc pc = .ok (.iastore, 1)) (hw : ws.map (·.1) = w0.map (·.1)) (h2 : ws.set q0 (a, .inl (D.1 10, n, .inl (upd f j x))) = ws2) (k : G p l e R s m args below meth c D H0 A nL Q ws2 (pc + 1) lv st) : G p l e R s m args below meth c D H0 A nL Q ws pc lv (.int x :: .int i :: .ref a :: st) := by
  intro H locs ls hP hS hl
  subst hi; subst hA
  have e : (nI j).toNatClampNeg = j := nI_clamp (by omega)
  refine va_iast C.1 C.2.1 C.2.2.2.2.2.1 hP (dis_of h0 hw) hS q0 0 ha rfl (vp_in_nI hj (by omega)) hdg (fun H1 l1 hP1 _ hS1 => ?_)
  rw [e, h2] at hP1
  exact k H1 l1 ls hP1 hS1 hl
theorem r_cast (C : Cx p s m args meth c cc own nL ret D) {w0 ws2 : va_W} {B : Nat → Prop} (h0 : va_D B w0) (hA : Ad w0 = A) (q0 : Nat) {a n : Nat} {f : Nat → Int32} {i x : Int32} (j : Nat) (ha : ws[q0]? = some (a, .inl (D.1 12, n, .inl f))) (hi : i = nI j) (hj : j < n) (hn : n ≤ 200) (hdg : decode cc pc = .ok (.castore, 1)) (hw : ws.map (·.1) = w0.map (·.1)) (h2 : ws.set q0 (a, .inl (D.1 12, n, .inl (upd f j (vp_nar .char x)))) = ws2) (k : G p l e R s m args below meth c D H0 A nL Q ws2 (pc + 1) lv st) : G p l e R s m args below meth c D H0 A nL Q ws pc lv (.int x :: .int i :: .ref a :: st) := by
  intro H locs ls hP hS hl
  subst hi; subst hA
  have e : (nI j).toNatClampNeg = j := nI_clamp (by omega)
  refine va_cast C.1 C.2.1 C.2.2.2.2.2.1 hP (dis_of h0 hw) hS q0 2 ha rfl (vp_in_nI hj (by omega)) hdg (fun H1 l1 hP1 _ hS1 => ?_)
  rw [e, h2] at hP1
  exact k H1 l1 ls hP1 hS1 hl
theorem r_last (C : Cx p s m args meth c cc own nL ret D) {w0 ws2 : va_W} {B : Nat → Prop} (h0 : va_D B w0) (hA : Ad w0 = A) (q0 : Nat) {a n : Nat} {f : Nat → Int64} {i : Int32} {x : Int64} (j : Nat) (ha : ws[q0]? = some (a, .inl (D.1 11, n, .inr (.inl f)))) (hi : i = nI j) (hj : j < n) (hn : n ≤ 200) (hdg : decode cc pc = .ok (.lastore, 1)) (hw : ws.map (·.1) = w0.map (·.1)) (h2 : ws.set q0 (a, .inl (D.1 11, n, .inr (.inl (vp_updL f j x)))) = ws2) (k : G p l e R s m args below meth c D H0 A nL Q ws2 (pc + 1) lv st) : G p l e R s m args below meth c D H0 A nL Q ws pc lv (.long x :: .int i :: .ref a :: st) := by
  intro H locs ls hP hS hl
  subst hi; subst hA
  have e : (nI j).toNatClampNeg = j := nI_clamp (by omega)
  refine va_last C.1 C.2.1 C.2.2.2.2.2.1 hP (dis_of h0 hw) hS q0 1 ha rfl (vp_in_nI hj (by omega)) hdg (fun H1 l1 hP1 _ hS1 => ?_)
  rw [e, h2] at hP1
  exact k H1 l1 ls hP1 hS1 hl
theorem r_iret (hr : ret = some .int) {rm : Room} {rv : Option Value} {ws1 : va_W} {v : Int32} (C : Cx p s m args meth c cc own nL ret D) (hq : some (.int v) = rv) (hw : ws = ws1) (hdg : decode cc pc = .ok (.ireturn, 1)) : G p l e rm s m args below meth c D s.heap A nL (MQ below (fun _ st o t => o = .returned rv ∧ va_P D classes ws1 t.heap ∧ va_F A st t) args s 0 0 A) ws pc lv [.int v] := by
  intro H locs ls hP hS hl
  subst hr; subst hq; subst hw
  exact W.iret C.1 C.2.1 C.2.2.2.2.2.2.1 (fun t ht _ => ⟨rfl, by rw [ht]; exact hP, hS.F ht⟩) hS.2.2 hdg C.2.2.2.2.2.2.2
theorem r_zret (hr : ret = some .boolean) {rm : Room} {rv : Option Value} {ws1 : va_W} {v : Int32} (C : Cx p s m args meth c cc own nL ret D) (hn : narrow .boolean (.int v) = .int v) (hq : some (.int v) = rv) (hw : ws = ws1) (hdg : decode cc pc = .ok (.ireturn, 1)) : G p l e rm s m args below meth c D s.heap A nL (MQ below (fun _ st o t => o = .returned rv ∧ va_P D classes ws1 t.heap ∧ va_F A st t) args s 0 0 A) ws pc lv [.int v] := by
  intro H locs ls hP hS hl
  subst hr; subst hq; subst hw
  exact W.zret C.1 C.2.1 C.2.2.2.2.2.2.1 hn (fun t ht _ => ⟨rfl, by rw [ht]; exact hP, hS.F ht⟩) hS.2.2 hdg C.2.2.2.2.2.2.2
theorem r_lret (hr : ret = some .long) {rm : Room} {rv : Option Value} {ws1 : va_W} {v : Int64} (C : Cx p s m args meth c cc own nL ret D) (hq : some (.long v) = rv) (hw : ws = ws1) (hdg : decode cc pc = .ok (.lreturn, 1)) : G p l e rm s m args below meth c D s.heap A nL (MQ below (fun _ st o t => o = .returned rv ∧ va_P D classes ws1 t.heap ∧ va_F A st t) args s 0 0 A) ws pc lv [.long v] := by
  intro H locs ls hP hS hl
  subst hr; subst hq; subst hw
  exact W.lret C.1 C.2.1 C.2.2.2.2.2.2.1 (fun t ht _ => ⟨rfl, by rw [ht]; exact hP, hS.F ht⟩) hS.2.2 hdg C.2.2.2.2.2.2.2
theorem r_vret (hr : ret = none) {rm : Room} {ws1 : va_W} (C : Cx p s m args meth c cc own nL ret D) (hw : ws = ws1) (hdg : decode cc pc = .ok (.return_, 1)) : G p l e rm s m args below meth c D s.heap A nL (MQ below (fun _ st o t => o = .returned none ∧ va_P D classes ws1 t.heap ∧ va_F A st t) args s 0 0 A) ws pc lv [] := by
  intro H locs ls hP hS hl
  subst hr; subst hw
  exact W.vret C.1 C.2.1 C.2.2.2.2.2.2.1 (fun t ht _ => ⟨rfl, by rw [ht]; exact hP, hS.F ht⟩) hS.2.2 hdg C.2.2.2.2.2.2.2
end GR
end
