section
-- ===== PART A: goes FIRST, ahead of the names: the tables' words, and 'selects' of the private methods out of them =====
/-- a private method of a class that the tables say can be made, by its rows of tables_1 -/
def lw_okq (q : MethodName × Nat) : Prop := (q.1.cls ≠ "java/lang/invoke/MethodHandle" ∧ q.1.cls ≠ "java/lang/invoke/VarHandle") ∧ Cond.instantiable q.1.cls q.2 ∈ tables_1 ∧ Cond.privateMethod q.1 ∈ tables_1 ∧ Cond.instanceMethod q.1 ∈ tables_1
theorem lw_p0 : lw_okq (⟨"BackYear$Year", "needable", "(II)I"⟩, 12) := ⟨⟨by decide +kernel, by decide +kernel⟩, List.mem_of_getElem? (i := 21) (by decide +kernel), List.mem_of_getElem? (i := 168) (by decide +kernel), List.mem_of_getElem? (i := 169) (by decide +kernel)⟩
theorem lw_p1 : lw_okq (⟨"BackYear$Year", "add", "(III)Z"⟩, 12) := ⟨⟨by decide +kernel, by decide +kernel⟩, List.mem_of_getElem? (i := 21) (by decide +kernel), List.mem_of_getElem? (i := 175) (by decide +kernel), List.mem_of_getElem? (i := 176) (by decide +kernel)⟩
theorem lw_p2 : lw_okq (⟨"BackYear$Year", "has", "(I)Z"⟩, 12) := ⟨⟨by decide +kernel, by decide +kernel⟩, List.mem_of_getElem? (i := 21) (by decide +kernel), List.mem_of_getElem? (i := 183) (by decide +kernel), List.mem_of_getElem? (i := 184) (by decide +kernel)⟩
theorem lw_p3 : lw_okq (⟨"BackYear$Year", "standing", "(I)I"⟩, 12) := ⟨⟨by decide +kernel, by decide +kernel⟩, List.mem_of_getElem? (i := 21) (by decide +kernel), List.mem_of_getElem? (i := 187) (by decide +kernel), List.mem_of_getElem? (i := 188) (by decide +kernel)⟩
theorem lw_p4 : lw_okq (⟨"BackYear$Year", "wouldStand", "(II)Z"⟩, 12) := ⟨⟨by decide +kernel, by decide +kernel⟩, List.mem_of_getElem? (i := 21) (by decide +kernel), List.mem_of_getElem? (i := 194) (by decide +kernel), List.mem_of_getElem? (i := 195) (by decide +kernel)⟩
theorem lw_p5 : lw_okq (⟨"BackYear$Year", "worthTo", "(II)I"⟩, 12) := ⟨⟨by decide +kernel, by decide +kernel⟩, List.mem_of_getElem? (i := 21) (by decide +kernel), List.mem_of_getElem? (i := 217) (by decide +kernel), List.mem_of_getElem? (i := 218) (by decide +kernel)⟩
theorem lw_p6 : lw_okq (⟨"BackYear$Year", "all", "()I"⟩, 12) := ⟨⟨by decide +kernel, by decide +kernel⟩, List.mem_of_getElem? (i := 21) (by decide +kernel), List.mem_of_getElem? (i := 229) (by decide +kernel), List.mem_of_getElem? (i := 230) (by decide +kernel)⟩
theorem lw_p7 : lw_okq (⟨"BackYear$Tape", "add", "(C)Z"⟩, 4) := ⟨⟨by decide +kernel, by decide +kernel⟩, List.mem_of_getElem? (i := 89) (by decide +kernel), List.mem_of_getElem? (i := 237) (by decide +kernel), List.mem_of_getElem? (i := 238) (by decide +kernel)⟩
theorem lw_p8 : lw_okq (⟨"BackYear$Year", "clear", "()V"⟩, 12) := ⟨⟨by decide +kernel, by decide +kernel⟩, List.mem_of_getElem? (i := 21) (by decide +kernel), List.mem_of_getElem? (i := 245) (by decide +kernel), List.mem_of_getElem? (i := 246) (by decide +kernel)⟩
theorem lw_p9 : lw_okq (⟨"BackYear$Tape", "readInto", "(LBackYear$Year;)I"⟩, 4) := ⟨⟨by decide +kernel, by decide +kernel⟩, List.mem_of_getElem? (i := 89) (by decide +kernel), List.mem_of_getElem? (i := 249) (by decide +kernel), List.mem_of_getElem? (i := 250) (by decide +kernel)⟩
theorem lw_p10 : lw_okq (⟨"BackYear$Tape", "takes", "(CLBackYear$Year;)Z"⟩, 4) := ⟨⟨by decide +kernel, by decide +kernel⟩, List.mem_of_getElem? (i := 89) (by decide +kernel), List.mem_of_getElem? (i := 253) (by decide +kernel), List.mem_of_getElem? (i := 254) (by decide +kernel)⟩
theorem lw_p11 : lw_okq (⟨"BackYear$Tape", "takesKind", "(C)Z"⟩, 4) := ⟨⟨by decide +kernel, by decide +kernel⟩, List.mem_of_getElem? (i := 89) (by decide +kernel), List.mem_of_getElem? (i := 257) (by decide +kernel), List.mem_of_getElem? (i := 258) (by decide +kernel)⟩
theorem lw_p12 : lw_okq (⟨"BackYear$Tape", "takesDay", "(CLBackYear$Year;)Z"⟩, 4) := ⟨⟨by decide +kernel, by decide +kernel⟩, List.mem_of_getElem? (i := 89) (by decide +kernel), List.mem_of_getElem? (i := 261) (by decide +kernel), List.mem_of_getElem? (i := 262) (by decide +kernel)⟩
theorem lw_p13 : lw_okq (⟨"BackYear$Tape", "takesComma", "(LBackYear$Year;)Z"⟩, 4) := ⟨⟨by decide +kernel, by decide +kernel⟩, List.mem_of_getElem? (i := 89) (by decide +kernel), List.mem_of_getElem? (i := 267) (by decide +kernel), List.mem_of_getElem? (i := 268) (by decide +kernel)⟩
theorem lw_p14 : lw_okq (⟨"BackYear$Tape", "takesNeed", "(CLBackYear$Year;)Z"⟩, 4) := ⟨⟨by decide +kernel, by decide +kernel⟩, List.mem_of_getElem? (i := 89) (by decide +kernel), List.mem_of_getElem? (i := 271) (by decide +kernel), List.mem_of_getElem? (i := 272) (by decide +kernel)⟩
theorem lw_p15 : lw_okq (⟨"BackYear$Year", "become", "(LBackYear$Year;)V"⟩, 12) := ⟨⟨by decide +kernel, by decide +kernel⟩, List.mem_of_getElem? (i := 21) (by decide +kernel), List.mem_of_getElem? (i := 278) (by decide +kernel), List.mem_of_getElem? (i := 279) (by decide +kernel)⟩
def lw_privs_1 : List (MethodName × Nat) := [(⟨"BackYear$Year", "needable", "(II)I"⟩, 12), (⟨"BackYear$Year", "add", "(III)Z"⟩, 12), (⟨"BackYear$Year", "has", "(I)Z"⟩, 12), (⟨"BackYear$Year", "standing", "(I)I"⟩, 12), (⟨"BackYear$Year", "wouldStand", "(II)Z"⟩, 12), (⟨"BackYear$Year", "worthTo", "(II)I"⟩, 12), (⟨"BackYear$Year", "all", "()I"⟩, 12), (⟨"BackYear$Tape", "add", "(C)Z"⟩, 4), (⟨"BackYear$Year", "clear", "()V"⟩, 12), (⟨"BackYear$Tape", "readInto", "(LBackYear$Year;)I"⟩, 4), (⟨"BackYear$Tape", "takes", "(CLBackYear$Year;)Z"⟩, 4), (⟨"BackYear$Tape", "takesKind", "(C)Z"⟩, 4), (⟨"BackYear$Tape", "takesDay", "(CLBackYear$Year;)Z"⟩, 4), (⟨"BackYear$Tape", "takesComma", "(LBackYear$Year;)Z"⟩, 4), (⟨"BackYear$Tape", "takesNeed", "(CLBackYear$Year;)Z"⟩, 4), (⟨"BackYear$Year", "become", "(LBackYear$Year;)V"⟩, 12)]
theorem lw_r1 : ∀ q ∈ lw_privs_1, lw_okq q := List.forall_mem_cons.mpr ⟨lw_p0, List.forall_mem_cons.mpr ⟨lw_p1, List.forall_mem_cons.mpr ⟨lw_p2, List.forall_mem_cons.mpr ⟨lw_p3, List.forall_mem_cons.mpr ⟨lw_p4, List.forall_mem_cons.mpr ⟨lw_p5, List.forall_mem_cons.mpr ⟨lw_p6, List.forall_mem_cons.mpr ⟨lw_p7, List.forall_mem_cons.mpr ⟨lw_p8, List.forall_mem_cons.mpr ⟨lw_p9, List.forall_mem_cons.mpr ⟨lw_p10, List.forall_mem_cons.mpr ⟨lw_p11, List.forall_mem_cons.mpr ⟨lw_p12, List.forall_mem_cons.mpr ⟨lw_p13, List.forall_mem_cons.mpr ⟨lw_p14, List.forall_mem_cons.mpr ⟨lw_p15, fun _ h => absurd h List.not_mem_nil⟩⟩⟩⟩⟩⟩⟩⟩⟩⟩⟩⟩⟩⟩⟩⟩
theorem lw_p16 : lw_okq (⟨"BackYear$Year", "ofDay", "(I)I"⟩, 12) := ⟨⟨by decide +kernel, by decide +kernel⟩, List.mem_of_getElem? (i := 21) (by decide +kernel), List.mem_of_getElem? (i := 293) (by decide +kernel), List.mem_of_getElem? (i := 294) (by decide +kernel)⟩
theorem lw_p17 : lw_okq (⟨"BackYear$Year", "beginNext", "()V"⟩, 12) := ⟨⟨by decide +kernel, by decide +kernel⟩, List.mem_of_getElem? (i := 21) (by decide +kernel), List.mem_of_getElem? (i := 306) (by decide +kernel), List.mem_of_getElem? (i := 307) (by decide +kernel)⟩
theorem lw_p18 : lw_okq (⟨"BackYear$Year", "sumBy", "(I)I"⟩, 12) := ⟨⟨by decide +kernel, by decide +kernel⟩, List.mem_of_getElem? (i := 21) (by decide +kernel), List.mem_of_getElem? (i := 321) (by decide +kernel), List.mem_of_getElem? (i := 322) (by decide +kernel)⟩
theorem lw_p19 : lw_okq (⟨"BackYear$Year", "valueOf", "(III)I"⟩, 12) := ⟨⟨by decide +kernel, by decide +kernel⟩, List.mem_of_getElem? (i := 21) (by decide +kernel), List.mem_of_getElem? (i := 325) (by decide +kernel), List.mem_of_getElem? (i := 326) (by decide +kernel)⟩
theorem lw_p20 : lw_okq (⟨"BackYear$Year", "bearer", "(I)I"⟩, 12) := ⟨⟨by decide +kernel, by decide +kernel⟩, List.mem_of_getElem? (i := 21) (by decide +kernel), List.mem_of_getElem? (i := 330) (by decide +kernel), List.mem_of_getElem? (i := 331) (by decide +kernel)⟩
theorem lw_p21 : lw_okq (⟨"BackYear$Year", "isPerson", "(I)Z"⟩, 12) := ⟨⟨by decide +kernel, by decide +kernel⟩, List.mem_of_getElem? (i := 21) (by decide +kernel), List.mem_of_getElem? (i := 334) (by decide +kernel), List.mem_of_getElem? (i := 335) (by decide +kernel)⟩
theorem lw_p22 : lw_okq (⟨"BackYear$Year", "valueBy", "(II)I"⟩, 12) := ⟨⟨by decide +kernel, by decide +kernel⟩, List.mem_of_getElem? (i := 21) (by decide +kernel), List.mem_of_getElem? (i := 338) (by decide +kernel), List.mem_of_getElem? (i := 339) (by decide +kernel)⟩
theorem lw_p23 : lw_okq (⟨"BackYear$Year", "worthToAll", "(I)I"⟩, 12) := ⟨⟨by decide +kernel, by decide +kernel⟩, List.mem_of_getElem? (i := 21) (by decide +kernel), List.mem_of_getElem? (i := 445) (by decide +kernel), List.mem_of_getElem? (i := 446) (by decide +kernel)⟩
theorem lw_p24 : lw_okq (⟨"BackYear$Sheets", "faultOf", "(IIII)I"⟩, 3) := ⟨⟨by decide +kernel, by decide +kernel⟩, List.mem_of_getElem? (i := 110) (by decide +kernel), List.mem_of_getElem? (i := 477) (by decide +kernel), List.mem_of_getElem? (i := 478) (by decide +kernel)⟩
theorem lw_p25 : lw_okq (⟨"BackYear$Sheets", "holds", "(I)Z"⟩, 3) := ⟨⟨by decide +kernel, by decide +kernel⟩, List.mem_of_getElem? (i := 110) (by decide +kernel), List.mem_of_getElem? (i := 487) (by decide +kernel), List.mem_of_getElem? (i := 488) (by decide +kernel)⟩
theorem lw_p26 : lw_okq (⟨"BackYear$Sheets", "reaches", "(III)Z"⟩, 3) := ⟨⟨by decide +kernel, by decide +kernel⟩, List.mem_of_getElem? (i := 110) (by decide +kernel), List.mem_of_getElem? (i := 491) (by decide +kernel), List.mem_of_getElem? (i := 492) (by decide +kernel)⟩
theorem lw_p27 : lw_okq (⟨"BackYear$Sheets", "at", "(II)J"⟩, 3) := ⟨⟨by decide +kernel, by decide +kernel⟩, List.mem_of_getElem? (i := 110) (by decide +kernel), List.mem_of_getElem? (i := 495) (by decide +kernel), List.mem_of_getElem? (i := 496) (by decide +kernel)⟩
theorem lw_p28 : lw_okq (⟨"BackYear", "takeToldYears", "(III)Z"⟩, 9) := ⟨⟨by decide +kernel, by decide +kernel⟩, List.mem_of_getElem? (i := 13) (by decide +kernel), List.mem_of_getElem? (i := 508) (by decide +kernel), List.mem_of_getElem? (i := 509) (by decide +kernel)⟩
theorem lw_p29 : lw_okq (⟨"BackYear$Sheets", "put", "(IIJ)V"⟩, 3) := ⟨⟨by decide +kernel, by decide +kernel⟩, List.mem_of_getElem? (i := 110) (by decide +kernel), List.mem_of_getElem? (i := 520) (by decide +kernel), List.mem_of_getElem? (i := 521) (by decide +kernel)⟩
theorem lw_p30 : lw_okq (⟨"BackYear$Sheets", "begin", "(III)V"⟩, 3) := ⟨⟨by decide +kernel, by decide +kernel⟩, List.mem_of_getElem? (i := 110) (by decide +kernel), List.mem_of_getElem? (i := 533) (by decide +kernel), List.mem_of_getElem? (i := 534) (by decide +kernel)⟩
theorem lw_p31 : lw_okq (⟨"BackYear$Sheets", "move", "(IIIII)V"⟩, 3) := ⟨⟨by decide +kernel, by decide +kernel⟩, List.mem_of_getElem? (i := 110) (by decide +kernel), List.mem_of_getElem? (i := 551) (by decide +kernel), List.mem_of_getElem? (i := 552) (by decide +kernel)⟩
def lw_privs_2 : List (MethodName × Nat) := [(⟨"BackYear$Year", "ofDay", "(I)I"⟩, 12), (⟨"BackYear$Year", "beginNext", "()V"⟩, 12), (⟨"BackYear$Year", "sumBy", "(I)I"⟩, 12), (⟨"BackYear$Year", "valueOf", "(III)I"⟩, 12), (⟨"BackYear$Year", "bearer", "(I)I"⟩, 12), (⟨"BackYear$Year", "isPerson", "(I)Z"⟩, 12), (⟨"BackYear$Year", "valueBy", "(II)I"⟩, 12), (⟨"BackYear$Year", "worthToAll", "(I)I"⟩, 12), (⟨"BackYear$Sheets", "faultOf", "(IIII)I"⟩, 3), (⟨"BackYear$Sheets", "holds", "(I)Z"⟩, 3), (⟨"BackYear$Sheets", "reaches", "(III)Z"⟩, 3), (⟨"BackYear$Sheets", "at", "(II)J"⟩, 3), (⟨"BackYear", "takeToldYears", "(III)Z"⟩, 9), (⟨"BackYear$Sheets", "put", "(IIJ)V"⟩, 3), (⟨"BackYear$Sheets", "begin", "(III)V"⟩, 3), (⟨"BackYear$Sheets", "move", "(IIIII)V"⟩, 3)]
theorem lw_r2 : ∀ q ∈ lw_privs_2, lw_okq q := List.forall_mem_cons.mpr ⟨lw_p16, List.forall_mem_cons.mpr ⟨lw_p17, List.forall_mem_cons.mpr ⟨lw_p18, List.forall_mem_cons.mpr ⟨lw_p19, List.forall_mem_cons.mpr ⟨lw_p20, List.forall_mem_cons.mpr ⟨lw_p21, List.forall_mem_cons.mpr ⟨lw_p22, List.forall_mem_cons.mpr ⟨lw_p23, List.forall_mem_cons.mpr ⟨lw_p24, List.forall_mem_cons.mpr ⟨lw_p25, List.forall_mem_cons.mpr ⟨lw_p26, List.forall_mem_cons.mpr ⟨lw_p27, List.forall_mem_cons.mpr ⟨lw_p28, List.forall_mem_cons.mpr ⟨lw_p29, List.forall_mem_cons.mpr ⟨lw_p30, List.forall_mem_cons.mpr ⟨lw_p31, fun _ h => absurd h List.not_mem_nil⟩⟩⟩⟩⟩⟩⟩⟩⟩⟩⟩⟩⟩⟩⟩⟩
theorem lw_p32 : lw_okq (⟨"BackYearModel", "adds", "(III)V"⟩, 37) := ⟨⟨by decide +kernel, by decide +kernel⟩, List.mem_of_getElem? (i := 556) (by decide +kernel), List.mem_of_getElem? (i := 691) (by decide +kernel), List.mem_of_getElem? (i := 692) (by decide +kernel)⟩
theorem lw_p33 : lw_okq (⟨"BackYearModel", "isDeed", "(J)Z"⟩, 37) := ⟨⟨by decide +kernel, by decide +kernel⟩, List.mem_of_getElem? (i := 556) (by decide +kernel), List.mem_of_getElem? (i := 699) (by decide +kernel), List.mem_of_getElem? (i := 700) (by decide +kernel)⟩
theorem lw_p34 : lw_okq (⟨"BackYearModel", "stands", "(II)I"⟩, 37) := ⟨⟨by decide +kernel, by decide +kernel⟩, List.mem_of_getElem? (i := 556) (by decide +kernel), List.mem_of_getElem? (i := 703) (by decide +kernel), List.mem_of_getElem? (i := 704) (by decide +kernel)⟩
theorem lw_p35 : lw_okq (⟨"BackYearModel", "is", "(III)Z"⟩, 37) := ⟨⟨by decide +kernel, by decide +kernel⟩, List.mem_of_getElem? (i := 556) (by decide +kernel), List.mem_of_getElem? (i := 707) (by decide +kernel), List.mem_of_getElem? (i := 708) (by decide +kernel)⟩
theorem lw_p36 : lw_okq (⟨"BackYearModel", "areDeeds", "(J)Z"⟩, 37) := ⟨⟨by decide +kernel, by decide +kernel⟩, List.mem_of_getElem? (i := 556) (by decide +kernel), List.mem_of_getElem? (i := 730) (by decide +kernel), List.mem_of_getElem? (i := 731) (by decide +kernel)⟩
theorem lw_p37 : lw_okq (⟨"BackYearModel", "readDeed", "()V"⟩, 37) := ⟨⟨by decide +kernel, by decide +kernel⟩, List.mem_of_getElem? (i := 556) (by decide +kernel), List.mem_of_getElem? (i := 748) (by decide +kernel), List.mem_of_getElem? (i := 749) (by decide +kernel)⟩
theorem lw_p38 : lw_okq (⟨"BackYearModel", "here", "()I"⟩, 37) := ⟨⟨by decide +kernel, by decide +kernel⟩, List.mem_of_getElem? (i := 556) (by decide +kernel), List.mem_of_getElem? (i := 752) (by decide +kernel), List.mem_of_getElem? (i := 753) (by decide +kernel)⟩
theorem lw_p39 : lw_okq (⟨"BackYearModel", "ofDay", "(I)I"⟩, 37) := ⟨⟨by decide +kernel, by decide +kernel⟩, List.mem_of_getElem? (i := 556) (by decide +kernel), List.mem_of_getElem? (i := 762) (by decide +kernel), List.mem_of_getElem? (i := 763) (by decide +kernel)⟩
theorem lw_p40 : lw_okq (⟨"BackYearModel", "bearer", "(I)I"⟩, 37) := ⟨⟨by decide +kernel, by decide +kernel⟩, List.mem_of_getElem? (i := 556) (by decide +kernel), List.mem_of_getElem? (i := 782) (by decide +kernel), List.mem_of_getElem? (i := 783) (by decide +kernel)⟩
theorem lw_p41 : lw_okq (⟨"BackYearModel", "isOne", "(I)Z"⟩, 37) := ⟨⟨by decide +kernel, by decide +kernel⟩, List.mem_of_getElem? (i := 556) (by decide +kernel), List.mem_of_getElem? (i := 790) (by decide +kernel), List.mem_of_getElem? (i := 791) (by decide +kernel)⟩
theorem lw_p42 : lw_okq (⟨"BackYearModel", "counts", "(II)V"⟩, 37) := ⟨⟨by decide +kernel, by decide +kernel⟩, List.mem_of_getElem? (i := 556) (by decide +kernel), List.mem_of_getElem? (i := 794) (by decide +kernel), List.mem_of_getElem? (i := 795) (by decide +kernel)⟩
theorem lw_p43 : lw_okq (⟨"BackYearModel", "bestOf", "(IZI)I"⟩, 37) := ⟨⟨by decide +kernel, by decide +kernel⟩, List.mem_of_getElem? (i := 556) (by decide +kernel), List.mem_of_getElem? (i := 802) (by decide +kernel), List.mem_of_getElem? (i := 803) (by decide +kernel)⟩
theorem lw_p44 : lw_okq (⟨"BackYearModel", "isWalk", "(II)Z"⟩, 37) := ⟨⟨by decide +kernel, by decide +kernel⟩, List.mem_of_getElem? (i := 556) (by decide +kernel), List.mem_of_getElem? (i := 806) (by decide +kernel), List.mem_of_getElem? (i := 807) (by decide +kernel)⟩
theorem lw_p45 : lw_okq (⟨"BackYearModel", "plays", "(I)I"⟩, 37) := ⟨⟨by decide +kernel, by decide +kernel⟩, List.mem_of_getElem? (i := 556) (by decide +kernel), List.mem_of_getElem? (i := 818) (by decide +kernel), List.mem_of_getElem? (i := 819) (by decide +kernel)⟩
theorem lw_p46 : lw_okq (⟨"BackYearModel", "own", "(II)I"⟩, 37) := ⟨⟨by decide +kernel, by decide +kernel⟩, List.mem_of_getElem? (i := 556) (by decide +kernel), List.mem_of_getElem? (i := 822) (by decide +kernel), List.mem_of_getElem? (i := 823) (by decide +kernel)⟩
theorem lw_p47 : lw_okq (⟨"BackYearModel", "owes", "()V"⟩, 37) := ⟨⟨by decide +kernel, by decide +kernel⟩, List.mem_of_getElem? (i := 556) (by decide +kernel), List.mem_of_getElem? (i := 838) (by decide +kernel), List.mem_of_getElem? (i := 839) (by decide +kernel)⟩
def lw_privs_3 : List (MethodName × Nat) := [(⟨"BackYearModel", "adds", "(III)V"⟩, 37), (⟨"BackYearModel", "isDeed", "(J)Z"⟩, 37), (⟨"BackYearModel", "stands", "(II)I"⟩, 37), (⟨"BackYearModel", "is", "(III)Z"⟩, 37), (⟨"BackYearModel", "areDeeds", "(J)Z"⟩, 37), (⟨"BackYearModel", "readDeed", "()V"⟩, 37), (⟨"BackYearModel", "here", "()I"⟩, 37), (⟨"BackYearModel", "ofDay", "(I)I"⟩, 37), (⟨"BackYearModel", "bearer", "(I)I"⟩, 37), (⟨"BackYearModel", "isOne", "(I)Z"⟩, 37), (⟨"BackYearModel", "counts", "(II)V"⟩, 37), (⟨"BackYearModel", "bestOf", "(IZI)I"⟩, 37), (⟨"BackYearModel", "isWalk", "(II)Z"⟩, 37), (⟨"BackYearModel", "plays", "(I)I"⟩, 37), (⟨"BackYearModel", "own", "(II)I"⟩, 37), (⟨"BackYearModel", "owes", "()V"⟩, 37)]
theorem lw_r3 : ∀ q ∈ lw_privs_3, lw_okq q := List.forall_mem_cons.mpr ⟨lw_p32, List.forall_mem_cons.mpr ⟨lw_p33, List.forall_mem_cons.mpr ⟨lw_p34, List.forall_mem_cons.mpr ⟨lw_p35, List.forall_mem_cons.mpr ⟨lw_p36, List.forall_mem_cons.mpr ⟨lw_p37, List.forall_mem_cons.mpr ⟨lw_p38, List.forall_mem_cons.mpr ⟨lw_p39, List.forall_mem_cons.mpr ⟨lw_p40, List.forall_mem_cons.mpr ⟨lw_p41, List.forall_mem_cons.mpr ⟨lw_p42, List.forall_mem_cons.mpr ⟨lw_p43, List.forall_mem_cons.mpr ⟨lw_p44, List.forall_mem_cons.mpr ⟨lw_p45, List.forall_mem_cons.mpr ⟨lw_p46, List.forall_mem_cons.mpr ⟨lw_p47, fun _ h => absurd h List.not_mem_nil⟩⟩⟩⟩⟩⟩⟩⟩⟩⟩⟩⟩⟩⟩⟩⟩
theorem lw_p48 : lw_okq (⟨"BackYearModel", "isZero", "(I)Z"⟩, 37) := ⟨⟨by decide +kernel, by decide +kernel⟩, List.mem_of_getElem? (i := 556) (by decide +kernel), List.mem_of_getElem? (i := 846) (by decide +kernel), List.mem_of_getElem? (i := 847) (by decide +kernel)⟩
theorem lw_p49 : lw_okq (⟨"BackYearModel", "expects", "()V"⟩, 37) := ⟨⟨by decide +kernel, by decide +kernel⟩, List.mem_of_getElem? (i := 556) (by decide +kernel), List.mem_of_getElem? (i := 858) (by decide +kernel), List.mem_of_getElem? (i := 859) (by decide +kernel)⟩
theorem lw_p50 : lw_okq (⟨"BackYearModel", "notes", "([II)I"⟩, 37) := ⟨⟨by decide +kernel, by decide +kernel⟩, List.mem_of_getElem? (i := 556) (by decide +kernel), List.mem_of_getElem? (i := 874) (by decide +kernel), List.mem_of_getElem? (i := 875) (by decide +kernel)⟩
theorem lw_p51 : lw_okq (⟨"BackYearModel", "gives", "(I[I)I"⟩, 37) := ⟨⟨by decide +kernel, by decide +kernel⟩, List.mem_of_getElem? (i := 556) (by decide +kernel), List.mem_of_getElem? (i := 882) (by decide +kernel), List.mem_of_getElem? (i := 883) (by decide +kernel)⟩
theorem lw_p52 : lw_okq (⟨"BackYearModel", "why", "(IIII)I"⟩, 37) := ⟨⟨by decide +kernel, by decide +kernel⟩, List.mem_of_getElem? (i := 556) (by decide +kernel), List.mem_of_getElem? (i := 896) (by decide +kernel), List.mem_of_getElem? (i := 897) (by decide +kernel)⟩
theorem lw_p53 : lw_okq (⟨"BackYearModel", "puts", "(IIJ)V"⟩, 37) := ⟨⟨by decide +kernel, by decide +kernel⟩, List.mem_of_getElem? (i := 556) (by decide +kernel), List.mem_of_getElem? (i := 910) (by decide +kernel), List.mem_of_getElem? (i := 911) (by decide +kernel)⟩
def lw_privs_4 : List (MethodName × Nat) := [(⟨"BackYearModel", "isZero", "(I)Z"⟩, 37), (⟨"BackYearModel", "expects", "()V"⟩, 37), (⟨"BackYearModel", "notes", "([II)I"⟩, 37), (⟨"BackYearModel", "gives", "(I[I)I"⟩, 37), (⟨"BackYearModel", "why", "(IIII)I"⟩, 37), (⟨"BackYearModel", "puts", "(IIJ)V"⟩, 37)]
theorem lw_r4 : ∀ q ∈ lw_privs_4, lw_okq q := List.forall_mem_cons.mpr ⟨lw_p48, List.forall_mem_cons.mpr ⟨lw_p49, List.forall_mem_cons.mpr ⟨lw_p50, List.forall_mem_cons.mpr ⟨lw_p51, List.forall_mem_cons.mpr ⟨lw_p52, List.forall_mem_cons.mpr ⟨lw_p53, fun _ h => absurd h List.not_mem_nil⟩⟩⟩⟩⟩⟩
def lw_privs : List (MethodName × Nat) := lw_privs_1 ++ (lw_privs_2 ++ (lw_privs_3 ++ (lw_privs_4)))
def lw_tbl : List Cond := k2_sels lw_privs ++ tables_1
theorem lw_privs_ok : ∀ q ∈ lw_privs, lw_okq q := by
  show ∀ q ∈ lw_privs_1 ++ (lw_privs_2 ++ (lw_privs_3 ++ (lw_privs_4))), lw_okq q
  exact List.forall_mem_append.mpr ⟨lw_r1, List.forall_mem_append.mpr ⟨lw_r2, List.forall_mem_append.mpr ⟨lw_r3, lw_r4⟩⟩⟩
end
section
/-! ===== BEGIN printed: names, fields, word lists, decode rows ===== -/
def RX0 : String := "BackYear$Bills"
def TX0 : u_T := fun k => match k with
  | _ => ("", "", "", false)
def tyX0 : Nat → FieldType := fun k => match k with
  | _ => .int
theorem nmX0 : ∀ a, a < 0 → ∀ b, b < 0 → a ≠ b → (TX0 a).2.1 ≠ (TX0 b).2.1 := by decide +kernel
theorem tyX0_ok : ∀ k, k < 0 → parseFieldDescriptor (TX0 k).2.2.1 = some (tyX0 k) := by decide +kernel
abbrev cX0_dueTo : ByteArray := prog_2_method_2_code
def yX0_dueTo : MethodName := ⟨RX0, "dueTo", "(LBackYear$Year;I)I"⟩
abbrev cX0_dueFor : ByteArray := prog_2_method_3_code
def yX0_dueFor : MethodName := ⟨RX0, "dueFor", "(LBackYear$Year;II)I"⟩
abbrev cX0_fewestPayments : ByteArray := prog_2_method_4_code
def yX0_fewestPayments : MethodName := ⟨RX0, "fewestPayments", "([I)I"⟩
abbrev cX0_mostSets : ByteArray := prog_2_method_5_code
def yX0_mostSets : MethodName := ⟨RX0, "mostSets", "([II)I"⟩
abbrev cX0_sumOf : ByteArray := prog_2_method_6_code
def yX0_sumOf : MethodName := ⟨RX0, "sumOf", "([II)I"⟩
def RX1 : String := "BackYear$Guesses"
def TX1 : u_T := fun k => match k with
  | _ => ("", "", "", false)
def tyX1 : Nat → FieldType := fun k => match k with
  | _ => .int
theorem nmX1 : ∀ a, a < 0 → ∀ b, b < 0 → a ≠ b → (TX1 a).2.1 ≠ (TX1 b).2.1 := by decide +kernel
theorem tyX1_ok : ∀ k, k < 0 → parseFieldDescriptor (TX1 k).2.2.1 = some (tyX1 k) := by decide +kernel
abbrev cX1_fits : ByteArray := prog_3_method_2_code
def yX1_fits : MethodName := ⟨RX1, "fits", "(III[II)Z"⟩
abbrev cX1_explains : ByteArray := prog_3_method_3_code
def yX1_explains : MethodName := ⟨RX1, "explains", "(LBackYear$Year;II)Z"⟩
abbrev cX1_parts : ByteArray := prog_3_method_4_code
def yX1_parts : MethodName := ⟨RX1, "parts", "(I)J"⟩
abbrev cX1_halvings : ByteArray := prog_3_method_5_code
def yX1_halvings : MethodName := ⟨RX1, "halvings", "(JI)I"⟩
abbrev cX1_mean : ByteArray := prog_3_method_6_code
def yX1_mean : MethodName := ⟨RX1, "mean", "(LBackYear$Year;III)J"⟩
def RX2 : String := "BackYear$Sheets"
def TX2 : u_T := fun k => match k with
  | 0 => ("BackYear$Sheets", "lane", "[I", true)
  | 1 => ("BackYear$Sheets", "size", "[I", true)
  | _ => ("BackYear$Sheets", "items", "[J", true)
def tyX2 : Nat → FieldType := fun k => match k with
  | 0 => .array .int
  | 1 => .array .int
  | _ => .array .long
theorem nmX2 : ∀ a, a < 3 → ∀ b, b < 3 → a ≠ b → (TX2 a).2.1 ≠ (TX2 b).2.1 := by decide +kernel
theorem tyX2_ok : ∀ k, k < 3 → parseFieldDescriptor (TX2 k).2.2.1 = some (tyX2 k) := by decide +kernel
abbrev cX2_init : ByteArray := prog_4_method_1_code
def yX2_init : MethodName := ⟨RX2, "<init>", "()V"⟩
abbrev cX2_holds : ByteArray := prog_4_method_2_code
def yX2_holds : MethodName := ⟨RX2, "holds", "(I)Z"⟩
abbrev cX2_faultOf : ByteArray := prog_4_method_3_code
def yX2_faultOf : MethodName := ⟨RX2, "faultOf", "(IIII)I"⟩
abbrev cX2_reaches : ByteArray := prog_4_method_4_code
def yX2_reaches : MethodName := ⟨RX2, "reaches", "(III)Z"⟩
abbrev cX2_begin : ByteArray := prog_4_method_5_code
def yX2_begin : MethodName := ⟨RX2, "begin", "(III)V"⟩
abbrev cX2_at : ByteArray := prog_4_method_6_code
def yX2_at : MethodName := ⟨RX2, "at", "(II)J"⟩
abbrev cX2_put : ByteArray := prog_4_method_7_code
def yX2_put : MethodName := ⟨RX2, "put", "(IIJ)V"⟩
abbrev cX2_lowest : ByteArray := prog_4_method_8_code
def yX2_lowest : MethodName := ⟨RX2, "lowest", "(IJ)J"⟩
abbrev cX2_move : ByteArray := prog_4_method_9_code
def yX2_move : MethodName := ⟨RX2, "move", "(IIIII)V"⟩
def RX3 : String := "BackYear$Tape"
def TX3 : u_T := fun k => match k with
  | 0 => ("BackYear$Tape", "letters", "[C", true)
  | 1 => ("BackYear$Tape", "typed", "I", false)
  | 2 => ("BackYear$Tape", "awaited", "I", false)
  | _ => ("BackYear$Tape", "kind", "I", false)
def tyX3 : Nat → FieldType := fun k => match k with
  | 0 => .array .char
  | 1 => .int
  | 2 => .int
  | _ => .int
theorem nmX3 : ∀ a, a < 4 → ∀ b, b < 4 → a ≠ b → (TX3 a).2.1 ≠ (TX3 b).2.1 := by decide +kernel
theorem tyX3_ok : ∀ k, k < 4 → parseFieldDescriptor (TX3 k).2.2.1 = some (tyX3 k) := by decide +kernel
abbrev cX3_init : ByteArray := prog_5_method_1_code
def yX3_init : MethodName := ⟨RX3, "<init>", "()V"⟩
abbrev cX3_add : ByteArray := prog_5_method_2_code
def yX3_add : MethodName := ⟨RX3, "add", "(C)Z"⟩
abbrev cX3_readInto : ByteArray := prog_5_method_3_code
def yX3_readInto : MethodName := ⟨RX3, "readInto", "(LBackYear$Year;)I"⟩
abbrev cX3_takes : ByteArray := prog_5_method_4_code
def yX3_takes : MethodName := ⟨RX3, "takes", "(CLBackYear$Year;)Z"⟩
abbrev cX3_takesKind : ByteArray := prog_5_method_5_code
def yX3_takesKind : MethodName := ⟨RX3, "takesKind", "(C)Z"⟩
abbrev cX3_takesDay : ByteArray := prog_5_method_6_code
def yX3_takesDay : MethodName := ⟨RX3, "takesDay", "(CLBackYear$Year;)Z"⟩
abbrev cX3_takesComma : ByteArray := prog_5_method_7_code
def yX3_takesComma : MethodName := ⟨RX3, "takesComma", "(LBackYear$Year;)Z"⟩
abbrev cX3_takesNeed : ByteArray := prog_5_method_8_code
def yX3_takesNeed : MethodName := ⟨RX3, "takesNeed", "(CLBackYear$Year;)Z"⟩
def RX4 : String := "BackYear$Walks"
def TX4 : u_T := fun k => match k with
  | _ => ("", "", "", false)
def tyX4 : Nat → FieldType := fun k => match k with
  | _ => .int
theorem nmX4 : ∀ a, a < 0 → ∀ b, b < 0 → a ≠ b → (TX4 a).2.1 ≠ (TX4 b).2.1 := by decide +kernel
theorem tyX4_ok : ∀ k, k < 0 → parseFieldDescriptor (TX4 k).2.2.1 = some (tyX4 k) := by decide +kernel
abbrev cX4_most : ByteArray := prog_6_method_2_code
def yX4_most : MethodName := ⟨RX4, "most", "(LBackYear$Year;IZ)I"⟩
abbrev cX4_fewest : ByteArray := prog_6_method_3_code
def yX4_fewest : MethodName := ⟨RX4, "fewest", "(LBackYear$Year;II)I"⟩
abbrev cX4_isWalk : ByteArray := prog_6_method_4_code
def yX4_isWalk : MethodName := ⟨RX4, "isWalk", "(LBackYear$Year;III)Z"⟩
abbrev cX4_isFair : ByteArray := prog_6_method_5_code
def yX4_isFair : MethodName := ⟨RX4, "isFair", "(LBackYear$Year;I)Z"⟩
abbrev cX4_selfish : ByteArray := prog_6_method_6_code
def yX4_selfish : MethodName := ⟨RX4, "selfish", "(LBackYear$Year;I)I"⟩
abbrev cX4_play : ByteArray := prog_6_method_7_code
def yX4_play : MethodName := ⟨RX4, "play", "(LBackYear$Year;IIII)I"⟩
abbrev cX4_chooser : ByteArray := prog_6_method_8_code
def yX4_chooser : MethodName := ⟨RX4, "chooser", "(LBackYear$Year;I)I"⟩
def RX5 : String := "BackYear$Year"
def TX5 : u_T := fun k => match k with
  | 0 => ("BackYear$Year", "people", "I", false)
  | 1 => ("BackYear$Year", "deeds", "I", false)
  | 2 => ("BackYear$Year", "theDay", "I", false)
  | 3 => ("BackYear$Year", "years", "I", false)
  | 4 => ("BackYear$Year", "lastYear", "I", false)
  | 5 => ("BackYear$Year", "righted", "I", false)
  | 6 => ("BackYear$Year", "kind", "[I", true)
  | 7 => ("BackYear$Year", "day", "[I", true)
  | 8 => ("BackYear$Year", "needs", "[I", true)
  | 9 => ("BackYear$Year", "cost", "[I", true)
  | 10 => ("BackYear$Year", "odds", "[I", true)
  | _ => ("BackYear$Year", "worth", "[I", true)
def tyX5 : Nat → FieldType := fun k => match k with
  | 0 => .int
  | 1 => .int
  | 2 => .int
  | 3 => .int
  | 4 => .int
  | 5 => .int
  | 6 => .array .int
  | 7 => .array .int
  | 8 => .array .int
  | 9 => .array .int
  | 10 => .array .int
  | _ => .array .int
theorem nmX5 : ∀ a, a < 12 → ∀ b, b < 12 → a ≠ b → (TX5 a).2.1 ≠ (TX5 b).2.1 := by decide +kernel
theorem tyX5_ok : ∀ k, k < 12 → parseFieldDescriptor (TX5 k).2.2.1 = some (tyX5 k) := by decide +kernel
abbrev cX5_init : ByteArray := prog_7_method_1_code
def yX5_init : MethodName := ⟨RX5, "<init>", "()V"⟩
abbrev cX5_become : ByteArray := prog_7_method_2_code
def yX5_become : MethodName := ⟨RX5, "become", "(LBackYear$Year;)V"⟩
abbrev cX5_clear : ByteArray := prog_7_method_3_code
def yX5_clear : MethodName := ⟨RX5, "clear", "()V"⟩
abbrev cX5_add : ByteArray := prog_7_method_4_code
def yX5_add : MethodName := ⟨RX5, "add", "(III)Z"⟩
abbrev cX5_beginNext : ByteArray := prog_7_method_5_code
def yX5_beginNext : MethodName := ⟨RX5, "beginNext", "()V"⟩
abbrev cX5_has : ByteArray := prog_7_method_6_code
def yX5_has : MethodName := ⟨RX5, "has", "(I)Z"⟩
abbrev cX5_isPerson : ByteArray := prog_7_method_7_code
def yX5_isPerson : MethodName := ⟨RX5, "isPerson", "(I)Z"⟩
abbrev cX5_all : ByteArray := prog_7_method_8_code
def yX5_all : MethodName := ⟨RX5, "all", "()I"⟩
abbrev cX5_ofDay : ByteArray := prog_7_method_9_code
def yX5_ofDay : MethodName := ⟨RX5, "ofDay", "(I)I"⟩
abbrev cX5_needable : ByteArray := prog_7_method_10_code
def yX5_needable : MethodName := ⟨RX5, "needable", "(II)I"⟩
abbrev cX5_worthTo : ByteArray := prog_7_method_11_code
def yX5_worthTo : MethodName := ⟨RX5, "worthTo", "(II)I"⟩
abbrev cX5_worthToAll : ByteArray := prog_7_method_12_code
def yX5_worthToAll : MethodName := ⟨RX5, "worthToAll", "(I)I"⟩
abbrev cX5_wouldStand : ByteArray := prog_7_method_13_code
def yX5_wouldStand : MethodName := ⟨RX5, "wouldStand", "(II)Z"⟩
abbrev cX5_isMet : ByteArray := prog_7_method_14_code
def yX5_isMet : MethodName := ⟨RX5, "isMet", "(III)Z"⟩
abbrev cX5_standing : ByteArray := prog_7_method_15_code
def yX5_standing : MethodName := ⟨RX5, "standing", "(I)I"⟩
abbrev cX5_bearer : ByteArray := prog_7_method_16_code
def yX5_bearer : MethodName := ⟨RX5, "bearer", "(I)I"⟩
abbrev cX5_valueBy : ByteArray := prog_7_method_17_code
def yX5_valueBy : MethodName := ⟨RX5, "valueBy", "(II)I"⟩
abbrev cX5_sumBy : ByteArray := prog_7_method_18_code
def yX5_sumBy : MethodName := ⟨RX5, "sumBy", "(I)I"⟩
abbrev cX5_valueOf : ByteArray := prog_7_method_19_code
def yX5_valueOf : MethodName := ⟨RX5, "valueOf", "(III)I"⟩
def RX6 : String := "BackYear"
def TX6 : u_T := fun k => match k with
  | 0 => ("BackYear", "now", "LBackYear$Year;", true)
  | 1 => ("BackYear", "kept", "LBackYear$Year;", true)
  | 2 => ("BackYear", "draft", "LBackYear$Year;", true)
  | 3 => ("BackYear", "tape", "LBackYear$Tape;", true)
  | 4 => ("BackYear", "sheets", "LBackYear$Sheets;", true)
  | 5 => ("BackYear", "begun", "[I", true)
  | 6 => ("BackYear", "toldYears", "[I", true)
  | 7 => ("BackYear", "dues", "[I", true)
  | _ => ("BackYear", "imaged", "Z", false)
def tyX6 : Nat → FieldType := fun k => match k with
  | 0 => .object "BackYear$Year"
  | 1 => .object "BackYear$Year"
  | 2 => .object "BackYear$Year"
  | 3 => .object "BackYear$Tape"
  | 4 => .object "BackYear$Sheets"
  | 5 => .array .int
  | 6 => .array .int
  | 7 => .array .int
  | _ => .boolean
theorem nmX6 : ∀ a, a < 9 → ∀ b, b < 9 → a ≠ b → (TX6 a).2.1 ≠ (TX6 b).2.1 := by decide +kernel
theorem tyX6_ok : ∀ k, k < 9 → parseFieldDescriptor (TX6 k).2.2.1 = some (tyX6 k) := by decide +kernel
abbrev cX6_init : ByteArray := prog_1_method_1_code
def yX6_init : MethodName := ⟨RX6, "<init>", "()V"⟩
abbrev cX6_people : ByteArray := prog_1_method_2_code
def yX6_people : MethodName := ⟨RX6, "people", "(I)I"⟩
abbrev cX6_deed : ByteArray := prog_1_method_3_code
def yX6_deed : MethodName := ⟨RX6, "deed", "(III)I"⟩
abbrev cX6_told : ByteArray := prog_1_method_4_code
def yX6_told : MethodName := ⟨RX6, "told", "(II)I"⟩
abbrev cX6_set : ByteArray := prog_1_method_5_code
def yX6_set : MethodName := ⟨RX6, "set", "(III)I"⟩
abbrev cX6_worth : ByteArray := prog_1_method_6_code
def yX6_worth : MethodName := ⟨RX6, "worth", "(III)I"⟩
abbrev cX6_worthOf : ByteArray := prog_1_method_7_code
def yX6_worthOf : MethodName := ⟨RX6, "worthOf", "(II)I"⟩
abbrev cX6_last : ByteArray := prog_1_method_8_code
def yX6_last : MethodName := ⟨RX6, "last", "(I)I"⟩
abbrev cX6_type : ByteArray := prog_1_method_9_code
def yX6_type : MethodName := ⟨RX6, "type", "(I)I"⟩
abbrev cX6_text : ByteArray := prog_1_method_10_code
def yX6_text : MethodName := ⟨RX6, "text", "()I"⟩
abbrev cX6_count : ByteArray := prog_1_method_11_code
def yX6_count : MethodName := ⟨RX6, "count", "(I)I"⟩
abbrev cX6_right : ByteArray := prog_1_method_12_code
def yX6_right : MethodName := ⟨RX6, "right", "(I)I"⟩
abbrev cX6_back : ByteArray := prog_1_method_13_code
def yX6_back : MethodName := ⟨RX6, "back", "()I"⟩
abbrev cX6_year : ByteArray := prog_1_method_14_code
def yX6_year : MethodName := ⟨RX6, "year", "()I"⟩
abbrev cX6_value : ByteArray := prog_1_method_15_code
def yX6_value : MethodName := ⟨RX6, "value", "(I)I"⟩
abbrev cX6_bears : ByteArray := prog_1_method_16_code
def yX6_bears : MethodName := ⟨RX6, "bears", "(I)I"⟩
abbrev cX6_best : ByteArray := prog_1_method_17_code
def yX6_best : MethodName := ⟨RX6, "best", "(III)I"⟩
abbrev cX6_wanted : ByteArray := prog_1_method_18_code
def yX6_wanted : MethodName := ⟨RX6, "wanted", "(II)I"⟩
abbrev cX6_self : ByteArray := prog_1_method_19_code
def yX6_self : MethodName := ⟨RX6, "self", "()I"⟩
abbrev cX6_turn : ByteArray := prog_1_method_20_code
def yX6_turn : MethodName := ⟨RX6, "turn", "(I)I"⟩
abbrev cX6_bargain : ByteArray := prog_1_method_21_code
def yX6_bargain : MethodName := ⟨RX6, "bargain", "(IIII)I"⟩
abbrev cX6_due : ByteArray := prog_1_method_22_code
def yX6_due : MethodName := ⟨RX6, "due", "(I)I"⟩
abbrev cX6_payments : ByteArray := prog_1_method_23_code
def yX6_payments : MethodName := ⟨RX6, "payments", "()I"⟩
abbrev cX6_forgotten : ByteArray := prog_1_method_24_code
def yX6_forgotten : MethodName := ⟨RX6, "forgotten", "(III)I"⟩
abbrev cX6_upper : ByteArray := prog_1_method_25_code
def yX6_upper : MethodName := ⟨RX6, "upper", "()J"⟩
abbrev cX6_lower : ByteArray := prog_1_method_26_code
def yX6_lower : MethodName := ⟨RX6, "lower", "()J"⟩
abbrev cX6_comes : ByteArray := prog_1_method_27_code
def yX6_comes : MethodName := ⟨RX6, "comes", "(II)I"⟩
abbrev cX6_image : ByteArray := prog_1_method_28_code
def yX6_image : MethodName := ⟨RX6, "image", "()I"⟩
abbrev cX6_restore : ByteArray := prog_1_method_29_code
def yX6_restore : MethodName := ⟨RX6, "restore", "()I"⟩
abbrev cX6_judged : ByteArray := prog_1_method_30_code
def yX6_judged : MethodName := ⟨RX6, "judged", "(III)I"⟩
abbrev cX6_net : ByteArray := prog_1_method_31_code
def yX6_net : MethodName := ⟨RX6, "net", "(IIIIII)I"⟩
abbrev cX6_film : ByteArray := prog_1_method_32_code
def yX6_film : MethodName := ⟨RX6, "film", "(III)I"⟩
abbrev cX6_sheet : ByteArray := prog_1_method_33_code
def yX6_sheet : MethodName := ⟨RX6, "sheet", "(III)I"⟩
abbrev cX6_drop : ByteArray := prog_1_method_34_code
def yX6_drop : MethodName := ⟨RX6, "drop", "(I)I"⟩
abbrev cX6_item : ByteArray := prog_1_method_35_code
def yX6_item : MethodName := ⟨RX6, "item", "(IIIJ)I"⟩
abbrev cX6_copy : ByteArray := prog_1_method_36_code
def yX6_copy : MethodName := ⟨RX6, "copy", "(IIIII)I"⟩
abbrev cX6_takeToldYears : ByteArray := prog_1_method_37_code
def yX6_takeToldYears : MethodName := ⟨RX6, "takeToldYears", "(III)Z"⟩
abbrev cX6_isDay : ByteArray := prog_1_method_38_code
def yX6_isDay : MethodName := ⟨RX6, "isDay", "(I)Z"⟩
abbrev cX6_isEverPerson : ByteArray := prog_1_method_39_code
def yX6_isEverPerson : MethodName := ⟨RX6, "isEverPerson", "(I)Z"⟩
abbrev cX6_isWalkLength : ByteArray := prog_1_method_40_code
def yX6_isWalkLength : MethodName := ⟨RX6, "isWalkLength", "(I)Z"⟩
abbrev cX6_isChoice : ByteArray := prog_1_method_41_code
def yX6_isChoice : MethodName := ⟨RX6, "isChoice", "(I)Z"⟩
abbrev cX6_isSheet : ByteArray := prog_1_method_42_code
def yX6_isSheet : MethodName := ⟨RX6, "isSheet", "(I)Z"⟩
abbrev cX6_isLane : ByteArray := prog_1_method_43_code
def yX6_isLane : MethodName := ⟨RX6, "isLane", "(I)Z"⟩
abbrev cX6_isIn : ByteArray := prog_1_method_44_code
def yX6_isIn : MethodName := ⟨RX6, "isIn", "(II)Z"⟩
abbrev cX6_isOneOf : ByteArray := prog_1_method_45_code
def yX6_isOneOf : MethodName := ⟨RX6, "isOneOf", "(JI)Z"⟩
abbrev cX6_isWithin : ByteArray := prog_1_method_46_code
def yX6_isWithin : MethodName := ⟨RX6, "isWithin", "(II)Z"⟩
def RX7 : String := "BackYearModel"
def TX7 : u_T := fun k => match k with
  | 0 => ("BackYearModel", "people", "I", false)
  | 1 => ("BackYearModel", "deeds", "I", false)
  | 2 => ("BackYearModel", "kinds", "[I", true)
  | 3 => ("BackYearModel", "days", "[I", true)
  | 4 => ("BackYearModel", "needs", "[I", true)
  | 5 => ("BackYearModel", "costs", "[I", true)
  | 6 => ("BackYearModel", "odds", "[I", true)
  | 7 => ("BackYearModel", "worths", "[I", true)
  | 8 => ("BackYearModel", "last", "I", false)
  | 9 => ("BackYearModel", "righted", "I", false)
  | 10 => ("BackYearModel", "day", "I", false)
  | 11 => ("BackYearModel", "years", "I", false)
  | 12 => ("BackYearModel", "tape", "[I", true)
  | 13 => ("BackYearModel", "taped", "I", false)
  | 14 => ("BackYearModel", "at", "I", false)
  | 15 => ("BackYearModel", "wrong", "Z", false)
  | 16 => ("BackYearModel", "readDeeds", "I", false)
  | 17 => ("BackYearModel", "readKinds", "[I", true)
  | 18 => ("BackYearModel", "readDays", "[I", true)
  | 19 => ("BackYearModel", "readNeeds", "[I", true)
  | 20 => ("BackYearModel", "values", "[I", true)
  | 21 => ("BackYearModel", "sum", "I", false)
  | 22 => ("BackYearModel", "base", "[I", true)
  | 23 => ("BackYearModel", "bestSum", "I", false)
  | 24 => ("BackYearModel", "chosen", "[I", true)
  | 25 => ("BackYearModel", "tries", "[I", true)
  | 26 => ("BackYearModel", "ends", "[I", true)
  | 27 => ("BackYearModel", "dues", "[I", true)
  | 28 => ("BackYearModel", "upper", "J", false)
  | 29 => ("BackYearModel", "lower", "J", false)
  | 30 => ("BackYearModel", "olds", "[I", true)
  | 31 => ("BackYearModel", "image", "[I", true)
  | 32 => ("BackYearModel", "isImage", "Z", false)
  | 33 => ("BackYearModel", "lanes", "[I", true)
  | 34 => ("BackYearModel", "sizes", "[I", true)
  | 35 => ("BackYearModel", "items", "[J", true)
  | _ => ("BackYearModel", "moved", "[J", true)
def tyX7 : Nat → FieldType := fun k => match k with
  | 0 => .int
  | 1 => .int
  | 2 => .array .int
  | 3 => .array .int
  | 4 => .array .int
  | 5 => .array .int
  | 6 => .array .int
  | 7 => .array .int
  | 8 => .int
  | 9 => .int
  | 10 => .int
  | 11 => .int
  | 12 => .array .int
  | 13 => .int
  | 14 => .int
  | 15 => .boolean
  | 16 => .int
  | 17 => .array .int
  | 18 => .array .int
  | 19 => .array .int
  | 20 => .array .int
  | 21 => .int
  | 22 => .array .int
  | 23 => .int
  | 24 => .array .int
  | 25 => .array .int
  | 26 => .array .int
  | 27 => .array .int
  | 28 => .long
  | 29 => .long
  | 30 => .array .int
  | 31 => .array .int
  | 32 => .boolean
  | 33 => .array .int
  | 34 => .array .int
  | 35 => .array .long
  | _ => .array .long
theorem nmX7 : ∀ a, a < 37 → ∀ b, b < 37 → a ≠ b → (TX7 a).2.1 ≠ (TX7 b).2.1 := by decide +kernel
theorem tyX7_ok : ∀ k, k < 37 → parseFieldDescriptor (TX7 k).2.2.1 = some (tyX7 k) := by decide +kernel
abbrev cX7_in : ByteArray := prog_9_method_2_code
def yX7_in : MethodName := ⟨RX7, "in", "(JJJ)Z"⟩
abbrev cX7_init : ByteArray := prog_9_method_3_code
def yX7_init : MethodName := ⟨RX7, "<init>", "()V"⟩
abbrev cX7_isDeed : ByteArray := prog_9_method_4_code
def yX7_isDeed : MethodName := ⟨RX7, "isDeed", "(J)Z"⟩
abbrev cX7_isOne : ByteArray := prog_9_method_5_code
def yX7_isOne : MethodName := ⟨RX7, "isOne", "(I)Z"⟩
abbrev cX7_areDeeds : ByteArray := prog_9_method_6_code
def yX7_areDeeds : MethodName := ⟨RX7, "areDeeds", "(J)Z"⟩
abbrev cX7_people : ByteArray := prog_9_method_7_code
def yX7_people : MethodName := ⟨RX7, "people", "(I)I"⟩
abbrev cX7_ahead : ByteArray := prog_9_method_8_code
def yX7_ahead : MethodName := ⟨RX7, "ahead", "(II[I)I"⟩
abbrev cX7_adds : ByteArray := prog_9_method_9_code
def yX7_adds : MethodName := ⟨RX7, "adds", "(III)V"⟩
abbrev cX7_deed : ByteArray := prog_9_method_10_code
def yX7_deed : MethodName := ⟨RX7, "deed", "(III)I"⟩
abbrev cX7_is : ByteArray := prog_9_method_11_code
def yX7_is : MethodName := ⟨RX7, "is", "(III)Z"⟩
abbrev cX7_stands : ByteArray := prog_9_method_12_code
def yX7_stands : MethodName := ⟨RX7, "stands", "(II)I"⟩
abbrev cX7_told : ByteArray := prog_9_method_13_code
def yX7_told : MethodName := ⟨RX7, "told", "(II)I"⟩
abbrev cX7_set : ByteArray := prog_9_method_14_code
def yX7_set : MethodName := ⟨RX7, "set", "(III)I"⟩
abbrev cX7_worth : ByteArray := prog_9_method_15_code
def yX7_worth : MethodName := ⟨RX7, "worth", "(III)I"⟩
abbrev cX7_worthOf : ByteArray := prog_9_method_16_code
def yX7_worthOf : MethodName := ⟨RX7, "worthOf", "(II)I"⟩
abbrev cX7_last : ByteArray := prog_9_method_17_code
def yX7_last : MethodName := ⟨RX7, "last", "(I)I"⟩
abbrev cX7_count : ByteArray := prog_9_method_18_code
def yX7_count : MethodName := ⟨RX7, "count", "(I)I"⟩
abbrev cX7_type : ByteArray := prog_9_method_19_code
def yX7_type : MethodName := ⟨RX7, "type", "(I)I"⟩
abbrev cX7_here : ByteArray := prog_9_method_20_code
def yX7_here : MethodName := ⟨RX7, "here", "()I"⟩
abbrev cX7_readDeed : ByteArray := prog_9_method_21_code
def yX7_readDeed : MethodName := ⟨RX7, "readDeed", "()V"⟩
abbrev cX7_text : ByteArray := prog_9_method_22_code
def yX7_text : MethodName := ⟨RX7, "text", "()I"⟩
abbrev cX7_ofDay : ByteArray := prog_9_method_23_code
def yX7_ofDay : MethodName := ⟨RX7, "ofDay", "(I)I"⟩
abbrev cX7_right : ByteArray := prog_9_method_24_code
def yX7_right : MethodName := ⟨RX7, "right", "(I)I"⟩
abbrev cX7_back : ByteArray := prog_9_method_25_code
def yX7_back : MethodName := ⟨RX7, "back", "()I"⟩
abbrev cX7_size : ByteArray := prog_9_method_26_code
def yX7_size : MethodName := ⟨RX7, "size", "(I)I"⟩
abbrev cX7_year : ByteArray := prog_9_method_27_code
def yX7_year : MethodName := ⟨RX7, "year", "()I"⟩
abbrev cX7_bearer : ByteArray := prog_9_method_28_code
def yX7_bearer : MethodName := ⟨RX7, "bearer", "(I)I"⟩
abbrev cX7_bears : ByteArray := prog_9_method_29_code
def yX7_bears : MethodName := ⟨RX7, "bears", "(I)I"⟩
abbrev cX7_counts : ByteArray := prog_9_method_30_code
def yX7_counts : MethodName := ⟨RX7, "counts", "(II)V"⟩
abbrev cX7_value : ByteArray := prog_9_method_31_code
def yX7_value : MethodName := ⟨RX7, "value", "(I)I"⟩
abbrev cX7_isWalk : ByteArray := prog_9_method_32_code
def yX7_isWalk : MethodName := ⟨RX7, "isWalk", "(II)Z"⟩
abbrev cX7_bestOf : ByteArray := prog_9_method_33_code
def yX7_bestOf : MethodName := ⟨RX7, "bestOf", "(IZI)I"⟩
abbrev cX7_best : ByteArray := prog_9_method_34_code
def yX7_best : MethodName := ⟨RX7, "best", "(III)I"⟩
abbrev cX7_wanted : ByteArray := prog_9_method_35_code
def yX7_wanted : MethodName := ⟨RX7, "wanted", "(II)I"⟩
abbrev cX7_own : ByteArray := prog_9_method_36_code
def yX7_own : MethodName := ⟨RX7, "own", "(II)I"⟩
abbrev cX7_plays : ByteArray := prog_9_method_37_code
def yX7_plays : MethodName := ⟨RX7, "plays", "(I)I"⟩
abbrev cX7_self : ByteArray := prog_9_method_38_code
def yX7_self : MethodName := ⟨RX7, "self", "()I"⟩
abbrev cX7_turn : ByteArray := prog_9_method_39_code
def yX7_turn : MethodName := ⟨RX7, "turn", "(I)I"⟩
abbrev cX7_bargain : ByteArray := prog_9_method_40_code
def yX7_bargain : MethodName := ⟨RX7, "bargain", "(IIII)I"⟩
abbrev cX7_owes : ByteArray := prog_9_method_41_code
def yX7_owes : MethodName := ⟨RX7, "owes", "()V"⟩
abbrev cX7_due : ByteArray := prog_9_method_42_code
def yX7_due : MethodName := ⟨RX7, "due", "(I)I"⟩
abbrev cX7_isZero : ByteArray := prog_9_method_43_code
def yX7_isZero : MethodName := ⟨RX7, "isZero", "(I)Z"⟩
abbrev cX7_payments : ByteArray := prog_9_method_44_code
def yX7_payments : MethodName := ⟨RX7, "payments", "()I"⟩
abbrev cX7_forgotten : ByteArray := prog_9_method_45_code
def yX7_forgotten : MethodName := ⟨RX7, "forgotten", "(III)I"⟩
abbrev cX7_expects : ByteArray := prog_9_method_46_code
def yX7_expects : MethodName := ⟨RX7, "expects", "()V"⟩
abbrev cX7_upper : ByteArray := prog_9_method_47_code
def yX7_upper : MethodName := ⟨RX7, "upper", "()J"⟩
abbrev cX7_lower : ByteArray := prog_9_method_48_code
def yX7_lower : MethodName := ⟨RX7, "lower", "()J"⟩
abbrev cX7_comes : ByteArray := prog_9_method_49_code
def yX7_comes : MethodName := ⟨RX7, "comes", "(II)I"⟩
abbrev cX7_notes : ByteArray := prog_9_method_50_code
def yX7_notes : MethodName := ⟨RX7, "notes", "([II)I"⟩
abbrev cX7_gives : ByteArray := prog_9_method_51_code
def yX7_gives : MethodName := ⟨RX7, "gives", "(I[I)I"⟩
abbrev cX7_image : ByteArray := prog_9_method_52_code
def yX7_image : MethodName := ⟨RX7, "image", "()I"⟩
abbrev cX7_restore : ByteArray := prog_9_method_53_code
def yX7_restore : MethodName := ⟨RX7, "restore", "()I"⟩
abbrev cX7_isSheet : ByteArray := prog_9_method_54_code
def yX7_isSheet : MethodName := ⟨RX7, "isSheet", "(I)Z"⟩
abbrev cX7_isLane : ByteArray := prog_9_method_55_code
def yX7_isLane : MethodName := ⟨RX7, "isLane", "(I)Z"⟩
abbrev cX7_why : ByteArray := prog_9_method_56_code
def yX7_why : MethodName := ⟨RX7, "why", "(IIII)I"⟩
abbrev cX7_judged : ByteArray := prog_9_method_57_code
def yX7_judged : MethodName := ⟨RX7, "judged", "(III)I"⟩
abbrev cX7_net : ByteArray := prog_9_method_58_code
def yX7_net : MethodName := ⟨RX7, "net", "(IIIIII)I"⟩
abbrev cX7_puts : ByteArray := prog_9_method_59_code
def yX7_puts : MethodName := ⟨RX7, "puts", "(IIJ)V"⟩
abbrev cX7_film : ByteArray := prog_9_method_60_code
def yX7_film : MethodName := ⟨RX7, "film", "(III)I"⟩
abbrev cX7_sheet : ByteArray := prog_9_method_61_code
def yX7_sheet : MethodName := ⟨RX7, "sheet", "(III)I"⟩
abbrev cX7_drop : ByteArray := prog_9_method_62_code
def yX7_drop : MethodName := ⟨RX7, "drop", "(I)I"⟩
abbrev cX7_item : ByteArray := prog_9_method_63_code
def yX7_item : MethodName := ⟨RX7, "item", "(IIIJ)I"⟩
abbrev cX7_copy : ByteArray := prog_9_method_64_code
def yX7_copy : MethodName := ⟨RX7, "copy", "(IIIII)I"⟩
def RJ6 : String := "java/lang/Integer"
def TJ6 : u_T := fun k => match k with
  | _ => ("", "", "", false)
def tyJ6 : Nat → FieldType := fun k => match k with
  | _ => .int
theorem nmJ6 : ∀ a, a < 0 → ∀ b, b < 0 → a ≠ b → (TJ6 a).2.1 ≠ (TJ6 b).2.1 := by decide +kernel
theorem tyJ6_ok : ∀ k, k < 0 → parseFieldDescriptor (TJ6 k).2.2.1 = some (tyJ6 k) := by decide +kernel
abbrev cJ6_bitCount_0f7a4 : ByteArray := prog_10_method_49_code
def yJ6_bitCount_0f7a4 : MethodName := ⟨RJ6, "bitCount", "(I)I"⟩
def RJ9 : String := "java/lang/Math"
def TJ9 : u_T := fun k => match k with
  | _ => ("", "", "", false)
def tyJ9 : Nat → FieldType := fun k => match k with
  | _ => .int
theorem nmJ9 : ∀ a, a < 0 → ∀ b, b < 0 → a ≠ b → (TJ9 a).2.1 ≠ (TJ9 b).2.1 := by decide +kernel
theorem tyJ9_ok : ∀ k, k < 0 → parseFieldDescriptor (TJ9 k).2.2.1 = some (tyJ9 k) := by decide +kernel
abbrev cJ9_max_7cf53 : ByteArray := prog_11_method_65_code
def yJ9_max_7cf53 : MethodName := ⟨RJ9, "max", "(II)I"⟩
def RJ10 : String := "java/lang/System"
def TJ10 : u_T := fun k => match k with
  | _ => ("", "", "", false)
def tyJ10 : Nat → FieldType := fun k => match k with
  | _ => .int
theorem nmJ10 : ∀ a, a < 0 → ∀ b, b < 0 → a ≠ b → (TJ10 a).2.1 ≠ (TJ10 b).2.1 := by decide +kernel
theorem tyJ10_ok : ∀ k, k < 0 → parseFieldDescriptor (TJ10 k).2.2.1 = some (tyJ10 k) := by decide +kernel
def RL : String := "BackYearLaw"
abbrev cL_law : ByteArray := code
def yL_law : MethodName := ⟨RL, "law", "([I)Z"⟩
end
section
def isNest : Cond → Bool
  | .fieldLinkNest .. => true
  | .methodLinkNest .. => true
  | _ => false
def gw (w : Cond) : Bool := goodWord w || isNest w
/-- the words of the tables that last -/
def TBL : List Cond := lw_tbl.filter gw
theorem tbl_of {args : Array Value} {s : State} (h : ∀ w ∈ lw_tbl, w.before args s = true) : ∀ w ∈ TBL, w.before args s = true := fun w hw => h w (List.mem_filter.mp hw).1
theorem tbl_sel {w : Cond} (i : Nat) (h : (k2_sels lw_privs)[i]? = some w) (hg : gw w = true) : w ∈ TBL := List.mem_filter.mpr ⟨List.mem_append_left _ (List.mem_of_getElem? h), hg⟩
theorem tbl_tab {w : Cond} (i : Nat) (h : tables_1[i]? = some w) (hg : gw w = true) : w ∈ TBL := List.mem_filter.mpr ⟨List.mem_append_right _ (List.mem_of_getElem? h), hg⟩
set_option maxHeartbeats 4000000 in
theorem warm_of {args : Array Value} {s : State} (h : ∀ w ∈ TBL, w.before args s = true) : ∀ w ∈ TBL, ∀ (a' : Array Value) (U : State), s.WarmedH U.vm → w.before a' U = true := by
  intro w hw a' U hW
  have h1 := h w hw
  have h2 : gw w = true := (List.mem_filter.mp hw).2
  have h3 : goodWord w = true ∨ isNest w = true := by
    cases hg : goodWord w with
    | true => exact Or.inl rfl
    | false => exact Or.inr (by unfold gw at h2; rw [hg] at h2; exact h2)
  rcases h3 with h3 | h3
  · exact word_at hW (good_of_word h3) h1
  · cases w <;> first | exact va_Nw.use rfl (va_Nw.warmF hW (va_Nw.of rfl h1)) | exact va_Nw.use rfl (va_Nw.warmM hW (va_Nw.of rfl h1)) | exact Bool.noConfusion h3
/-- the classes whose objects the worlds hold -/
abbrev classes : List vw_C := [(RX5, TX5, 12), (RX3, TX3, 4), (RX2, TX2, 3), (RX6, TX6, 9), (RX7, TX7, 37)]
abbrev tysD (D : va_G) : List (ClassId × FieldType) := [(D.1 10, .int), (D.1 11, .long), (D.1 12, .char)]
def Cx (p : Program) (s : State) (m : MethodId) (args : Array Value) (meth : Method) (c : Code) (cc : ByteArray) (own : String) (nL : Nat) (ret : Option FieldType) (D : va_G) : Prop :=
  p.tables.exec = Jvm.exec ∧ c.code = cc ∧ (∀ w ∈ TBL, w.before args s = true) ∧ s.vm.findClass own = some m.cls ∧ c.maxLocals = nL ∧ va_K D classes (tysD D) s ∧ meth.sig.returnType = ret ∧ meth.locks = false
def G (p : Program) (l : Launch) (e : Env) (R : Room) (s : State) (m : MethodId) (args : Array Value) (below : List Frame) (meth : Method) (c : Code) (D : va_G) (H0 : Heap) (A : Nat → Prop) (nL : Nat) (Q : State → Prop) (ws : va_W) (pc : Nat) (lv : List (Nat × Value)) (st : List Value) : Prop :=
  ∀ (H : Heap) (locs : List Loc) (ls : Array Slot), va_P D classes ws H → va_S A H0 H locs → lv_has ls nL lv → W p l e R s m args below meth c H locs 0 0 Q (F0 m pc ls st)
/-- the addresses of a world -/
def Ad (ws : va_W) : Nat → Prop := fun q => ∃ (k : Nat) (e : va_E), ws[k]? = some (q, e)
/-- a contract: from the world ws to the world ws1, the answer rv, no cell outside A touched -/
def ct (l : Launch) (y : MethodName) (b : ByteArray) (nL : Nat) (ret : Option FieldType) (fr lo : Nat) (D : va_G) (av : List Value) (ws ws1 : va_W) (A : Nat → Prop) (rv : Option Value) : Prop :=
  Met l y (Cond.code y b nL ret :: TBL) { frames := fr, cells := 0, slots := 0, locals := lo } (va_Pc av (fun U => va_P D classes ws U.heap ∧ va_K D classes (tysD D) U)) (fun _ st o t => o = .returned rv ∧ va_P D classes ws1 t.heap ∧ va_F A st t) 0 0 A
theorem ct_intro {l : Launch} {y : MethodName} {b : ByteArray} {nL : Nat} {ret : Option FieldType} {fr lo : Nat} {D : va_G} {av : List Value} {ws ws1 : va_W} {A : Nat → Prop} {rv : Option Value} {own : String} {lv : List (Nat × Value)}
    (hplain : plainName y.cls = true) (hown : y.cls = own) (hn : (lg_sl av).length ≤ nL) (hlv : lv_args 0 av = lv)
    (body : ∀ (p : Program) (e : Env) (s : State) (m : MethodId) (below : List Frame) (meth : Method) (c : Code), Cx p s m av.toArray meth c b own nL ret D →
      G p l e { frames := fr, cells := 0, slots := 0, locals := lo } s m av.toArray below meth c D s.heap A nL (MQ below (fun _ st o t => o = .returned rv ∧ va_P D classes ws1 t.heap ∧ va_F A st t) av.toArray s 0 0 A) ws 0 lv []) :
    ct l y b nL ret fr lo D av ws ws1 A rv := by
  refine Met.ofW (cc := b) (maxL := nL) (ret := ret) hplain rfl ?_
  intro p e s m args below meth c s₁ B hml hv
  obtain ⟨rfl, hP, hK⟩ := hv
  have hts := atoms_spec (ws := Cond.code y b nL ret :: TBL) B.pre
  have hown2 : s.vm.findClass own = some m.cls := by rw [← hown]; exact findClass_of_methodNamed B.named
  have hl := lv_entry av (n := nL) hn
  rw [hlv] at hl
  rw [lg_entry_eq]
  exact body p e s m below meth c ⟨B.exec, B.bytes, fun w hw => hts w (List.mem_cons_of_mem _ hw), hown2, hml, hK, B.returns, B.notSynchronized⟩ s.heap [] _ hP va_S.rf hl
end
section
section GR
variable {p : Program} {l : Launch} {e : Env} {R : Room} {s : State} {m : MethodId} {args : Array Value} {below : List Frame} {meth : Method} {c : Code} {D : va_G} {H0 : Heap} {A : Nat → Prop} {nL : Nat} {Q : State → Prop} {ws : va_W} {pc : Nat} {lv : List (Nat × Value)} {st : List Value} {cc : ByteArray} {own : String} {ret : Option FieldType}
theorem r_ic (C : Cx p s m args meth c cc own nL ret D) {n : Int} {v : Int32} (hdg : decode cc pc = .ok (.iconst n, 1)) (hv : Int32.ofInt n = v) (k : G p l e R s m args below meth c D H0 A nL Q ws (pc + 1) lv (.int v :: st)) : G p l e R s m args below meth c D H0 A nL Q ws pc lv st :=
  fun H locs ls hP hS hl => lv_iconst C.1 C.2.1 hdg hv (k H locs ls hP hS hl)
theorem r_bp (C : Cx p s m args meth c cc own nL ret D) {n : Int} {v : Int32} (hdg : decode cc pc = .ok (.bipush n, 2)) (hv : (Int8.ofInt n).toInt32 = v) (k : G p l e R s m args below meth c D H0 A nL Q ws (pc + 2) lv (.int v :: st)) : G p l e R s m args below meth c D H0 A nL Q ws pc lv st :=
  fun H locs ls hP hS hl => lv_bipush C.1 C.2.1 hdg hv (k H locs ls hP hS hl)
theorem r_sp (C : Cx p s m args meth c cc own nL ret D) {n : Int} {v : Int32} (hdg : decode cc pc = .ok (.sipush n, 3)) (hv : (Int16.ofInt n).toInt32 = v) (k : G p l e R s m args below meth c D H0 A nL Q ws (pc + 3) lv (.int v :: st)) : G p l e R s m args below meth c D H0 A nL Q ws pc lv st :=
  fun H locs ls hP hS hl => lv_sipush C.1 C.2.1 hdg hv (k H locs ls hP hS hl)
theorem r_lc (C : Cx p s m args meth c cc own nL ret D) {n : Fin 2} {v : Int64} (hdg : decode cc pc = .ok (.lconst n, 1)) (hv : Int64.ofNat (n : Nat) = v) (k : G p l e R s m args below meth c D H0 A nL Q ws (pc + 1) lv (.long v :: st)) : G p l e R s m args below meth c D H0 A nL Q ws pc lv st :=
  fun H locs ls hP hS hl => lv_lconst C.1 C.2.1 hdg hv (k H locs ls hP hS hl)
theorem r_iln (C : Cx p s m args meth c cc own nL ret D) {k : Fin 4} {i : Nat} {x : Int32} (hdg : decode cc pc = .ok (.iload_n k, 1)) (hi : (k : Nat) = i) (q : Nat) (hq : lv[q]? = some (i, .int x)) (kk : G p l e R s m args below meth c D H0 A nL Q ws (pc + 1) lv (.int x :: st)) : G p l e R s m args below meth c D H0 A nL Q ws pc lv st :=
  fun H locs ls hP hS hl => lv_iload_n C.1 C.2.1 hdg hi (lv_at hl q hq) (kk H locs ls hP hS hl)
theorem r_il (C : Cx p s m args meth c cc own nL ret D) {i : Nat} {x : Int32} (hdg : decode cc pc = .ok (.iload i, 2)) (q : Nat) (hq : lv[q]? = some (i, .int x)) (kk : G p l e R s m args below meth c D H0 A nL Q ws (pc + 2) lv (.int x :: st)) : G p l e R s m args below meth c D H0 A nL Q ws pc lv st :=
  fun H locs ls hP hS hl => lv_iload C.1 C.2.1 hdg (lv_at hl q hq) (kk H locs ls hP hS hl)
theorem r_lln (C : Cx p s m args meth c cc own nL ret D) {k : Fin 4} {i : Nat} {x : Int64} (hdg : decode cc pc = .ok (.lload_n k, 1)) (hi : (k : Nat) = i) (q : Nat) (hq : lv[q]? = some (i, .long x)) (kk : G p l e R s m args below meth c D H0 A nL Q ws (pc + 1) lv (.long x :: st)) : G p l e R s m args below meth c D H0 A nL Q ws pc lv st :=
  fun H locs ls hP hS hl => lv_lload_n C.1 C.2.1 hdg hi (lv_at hl q hq) (kk H locs ls hP hS hl)
theorem r_ll (C : Cx p s m args meth c cc own nL ret D) {i : Nat} {x : Int64} (hdg : decode cc pc = .ok (.lload i, 2)) (q : Nat) (hq : lv[q]? = some (i, .long x)) (kk : G p l e R s m args below meth c D H0 A nL Q ws (pc + 2) lv (.long x :: st)) : G p l e R s m args below meth c D H0 A nL Q ws pc lv st :=
  fun H locs ls hP hS hl => lv_lload C.1 C.2.1 hdg (lv_at hl q hq) (kk H locs ls hP hS hl)
theorem r_aln (C : Cx p s m args meth c cc own nL ret D) {k : Fin 4} {i : Nat} {x : Nat} (hdg : decode cc pc = .ok (.aload_n k, 1)) (hi : (k : Nat) = i) (q : Nat) (hq : lv[q]? = some (i, .ref x)) (kk : G p l e R s m args below meth c D H0 A nL Q ws (pc + 1) lv (.ref x :: st)) : G p l e R s m args below meth c D H0 A nL Q ws pc lv st :=
  fun H locs ls hP hS hl => lv_aload_n C.1 C.2.1 hdg hi (lv_at hl q hq) (kk H locs ls hP hS hl)
theorem r_al (C : Cx p s m args meth c cc own nL ret D) {i : Nat} {x : Nat} (hdg : decode cc pc = .ok (.aload i, 2)) (q : Nat) (hq : lv[q]? = some (i, .ref x)) (kk : G p l e R s m args below meth c D H0 A nL Q ws (pc + 2) lv (.ref x :: st)) : G p l e R s m args below meth c D H0 A nL Q ws pc lv st :=
  fun H locs ls hP hS hl => lv_aload C.1 C.2.1 hdg (lv_at hl q hq) (kk H locs ls hP hS hl)
theorem r_isn (C : Cx p s m args meth c cc own nL ret D) {k : Fin 4} {i : Nat} {x : Int32} {lv' : List (Nat × Value)} (hdg : decode cc pc = .ok (.istore_n k, 1)) (hi : (k : Nat) = i) (hn : i < nL) (h : (i, Value.int x) :: lv.filter (fun q => !(q.1 == i) && !(q.1 + 1 == i && q.2.category == 2)) = lv') (kk : G p l e R s m args below meth c D H0 A nL Q ws (pc + 1) lv' st) : G p l e R s m args below meth c D H0 A nL Q ws pc lv (.int x :: st) :=
  fun H locs _ hP hS hl => lv_istore_n C.1 C.2.1 hdg hi hl hn h (fun ls hl => kk H locs ls hP hS hl)
theorem r_is (C : Cx p s m args meth c cc own nL ret D) {i : Nat} {x : Int32} {lv' : List (Nat × Value)} (hdg : decode cc pc = .ok (.istore i, 2)) (hn : i < nL) (h : (i, Value.int x) :: lv.filter (fun q => !(q.1 == i) && !(q.1 + 1 == i && q.2.category == 2)) = lv') (kk : G p l e R s m args below meth c D H0 A nL Q ws (pc + 2) lv' st) : G p l e R s m args below meth c D H0 A nL Q ws pc lv (.int x :: st) :=
  fun H locs _ hP hS hl => lv_istore C.1 C.2.1 hdg hl hn h (fun ls hl => kk H locs ls hP hS hl)
theorem r_lsn (C : Cx p s m args meth c cc own nL ret D) {k : Fin 4} {i : Nat} {x : Int64} {lv' : List (Nat × Value)} (hdg : decode cc pc = .ok (.lstore_n k, 1)) (hi : (k : Nat) = i) (hn : i + 1 < nL) (h : (i, Value.long x) :: lv.filter (fun q => !(q.1 == i) && (!(q.1 == i + 1) && !(q.1 + 1 == i && q.2.category == 2))) = lv') (kk : G p l e R s m args below meth c D H0 A nL Q ws (pc + 1) lv' st) : G p l e R s m args below meth c D H0 A nL Q ws pc lv (.long x :: st) :=
  fun H locs _ hP hS hl => lv_lstore_n C.1 C.2.1 hdg hi hl hn h (fun ls hl => kk H locs ls hP hS hl)
theorem r_ls (C : Cx p s m args meth c cc own nL ret D) {i : Nat} {x : Int64} {lv' : List (Nat × Value)} (hdg : decode cc pc = .ok (.lstore i, 2)) (hn : i + 1 < nL) (h : (i, Value.long x) :: lv.filter (fun q => !(q.1 == i) && (!(q.1 == i + 1) && !(q.1 + 1 == i && q.2.category == 2))) = lv') (kk : G p l e R s m args below meth c D H0 A nL Q ws (pc + 2) lv' st) : G p l e R s m args below meth c D H0 A nL Q ws pc lv (.long x :: st) :=
  fun H locs _ hP hS hl => lv_lstore C.1 C.2.1 hdg hl hn h (fun ls hl => kk H locs ls hP hS hl)
theorem r_asn (C : Cx p s m args meth c cc own nL ret D) {k : Fin 4} {i : Nat} {x : Nat} {lv' : List (Nat × Value)} (hdg : decode cc pc = .ok (.astore_n k, 1)) (hi : (k : Nat) = i) (hn : i < nL) (h : (i, Value.ref x) :: lv.filter (fun q => !(q.1 == i) && !(q.1 + 1 == i && q.2.category == 2)) = lv') (kk : G p l e R s m args below meth c D H0 A nL Q ws (pc + 1) lv' st) : G p l e R s m args below meth c D H0 A nL Q ws pc lv (.ref x :: st) :=
  fun H locs _ hP hS hl => lv_astore_n C.1 C.2.1 hdg hi hl hn h (fun ls hl => kk H locs ls hP hS hl)
theorem r_as (C : Cx p s m args meth c cc own nL ret D) {i : Nat} {x : Nat} {lv' : List (Nat × Value)} (hdg : decode cc pc = .ok (.astore i, 2)) (hn : i < nL) (h : (i, Value.ref x) :: lv.filter (fun q => !(q.1 == i) && !(q.1 + 1 == i && q.2.category == 2)) = lv') (kk : G p l e R s m args below meth c D H0 A nL Q ws (pc + 2) lv' st) : G p l e R s m args below meth c D H0 A nL Q ws pc lv (.ref x :: st) :=
  fun H locs _ hP hS hl => lv_astore C.1 C.2.1 hdg hl hn h (fun ls hl => kk H locs ls hP hS hl)
theorem r_inc (C : Cx p s m args meth c cc own nL ret D) {i : Nat} {n : Int} {x v : Int32} {lv' : List (Nat × Value)} (hdg : decode cc pc = .ok (.iinc i n, 3)) (q : Nat) (hk : lv[q]? = some (i, .int x)) (hv : x + Int32.ofInt n = v) (hn : i < nL) (h : (i, Value.int v) :: lv.filter (fun q => !(q.1 == i) && !(q.1 + 1 == i && q.2.category == 2)) = lv') (kk : G p l e R s m args below meth c D H0 A nL Q ws (pc + 3) lv' st) : G p l e R s m args below meth c D H0 A nL Q ws pc lv st :=
  fun H locs _ hP hS hl => lv_iinc C.1 C.2.1 hdg hl hk hv hn h (fun ls hl => kk H locs ls hP hS hl)
theorem r_lv {lv' : List (Nat × Value)} (ks : List Nat) (h : lv_pick lv ks = lv') (k : G p l e R s m args below meth c D H0 A nL Q ws pc lv' st) : G p l e R s m args below meth c D H0 A nL Q ws pc lv st :=
  fun H locs ls hP hS hl => k H locs ls hP hS (lv_sub hl ks h)
theorem r_goto (C : Cx p s m args meth c cc own nL ret D) {off : Int} {tgt : Nat} (hdg : decode cc pc = .ok (.goto off, 3)) (ht : (pc : Int) + off = (tgt : Int)) (k : G p l e R s m args below meth c D H0 A nL Q ws tgt lv st) : G p l e R s m args below meth c D H0 A nL Q ws pc lv st :=
  fun H locs ls hP hS hl => lv_goto C.1 C.2.1 hdg ht (k H locs ls hP hS hl)
theorem r_dup (C : Cx p s m args meth c cc own nL ret D) {v : Value} (hdg : decode cc pc = .ok (.dup, 1)) (hv : v.category = 1) (k : G p l e R s m args below meth c D H0 A nL Q ws (pc + 1) lv (v :: v :: st)) : G p l e R s m args below meth c D H0 A nL Q ws pc lv (v :: st) :=
  fun H locs ls hP hS hl => lv_dup C.1 C.2.1 hdg hv (k H locs ls hP hS hl)
theorem r_dup211 (C : Cx p s m args meth c cc own nL ret D) {v w : Value} (hdg : decode cc pc = .ok (.dup2, 1)) (hv : v.category = 1) (hw : w.category = 1) (k : G p l e R s m args below meth c D H0 A nL Q ws (pc + 1) lv (v :: w :: v :: w :: st)) : G p l e R s m args below meth c D H0 A nL Q ws pc lv (v :: w :: st) :=
  fun H locs ls hP hS hl => lv_dup2_11 C.1 C.2.1 hdg hv hw (k H locs ls hP hS hl)
theorem r_pop (C : Cx p s m args meth c cc own nL ret D) {v : Value} (hdg : decode cc pc = .ok (.pop, 1)) (hv : v.category = 1) (k : G p l e R s m args below meth c D H0 A nL Q ws (pc + 1) lv st) : G p l e R s m args below meth c D H0 A nL Q ws pc lv (v :: st) :=
  fun H locs ls hP hS hl => lv_pop C.1 C.2.1 hdg hv (k H locs ls hP hS hl)
theorem r_iadd (C : Cx p s m args meth c cc own nL ret D) {x y : Int32} (hdg : decode cc pc = .ok (.iadd, 1)) (k : G p l e R s m args below meth c D H0 A nL Q ws (pc + 1) lv (.int (x + y) :: st)) : G p l e R s m args below meth c D H0 A nL Q ws pc lv (.int y :: .int x :: st) :=
  fun H locs ls hP hS hl => lv_iadd C.1 C.2.1 hdg (k H locs ls hP hS hl)
theorem r_isub (C : Cx p s m args meth c cc own nL ret D) {x y : Int32} (hdg : decode cc pc = .ok (.isub, 1)) (k : G p l e R s m args below meth c D H0 A nL Q ws (pc + 1) lv (.int (x - y) :: st)) : G p l e R s m args below meth c D H0 A nL Q ws pc lv (.int y :: .int x :: st) :=
  fun H locs ls hP hS hl => lv_isub C.1 C.2.1 hdg (k H locs ls hP hS hl)
theorem r_imul (C : Cx p s m args meth c cc own nL ret D) {x y : Int32} (hdg : decode cc pc = .ok (.imul, 1)) (k : G p l e R s m args below meth c D H0 A nL Q ws (pc + 1) lv (.int (x * y) :: st)) : G p l e R s m args below meth c D H0 A nL Q ws pc lv (.int y :: .int x :: st) :=
  fun H locs ls hP hS hl => lv_imul C.1 C.2.1 hdg (k H locs ls hP hS hl)
theorem r_iand (C : Cx p s m args meth c cc own nL ret D) {x y : Int32} (hdg : decode cc pc = .ok (.iand, 1)) (k : G p l e R s m args below meth c D H0 A nL Q ws (pc + 1) lv (.int (x &&& y) :: st)) : G p l e R s m args below meth c D H0 A nL Q ws pc lv (.int y :: .int x :: st) :=
  fun H locs ls hP hS hl => lv_iand C.1 C.2.1 hdg (k H locs ls hP hS hl)
theorem r_ior (C : Cx p s m args meth c cc own nL ret D) {x y : Int32} (hdg : decode cc pc = .ok (.ior, 1)) (k : G p l e R s m args below meth c D H0 A nL Q ws (pc + 1) lv (.int (x ||| y) :: st)) : G p l e R s m args below meth c D H0 A nL Q ws pc lv (.int y :: .int x :: st) :=
  fun H locs ls hP hS hl => lv_ior C.1 C.2.1 hdg (k H locs ls hP hS hl)
theorem r_ixor (C : Cx p s m args meth c cc own nL ret D) {x y : Int32} (hdg : decode cc pc = .ok (.ixor, 1)) (k : G p l e R s m args below meth c D H0 A nL Q ws (pc + 1) lv (.int (x ^^^ y) :: st)) : G p l e R s m args below meth c D H0 A nL Q ws pc lv (.int y :: .int x :: st) :=
  fun H locs ls hP hS hl => lv_ixor C.1 C.2.1 hdg (k H locs ls hP hS hl)
theorem r_ishl (C : Cx p s m args meth c cc own nL ret D) {x y : Int32} (hdg : decode cc pc = .ok (.ishl, 1)) (k : G p l e R s m args below meth c D H0 A nL Q ws (pc + 1) lv (.int (x <<< (y &&& 31)) :: st)) : G p l e R s m args below meth c D H0 A nL Q ws pc lv (.int y :: .int x :: st) :=
  fun H locs ls hP hS hl => lv_ishl C.1 C.2.1 hdg (k H locs ls hP hS hl)
theorem r_ishr (C : Cx p s m args meth c cc own nL ret D) {x y : Int32} (hdg : decode cc pc = .ok (.ishr, 1)) (k : G p l e R s m args below meth c D H0 A nL Q ws (pc + 1) lv (.int (x >>> (y &&& 31)) :: st)) : G p l e R s m args below meth c D H0 A nL Q ws pc lv (.int y :: .int x :: st) :=
  fun H locs ls hP hS hl => lv_ishr C.1 C.2.1 hdg (k H locs ls hP hS hl)
theorem r_idiv (C : Cx p s m args meth c cc own nL ret D) {x y : Int32} (hdg : decode cc pc = .ok (.idiv, 1)) (hne : ¬ y = 0) (k : G p l e R s m args below meth c D H0 A nL Q ws (pc + 1) lv (.int (x / y) :: st)) : G p l e R s m args below meth c D H0 A nL Q ws pc lv (.int y :: .int x :: st) :=
  fun H locs ls hP hS hl => lv_idiv C.1 C.2.1 hdg hne (k H locs ls hP hS hl)
theorem r_irem (C : Cx p s m args meth c cc own nL ret D) {x y : Int32} (hdg : decode cc pc = .ok (.irem, 1)) (hne : ¬ y = 0) (k : G p l e R s m args below meth c D H0 A nL Q ws (pc + 1) lv (.int (x - x / y * y) :: st)) : G p l e R s m args below meth c D H0 A nL Q ws pc lv (.int y :: .int x :: st) :=
  fun H locs ls hP hS hl => lv_irem C.1 C.2.1 hdg hne (k H locs ls hP hS hl)
theorem r_ineg (C : Cx p s m args meth c cc own nL ret D) {x : Int32} (hdg : decode cc pc = .ok (.ineg, 1)) (k : G p l e R s m args below meth c D H0 A nL Q ws (pc + 1) lv (.int (-x) :: st)) : G p l e R s m args below meth c D H0 A nL Q ws pc lv (.int x :: st) :=
  fun H locs ls hP hS hl => lv_ineg C.1 C.2.1 hdg (k H locs ls hP hS hl)
theorem r_ladd (C : Cx p s m args meth c cc own nL ret D) {x y : Int64} (hdg : decode cc pc = .ok (.ladd, 1)) (k : G p l e R s m args below meth c D H0 A nL Q ws (pc + 1) lv (.long (x + y) :: st)) : G p l e R s m args below meth c D H0 A nL Q ws pc lv (.long y :: .long x :: st) :=
  fun H locs ls hP hS hl => lv_ladd C.1 C.2.1 hdg (k H locs ls hP hS hl)
theorem r_lsub (C : Cx p s m args meth c cc own nL ret D) {x y : Int64} (hdg : decode cc pc = .ok (.lsub, 1)) (k : G p l e R s m args below meth c D H0 A nL Q ws (pc + 1) lv (.long (x - y) :: st)) : G p l e R s m args below meth c D H0 A nL Q ws pc lv (.long y :: .long x :: st) :=
  fun H locs ls hP hS hl => lv_lsub C.1 C.2.1 hdg (k H locs ls hP hS hl)
theorem r_lmul (C : Cx p s m args meth c cc own nL ret D) {x y : Int64} (hdg : decode cc pc = .ok (.lmul, 1)) (k : G p l e R s m args below meth c D H0 A nL Q ws (pc + 1) lv (.long (x * y) :: st)) : G p l e R s m args below meth c D H0 A nL Q ws pc lv (.long y :: .long x :: st) :=
  fun H locs ls hP hS hl => lv_lmul C.1 C.2.1 hdg (k H locs ls hP hS hl)
theorem r_land (C : Cx p s m args meth c cc own nL ret D) {x y : Int64} (hdg : decode cc pc = .ok (.land, 1)) (k : G p l e R s m args below meth c D H0 A nL Q ws (pc + 1) lv (.long (x &&& y) :: st)) : G p l e R s m args below meth c D H0 A nL Q ws pc lv (.long y :: .long x :: st) :=
  fun H locs ls hP hS hl => lv_land C.1 C.2.1 hdg (k H locs ls hP hS hl)
theorem r_lor (C : Cx p s m args meth c cc own nL ret D) {x y : Int64} (hdg : decode cc pc = .ok (.lor, 1)) (k : G p l e R s m args below meth c D H0 A nL Q ws (pc + 1) lv (.long (x ||| y) :: st)) : G p l e R s m args below meth c D H0 A nL Q ws pc lv (.long y :: .long x :: st) :=
  fun H locs ls hP hS hl => lv_lor C.1 C.2.1 hdg (k H locs ls hP hS hl)
theorem r_lxor (C : Cx p s m args meth c cc own nL ret D) {x y : Int64} (hdg : decode cc pc = .ok (.lxor, 1)) (k : G p l e R s m args below meth c D H0 A nL Q ws (pc + 1) lv (.long (x ^^^ y) :: st)) : G p l e R s m args below meth c D H0 A nL Q ws pc lv (.long y :: .long x :: st) :=
  fun H locs ls hP hS hl => lv_lxor C.1 C.2.1 hdg (k H locs ls hP hS hl)
theorem r_ldiv (C : Cx p s m args meth c cc own nL ret D) {x y : Int64} (hdg : decode cc pc = .ok (.ldiv, 1)) (hne : ¬ y = 0) (k : G p l e R s m args below meth c D H0 A nL Q ws (pc + 1) lv (.long (x / y) :: st)) : G p l e R s m args below meth c D H0 A nL Q ws pc lv (.long y :: .long x :: st) :=
  fun H locs ls hP hS hl => lv_ldiv C.1 C.2.1 hdg hne (k H locs ls hP hS hl)
theorem r_lrem (C : Cx p s m args meth c cc own nL ret D) {x y : Int64} (hdg : decode cc pc = .ok (.lrem, 1)) (hne : ¬ y = 0) (k : G p l e R s m args below meth c D H0 A nL Q ws (pc + 1) lv (.long (x - x / y * y) :: st)) : G p l e R s m args below meth c D H0 A nL Q ws pc lv (.long y :: .long x :: st) :=
  fun H locs ls hP hS hl => lv_lrem C.1 C.2.1 hdg hne (k H locs ls hP hS hl)
theorem r_lneg (C : Cx p s m args meth c cc own nL ret D) {x : Int64} (hdg : decode cc pc = .ok (.lneg, 1)) (k : G p l e R s m args below meth c D H0 A nL Q ws (pc + 1) lv (.long (-x) :: st)) : G p l e R s m args below meth c D H0 A nL Q ws pc lv (.long x :: st) :=
  fun H locs ls hP hS hl => lv_lneg C.1 C.2.1 hdg (k H locs ls hP hS hl)
theorem r_lcmp (C : Cx p s m args meth c cc own nL ret D) {x y : Int64} (hdg : decode cc pc = .ok (.lcmp, 1)) (k : G p l e R s m args below meth c D H0 A nL Q ws (pc + 1) lv (.int (lg_cmp x y) :: st)) : G p l e R s m args below meth c D H0 A nL Q ws pc lv (.long y :: .long x :: st) :=
  fun H locs ls hP hS hl => W.lcmp C.1 C.2.1 hdg (k H locs ls hP hS hl)
theorem r_i2l (C : Cx p s m args meth c cc own nL ret D) {x : Int32} (hdg : decode cc pc = .ok (.i2l, 1)) (k : G p l e R s m args below meth c D H0 A nL Q ws (pc + 1) lv (.long x.toInt64 :: st)) : G p l e R s m args below meth c D H0 A nL Q ws pc lv (.int x :: st) :=
  fun H locs ls hP hS hl => lv_i2l C.1 C.2.1 hdg rfl (k H locs ls hP hS hl)
theorem r_l2i (C : Cx p s m args meth c cc own nL ret D) {x : Int64} (hdg : decode cc pc = .ok (.l2i, 1)) (k : G p l e R s m args below meth c D H0 A nL Q ws (pc + 1) lv (.int x.toInt32 :: st)) : G p l e R s m args below meth c D H0 A nL Q ws pc lv (.long x :: st) :=
  fun H locs ls hP hS hl => lv_l2i C.1 C.2.1 hdg rfl (k H locs ls hP hS hl)
theorem r_i2b (C : Cx p s m args meth c cc own nL ret D) {x : Int32} (hdg : decode cc pc = .ok (.i2b, 1)) (k : G p l e R s m args below meth c D H0 A nL Q ws (pc + 1) lv (.int x.toInt8.toInt32 :: st)) : G p l e R s m args below meth c D H0 A nL Q ws pc lv (.int x :: st) :=
  fun H locs ls hP hS hl => lv_i2b C.1 C.2.1 hdg rfl (k H locs ls hP hS hl)
theorem r_i2s (C : Cx p s m args meth c cc own nL ret D) {x : Int32} (hdg : decode cc pc = .ok (.i2s, 1)) (k : G p l e R s m args below meth c D H0 A nL Q ws (pc + 1) lv (.int x.toInt16.toInt32 :: st)) : G p l e R s m args below meth c D H0 A nL Q ws pc lv (.int x :: st) :=
  fun H locs ls hP hS hl => lv_i2s C.1 C.2.1 hdg rfl (k H locs ls hP hS hl)
theorem r_iushr (C : Cx p s m args meth c cc own nL ret D) {x y : Int32} (hdg : decode cc pc = .ok (.iushr, 1)) (k : G p l e R s m args below meth c D H0 A nL Q ws (pc + 1) lv (.int ((x.toUInt32 >>> (y.toUInt32 &&& Int32.toUInt32 31)).toInt32) :: st)) : G p l e R s m args below meth c D H0 A nL Q ws pc lv (.int y :: .int x :: st) :=
  fun H locs ls hP hS hl => lv_iushr C.1 C.2.1 hdg rfl (k H locs ls hP hS hl)
theorem r_lshl (C : Cx p s m args meth c cc own nL ret D) {x : Int64} {y : Int32} (hdg : decode cc pc = .ok (.lshl, 1)) (k : G p l e R s m args below meth c D H0 A nL Q ws (pc + 1) lv (.long (x <<< (y.toInt64 &&& 63)) :: st)) : G p l e R s m args below meth c D H0 A nL Q ws pc lv (.int y :: .long x :: st) :=
  fun H locs ls hP hS hl => lv_lshl C.1 C.2.1 hdg rfl (k H locs ls hP hS hl)
theorem r_lshr (C : Cx p s m args meth c cc own nL ret D) {x : Int64} {y : Int32} (hdg : decode cc pc = .ok (.lshr, 1)) (k : G p l e R s m args below meth c D H0 A nL Q ws (pc + 1) lv (.long (x >>> (y.toInt64 &&& 63)) :: st)) : G p l e R s m args below meth c D H0 A nL Q ws pc lv (.int y :: .long x :: st) :=
  fun H locs ls hP hS hl => lv_lshr C.1 C.2.1 hdg rfl (k H locs ls hP hS hl)
theorem r_ifeq (C : Cx p s m args meth c cc own nL ret D) {x : Int32} {off : Int} {tgt : Nat} (hdg : decode cc pc = .ok (.ifCond .eq off, 3)) (ht : (pc : Int) + off = (tgt : Int)) (kt : x = (0 : Int32) → G p l e R s m args below meth c D H0 A nL Q ws tgt lv st) (kf : ¬ x = (0 : Int32) → G p l e R s m args below meth c D H0 A nL Q ws (pc + 3) lv st) : G p l e R s m args below meth c D H0 A nL Q ws pc lv (.int x :: st) :=
  fun H locs ls hP hS hl => lv_if_eq C.1 C.2.1 hdg ht (fun z => kt z H locs ls hP hS hl) (fun z => kf z H locs ls hP hS hl)
theorem r_iceq (C : Cx p s m args meth c cc own nL ret D) {x y : Int32} {off : Int} {tgt : Nat} (hdg : decode cc pc = .ok (.if_icmp .eq off, 3)) (ht : (pc : Int) + off = (tgt : Int)) (kt : x = y → G p l e R s m args below meth c D H0 A nL Q ws tgt lv st) (kf : ¬ x = y → G p l e R s m args below meth c D H0 A nL Q ws (pc + 3) lv st) : G p l e R s m args below meth c D H0 A nL Q ws pc lv (.int y :: .int x :: st) :=
  fun H locs ls hP hS hl => lv_icmp_eq C.1 C.2.1 hdg ht (fun z => kt z H locs ls hP hS hl) (fun z => kf z H locs ls hP hS hl)
theorem r_ifne (C : Cx p s m args meth c cc own nL ret D) {x : Int32} {off : Int} {tgt : Nat} (hdg : decode cc pc = .ok (.ifCond .ne off, 3)) (ht : (pc : Int) + off = (tgt : Int)) (kt : ¬ x = (0 : Int32) → G p l e R s m args below meth c D H0 A nL Q ws tgt lv st) (kf : x = (0 : Int32) → G p l e R s m args below meth c D H0 A nL Q ws (pc + 3) lv st) : G p l e R s m args below meth c D H0 A nL Q ws pc lv (.int x :: st) :=
  fun H locs ls hP hS hl => lv_if_ne C.1 C.2.1 hdg ht (fun z => kt z H locs ls hP hS hl) (fun z => kf z H locs ls hP hS hl)
theorem r_icne (C : Cx p s m args meth c cc own nL ret D) {x y : Int32} {off : Int} {tgt : Nat} (hdg : decode cc pc = .ok (.if_icmp .ne off, 3)) (ht : (pc : Int) + off = (tgt : Int)) (kt : ¬ x = y → G p l e R s m args below meth c D H0 A nL Q ws tgt lv st) (kf : x = y → G p l e R s m args below meth c D H0 A nL Q ws (pc + 3) lv st) : G p l e R s m args below meth c D H0 A nL Q ws pc lv (.int y :: .int x :: st) :=
  fun H locs ls hP hS hl => lv_icmp_ne C.1 C.2.1 hdg ht (fun z => kt z H locs ls hP hS hl) (fun z => kf z H locs ls hP hS hl)
theorem r_iflt (C : Cx p s m args meth c cc own nL ret D) {x : Int32} {off : Int} {tgt : Nat} (hdg : decode cc pc = .ok (.ifCond .lt off, 3)) (ht : (pc : Int) + off = (tgt : Int)) (kt : x < (0 : Int32) → G p l e R s m args below meth c D H0 A nL Q ws tgt lv st) (kf : ¬ x < (0 : Int32) → G p l e R s m args below meth c D H0 A nL Q ws (pc + 3) lv st) : G p l e R s m args below meth c D H0 A nL Q ws pc lv (.int x :: st) :=
  fun H locs ls hP hS hl => lv_if_lt C.1 C.2.1 hdg ht (fun z => kt z H locs ls hP hS hl) (fun z => kf z H locs ls hP hS hl)
theorem r_iclt (C : Cx p s m args meth c cc own nL ret D) {x y : Int32} {off : Int} {tgt : Nat} (hdg : decode cc pc = .ok (.if_icmp .lt off, 3)) (ht : (pc : Int) + off = (tgt : Int)) (kt : x < y → G p l e R s m args below meth c D H0 A nL Q ws tgt lv st) (kf : ¬ x < y → G p l e R s m args below meth c D H0 A nL Q ws (pc + 3) lv st) : G p l e R s m args below meth c D H0 A nL Q ws pc lv (.int y :: .int x :: st) :=
  fun H locs ls hP hS hl => lv_icmp_lt C.1 C.2.1 hdg ht (fun z => kt z H locs ls hP hS hl) (fun z => kf z H locs ls hP hS hl)
theorem r_ifge (C : Cx p s m args meth c cc own nL ret D) {x : Int32} {off : Int} {tgt : Nat} (hdg : decode cc pc = .ok (.ifCond .ge off, 3)) (ht : (pc : Int) + off = (tgt : Int)) (kt : ¬ x < (0 : Int32) → G p l e R s m args below meth c D H0 A nL Q ws tgt lv st) (kf : x < (0 : Int32) → G p l e R s m args below meth c D H0 A nL Q ws (pc + 3) lv st) : G p l e R s m args below meth c D H0 A nL Q ws pc lv (.int x :: st) :=
  fun H locs ls hP hS hl => lv_if_ge C.1 C.2.1 hdg ht (fun z => kt (Int32.not_lt.mpr z) H locs ls hP hS hl) (fun z => kf (Int32.not_le.mp z) H locs ls hP hS hl)
theorem r_icge (C : Cx p s m args meth c cc own nL ret D) {x y : Int32} {off : Int} {tgt : Nat} (hdg : decode cc pc = .ok (.if_icmp .ge off, 3)) (ht : (pc : Int) + off = (tgt : Int)) (kt : ¬ x < y → G p l e R s m args below meth c D H0 A nL Q ws tgt lv st) (kf : x < y → G p l e R s m args below meth c D H0 A nL Q ws (pc + 3) lv st) : G p l e R s m args below meth c D H0 A nL Q ws pc lv (.int y :: .int x :: st) :=
  fun H locs ls hP hS hl => lv_icmp_ge C.1 C.2.1 hdg ht (fun z => kt (Int32.not_lt.mpr z) H locs ls hP hS hl) (fun z => kf (Int32.not_le.mp z) H locs ls hP hS hl)
theorem r_ifgt (C : Cx p s m args meth c cc own nL ret D) {x : Int32} {off : Int} {tgt : Nat} (hdg : decode cc pc = .ok (.ifCond .gt off, 3)) (ht : (pc : Int) + off = (tgt : Int)) (kt : (0 : Int32) < x → G p l e R s m args below meth c D H0 A nL Q ws tgt lv st) (kf : ¬ (0 : Int32) < x → G p l e R s m args below meth c D H0 A nL Q ws (pc + 3) lv st) : G p l e R s m args below meth c D H0 A nL Q ws pc lv (.int x :: st) :=
  fun H locs ls hP hS hl => lv_if_gt C.1 C.2.1 hdg ht (fun z => kt z H locs ls hP hS hl) (fun z => kf z H locs ls hP hS hl)
theorem r_icgt (C : Cx p s m args meth c cc own nL ret D) {x y : Int32} {off : Int} {tgt : Nat} (hdg : decode cc pc = .ok (.if_icmp .gt off, 3)) (ht : (pc : Int) + off = (tgt : Int)) (kt : y < x → G p l e R s m args below meth c D H0 A nL Q ws tgt lv st) (kf : ¬ y < x → G p l e R s m args below meth c D H0 A nL Q ws (pc + 3) lv st) : G p l e R s m args below meth c D H0 A nL Q ws pc lv (.int y :: .int x :: st) :=
  fun H locs ls hP hS hl => lv_icmp_gt C.1 C.2.1 hdg ht (fun z => kt z H locs ls hP hS hl) (fun z => kf z H locs ls hP hS hl)
theorem r_ifle (C : Cx p s m args meth c cc own nL ret D) {x : Int32} {off : Int} {tgt : Nat} (hdg : decode cc pc = .ok (.ifCond .le off, 3)) (ht : (pc : Int) + off = (tgt : Int)) (kt : ¬ (0 : Int32) < x → G p l e R s m args below meth c D H0 A nL Q ws tgt lv st) (kf : (0 : Int32) < x → G p l e R s m args below meth c D H0 A nL Q ws (pc + 3) lv st) : G p l e R s m args below meth c D H0 A nL Q ws pc lv (.int x :: st) :=
  fun H locs ls hP hS hl => lv_if_le C.1 C.2.1 hdg ht (fun z => kt (Int32.not_lt.mpr z) H locs ls hP hS hl) (fun z => kf (Int32.not_le.mp z) H locs ls hP hS hl)
theorem r_icle (C : Cx p s m args meth c cc own nL ret D) {x y : Int32} {off : Int} {tgt : Nat} (hdg : decode cc pc = .ok (.if_icmp .le off, 3)) (ht : (pc : Int) + off = (tgt : Int)) (kt : ¬ y < x → G p l e R s m args below meth c D H0 A nL Q ws tgt lv st) (kf : y < x → G p l e R s m args below meth c D H0 A nL Q ws (pc + 3) lv st) : G p l e R s m args below meth c D H0 A nL Q ws pc lv (.int y :: .int x :: st) :=
  fun H locs ls hP hS hl => lv_icmp_le C.1 C.2.1 hdg ht (fun z => kt (Int32.not_lt.mpr z) H locs ls hP hS hl) (fun z => kf (Int32.not_le.mp z) H locs ls hP hS hl)
theorem r_i2c (C : Cx p s m args meth c cc own nL ret D) {x : Int32} (hdg : decode cc pc = .ok (.i2c, 1)) (k : G p l e R s m args below meth c D H0 A nL Q ws (pc + 1) lv (.int ((x.toUInt32 % 65536).toInt32) :: st)) : G p l e R s m args below meth c D H0 A nL Q ws pc lv (.int x :: st) :=
  fun H locs ls hP hS hl => lv_i2c C.1 C.2.1 hdg rfl (k H locs ls hP hS hl)
theorem r_ldc (C : Cx p s m args meth c cc own nL ret D) {index : Nat} {v : Int32} (hw : Cond.constant own index v ∈ TBL) (hdg : decode cc pc = .ok (.ldc index, 2)) (k : G p l e R s m args below meth c D H0 A nL Q ws (pc + 2) lv (.int v :: st)) : G p l e R s m args below meth c D H0 A nL Q ws pc lv st :=
  fun H locs ls hP hS hl => lv_ldc C.1 C.2.1 C.2.2.2.1 (C.2.2.1 _ hw) hdg (k H locs ls hP hS hl)
theorem r_ldcw (C : Cx p s m args meth c cc own nL ret D) {index : Nat} {v : Int32} (hw : Cond.constant own index v ∈ TBL) (hdg : decode cc pc = .ok (.ldc_w index, 3)) (k : G p l e R s m args below meth c D H0 A nL Q ws (pc + 3) lv (.int v :: st)) : G p l e R s m args below meth c D H0 A nL Q ws pc lv st :=
  fun H locs ls hP hS hl => lv_ldcw C.1 C.2.1 C.2.2.2.1 (C.2.2.1 _ hw) hdg (k H locs ls hP hS hl)
theorem r_ldc2 (C : Cx p s m args meth c cc own nL ret D) {index : Nat} {v : Int64} (hw : Cond.constantLong own index v ∈ TBL) (hdg : decode cc pc = .ok (.ldc2_w index, 3)) (k : G p l e R s m args below meth c D H0 A nL Q ws (pc + 3) lv (.long v :: st)) : G p l e R s m args below meth c D H0 A nL Q ws pc lv st :=
  fun H locs ls hP hS hl => lv_ldc2 C.1 C.2.1 C.2.2.2.1 (C.2.2.1 _ hw) hdg (k H locs ls hP hS hl)
theorem r_tabIn (C : Cx p s m args meth c cc own nL ret D) {dflt lo hi : Int} {offs : Array Int} {len : Nat} {x : Int32} {off : Int} {tgt : Nat} (hdg : decode cc pc = .ok (.tableswitch dflt lo hi offs, len)) (h1 : ¬ x.toInt < lo) (h2 : ¬ hi < x.toInt) (ho : offs[(x.toInt - lo).toNat]? = some off) (ht : (pc : Int) + off = (tgt : Int)) (k : G p l e R s m args below meth c D H0 A nL Q ws tgt lv st) : G p l e R s m args below meth c D H0 A nL Q ws pc lv (.int x :: st) :=
  fun H locs ls hP hS hl => lv_tableIn C.1 C.2.1 hdg h1 h2 ho ht (k H locs ls hP hS hl)
theorem r_tabOut (C : Cx p s m args meth c cc own nL ret D) {dflt lo hi : Int} {offs : Array Int} {len : Nat} {x : Int32} {tgt : Nat} (hdg : decode cc pc = .ok (.tableswitch dflt lo hi offs, len)) (h : x.toInt < lo ∨ hi < x.toInt) (ht : (pc : Int) + dflt = (tgt : Int)) (k : G p l e R s m args below meth c D H0 A nL Q ws tgt lv st) : G p l e R s m args below meth c D H0 A nL Q ws pc lv (.int x :: st) :=
  fun H locs ls hP hS hl => lv_tableOut C.1 C.2.1 hdg h ht (k H locs ls hP hS hl)
theorem r_look (C : Cx p s m args meth c cc own nL ret D) {dflt : Int} {ps : Array (Int × Int)} {len : Nat} {x : Int32} {off : Int} {tgt : Nat} (hdg : decode cc pc = .ok (.lookupswitch dflt ps, len)) (hp : (ps.toList.zip (ps.toList.drop 1)).all (fun (a, next) => a.1 < next.1) = true) (ho : Op.lookupswitch.offset ps.toList dflt x.toInt = off) (ht : (pc : Int) + off = (tgt : Int)) (k : G p l e R s m args below meth c D H0 A nL Q ws tgt lv st) : G p l e R s m args below meth c D H0 A nL Q ws pc lv (.int x :: st) :=
  fun H locs ls hP hS hl => lv_lookup C.1 C.2.1 hdg hp ho ht (k H locs ls hP hS hl)
theorem r_iald (C : Cx p s m args meth c cc own nL ret D) (q0 : Nat) {a n : Nat} {f : Nat → Int32} {i : Int32} {y : Int32} (j : Nat) (ha : ws[q0]? = some (a, .inl (D.1 10, n, .inl f))) (hi : i = nI j) (hj : j < n) (hn : n ≤ 200) (hy : f j = y) (hdg : decode cc pc = .ok (.iaload, 1)) (k : G p l e R s m args below meth c D H0 A nL Q ws (pc + 1) lv (.int y :: st)) : G p l e R s m args below meth c D H0 A nL Q ws pc lv (.int i :: .ref a :: st) := by
  intro H locs ls hP hS hl
  subst hi; subst hy
  have e : (nI j).toNatClampNeg = j := nI_clamp (by omega)
  refine va_iald C.1 C.2.1 C.2.2.2.2.2.1 hP q0 0 ha rfl (vp_in_nI hj (by omega)) hdg ?_
  rw [e]
  exact k H locs ls hP hS hl
theorem r_cald (C : Cx p s m args meth c cc own nL ret D) (q0 : Nat) {a n : Nat} {f : Nat → Int32} {i : Int32} {y : Int32} (j : Nat) (ha : ws[q0]? = some (a, .inl (D.1 12, n, .inl f))) (hi : i = nI j) (hj : j < n) (hn : n ≤ 200) (hy : f j = y) (hdg : decode cc pc = .ok (.caload, 1)) (k : G p l e R s m args below meth c D H0 A nL Q ws (pc + 1) lv (.int y :: st)) : G p l e R s m args below meth c D H0 A nL Q ws pc lv (.int i :: .ref a :: st) := by
  intro H locs ls hP hS hl
  subst hi; subst hy
  have e : (nI j).toNatClampNeg = j := nI_clamp (by omega)
  refine va_cald C.1 C.2.1 C.2.2.2.2.2.1 hP q0 2 ha rfl (vp_in_nI hj (by omega)) hdg ?_
  rw [e]
  exact k H locs ls hP hS hl
theorem r_lald (C : Cx p s m args meth c cc own nL ret D) (q0 : Nat) {a n : Nat} {f : Nat → Int64} {i : Int32} {y : Int64} (j : Nat) (ha : ws[q0]? = some (a, .inl (D.1 11, n, .inr (.inl f)))) (hi : i = nI j) (hj : j < n) (hn : n ≤ 200) (hy : f j = y) (hdg : decode cc pc = .ok (.laload, 1)) (k : G p l e R s m args below meth c D H0 A nL Q ws (pc + 1) lv (.long y :: st)) : G p l e R s m args below meth c D H0 A nL Q ws pc lv (.int i :: .ref a :: st) := by
  intro H locs ls hP hS hl
  subst hi; subst hy
  have e : (nI j).toNatClampNeg = j := nI_clamp (by omega)
  refine va_lald C.1 C.2.1 C.2.2.2.2.2.1 hP q0 1 ha rfl (vp_in_nI hj (by omega)) hdg ?_
  rw [e]
  exact k H locs ls hP hS hl
theorem r_alen (C : Cx p s m args meth c cc own nL ret D) (q0 t0 : Nat) {a n : Nat} {ty : FieldType} {x : (Nat → Int32) ⊕ (Nat → Int64) ⊕ (Nat → UInt32) ⊕ (Nat → UInt64) ⊕ (Nat → Option Nat)} {cA : ClassId} (ha : ws[q0]? = some (a, .inl (cA, n, x))) (ht : (tysD D)[t0]? = some (cA, ty)) (hdg : decode cc pc = .ok (.arraylength, 1)) (k : G p l e R s m args below meth c D H0 A nL Q ws (pc + 1) lv (.int (nI n) :: st)) : G p l e R s m args below meth c D H0 A nL Q ws pc lv (.ref a :: st) :=
  fun H locs ls hP hS hl => va_alen C.1 C.2.1 C.2.2.2.2.2.1 hP q0 t0 ha ht rfl hdg (k H locs ls hP hS hl)
/-- distinct addresses, whatever the cells hold -/
theorem dis_of {w0 : va_W} {B : Nat → Prop} (h0 : va_D B w0) (h : ws.map (·.1) = w0.map (·.1)) : va_D (Ad w0) ws := by
  have at0 : ∀ (k : Nat) (q : Nat × va_E), ws[k]? = some q → ∃ e, w0[k]? = some (q.1, e) := by
    intro k q hq
    have h1 : (ws.map (·.1))[k]? = some q.1 := by rw [List.getElem?_map, hq]; rfl
    rw [h, List.getElem?_map] at h1
    cases h2 : w0[k]? with
    | none => rw [h2] at h1; cases h1
    | some z => rw [h2] at h1; exact ⟨z.2, by rw [← Option.some.inj h1]⟩
  refine ⟨fun i j p q hi hj hpq => ?_, fun k q hk => ?_⟩
  · obtain ⟨e1, h1⟩ := at0 i p hi
    obtain ⟨e2, h2⟩ := at0 j q hj
    exact h0.1 i j _ _ h1 h2 hpq
  · obtain ⟨e1, h1⟩ := at0 k q hk
    exact ⟨k, e1, h1⟩
theorem r_iast (C : Cx p s m args meth c cc own nL ret D) {w0 ws2 : va_W} {B : Nat → Prop} (h0 : va_D B w0) (hA : Ad w0 = A) (q0 : Nat) {a n : Nat} {f : Nat → Int32} {i x : Int32} (j : Nat) (ha : ws[q0]? = some (a, .inl (D.1 10, n, .inl f))) (hi : i = nI j) (hj : j < n) (hn : n ≤ 200) (hdg : decode cc pc = .ok (.iastore, 1)) (hw : ws.map (·.1) = w0.map (·.1)) (h2 : ws.set q0 (a, .inl (D.1 10, n, .inl (upd f j x))) = ws2) (k : G p l e R s m args below meth c D H0 A nL Q ws2 (pc + 1) lv st) : G p l e R s m args below meth c D H0 A nL Q ws pc lv (.int x :: .int i :: .ref a :: st) := by
  intro H locs ls hP hS hl
  subst hi; subst hA
  have e : (nI j).toNatClampNeg = j := nI_clamp (by omega)
  refine va_iast C.1 C.2.1 C.2.2.2.2.2.1 hP (dis_of h0 hw) hS q0 0 ha rfl (vp_in_nI hj (by omega)) hdg (fun H1 l1 hP1 _ hS1 => ?_)
  rw [e, h2] at hP1
  exact k H1 l1 ls hP1 hS1 hl
theorem r_cast (C : Cx p s m args meth c cc own nL ret D) {w0 ws2 : va_W} {B : Nat → Prop} (h0 : va_D B w0) (hA : Ad w0 = A) (q0 : Nat) {a n : Nat} {f : Nat → Int32} {i x : Int32} (j : Nat) (ha : ws[q0]? = some (a, .inl (D.1 12, n, .inl f))) (hi : i = nI j) (hj : j < n) (hn : n ≤ 200) (hdg : decode cc pc = .ok (.castore, 1)) (hw : ws.map (·.1) = w0.map (·.1)) (h2 : ws.set q0 (a, .inl (D.1 12, n, .inl (upd f j (vp_nar .char x)))) = ws2) (k : G p l e R s m args below meth c D H0 A nL Q ws2 (pc + 1) lv st) : G p l e R s m args below meth c D H0 A nL Q ws pc lv (.int x :: .int i :: .ref a :: st) := by
  intro H locs ls hP hS hl
  subst hi; subst hA
  have e : (nI j).toNatClampNeg = j := nI_clamp (by omega)
  refine va_cast C.1 C.2.1 C.2.2.2.2.2.1 hP (dis_of h0 hw) hS q0 2 ha rfl (vp_in_nI hj (by omega)) hdg (fun H1 l1 hP1 _ hS1 => ?_)
  rw [e, h2] at hP1
  exact k H1 l1 ls hP1 hS1 hl
theorem r_last (C : Cx p s m args meth c cc own nL ret D) {w0 ws2 : va_W} {B : Nat → Prop} (h0 : va_D B w0) (hA : Ad w0 = A) (q0 : Nat) {a n : Nat} {f : Nat → Int64} {i : Int32} {x : Int64} (j : Nat) (ha : ws[q0]? = some (a, .inl (D.1 11, n, .inr (.inl f)))) (hi : i = nI j) (hj : j < n) (hn : n ≤ 200) (hdg : decode cc pc = .ok (.lastore, 1)) (hw : ws.map (·.1) = w0.map (·.1)) (h2 : ws.set q0 (a, .inl (D.1 11, n, .inr (.inl (vp_updL f j x)))) = ws2) (k : G p l e R s m args below meth c D H0 A nL Q ws2 (pc + 1) lv st) : G p l e R s m args below meth c D H0 A nL Q ws pc lv (.long x :: .int i :: .ref a :: st) := by
  intro H locs ls hP hS hl
  subst hi; subst hA
  have e : (nI j).toNatClampNeg = j := nI_clamp (by omega)
  refine va_last C.1 C.2.1 C.2.2.2.2.2.1 hP (dis_of h0 hw) hS q0 1 ha rfl (vp_in_nI hj (by omega)) hdg (fun H1 l1 hP1 _ hS1 => ?_)
  rw [e, h2] at hP1
  exact k H1 l1 ls hP1 hS1 hl
theorem r_iret (hr : ret = some .int) {rm : Room} {rv : Option Value} {ws1 : va_W} {v : Int32} (C : Cx p s m args meth c cc own nL ret D) (hq : some (.int v) = rv) (hw : ws = ws1) (hdg : decode cc pc = .ok (.ireturn, 1)) : G p l e rm s m args below meth c D s.heap A nL (MQ below (fun _ st o t => o = .returned rv ∧ va_P D classes ws1 t.heap ∧ va_F A st t) args s 0 0 A) ws pc lv [.int v] := by
  intro H locs ls hP hS hl
  subst hr; subst hq; subst hw
  exact W.iret C.1 C.2.1 C.2.2.2.2.2.2.1 (fun t ht _ => ⟨rfl, by rw [ht]; exact hP, hS.F ht⟩) hS.2.2 hdg C.2.2.2.2.2.2.2
theorem r_zret (hr : ret = some .boolean) {rm : Room} {rv : Option Value} {ws1 : va_W} {v : Int32} (C : Cx p s m args meth c cc own nL ret D) (hn : narrow .boolean (.int v) = .int v) (hq : some (.int v) = rv) (hw : ws = ws1) (hdg : decode cc pc = .ok (.ireturn, 1)) : G p l e rm s m args below meth c D s.heap A nL (MQ below (fun _ st o t => o = .returned rv ∧ va_P D classes ws1 t.heap ∧ va_F A st t) args s 0 0 A) ws pc lv [.int v] := by
  intro H locs ls hP hS hl
  subst hr; subst hq; subst hw
  exact W.zret C.1 C.2.1 C.2.2.2.2.2.2.1 hn (fun t ht _ => ⟨rfl, by rw [ht]; exact hP, hS.F ht⟩) hS.2.2 hdg C.2.2.2.2.2.2.2
theorem r_lret (hr : ret = some .long) {rm : Room} {rv : Option Value} {ws1 : va_W} {v : Int64} (C : Cx p s m args meth c cc own nL ret D) (hq : some (.long v) = rv) (hw : ws = ws1) (hdg : decode cc pc = .ok (.lreturn, 1)) : G p l e rm s m args below meth c D s.heap A nL (MQ below (fun _ st o t => o = .returned rv ∧ va_P D classes ws1 t.heap ∧ va_F A st t) args s 0 0 A) ws pc lv [.long v] := by
  intro H locs ls hP hS hl
  subst hr; subst hq; subst hw
  exact W.lret C.1 C.2.1 C.2.2.2.2.2.2.1 (fun t ht _ => ⟨rfl, by rw [ht]; exact hP, hS.F ht⟩) hS.2.2 hdg C.2.2.2.2.2.2.2
theorem r_vret (hr : ret = none) {rm : Room} {ws1 : va_W} (C : Cx p s m args meth c cc own nL ret D) (hw : ws = ws1) (hdg : decode cc pc = .ok (.return_, 1)) : G p l e rm s m args below meth c D s.heap A nL (MQ below (fun _ st o t => o = .returned none ∧ va_P D classes ws1 t.heap ∧ va_F A st t) args s 0 0 A) ws pc lv [] := by
  intro H locs ls hP hS hl
  subst hr; subst hw
  exact W.vret C.1 C.2.1 C.2.2.2.2.2.2.1 (fun t ht _ => ⟨rfl, by rw [ht]; exact hP, hS.F ht⟩) hS.2.2 hdg C.2.2.2.2.2.2.2
end GR
end
section
theorem tbl_list (ws : List Cond) (ps : List Nat) (hp : ws = ps.filterMap (fun i => tables_1[i]?)) (hg : ws.all gw = true) : ∀ w ∈ ws, w ∈ TBL := by
  intro w hw
  have h1 := List.all_eq_true.mp hg w hw
  rw [hp] at hw
  obtain ⟨i, -, hi⟩ := List.mem_filterMap.mp hw
  exact tbl_tab i hi h1
theorem iX2 : ∀ w ∈ u_ws RX2 TX2 3, w ∈ TBL := tbl_list _ [120, 122, 124] (by decide +kernel) (by decide +kernel)
theorem iX3 : ∀ w ∈ u_ws RX3 TX3 4, w ∈ TBL := tbl_list _ [99, 101, 103, 105] (by decide +kernel) (by decide +kernel)
theorem iX5 : ∀ w ∈ u_ws RX5 TX5 12, w ∈ TBL := tbl_list _ [62, 64, 66, 68, 70, 72, 74, 76, 78, 80, 82, 84] (by decide +kernel) (by decide +kernel)
theorem iX6 : ∀ w ∈ u_ws RX6 TX6 9, w ∈ TBL := tbl_list _ [137, 139, 141, 143, 145, 147, 149, 151, 153] (by decide +kernel) (by decide +kernel)
theorem iX7 : ∀ w ∈ u_ws RX7 TX7 37, w ∈ TBL := tbl_list _ [598, 600, 602, 604, 606, 608, 610, 612, 614, 616, 618, 620, 622, 624, 626, 628, 630, 632, 634, 636, 638, 640, 642, 644, 646, 648, 650, 652, 654, 656, 658, 660, 662, 664, 666, 668, 670] (by decide +kernel) (by decide +kernel)
theorem wi_L : Cond.initialized RL ∈ TBL := tbl_tab 0 (by decide +kernel) rfl
theorem wi_X6 : Cond.initialized RX6 ∈ TBL := tbl_tab 1 (by decide +kernel) rfl
theorem wi_X5 : Cond.initialized RX5 ∈ TBL := tbl_tab 2 (by decide +kernel) rfl
theorem wi_X3 : Cond.initialized RX3 ∈ TBL := tbl_tab 3 (by decide +kernel) rfl
theorem wi_X2 : Cond.initialized RX2 ∈ TBL := tbl_tab 4 (by decide +kernel) rfl
theorem wi_X7 : Cond.initialized RX7 ∈ TBL := tbl_tab 5 (by decide +kernel) rfl
theorem wi_java_lang_System : Cond.initialized "java/lang/System" ∈ TBL := tbl_tab 6 (by decide +kernel) rfl
theorem wi_J6 : Cond.initialized RJ6 ∈ TBL := tbl_tab 7 (by decide +kernel) rfl
theorem wi_X4 : Cond.initialized RX4 ∈ TBL := tbl_tab 8 (by decide +kernel) rfl
theorem wi_J9 : Cond.initialized RJ9 ∈ TBL := tbl_tab 9 (by decide +kernel) rfl
theorem wi_X0 : Cond.initialized RX0 ∈ TBL := tbl_tab 10 (by decide +kernel) rfl
theorem wi_X1 : Cond.initialized RX1 ∈ TBL := tbl_tab 11 (by decide +kernel) rfl
theorem wm_L_9 : Cond.methodLink RL 9 yX6_init ∈ TBL := tbl_tab 14 (by decide +kernel) rfl
theorem wm_X6_9 : Cond.methodLinkNest RX6 9 yX5_init "BackYear" ∈ TBL := tbl_tab 22 (by decide +kernel) rfl
theorem wf_X5_9 : Cond.fieldLink RX5 9 RX5 "people" "I" ∈ TBL := tbl_tab 26 (by decide +kernel) rfl
theorem wf_X6_50 : Cond.fieldLinkNest RX6 50 RX5 "people" "I" "BackYear" ∈ TBL := tbl_tab 27 (by decide +kernel) rfl
theorem wf_X0_32 : Cond.fieldLinkNest RX0 32 RX5 "people" "I" "BackYear" ∈ TBL := tbl_tab 28 (by decide +kernel) rfl
theorem wf_X4_48 : Cond.fieldLinkNest RX4 48 RX5 "people" "I" "BackYear" ∈ TBL := tbl_tab 29 (by decide +kernel) rfl
theorem wf_X5_15 : Cond.fieldLink RX5 15 RX5 "deeds" "I" ∈ TBL := tbl_tab 30 (by decide +kernel) rfl
theorem wf_X0_9 : Cond.fieldLinkNest RX0 9 RX5 "deeds" "I" "BackYear" ∈ TBL := tbl_tab 31 (by decide +kernel) rfl
theorem wf_X1_15 : Cond.fieldLinkNest RX1 15 RX5 "deeds" "I" "BackYear" ∈ TBL := tbl_tab 32 (by decide +kernel) rfl
theorem wf_X6_58 : Cond.fieldLinkNest RX6 58 RX5 "deeds" "I" "BackYear" ∈ TBL := tbl_tab 33 (by decide +kernel) rfl
theorem wf_X3_29 : Cond.fieldLinkNest RX3 29 RX5 "deeds" "I" "BackYear" ∈ TBL := tbl_tab 34 (by decide +kernel) rfl
theorem wf_X4_37 : Cond.fieldLinkNest RX4 37 RX5 "deeds" "I" "BackYear" ∈ TBL := tbl_tab 35 (by decide +kernel) rfl
theorem wf_X5_18 : Cond.fieldLink RX5 18 RX5 "theDay" "I" ∈ TBL := tbl_tab 36 (by decide +kernel) rfl
theorem wf_X6_141 : Cond.fieldLinkNest RX6 141 RX5 "theDay" "I" "BackYear" ∈ TBL := tbl_tab 37 (by decide +kernel) rfl
theorem wf_X5_21 : Cond.fieldLink RX5 21 RX5 "years" "I" ∈ TBL := tbl_tab 38 (by decide +kernel) rfl
theorem wf_X6_134 : Cond.fieldLinkNest RX6 134 RX5 "years" "I" "BackYear" ∈ TBL := tbl_tab 39 (by decide +kernel) rfl
theorem wf_X5_24 : Cond.fieldLink RX5 24 RX5 "lastYear" "I" ∈ TBL := tbl_tab 40 (by decide +kernel) rfl
theorem wf_X6_118 : Cond.fieldLinkNest RX6 118 RX5 "lastYear" "I" "BackYear" ∈ TBL := tbl_tab 41 (by decide +kernel) rfl
theorem wf_X5_27 : Cond.fieldLink RX5 27 RX5 "righted" "I" ∈ TBL := tbl_tab 42 (by decide +kernel) rfl
theorem wf_X0_15 : Cond.fieldLinkNest RX0 15 RX5 "righted" "I" "BackYear" ∈ TBL := tbl_tab 43 (by decide +kernel) rfl
theorem wf_X6_91 : Cond.fieldLinkNest RX6 91 RX5 "righted" "I" "BackYear" ∈ TBL := tbl_tab 44 (by decide +kernel) rfl
theorem wf_X5_30 : Cond.fieldLink RX5 30 RX5 "kind" "[I" ∈ TBL := tbl_tab 45 (by decide +kernel) rfl
theorem wf_X6_76 : Cond.fieldLinkNest RX6 76 RX5 "kind" "[I" "BackYear" ∈ TBL := tbl_tab 46 (by decide +kernel) rfl
theorem wf_X5_34 : Cond.fieldLink RX5 34 RX5 "day" "[I" ∈ TBL := tbl_tab 47 (by decide +kernel) rfl
theorem wf_X4_44 : Cond.fieldLinkNest RX4 44 RX5 "day" "[I" "BackYear" ∈ TBL := tbl_tab 48 (by decide +kernel) rfl
theorem wf_X6_79 : Cond.fieldLinkNest RX6 79 RX5 "day" "[I" "BackYear" ∈ TBL := tbl_tab 49 (by decide +kernel) rfl
theorem wf_X3_59 : Cond.fieldLinkNest RX3 59 RX5 "day" "[I" "BackYear" ∈ TBL := tbl_tab 50 (by decide +kernel) rfl
theorem wf_X5_37 : Cond.fieldLink RX5 37 RX5 "needs" "[I" ∈ TBL := tbl_tab 51 (by decide +kernel) rfl
theorem wf_X6_82 : Cond.fieldLinkNest RX6 82 RX5 "needs" "[I" "BackYear" ∈ TBL := tbl_tab 52 (by decide +kernel) rfl
theorem wf_X3_67 : Cond.fieldLinkNest RX3 67 RX5 "needs" "[I" "BackYear" ∈ TBL := tbl_tab 53 (by decide +kernel) rfl
theorem wf_X5_40 : Cond.fieldLink RX5 40 RX5 "cost" "[I" ∈ TBL := tbl_tab 54 (by decide +kernel) rfl
theorem wf_X0_39 : Cond.fieldLinkNest RX0 39 RX5 "cost" "[I" "BackYear" ∈ TBL := tbl_tab 55 (by decide +kernel) rfl
theorem wf_X6_85 : Cond.fieldLinkNest RX6 85 RX5 "cost" "[I" "BackYear" ∈ TBL := tbl_tab 56 (by decide +kernel) rfl
theorem wf_X5_43 : Cond.fieldLink RX5 43 RX5 "odds" "[I" ∈ TBL := tbl_tab 57 (by decide +kernel) rfl
theorem wf_X6_88 : Cond.fieldLinkNest RX6 88 RX5 "odds" "[I" "BackYear" ∈ TBL := tbl_tab 58 (by decide +kernel) rfl
theorem wf_X1_32 : Cond.fieldLinkNest RX1 32 RX5 "odds" "[I" "BackYear" ∈ TBL := tbl_tab 59 (by decide +kernel) rfl
theorem wf_X5_46 : Cond.fieldLink RX5 46 RX5 "worth" "[I" ∈ TBL := tbl_tab 60 (by decide +kernel) rfl
theorem wf_X6_111 : Cond.fieldLinkNest RX6 111 RX5 "worth" "[I" "BackYear" ∈ TBL := tbl_tab 61 (by decide +kernel) rfl
theorem wm_X6_24 : Cond.methodLinkNest RX6 24 yX3_init "BackYear" ∈ TBL := tbl_tab 90 (by decide +kernel) rfl
theorem wf_X3_9 : Cond.fieldLink RX3 9 RX3 "letters" "[C" ∈ TBL := tbl_tab 94 (by decide +kernel) rfl
theorem wf_X3_15 : Cond.fieldLink RX3 15 RX3 "typed" "I" ∈ TBL := tbl_tab 95 (by decide +kernel) rfl
theorem wf_X6_124 : Cond.fieldLinkNest RX6 124 RX3 "typed" "I" "BackYear" ∈ TBL := tbl_tab 96 (by decide +kernel) rfl
theorem wf_X3_19 : Cond.fieldLink RX3 19 RX3 "awaited" "I" ∈ TBL := tbl_tab 97 (by decide +kernel) rfl
theorem wf_X3_22 : Cond.fieldLink RX3 22 RX3 "kind" "I" ∈ TBL := tbl_tab 98 (by decide +kernel) rfl
theorem wm_X6_31 : Cond.methodLinkNest RX6 31 yX2_init "BackYear" ∈ TBL := tbl_tab 111 (by decide +kernel) rfl
theorem wf_X2_9 : Cond.fieldLink RX2 9 RX2 "lane" "[I" ∈ TBL := tbl_tab 115 (by decide +kernel) rfl
theorem wf_X6_258 : Cond.fieldLinkNest RX6 258 RX2 "lane" "[I" "BackYear" ∈ TBL := tbl_tab 116 (by decide +kernel) rfl
theorem wf_X2_15 : Cond.fieldLink RX2 15 RX2 "size" "[I" ∈ TBL := tbl_tab 117 (by decide +kernel) rfl
theorem wf_X6_255 : Cond.fieldLinkNest RX6 255 RX2 "size" "[I" "BackYear" ∈ TBL := tbl_tab 118 (by decide +kernel) rfl
theorem wf_X2_18 : Cond.fieldLink RX2 18 RX2 "items" "[J" ∈ TBL := tbl_tab 119 (by decide +kernel) rfl
theorem wf_X6_10 : Cond.fieldLink RX6 10 RX6 "now" "LBackYear$Year;" ∈ TBL := tbl_tab 128 (by decide +kernel) rfl
theorem wf_X6_16 : Cond.fieldLink RX6 16 RX6 "kept" "LBackYear$Year;" ∈ TBL := tbl_tab 129 (by decide +kernel) rfl
theorem wf_X6_19 : Cond.fieldLink RX6 19 RX6 "draft" "LBackYear$Year;" ∈ TBL := tbl_tab 130 (by decide +kernel) rfl
theorem wf_X6_25 : Cond.fieldLink RX6 25 RX6 "tape" "LBackYear$Tape;" ∈ TBL := tbl_tab 131 (by decide +kernel) rfl
theorem wf_X6_32 : Cond.fieldLink RX6 32 RX6 "sheets" "LBackYear$Sheets;" ∈ TBL := tbl_tab 132 (by decide +kernel) rfl
theorem wf_X6_36 : Cond.fieldLink RX6 36 RX6 "begun" "[I" ∈ TBL := tbl_tab 133 (by decide +kernel) rfl
theorem wf_X6_40 : Cond.fieldLink RX6 40 RX6 "toldYears" "[I" ∈ TBL := tbl_tab 134 (by decide +kernel) rfl
theorem wf_X6_43 : Cond.fieldLink RX6 43 RX6 "dues" "[I" ∈ TBL := tbl_tab 135 (by decide +kernel) rfl
theorem wf_X6_46 : Cond.fieldLink RX6 46 RX6 "imaged" "Z" ∈ TBL := tbl_tab 136 (by decide +kernel) rfl
theorem wm_L_13 : Cond.methodLink RL 13 yX6_people ∈ TBL := tbl_tab 156 (by decide +kernel) rfl
theorem wm_L_18 : Cond.methodLink RL 18 yX6_deed ∈ TBL := tbl_tab 160 (by decide +kernel) rfl
theorem wm_X6_54 : Cond.methodLink RX6 54 yX6_isDay ∈ TBL := tbl_tab 164 (by decide +kernel) rfl
theorem wm_X6_61 : Cond.methodLinkNest RX6 61 yX5_needable "BackYear" ∈ TBL := tbl_tab 167 (by decide +kernel) rfl
theorem wm_X6_65 : Cond.methodLink RX6 65 yX6_isWithin ∈ TBL := tbl_tab 171 (by decide +kernel) rfl
theorem wm_X6_69 : Cond.methodLinkNest RX6 69 yX5_add "BackYear" ∈ TBL := tbl_tab 174 (by decide +kernel) rfl
theorem wm_L_23 : Cond.methodLink RL 23 yX6_told ∈ TBL := tbl_tab 178 (by decide +kernel) rfl
theorem wm_X6_73 : Cond.methodLinkNest RX6 73 yX5_has "BackYear" ∈ TBL := tbl_tab 182 (by decide +kernel) rfl
theorem wm_X6_94 : Cond.methodLinkNest RX6 94 yX5_standing "BackYear" ∈ TBL := tbl_tab 186 (by decide +kernel) rfl
theorem wm_X5_63 : Cond.methodLinkNest RX5 63 yX6_isIn "BackYear" ∈ TBL := tbl_tab 190 (by decide +kernel) rfl
theorem wm_X5_71 : Cond.methodLink RX5 71 yX5_wouldStand ∈ TBL := tbl_tab 193 (by decide +kernel) rfl
theorem wm_X5_67 : Cond.methodLink RX5 67 yX5_isMet ∈ TBL := tbl_tab 197 (by decide +kernel) rfl
theorem wm_X6_98 : Cond.methodLink RX6 98 yX6_isIn ∈ TBL := tbl_tab 200 (by decide +kernel) rfl
theorem wm_L_28 : Cond.methodLink RL 28 yX6_set ∈ TBL := tbl_tab 201 (by decide +kernel) rfl
theorem wm_X6_101 : Cond.methodLink RX6 101 yX6_isChoice ∈ TBL := tbl_tab 205 (by decide +kernel) rfl
theorem wm_L_32 : Cond.methodLink RL 32 yX6_worth ∈ TBL := tbl_tab 208 (by decide +kernel) rfl
theorem wm_X6_104 : Cond.methodLink RX6 104 yX6_isEverPerson ∈ TBL := tbl_tab 212 (by decide +kernel) rfl
theorem wc_X6_107 : Cond.constant RX6 107 (-100001) ∈ TBL := tbl_tab 215 (by decide +kernel) rfl
theorem wm_X6_108 : Cond.methodLinkNest RX6 108 yX5_worthTo "BackYear" ∈ TBL := tbl_tab 216 (by decide +kernel) rfl
theorem wm_L_36 : Cond.methodLink RL 36 yX6_worthOf ∈ TBL := tbl_tab 220 (by decide +kernel) rfl
theorem wm_L_40 : Cond.methodLink RL 40 yX6_last ∈ TBL := tbl_tab 224 (by decide +kernel) rfl
theorem wm_X6_114 : Cond.methodLinkNest RX6 114 yX5_all "BackYear" ∈ TBL := tbl_tab 228 (by decide +kernel) rfl
theorem wm_L_44 : Cond.methodLink RL 44 yX6_type ∈ TBL := tbl_tab 232 (by decide +kernel) rfl
theorem wm_X6_121 : Cond.methodLinkNest RX6 121 yX3_add "BackYear" ∈ TBL := tbl_tab 236 (by decide +kernel) rfl
theorem wm_L_48 : Cond.methodLink RL 48 yX6_text ∈ TBL := tbl_tab 240 (by decide +kernel) rfl
theorem wm_X6_127 : Cond.methodLinkNest RX6 127 yX5_clear "BackYear" ∈ TBL := tbl_tab 244 (by decide +kernel) rfl
theorem wm_X6_130 : Cond.methodLinkNest RX6 130 yX3_readInto "BackYear" ∈ TBL := tbl_tab 248 (by decide +kernel) rfl
theorem wm_X3_25 : Cond.methodLink RX3 25 yX3_takes ∈ TBL := tbl_tab 252 (by decide +kernel) rfl
theorem wm_X3_34 : Cond.methodLink RX3 34 yX3_takesKind ∈ TBL := tbl_tab 256 (by decide +kernel) rfl
theorem wm_X3_38 : Cond.methodLink RX3 38 yX3_takesDay ∈ TBL := tbl_tab 260 (by decide +kernel) rfl
theorem wm_X3_48 : Cond.methodLinkNest RX3 48 yX6_isDay "BackYear" ∈ TBL := tbl_tab 264 (by decide +kernel) rfl
theorem wm_X3_52 : Cond.methodLinkNest RX3 52 yX5_add "BackYear" ∈ TBL := tbl_tab 265 (by decide +kernel) rfl
theorem wm_X3_41 : Cond.methodLink RX3 41 yX3_takesComma ∈ TBL := tbl_tab 266 (by decide +kernel) rfl
theorem wm_X3_45 : Cond.methodLink RX3 45 yX3_takesNeed ∈ TBL := tbl_tab 270 (by decide +kernel) rfl
theorem wm_X3_56 : Cond.methodLinkNest RX3 56 yX5_has "BackYear" ∈ TBL := tbl_tab 274 (by decide +kernel) rfl
theorem wm_X3_63 : Cond.methodLinkNest RX3 63 yX5_needable "BackYear" ∈ TBL := tbl_tab 275 (by decide +kernel) rfl
theorem wm_X3_70 : Cond.methodLinkNest RX3 70 yX6_isIn "BackYear" ∈ TBL := tbl_tab 276 (by decide +kernel) rfl
theorem wm_X6_137 : Cond.methodLinkNest RX6 137 yX5_become "BackYear" ∈ TBL := tbl_tab 277 (by decide +kernel) rfl
theorem wm_L_53 : Cond.methodLink RL 53 yX6_count ∈ TBL := tbl_tab 284 (by decide +kernel) rfl
theorem wm_L_57 : Cond.methodLink RL 57 yX6_right ∈ TBL := tbl_tab 288 (by decide +kernel) rfl
theorem wm_X6_144 : Cond.methodLinkNest RX6 144 yX5_ofDay "BackYear" ∈ TBL := tbl_tab 292 (by decide +kernel) rfl
theorem wm_L_61 : Cond.methodLink RL 61 yX6_back ∈ TBL := tbl_tab 296 (by decide +kernel) rfl
theorem wc_X6_147 : Cond.constant RX6 147 (-100002) ∈ TBL := tbl_tab 300 (by decide +kernel) rfl
theorem wm_L_65 : Cond.methodLink RL 65 yX6_year ∈ TBL := tbl_tab 301 (by decide +kernel) rfl
theorem wm_X6_148 : Cond.methodLinkNest RX6 148 yX5_beginNext "BackYear" ∈ TBL := tbl_tab 305 (by decide +kernel) rfl
theorem wm_X5_55 : Cond.methodLink RX5 55 yX5_standing ∈ TBL := tbl_tab 309 (by decide +kernel) rfl
theorem wm_X6_151 : Cond.methodLink RX6 151 yJ6_bitCount_0f7a4 ∈ TBL := tbl_tab 310 (by decide +kernel) rfl
theorem wc_J6_265 : Cond.constant RJ6 265 (1431655765) ∈ TBL := tbl_tab 313 (by decide +kernel) rfl
theorem wc_J6_266 : Cond.constant RJ6 266 (858993459) ∈ TBL := tbl_tab 314 (by decide +kernel) rfl
theorem wc_J6_267 : Cond.constant RJ6 267 (252645135) ∈ TBL := tbl_tab 315 (by decide +kernel) rfl
theorem wm_L_69 : Cond.methodLink RL 69 yX6_value ∈ TBL := tbl_tab 316 (by decide +kernel) rfl
theorem wm_X6_156 : Cond.methodLinkNest RX6 156 yX5_sumBy "BackYear" ∈ TBL := tbl_tab 320 (by decide +kernel) rfl
theorem wm_X5_74 : Cond.methodLink RX5 74 yX5_valueOf ∈ TBL := tbl_tab 324 (by decide +kernel) rfl
theorem wm_X5_59 : Cond.methodLink RX5 59 yX5_worthTo ∈ TBL := tbl_tab 328 (by decide +kernel) rfl
theorem wm_X5_78 : Cond.methodLink RX5 78 yX5_bearer ∈ TBL := tbl_tab 329 (by decide +kernel) rfl
theorem wm_X6_159 : Cond.methodLinkNest RX6 159 yX5_isPerson "BackYear" ∈ TBL := tbl_tab 333 (by decide +kernel) rfl
theorem wm_X6_162 : Cond.methodLinkNest RX6 162 yX5_valueBy "BackYear" ∈ TBL := tbl_tab 337 (by decide +kernel) rfl
theorem wm_L_73 : Cond.methodLink RL 73 yX6_bears ∈ TBL := tbl_tab 341 (by decide +kernel) rfl
theorem wm_X6_165 : Cond.methodLinkNest RX6 165 yX5_bearer "BackYear" ∈ TBL := tbl_tab 345 (by decide +kernel) rfl
theorem wm_L_77 : Cond.methodLink RL 77 yX6_best ∈ TBL := tbl_tab 346 (by decide +kernel) rfl
theorem wm_X6_168 : Cond.methodLink RX6 168 yX6_isWalkLength ∈ TBL := tbl_tab 350 (by decide +kernel) rfl
theorem wm_X6_171 : Cond.methodLinkNest RX6 171 yX4_most "BackYear" ∈ TBL := tbl_tab 353 (by decide +kernel) rfl
theorem wm_X4_9 : Cond.methodLinkNest RX4 9 yX5_standing "BackYear" ∈ TBL := tbl_tab 356 (by decide +kernel) rfl
theorem wm_X4_15 : Cond.methodLinkNest RX4 15 yX5_sumBy "BackYear" ∈ TBL := tbl_tab 357 (by decide +kernel) rfl
theorem wm_X4_18 : Cond.methodLink RX4 18 yX4_isWalk ∈ TBL := tbl_tab 358 (by decide +kernel) rfl
theorem wm_X4_33 : Cond.methodLinkNest RX4 33 yX6_isWithin "BackYear" ∈ TBL := tbl_tab 361 (by decide +kernel) rfl
theorem wm_X4_24 : Cond.methodLink RX4 24 yJ6_bitCount_0f7a4 ∈ TBL := tbl_tab 362 (by decide +kernel) rfl
theorem wm_X4_41 : Cond.methodLinkNest RX4 41 yX6_isIn "BackYear" ∈ TBL := tbl_tab 363 (by decide +kernel) rfl
theorem wm_X4_29 : Cond.methodLink RX4 29 yX4_isFair ∈ TBL := tbl_tab 364 (by decide +kernel) rfl
theorem wm_X4_51 : Cond.methodLinkNest RX4 51 yX5_valueBy "BackYear" ∈ TBL := tbl_tab 367 (by decide +kernel) rfl
theorem wm_L_81 : Cond.methodLink RL 81 yX6_wanted ∈ TBL := tbl_tab 368 (by decide +kernel) rfl
theorem wm_X6_177 : Cond.methodLinkNest RX6 177 yX4_fewest "BackYear" ∈ TBL := tbl_tab 372 (by decide +kernel) rfl
theorem wm_L_85 : Cond.methodLink RL 85 yX6_self ∈ TBL := tbl_tab 375 (by decide +kernel) rfl
theorem wm_X6_181 : Cond.methodLinkNest RX6 181 yX4_selfish "BackYear" ∈ TBL := tbl_tab 379 (by decide +kernel) rfl
theorem wm_X4_55 : Cond.methodLink RX4 55 yX4_play ∈ TBL := tbl_tab 382 (by decide +kernel) rfl
theorem wm_X4_59 : Cond.methodLink RX4 59 yX4_chooser ∈ TBL := tbl_tab 385 (by decide +kernel) rfl
theorem wm_X4_63 : Cond.methodLinkNest RX4 63 yX5_ofDay "BackYear" ∈ TBL := tbl_tab 388 (by decide +kernel) rfl
theorem wm_L_89 : Cond.methodLink RL 89 yX6_turn ∈ TBL := tbl_tab 389 (by decide +kernel) rfl
theorem wm_L_93 : Cond.methodLink RL 93 yX6_bargain ∈ TBL := tbl_tab 393 (by decide +kernel) rfl
theorem wm_X6_185 : Cond.methodLink RX6 185 yJ9_max_7cf53 ∈ TBL := tbl_tab 397 (by decide +kernel) rfl
theorem wm_L_98 : Cond.methodLink RL 98 yX6_due ∈ TBL := tbl_tab 400 (by decide +kernel) rfl
theorem wm_X6_190 : Cond.methodLinkNest RX6 190 yX0_dueTo "BackYear" ∈ TBL := tbl_tab 404 (by decide +kernel) rfl
theorem wm_X0_18 : Cond.methodLinkNest RX0 18 yX6_isIn "BackYear" ∈ TBL := tbl_tab 407 (by decide +kernel) rfl
theorem wm_X0_22 : Cond.methodLink RX0 22 yX0_dueFor ∈ TBL := tbl_tab 408 (by decide +kernel) rfl
theorem wm_X0_28 : Cond.methodLinkNest RX0 28 yX5_bearer "BackYear" ∈ TBL := tbl_tab 411 (by decide +kernel) rfl
theorem wm_X0_35 : Cond.methodLinkNest RX0 35 yX5_worthTo "BackYear" ∈ TBL := tbl_tab 412 (by decide +kernel) rfl
theorem wm_L_102 : Cond.methodLink RL 102 yX6_payments ∈ TBL := tbl_tab 413 (by decide +kernel) rfl
theorem wm_X6_195 : Cond.methodLinkNest RX6 195 yX0_fewestPayments "BackYear" ∈ TBL := tbl_tab 417 (by decide +kernel) rfl
theorem wm_X0_43 : Cond.methodLink RX0 43 yJ6_bitCount_0f7a4 ∈ TBL := tbl_tab 420 (by decide +kernel) rfl
theorem wm_X0_48 : Cond.methodLink RX0 48 yX0_mostSets ∈ TBL := tbl_tab 421 (by decide +kernel) rfl
theorem wm_X0_52 : Cond.methodLinkNest RX0 52 yX6_isWithin "BackYear" ∈ TBL := tbl_tab 424 (by decide +kernel) rfl
theorem wm_X0_55 : Cond.methodLink RX0 55 yX0_sumOf ∈ TBL := tbl_tab 425 (by decide +kernel) rfl
theorem wm_L_106 : Cond.methodLink RL 106 yX6_forgotten ∈ TBL := tbl_tab 428 (by decide +kernel) rfl
theorem wm_X6_199 : Cond.methodLinkNest RX6 199 yX1_explains "BackYear" ∈ TBL := tbl_tab 432 (by decide +kernel) rfl
theorem wm_X1_19 : Cond.methodLinkNest RX1 19 yX6_isIn "BackYear" ∈ TBL := tbl_tab 435 (by decide +kernel) rfl
theorem wm_X1_23 : Cond.methodLinkNest RX1 23 yX5_wouldStand "BackYear" ∈ TBL := tbl_tab 436 (by decide +kernel) rfl
theorem wm_L_110 : Cond.methodLink RL 110 yX6_upper ∈ TBL := tbl_tab 437 (by decide +kernel) rfl
theorem wm_X6_205 : Cond.methodLinkNest RX6 205 yX1_mean "BackYear" ∈ TBL := tbl_tab 441 (by decide +kernel) rfl
theorem wm_X1_36 : Cond.methodLinkNest RX1 36 yX5_worthToAll "BackYear" ∈ TBL := tbl_tab 444 (by decide +kernel) rfl
theorem wm_X1_40 : Cond.methodLink RX1 40 yX1_mean ∈ TBL := tbl_tab 448 (by decide +kernel) rfl
theorem wm_X6_209 : Cond.methodLinkNest RX6 209 yX1_halvings "BackYear" ∈ TBL := tbl_tab 449 (by decide +kernel) rfl
theorem wm_X1_26 : Cond.methodLink RX1 26 yX1_parts ∈ TBL := tbl_tab 452 (by decide +kernel) rfl
theorem wm_L_115 : Cond.methodLink RL 115 yX6_lower ∈ TBL := tbl_tab 455 (by decide +kernel) rfl
theorem wm_X6_213 : Cond.methodLinkNest RX6 213 yX1_parts "BackYear" ∈ TBL := tbl_tab 459 (by decide +kernel) rfl
theorem wm_L_119 : Cond.methodLink RL 119 yX6_comes ∈ TBL := tbl_tab 460 (by decide +kernel) rfl
theorem wm_L_123 : Cond.methodLink RL 123 yX6_image ∈ TBL := tbl_tab 464 (by decide +kernel) rfl
theorem wm_L_127 : Cond.methodLink RL 127 yX6_restore ∈ TBL := tbl_tab 468 (by decide +kernel) rfl
theorem wm_L_131 : Cond.methodLink RL 131 yX6_judged ∈ TBL := tbl_tab 472 (by decide +kernel) rfl
theorem wm_X6_217 : Cond.methodLinkNest RX6 217 yX2_faultOf "BackYear" ∈ TBL := tbl_tab 476 (by decide +kernel) rfl
theorem wm_X2_22 : Cond.methodLinkNest RX2 22 yX6_isSheet "BackYear" ∈ TBL := tbl_tab 480 (by decide +kernel) rfl
theorem wm_X2_26 : Cond.methodLinkNest RX2 26 yX6_isLane "BackYear" ∈ TBL := tbl_tab 483 (by decide +kernel) rfl
theorem wm_X2_29 : Cond.methodLink RX2 29 yX2_holds ∈ TBL := tbl_tab 486 (by decide +kernel) rfl
theorem wm_X2_32 : Cond.methodLink RX2 32 yX2_reaches ∈ TBL := tbl_tab 490 (by decide +kernel) rfl
theorem wm_X6_221 : Cond.methodLinkNest RX6 221 yX2_at "BackYear" ∈ TBL := tbl_tab 494 (by decide +kernel) rfl
theorem wc_X6_225 : Cond.constantLong RX6 225 (-1) ∈ TBL := tbl_tab 498 (by decide +kernel) rfl
theorem wm_X6_227 : Cond.methodLink RX6 227 yX6_isOneOf ∈ TBL := tbl_tab 499 (by decide +kernel) rfl
theorem wc_X6_268 : Cond.constantLong RX6 268 (12) ∈ TBL := tbl_tab 502 (by decide +kernel) rfl
theorem wm_L_135 : Cond.methodLink RL 135 yX6_net ∈ TBL := tbl_tab 503 (by decide +kernel) rfl
theorem wm_X6_231 : Cond.methodLink RX6 231 yX6_takeToldYears ∈ TBL := tbl_tab 507 (by decide +kernel) rfl
theorem wm_X6_234 : Cond.methodLinkNest RX6 234 yX1_fits "BackYear" ∈ TBL := tbl_tab 511 (by decide +kernel) rfl
theorem wm_X1_9 : Cond.methodLinkNest RX1 9 yX5_isMet "BackYear" ∈ TBL := tbl_tab 514 (by decide +kernel) rfl
theorem wm_L_140 : Cond.methodLink RL 140 yX6_film ∈ TBL := tbl_tab 515 (by decide +kernel) rfl
theorem wm_X6_238 : Cond.methodLinkNest RX6 238 yX2_put "BackYear" ∈ TBL := tbl_tab 519 (by decide +kernel) rfl
theorem wm_X2_36 : Cond.methodLink RX2 36 yX2_lowest ∈ TBL := tbl_tab 523 (by decide +kernel) rfl
theorem wm_L_144 : Cond.methodLink RL 144 yX6_sheet ∈ TBL := tbl_tab 526 (by decide +kernel) rfl
theorem wm_X6_242 : Cond.methodLink RX6 242 yX6_isSheet ∈ TBL := tbl_tab 530 (by decide +kernel) rfl
theorem wm_X6_245 : Cond.methodLink RX6 245 yX6_isLane ∈ TBL := tbl_tab 531 (by decide +kernel) rfl
theorem wm_X6_248 : Cond.methodLinkNest RX6 248 yX2_begin "BackYear" ∈ TBL := tbl_tab 532 (by decide +kernel) rfl
theorem wm_L_148 : Cond.methodLink RL 148 yX6_drop ∈ TBL := tbl_tab 536 (by decide +kernel) rfl
theorem wm_X6_252 : Cond.methodLinkNest RX6 252 yX2_holds "BackYear" ∈ TBL := tbl_tab 540 (by decide +kernel) rfl
theorem wm_L_154 : Cond.methodLink RL 154 yX6_item ∈ TBL := tbl_tab 541 (by decide +kernel) rfl
theorem wm_L_159 : Cond.methodLink RL 159 yX6_copy ∈ TBL := tbl_tab 545 (by decide +kernel) rfl
theorem wm_X6_261 : Cond.methodLinkNest RX6 261 yX2_reaches "BackYear" ∈ TBL := tbl_tab 549 (by decide +kernel) rfl
theorem wm_X6_264 : Cond.methodLinkNest RX6 264 yX2_move "BackYear" ∈ TBL := tbl_tab 550 (by decide +kernel) rfl
theorem wm_L_12 : Cond.methodLink RL 12 yX7_init ∈ TBL := tbl_tab 557 (by decide +kernel) rfl
theorem wf_X7_77 : Cond.fieldLink RX7 77 RX7 "people" "I" ∈ TBL := tbl_tab 561 (by decide +kernel) rfl
theorem wf_X7_84 : Cond.fieldLink RX7 84 RX7 "deeds" "I" ∈ TBL := tbl_tab 562 (by decide +kernel) rfl
theorem wf_X7_7 : Cond.fieldLink RX7 7 RX7 "kinds" "[I" ∈ TBL := tbl_tab 563 (by decide +kernel) rfl
theorem wf_X7_13 : Cond.fieldLink RX7 13 RX7 "days" "[I" ∈ TBL := tbl_tab 564 (by decide +kernel) rfl
theorem wf_X7_16 : Cond.fieldLink RX7 16 RX7 "needs" "[I" ∈ TBL := tbl_tab 565 (by decide +kernel) rfl
theorem wf_X7_19 : Cond.fieldLink RX7 19 RX7 "costs" "[I" ∈ TBL := tbl_tab 566 (by decide +kernel) rfl
theorem wf_X7_22 : Cond.fieldLink RX7 22 RX7 "odds" "[I" ∈ TBL := tbl_tab 567 (by decide +kernel) rfl
theorem wf_X7_25 : Cond.fieldLink RX7 25 RX7 "worths" "[I" ∈ TBL := tbl_tab 568 (by decide +kernel) rfl
theorem wf_X7_116 : Cond.fieldLink RX7 116 RX7 "last" "I" ∈ TBL := tbl_tab 569 (by decide +kernel) rfl
theorem wf_X7_113 : Cond.fieldLink RX7 113 RX7 "righted" "I" ∈ TBL := tbl_tab 570 (by decide +kernel) rfl
theorem wf_X7_81 : Cond.fieldLink RX7 81 RX7 "day" "I" ∈ TBL := tbl_tab 571 (by decide +kernel) rfl
theorem wf_X7_131 : Cond.fieldLink RX7 131 RX7 "years" "I" ∈ TBL := tbl_tab 572 (by decide +kernel) rfl
theorem wf_X7_28 : Cond.fieldLink RX7 28 RX7 "tape" "[I" ∈ TBL := tbl_tab 573 (by decide +kernel) rfl
theorem wf_X7_138 : Cond.fieldLink RX7 138 RX7 "taped" "I" ∈ TBL := tbl_tab 574 (by decide +kernel) rfl
theorem wf_X7_141 : Cond.fieldLink RX7 141 RX7 "at" "I" ∈ TBL := tbl_tab 575 (by decide +kernel) rfl
theorem wf_X7_148 : Cond.fieldLink RX7 148 RX7 "wrong" "Z" ∈ TBL := tbl_tab 576 (by decide +kernel) rfl
theorem wf_X7_156 : Cond.fieldLink RX7 156 RX7 "readDeeds" "I" ∈ TBL := tbl_tab 577 (by decide +kernel) rfl
theorem wf_X7_31 : Cond.fieldLink RX7 31 RX7 "readKinds" "[I" ∈ TBL := tbl_tab 578 (by decide +kernel) rfl
theorem wf_X7_34 : Cond.fieldLink RX7 34 RX7 "readDays" "[I" ∈ TBL := tbl_tab 579 (by decide +kernel) rfl
theorem wf_X7_37 : Cond.fieldLink RX7 37 RX7 "readNeeds" "[I" ∈ TBL := tbl_tab 580 (by decide +kernel) rfl
theorem wf_X7_40 : Cond.fieldLink RX7 40 RX7 "values" "[I" ∈ TBL := tbl_tab 581 (by decide +kernel) rfl
theorem wf_X7_173 : Cond.fieldLink RX7 173 RX7 "sum" "I" ∈ TBL := tbl_tab 582 (by decide +kernel) rfl
theorem wf_X7_43 : Cond.fieldLink RX7 43 RX7 "base" "[I" ∈ TBL := tbl_tab 583 (by decide +kernel) rfl
theorem wf_X7_184 : Cond.fieldLink RX7 184 RX7 "bestSum" "I" ∈ TBL := tbl_tab 584 (by decide +kernel) rfl
theorem wf_X7_46 : Cond.fieldLink RX7 46 RX7 "chosen" "[I" ∈ TBL := tbl_tab 585 (by decide +kernel) rfl
theorem wf_X7_49 : Cond.fieldLink RX7 49 RX7 "tries" "[I" ∈ TBL := tbl_tab 586 (by decide +kernel) rfl
theorem wf_X7_52 : Cond.fieldLink RX7 52 RX7 "ends" "[I" ∈ TBL := tbl_tab 587 (by decide +kernel) rfl
theorem wf_X7_55 : Cond.fieldLink RX7 55 RX7 "dues" "[I" ∈ TBL := tbl_tab 588 (by decide +kernel) rfl
theorem wf_X7_207 : Cond.fieldLink RX7 207 RX7 "upper" "J" ∈ TBL := tbl_tab 589 (by decide +kernel) rfl
theorem wf_X7_211 : Cond.fieldLink RX7 211 RX7 "lower" "J" ∈ TBL := tbl_tab 590 (by decide +kernel) rfl
theorem wf_X7_58 : Cond.fieldLink RX7 58 RX7 "olds" "[I" ∈ TBL := tbl_tab 591 (by decide +kernel) rfl
theorem wf_X7_61 : Cond.fieldLink RX7 61 RX7 "image" "[I" ∈ TBL := tbl_tab 592 (by decide +kernel) rfl
theorem wf_X7_221 : Cond.fieldLink RX7 221 RX7 "isImage" "Z" ∈ TBL := tbl_tab 593 (by decide +kernel) rfl
theorem wf_X7_64 : Cond.fieldLink RX7 64 RX7 "lanes" "[I" ∈ TBL := tbl_tab 594 (by decide +kernel) rfl
theorem wf_X7_67 : Cond.fieldLink RX7 67 RX7 "sizes" "[I" ∈ TBL := tbl_tab 595 (by decide +kernel) rfl
theorem wf_X7_70 : Cond.fieldLink RX7 70 RX7 "items" "[J" ∈ TBL := tbl_tab 596 (by decide +kernel) rfl
theorem wf_X7_74 : Cond.fieldLink RX7 74 RX7 "moved" "[J" ∈ TBL := tbl_tab 597 (by decide +kernel) rfl
theorem wm_L_17 : Cond.methodLink RL 17 yX7_people ∈ TBL := tbl_tab 673 (by decide +kernel) rfl
theorem wc_X7_91 : Cond.constantLong RX7 91 (4) ∈ TBL := tbl_tab 677 (by decide +kernel) rfl
theorem wm_X7_87 : Cond.methodLink RX7 87 yX7_in ∈ TBL := tbl_tab 678 (by decide +kernel) rfl
theorem wm_L_22 : Cond.methodLink RL 22 yX7_deed ∈ TBL := tbl_tab 681 (by decide +kernel) rfl
theorem wc_X7_93 : Cond.constantLong RX7 93 (3) ∈ TBL := tbl_tab 685 (by decide +kernel) rfl
theorem wc_X7_95 : Cond.constantLong RX7 95 (11) ∈ TBL := tbl_tab 686 (by decide +kernel) rfl
theorem wm_X7_97 : Cond.methodLink RX7 97 yX7_ahead ∈ TBL := tbl_tab 687 (by decide +kernel) rfl
theorem wm_X7_101 : Cond.methodLink RX7 101 yX7_adds ∈ TBL := tbl_tab 690 (by decide +kernel) rfl
theorem wm_L_27 : Cond.methodLink RL 27 yX7_told ∈ TBL := tbl_tab 694 (by decide +kernel) rfl
theorem wm_X7_109 : Cond.methodLink RX7 109 yX7_isDeed ∈ TBL := tbl_tab 698 (by decide +kernel) rfl
theorem wm_X7_119 : Cond.methodLink RX7 119 yX7_stands ∈ TBL := tbl_tab 702 (by decide +kernel) rfl
theorem wm_X7_105 : Cond.methodLink RX7 105 yX7_is ∈ TBL := tbl_tab 706 (by decide +kernel) rfl
theorem wm_L_31 : Cond.methodLink RL 31 yX7_set ∈ TBL := tbl_tab 710 (by decide +kernel) rfl
theorem wc_X7_123 : Cond.constantLong RX7 123 (9) ∈ TBL := tbl_tab 714 (by decide +kernel) rfl
theorem wm_L_35 : Cond.methodLink RL 35 yX7_worth ∈ TBL := tbl_tab 715 (by decide +kernel) rfl
theorem wc_X7_125 : Cond.constantLong RX7 125 (-9) ∈ TBL := tbl_tab 719 (by decide +kernel) rfl
theorem wc_X7_127 : Cond.constant RX7 127 (-100001) ∈ TBL := tbl_tab 720 (by decide +kernel) rfl
theorem wm_L_39 : Cond.methodLink RL 39 yX7_worthOf ∈ TBL := tbl_tab 721 (by decide +kernel) rfl
theorem wm_L_43 : Cond.methodLink RL 43 yX7_last ∈ TBL := tbl_tab 725 (by decide +kernel) rfl
theorem wm_X7_128 : Cond.methodLink RX7 128 yX7_areDeeds ∈ TBL := tbl_tab 729 (by decide +kernel) rfl
theorem wm_L_56 : Cond.methodLink RL 56 yX7_count ∈ TBL := tbl_tab 733 (by decide +kernel) rfl
theorem wm_L_47 : Cond.methodLink RL 47 yX7_type ∈ TBL := tbl_tab 737 (by decide +kernel) rfl
theorem wc_X7_134 : Cond.constantLong RX7 134 (32) ∈ TBL := tbl_tab 741 (by decide +kernel) rfl
theorem wc_X7_136 : Cond.constantLong RX7 136 (126) ∈ TBL := tbl_tab 742 (by decide +kernel) rfl
theorem wm_L_52 : Cond.methodLink RL 52 yX7_text ∈ TBL := tbl_tab 743 (by decide +kernel) rfl
theorem wm_X7_159 : Cond.methodLink RX7 159 yX7_readDeed ∈ TBL := tbl_tab 747 (by decide +kernel) rfl
theorem wm_X7_144 : Cond.methodLink RX7 144 yX7_here ∈ TBL := tbl_tab 751 (by decide +kernel) rfl
theorem wc_X7_152 : Cond.constantLong RX7 152 (97) ∈ TBL := tbl_tab 755 (by decide +kernel) rfl
theorem wc_X7_154 : Cond.constantLong RX7 154 (108) ∈ TBL := tbl_tab 756 (by decide +kernel) rfl
theorem wm_L_60 : Cond.methodLink RL 60 yX7_right ∈ TBL := tbl_tab 757 (by decide +kernel) rfl
theorem wm_X7_162 : Cond.methodLink RX7 162 yX7_ofDay ∈ TBL := tbl_tab 761 (by decide +kernel) rfl
theorem wm_L_64 : Cond.methodLink RL 64 yX7_back ∈ TBL := tbl_tab 765 (by decide +kernel) rfl
theorem wc_X7_166 : Cond.constant RX7 166 (-100002) ∈ TBL := tbl_tab 769 (by decide +kernel) rfl
theorem wm_L_68 : Cond.methodLink RL 68 yX7_year ∈ TBL := tbl_tab 770 (by decide +kernel) rfl
theorem wm_X7_167 : Cond.methodLink RX7 167 yX7_size ∈ TBL := tbl_tab 774 (by decide +kernel) rfl
theorem wm_L_76 : Cond.methodLink RL 76 yX7_bears ∈ TBL := tbl_tab 777 (by decide +kernel) rfl
theorem wm_X7_170 : Cond.methodLink RX7 170 yX7_bearer ∈ TBL := tbl_tab 781 (by decide +kernel) rfl
theorem wm_L_72 : Cond.methodLink RL 72 yX7_value ∈ TBL := tbl_tab 785 (by decide +kernel) rfl
theorem wm_X7_176 : Cond.methodLink RX7 176 yX7_isOne ∈ TBL := tbl_tab 789 (by decide +kernel) rfl
theorem wm_X7_180 : Cond.methodLink RX7 180 yX7_counts ∈ TBL := tbl_tab 793 (by decide +kernel) rfl
theorem wm_L_80 : Cond.methodLink RL 80 yX7_best ∈ TBL := tbl_tab 797 (by decide +kernel) rfl
theorem wm_X7_191 : Cond.methodLink RX7 191 yX7_bestOf ∈ TBL := tbl_tab 801 (by decide +kernel) rfl
theorem wm_X7_187 : Cond.methodLink RX7 187 yX7_isWalk ∈ TBL := tbl_tab 805 (by decide +kernel) rfl
theorem wm_L_84 : Cond.methodLink RL 84 yX7_wanted ∈ TBL := tbl_tab 809 (by decide +kernel) rfl
theorem wm_L_88 : Cond.methodLink RL 88 yX7_self ∈ TBL := tbl_tab 813 (by decide +kernel) rfl
theorem wm_X7_198 : Cond.methodLink RX7 198 yX7_plays ∈ TBL := tbl_tab 817 (by decide +kernel) rfl
theorem wm_X7_195 : Cond.methodLink RX7 195 yX7_own ∈ TBL := tbl_tab 821 (by decide +kernel) rfl
theorem wm_L_92 : Cond.methodLink RL 92 yX7_turn ∈ TBL := tbl_tab 825 (by decide +kernel) rfl
theorem wm_L_97 : Cond.methodLink RL 97 yX7_bargain ∈ TBL := tbl_tab 829 (by decide +kernel) rfl
theorem wm_L_101 : Cond.methodLink RL 101 yX7_due ∈ TBL := tbl_tab 833 (by decide +kernel) rfl
theorem wm_X7_201 : Cond.methodLink RX7 201 yX7_owes ∈ TBL := tbl_tab 837 (by decide +kernel) rfl
theorem wm_L_105 : Cond.methodLink RL 105 yX7_payments ∈ TBL := tbl_tab 841 (by decide +kernel) rfl
theorem wm_X7_204 : Cond.methodLink RX7 204 yX7_isZero ∈ TBL := tbl_tab 845 (by decide +kernel) rfl
theorem wm_L_109 : Cond.methodLink RL 109 yX7_forgotten ∈ TBL := tbl_tab 849 (by decide +kernel) rfl
theorem wm_L_114 : Cond.methodLink RL 114 yX7_upper ∈ TBL := tbl_tab 853 (by decide +kernel) rfl
theorem wm_X7_214 : Cond.methodLink RX7 214 yX7_expects ∈ TBL := tbl_tab 857 (by decide +kernel) rfl
theorem wm_L_118 : Cond.methodLink RL 118 yX7_lower ∈ TBL := tbl_tab 861 (by decide +kernel) rfl
theorem wm_L_122 : Cond.methodLink RL 122 yX7_comes ∈ TBL := tbl_tab 865 (by decide +kernel) rfl
theorem wm_L_126 : Cond.methodLink RL 126 yX7_image ∈ TBL := tbl_tab 869 (by decide +kernel) rfl
theorem wm_X7_217 : Cond.methodLink RX7 217 yX7_notes ∈ TBL := tbl_tab 873 (by decide +kernel) rfl
theorem wm_L_130 : Cond.methodLink RL 130 yX7_restore ∈ TBL := tbl_tab 877 (by decide +kernel) rfl
theorem wm_X7_224 : Cond.methodLink RX7 224 yX7_gives ∈ TBL := tbl_tab 881 (by decide +kernel) rfl
theorem wm_L_134 : Cond.methodLink RL 134 yX7_judged ∈ TBL := tbl_tab 885 (by decide +kernel) rfl
theorem wm_X7_228 : Cond.methodLink RX7 228 yX7_isSheet ∈ TBL := tbl_tab 889 (by decide +kernel) rfl
theorem wm_X7_231 : Cond.methodLink RX7 231 yX7_isLane ∈ TBL := tbl_tab 892 (by decide +kernel) rfl
theorem wm_X7_234 : Cond.methodLink RX7 234 yX7_why ∈ TBL := tbl_tab 895 (by decide +kernel) rfl
theorem wc_X7_238 : Cond.constantLong RX7 238 (-1) ∈ TBL := tbl_tab 899 (by decide +kernel) rfl
theorem wm_L_139 : Cond.methodLink RL 139 yX7_net ∈ TBL := tbl_tab 900 (by decide +kernel) rfl
theorem wc_X7_240 : Cond.constantLong RX7 240 (8) ∈ TBL := tbl_tab 904 (by decide +kernel) rfl
theorem wm_L_143 : Cond.methodLink RL 143 yX7_film ∈ TBL := tbl_tab 905 (by decide +kernel) rfl
theorem wm_X7_242 : Cond.methodLink RX7 242 yX7_puts ∈ TBL := tbl_tab 909 (by decide +kernel) rfl
theorem wm_L_147 : Cond.methodLink RL 147 yX7_sheet ∈ TBL := tbl_tab 913 (by decide +kernel) rfl
theorem wm_L_151 : Cond.methodLink RL 151 yX7_drop ∈ TBL := tbl_tab 917 (by decide +kernel) rfl
theorem wm_L_158 : Cond.methodLink RL 158 yX7_item ∈ TBL := tbl_tab 921 (by decide +kernel) rfl
theorem wm_L_163 : Cond.methodLink RL 163 yX7_copy ∈ TBL := tbl_tab 925 (by decide +kernel) rfl
theorem wc_L_152 : Cond.constantLong RL 152 (4294967295) ∈ TBL := tbl_tab 929 (by decide +kernel) rfl
def okM (y : MethodName) (b : ByteArray) (nL : Nat) (ret : Option FieldType) (n : Nat) : Prop := Cond.code y b nL ret ∈ TBL ∧ Cond.initialized y.cls ∈ TBL ∧ (y.cls ≠ "java/lang/invoke/MethodHandle" ∧ y.cls ≠ "java/lang/invoke/VarHandle") ∧ (parseMethodDescriptor y.desc).map (fun d => d.parameters.length) = some n
theorem ok_X6_init : okM yX6_init cX6_init 1 none 0 := ⟨tbl_tab 16 (by decide +kernel) rfl, wi_X6, ⟨by decide +kernel, by decide +kernel⟩, by decide +kernel⟩
theorem wn_X6_init : Cond.instanceMethod yX6_init ∈ TBL := tbl_tab 15 (by decide +kernel) rfl
theorem ok_X5_init : okM yX5_init cX5_init 1 none 0 := ⟨tbl_tab 24 (by decide +kernel) rfl, wi_X5, ⟨by decide +kernel, by decide +kernel⟩, by decide +kernel⟩
theorem wn_X5_init : Cond.instanceMethod yX5_init ∈ TBL := tbl_tab 23 (by decide +kernel) rfl
theorem ok_X3_init : okM yX3_init cX3_init 1 none 0 := ⟨tbl_tab 92 (by decide +kernel) rfl, wi_X3, ⟨by decide +kernel, by decide +kernel⟩, by decide +kernel⟩
theorem wn_X3_init : Cond.instanceMethod yX3_init ∈ TBL := tbl_tab 91 (by decide +kernel) rfl
theorem ok_X2_init : okM yX2_init cX2_init 1 none 0 := ⟨tbl_tab 113 (by decide +kernel) rfl, wi_X2, ⟨by decide +kernel, by decide +kernel⟩, by decide +kernel⟩
theorem wn_X2_init : Cond.instanceMethod yX2_init ∈ TBL := tbl_tab 112 (by decide +kernel) rfl
theorem ok_X6_people : okM yX6_people cX6_people 3 (some .int) 1 := ⟨tbl_tab 159 (by decide +kernel) rfl, wi_X6, ⟨by decide +kernel, by decide +kernel⟩, by decide +kernel⟩
theorem wn_X6_people : Cond.instanceMethod yX6_people ∈ TBL := tbl_tab 157 (by decide +kernel) rfl
theorem wl_X6_people : Cond.selects RX6 yX6_people yX6_people ∈ TBL := tbl_tab 158 (by decide +kernel) rfl
theorem ok_X6_deed : okM yX6_deed cX6_deed 4 (some .int) 3 := ⟨tbl_tab 163 (by decide +kernel) rfl, wi_X6, ⟨by decide +kernel, by decide +kernel⟩, by decide +kernel⟩
theorem wn_X6_deed : Cond.instanceMethod yX6_deed ∈ TBL := tbl_tab 161 (by decide +kernel) rfl
theorem wl_X6_deed : Cond.selects RX6 yX6_deed yX6_deed ∈ TBL := tbl_tab 162 (by decide +kernel) rfl
theorem ok_X6_isDay : okM yX6_isDay cX6_isDay 1 (some .boolean) 1 := ⟨tbl_tab 166 (by decide +kernel) rfl, wi_X6, ⟨by decide +kernel, by decide +kernel⟩, by decide +kernel⟩
theorem ws_X6_isDay : Cond.static yX6_isDay ∈ TBL := tbl_tab 165 (by decide +kernel) rfl
theorem ok_X5_needable : okM yX5_needable cX5_needable 5 (some .int) 2 := ⟨tbl_tab 170 (by decide +kernel) rfl, wi_X5, ⟨by decide +kernel, by decide +kernel⟩, by decide +kernel⟩
theorem wn_X5_needable : Cond.instanceMethod yX5_needable ∈ TBL := tbl_tab 169 (by decide +kernel) rfl
theorem wl_X5_needable : Cond.selects RX5 yX5_needable yX5_needable ∈ TBL := tbl_sel 0 (by decide +kernel) rfl
theorem ok_X6_isWithin : okM yX6_isWithin cX6_isWithin 2 (some .boolean) 2 := ⟨tbl_tab 173 (by decide +kernel) rfl, wi_X6, ⟨by decide +kernel, by decide +kernel⟩, by decide +kernel⟩
theorem ws_X6_isWithin : Cond.static yX6_isWithin ∈ TBL := tbl_tab 172 (by decide +kernel) rfl
theorem ok_X5_add : okM yX5_add cX5_add 5 (some .boolean) 3 := ⟨tbl_tab 177 (by decide +kernel) rfl, wi_X5, ⟨by decide +kernel, by decide +kernel⟩, by decide +kernel⟩
theorem wn_X5_add : Cond.instanceMethod yX5_add ∈ TBL := tbl_tab 176 (by decide +kernel) rfl
theorem wl_X5_add : Cond.selects RX5 yX5_add yX5_add ∈ TBL := tbl_sel 1 (by decide +kernel) rfl
theorem ok_X6_told : okM yX6_told cX6_told 3 (some .int) 2 := ⟨tbl_tab 181 (by decide +kernel) rfl, wi_X6, ⟨by decide +kernel, by decide +kernel⟩, by decide +kernel⟩
theorem wn_X6_told : Cond.instanceMethod yX6_told ∈ TBL := tbl_tab 179 (by decide +kernel) rfl
theorem wl_X6_told : Cond.selects RX6 yX6_told yX6_told ∈ TBL := tbl_tab 180 (by decide +kernel) rfl
theorem ok_X5_has : okM yX5_has cX5_has 2 (some .boolean) 1 := ⟨tbl_tab 185 (by decide +kernel) rfl, wi_X5, ⟨by decide +kernel, by decide +kernel⟩, by decide +kernel⟩
theorem wn_X5_has : Cond.instanceMethod yX5_has ∈ TBL := tbl_tab 184 (by decide +kernel) rfl
theorem wl_X5_has : Cond.selects RX5 yX5_has yX5_has ∈ TBL := tbl_sel 2 (by decide +kernel) rfl
theorem ok_X5_standing : okM yX5_standing cX5_standing 4 (some .int) 1 := ⟨tbl_tab 189 (by decide +kernel) rfl, wi_X5, ⟨by decide +kernel, by decide +kernel⟩, by decide +kernel⟩
theorem wn_X5_standing : Cond.instanceMethod yX5_standing ∈ TBL := tbl_tab 188 (by decide +kernel) rfl
theorem wl_X5_standing : Cond.selects RX5 yX5_standing yX5_standing ∈ TBL := tbl_sel 3 (by decide +kernel) rfl
theorem ok_X6_isIn : okM yX6_isIn cX6_isIn 2 (some .boolean) 2 := ⟨tbl_tab 192 (by decide +kernel) rfl, wi_X6, ⟨by decide +kernel, by decide +kernel⟩, by decide +kernel⟩
theorem ws_X6_isIn : Cond.static yX6_isIn ∈ TBL := tbl_tab 191 (by decide +kernel) rfl
theorem ok_X5_wouldStand : okM yX5_wouldStand cX5_wouldStand 4 (some .boolean) 2 := ⟨tbl_tab 196 (by decide +kernel) rfl, wi_X5, ⟨by decide +kernel, by decide +kernel⟩, by decide +kernel⟩
theorem wn_X5_wouldStand : Cond.instanceMethod yX5_wouldStand ∈ TBL := tbl_tab 195 (by decide +kernel) rfl
theorem wl_X5_wouldStand : Cond.selects RX5 yX5_wouldStand yX5_wouldStand ∈ TBL := tbl_sel 4 (by decide +kernel) rfl
theorem ok_X5_isMet : okM yX5_isMet cX5_isMet 4 (some .boolean) 3 := ⟨tbl_tab 199 (by decide +kernel) rfl, wi_X5, ⟨by decide +kernel, by decide +kernel⟩, by decide +kernel⟩
theorem ws_X5_isMet : Cond.static yX5_isMet ∈ TBL := tbl_tab 198 (by decide +kernel) rfl
theorem ok_X6_set : okM yX6_set cX6_set 7 (some .int) 3 := ⟨tbl_tab 204 (by decide +kernel) rfl, wi_X6, ⟨by decide +kernel, by decide +kernel⟩, by decide +kernel⟩
theorem wn_X6_set : Cond.instanceMethod yX6_set ∈ TBL := tbl_tab 202 (by decide +kernel) rfl
theorem wl_X6_set : Cond.selects RX6 yX6_set yX6_set ∈ TBL := tbl_tab 203 (by decide +kernel) rfl
theorem ok_X6_isChoice : okM yX6_isChoice cX6_isChoice 1 (some .boolean) 1 := ⟨tbl_tab 207 (by decide +kernel) rfl, wi_X6, ⟨by decide +kernel, by decide +kernel⟩, by decide +kernel⟩
theorem ws_X6_isChoice : Cond.static yX6_isChoice ∈ TBL := tbl_tab 206 (by decide +kernel) rfl
theorem ok_X6_worth : okM yX6_worth cX6_worth 5 (some .int) 3 := ⟨tbl_tab 211 (by decide +kernel) rfl, wi_X6, ⟨by decide +kernel, by decide +kernel⟩, by decide +kernel⟩
theorem wn_X6_worth : Cond.instanceMethod yX6_worth ∈ TBL := tbl_tab 209 (by decide +kernel) rfl
theorem wl_X6_worth : Cond.selects RX6 yX6_worth yX6_worth ∈ TBL := tbl_tab 210 (by decide +kernel) rfl
theorem ok_X6_isEverPerson : okM yX6_isEverPerson cX6_isEverPerson 1 (some .boolean) 1 := ⟨tbl_tab 214 (by decide +kernel) rfl, wi_X6, ⟨by decide +kernel, by decide +kernel⟩, by decide +kernel⟩
theorem ws_X6_isEverPerson : Cond.static yX6_isEverPerson ∈ TBL := tbl_tab 213 (by decide +kernel) rfl
theorem ok_X5_worthTo : okM yX5_worthTo cX5_worthTo 3 (some .int) 2 := ⟨tbl_tab 219 (by decide +kernel) rfl, wi_X5, ⟨by decide +kernel, by decide +kernel⟩, by decide +kernel⟩
theorem wn_X5_worthTo : Cond.instanceMethod yX5_worthTo ∈ TBL := tbl_tab 218 (by decide +kernel) rfl
theorem wl_X5_worthTo : Cond.selects RX5 yX5_worthTo yX5_worthTo ∈ TBL := tbl_sel 5 (by decide +kernel) rfl
theorem ok_X6_worthOf : okM yX6_worthOf cX6_worthOf 3 (some .int) 2 := ⟨tbl_tab 223 (by decide +kernel) rfl, wi_X6, ⟨by decide +kernel, by decide +kernel⟩, by decide +kernel⟩
theorem wn_X6_worthOf : Cond.instanceMethod yX6_worthOf ∈ TBL := tbl_tab 221 (by decide +kernel) rfl
theorem wl_X6_worthOf : Cond.selects RX6 yX6_worthOf yX6_worthOf ∈ TBL := tbl_tab 222 (by decide +kernel) rfl
theorem ok_X6_last : okM yX6_last cX6_last 3 (some .int) 1 := ⟨tbl_tab 227 (by decide +kernel) rfl, wi_X6, ⟨by decide +kernel, by decide +kernel⟩, by decide +kernel⟩
theorem wn_X6_last : Cond.instanceMethod yX6_last ∈ TBL := tbl_tab 225 (by decide +kernel) rfl
theorem wl_X6_last : Cond.selects RX6 yX6_last yX6_last ∈ TBL := tbl_tab 226 (by decide +kernel) rfl
theorem ok_X5_all : okM yX5_all cX5_all 1 (some .int) 0 := ⟨tbl_tab 231 (by decide +kernel) rfl, wi_X5, ⟨by decide +kernel, by decide +kernel⟩, by decide +kernel⟩
theorem wn_X5_all : Cond.instanceMethod yX5_all ∈ TBL := tbl_tab 230 (by decide +kernel) rfl
theorem wl_X5_all : Cond.selects RX5 yX5_all yX5_all ∈ TBL := tbl_sel 6 (by decide +kernel) rfl
theorem ok_X6_type : okM yX6_type cX6_type 2 (some .int) 1 := ⟨tbl_tab 235 (by decide +kernel) rfl, wi_X6, ⟨by decide +kernel, by decide +kernel⟩, by decide +kernel⟩
theorem wn_X6_type : Cond.instanceMethod yX6_type ∈ TBL := tbl_tab 233 (by decide +kernel) rfl
theorem wl_X6_type : Cond.selects RX6 yX6_type yX6_type ∈ TBL := tbl_tab 234 (by decide +kernel) rfl
theorem ok_X3_add : okM yX3_add cX3_add 2 (some .boolean) 1 := ⟨tbl_tab 239 (by decide +kernel) rfl, wi_X3, ⟨by decide +kernel, by decide +kernel⟩, by decide +kernel⟩
theorem wn_X3_add : Cond.instanceMethod yX3_add ∈ TBL := tbl_tab 238 (by decide +kernel) rfl
theorem wl_X3_add : Cond.selects RX3 yX3_add yX3_add ∈ TBL := tbl_sel 7 (by decide +kernel) rfl
theorem ok_X6_text : okM yX6_text cX6_text 2 (some .int) 0 := ⟨tbl_tab 243 (by decide +kernel) rfl, wi_X6, ⟨by decide +kernel, by decide +kernel⟩, by decide +kernel⟩
theorem wn_X6_text : Cond.instanceMethod yX6_text ∈ TBL := tbl_tab 241 (by decide +kernel) rfl
theorem wl_X6_text : Cond.selects RX6 yX6_text yX6_text ∈ TBL := tbl_tab 242 (by decide +kernel) rfl
theorem ok_X5_clear : okM yX5_clear cX5_clear 1 none 0 := ⟨tbl_tab 247 (by decide +kernel) rfl, wi_X5, ⟨by decide +kernel, by decide +kernel⟩, by decide +kernel⟩
theorem wn_X5_clear : Cond.instanceMethod yX5_clear ∈ TBL := tbl_tab 246 (by decide +kernel) rfl
theorem wl_X5_clear : Cond.selects RX5 yX5_clear yX5_clear ∈ TBL := tbl_sel 8 (by decide +kernel) rfl
theorem ok_X3_readInto : okM yX3_readInto cX3_readInto 4 (some .int) 1 := ⟨tbl_tab 251 (by decide +kernel) rfl, wi_X3, ⟨by decide +kernel, by decide +kernel⟩, by decide +kernel⟩
theorem wn_X3_readInto : Cond.instanceMethod yX3_readInto ∈ TBL := tbl_tab 250 (by decide +kernel) rfl
theorem wl_X3_readInto : Cond.selects RX3 yX3_readInto yX3_readInto ∈ TBL := tbl_sel 9 (by decide +kernel) rfl
theorem ok_X3_takes : okM yX3_takes cX3_takes 3 (some .boolean) 2 := ⟨tbl_tab 255 (by decide +kernel) rfl, wi_X3, ⟨by decide +kernel, by decide +kernel⟩, by decide +kernel⟩
theorem wn_X3_takes : Cond.instanceMethod yX3_takes ∈ TBL := tbl_tab 254 (by decide +kernel) rfl
theorem wl_X3_takes : Cond.selects RX3 yX3_takes yX3_takes ∈ TBL := tbl_sel 10 (by decide +kernel) rfl
theorem ok_X3_takesKind : okM yX3_takesKind cX3_takesKind 2 (some .boolean) 1 := ⟨tbl_tab 259 (by decide +kernel) rfl, wi_X3, ⟨by decide +kernel, by decide +kernel⟩, by decide +kernel⟩
theorem wn_X3_takesKind : Cond.instanceMethod yX3_takesKind ∈ TBL := tbl_tab 258 (by decide +kernel) rfl
theorem wl_X3_takesKind : Cond.selects RX3 yX3_takesKind yX3_takesKind ∈ TBL := tbl_sel 11 (by decide +kernel) rfl
theorem ok_X3_takesDay : okM yX3_takesDay cX3_takesDay 4 (some .boolean) 2 := ⟨tbl_tab 263 (by decide +kernel) rfl, wi_X3, ⟨by decide +kernel, by decide +kernel⟩, by decide +kernel⟩
theorem wn_X3_takesDay : Cond.instanceMethod yX3_takesDay ∈ TBL := tbl_tab 262 (by decide +kernel) rfl
theorem wl_X3_takesDay : Cond.selects RX3 yX3_takesDay yX3_takesDay ∈ TBL := tbl_sel 12 (by decide +kernel) rfl
theorem ok_X3_takesComma : okM yX3_takesComma cX3_takesComma 2 (some .boolean) 1 := ⟨tbl_tab 269 (by decide +kernel) rfl, wi_X3, ⟨by decide +kernel, by decide +kernel⟩, by decide +kernel⟩
theorem wn_X3_takesComma : Cond.instanceMethod yX3_takesComma ∈ TBL := tbl_tab 268 (by decide +kernel) rfl
theorem wl_X3_takesComma : Cond.selects RX3 yX3_takesComma yX3_takesComma ∈ TBL := tbl_sel 13 (by decide +kernel) rfl
theorem ok_X3_takesNeed : okM yX3_takesNeed cX3_takesNeed 5 (some .boolean) 2 := ⟨tbl_tab 273 (by decide +kernel) rfl, wi_X3, ⟨by decide +kernel, by decide +kernel⟩, by decide +kernel⟩
theorem wn_X3_takesNeed : Cond.instanceMethod yX3_takesNeed ∈ TBL := tbl_tab 272 (by decide +kernel) rfl
theorem wl_X3_takesNeed : Cond.selects RX3 yX3_takesNeed yX3_takesNeed ∈ TBL := tbl_sel 14 (by decide +kernel) rfl
theorem ok_X5_become : okM yX5_become cX5_become 2 none 1 := ⟨tbl_tab 280 (by decide +kernel) rfl, wi_X5, ⟨by decide +kernel, by decide +kernel⟩, by decide +kernel⟩
theorem wn_X5_become : Cond.instanceMethod yX5_become ∈ TBL := tbl_tab 279 (by decide +kernel) rfl
theorem wl_X5_become : Cond.selects RX5 yX5_become yX5_become ∈ TBL := tbl_sel 15 (by decide +kernel) rfl
theorem ok_X6_count : okM yX6_count cX6_count 2 (some .int) 1 := ⟨tbl_tab 287 (by decide +kernel) rfl, wi_X6, ⟨by decide +kernel, by decide +kernel⟩, by decide +kernel⟩
theorem wn_X6_count : Cond.instanceMethod yX6_count ∈ TBL := tbl_tab 285 (by decide +kernel) rfl
theorem wl_X6_count : Cond.selects RX6 yX6_count yX6_count ∈ TBL := tbl_tab 286 (by decide +kernel) rfl
theorem ok_X6_right : okM yX6_right cX6_right 4 (some .int) 1 := ⟨tbl_tab 291 (by decide +kernel) rfl, wi_X6, ⟨by decide +kernel, by decide +kernel⟩, by decide +kernel⟩
theorem wn_X6_right : Cond.instanceMethod yX6_right ∈ TBL := tbl_tab 289 (by decide +kernel) rfl
theorem wl_X6_right : Cond.selects RX6 yX6_right yX6_right ∈ TBL := tbl_tab 290 (by decide +kernel) rfl
theorem ok_X5_ofDay : okM yX5_ofDay cX5_ofDay 4 (some .int) 1 := ⟨tbl_tab 295 (by decide +kernel) rfl, wi_X5, ⟨by decide +kernel, by decide +kernel⟩, by decide +kernel⟩
theorem wn_X5_ofDay : Cond.instanceMethod yX5_ofDay ∈ TBL := tbl_tab 294 (by decide +kernel) rfl
theorem wl_X5_ofDay : Cond.selects RX5 yX5_ofDay yX5_ofDay ∈ TBL := tbl_sel 16 (by decide +kernel) rfl
theorem ok_X6_back : okM yX6_back cX6_back 1 (some .int) 0 := ⟨tbl_tab 299 (by decide +kernel) rfl, wi_X6, ⟨by decide +kernel, by decide +kernel⟩, by decide +kernel⟩
theorem wn_X6_back : Cond.instanceMethod yX6_back ∈ TBL := tbl_tab 297 (by decide +kernel) rfl
theorem wl_X6_back : Cond.selects RX6 yX6_back yX6_back ∈ TBL := tbl_tab 298 (by decide +kernel) rfl
theorem ok_X6_year : okM yX6_year cX6_year 1 (some .int) 0 := ⟨tbl_tab 304 (by decide +kernel) rfl, wi_X6, ⟨by decide +kernel, by decide +kernel⟩, by decide +kernel⟩
theorem wn_X6_year : Cond.instanceMethod yX6_year ∈ TBL := tbl_tab 302 (by decide +kernel) rfl
theorem wl_X6_year : Cond.selects RX6 yX6_year yX6_year ∈ TBL := tbl_tab 303 (by decide +kernel) rfl
theorem ok_X5_beginNext : okM yX5_beginNext cX5_beginNext 1 none 0 := ⟨tbl_tab 308 (by decide +kernel) rfl, wi_X5, ⟨by decide +kernel, by decide +kernel⟩, by decide +kernel⟩
theorem wn_X5_beginNext : Cond.instanceMethod yX5_beginNext ∈ TBL := tbl_tab 307 (by decide +kernel) rfl
theorem wl_X5_beginNext : Cond.selects RX5 yX5_beginNext yX5_beginNext ∈ TBL := tbl_sel 17 (by decide +kernel) rfl
theorem ok_J6_bitCount_0f7a4 : okM yJ6_bitCount_0f7a4 cJ6_bitCount_0f7a4 1 (some .int) 1 := ⟨tbl_tab 312 (by decide +kernel) rfl, wi_J6, ⟨by decide +kernel, by decide +kernel⟩, by decide +kernel⟩
theorem ws_J6_bitCount_0f7a4 : Cond.static yJ6_bitCount_0f7a4 ∈ TBL := tbl_tab 311 (by decide +kernel) rfl
theorem ok_X6_value : okM yX6_value cX6_value 2 (some .int) 1 := ⟨tbl_tab 319 (by decide +kernel) rfl, wi_X6, ⟨by decide +kernel, by decide +kernel⟩, by decide +kernel⟩
theorem wn_X6_value : Cond.instanceMethod yX6_value ∈ TBL := tbl_tab 317 (by decide +kernel) rfl
theorem wl_X6_value : Cond.selects RX6 yX6_value yX6_value ∈ TBL := tbl_tab 318 (by decide +kernel) rfl
theorem ok_X5_sumBy : okM yX5_sumBy cX5_sumBy 5 (some .int) 1 := ⟨tbl_tab 323 (by decide +kernel) rfl, wi_X5, ⟨by decide +kernel, by decide +kernel⟩, by decide +kernel⟩
theorem wn_X5_sumBy : Cond.instanceMethod yX5_sumBy ∈ TBL := tbl_tab 322 (by decide +kernel) rfl
theorem wl_X5_sumBy : Cond.selects RX5 yX5_sumBy yX5_sumBy ∈ TBL := tbl_sel 18 (by decide +kernel) rfl
theorem ok_X5_valueOf : okM yX5_valueOf cX5_valueOf 6 (some .int) 3 := ⟨tbl_tab 327 (by decide +kernel) rfl, wi_X5, ⟨by decide +kernel, by decide +kernel⟩, by decide +kernel⟩
theorem wn_X5_valueOf : Cond.instanceMethod yX5_valueOf ∈ TBL := tbl_tab 326 (by decide +kernel) rfl
theorem wl_X5_valueOf : Cond.selects RX5 yX5_valueOf yX5_valueOf ∈ TBL := tbl_sel 19 (by decide +kernel) rfl
theorem ok_X5_bearer : okM yX5_bearer cX5_bearer 5 (some .int) 1 := ⟨tbl_tab 332 (by decide +kernel) rfl, wi_X5, ⟨by decide +kernel, by decide +kernel⟩, by decide +kernel⟩
theorem wn_X5_bearer : Cond.instanceMethod yX5_bearer ∈ TBL := tbl_tab 331 (by decide +kernel) rfl
theorem wl_X5_bearer : Cond.selects RX5 yX5_bearer yX5_bearer ∈ TBL := tbl_sel 20 (by decide +kernel) rfl
theorem ok_X5_isPerson : okM yX5_isPerson cX5_isPerson 2 (some .boolean) 1 := ⟨tbl_tab 336 (by decide +kernel) rfl, wi_X5, ⟨by decide +kernel, by decide +kernel⟩, by decide +kernel⟩
theorem wn_X5_isPerson : Cond.instanceMethod yX5_isPerson ∈ TBL := tbl_tab 335 (by decide +kernel) rfl
theorem wl_X5_isPerson : Cond.selects RX5 yX5_isPerson yX5_isPerson ∈ TBL := tbl_sel 21 (by decide +kernel) rfl
theorem ok_X5_valueBy : okM yX5_valueBy cX5_valueBy 3 (some .int) 2 := ⟨tbl_tab 340 (by decide +kernel) rfl, wi_X5, ⟨by decide +kernel, by decide +kernel⟩, by decide +kernel⟩
theorem wn_X5_valueBy : Cond.instanceMethod yX5_valueBy ∈ TBL := tbl_tab 339 (by decide +kernel) rfl
theorem wl_X5_valueBy : Cond.selects RX5 yX5_valueBy yX5_valueBy ∈ TBL := tbl_sel 22 (by decide +kernel) rfl
theorem ok_X6_bears : okM yX6_bears cX6_bears 2 (some .int) 1 := ⟨tbl_tab 344 (by decide +kernel) rfl, wi_X6, ⟨by decide +kernel, by decide +kernel⟩, by decide +kernel⟩
theorem wn_X6_bears : Cond.instanceMethod yX6_bears ∈ TBL := tbl_tab 342 (by decide +kernel) rfl
theorem wl_X6_bears : Cond.selects RX6 yX6_bears yX6_bears ∈ TBL := tbl_tab 343 (by decide +kernel) rfl
theorem ok_X6_best : okM yX6_best cX6_best 5 (some .int) 3 := ⟨tbl_tab 349 (by decide +kernel) rfl, wi_X6, ⟨by decide +kernel, by decide +kernel⟩, by decide +kernel⟩
theorem wn_X6_best : Cond.instanceMethod yX6_best ∈ TBL := tbl_tab 347 (by decide +kernel) rfl
theorem wl_X6_best : Cond.selects RX6 yX6_best yX6_best ∈ TBL := tbl_tab 348 (by decide +kernel) rfl
theorem ok_X6_isWalkLength : okM yX6_isWalkLength cX6_isWalkLength 1 (some .boolean) 1 := ⟨tbl_tab 352 (by decide +kernel) rfl, wi_X6, ⟨by decide +kernel, by decide +kernel⟩, by decide +kernel⟩
theorem ws_X6_isWalkLength : Cond.static yX6_isWalkLength ∈ TBL := tbl_tab 351 (by decide +kernel) rfl
theorem ok_X4_most : okM yX4_most cX4_most 9 (some .int) 3 := ⟨tbl_tab 355 (by decide +kernel) rfl, wi_X4, ⟨by decide +kernel, by decide +kernel⟩, by decide +kernel⟩
theorem ws_X4_most : Cond.static yX4_most ∈ TBL := tbl_tab 354 (by decide +kernel) rfl
theorem ok_X4_isWalk : okM yX4_isWalk cX4_isWalk 7 (some .boolean) 4 := ⟨tbl_tab 360 (by decide +kernel) rfl, wi_X4, ⟨by decide +kernel, by decide +kernel⟩, by decide +kernel⟩
theorem ws_X4_isWalk : Cond.static yX4_isWalk ∈ TBL := tbl_tab 359 (by decide +kernel) rfl
theorem ok_X4_isFair : okM yX4_isFair cX4_isFair 3 (some .boolean) 2 := ⟨tbl_tab 366 (by decide +kernel) rfl, wi_X4, ⟨by decide +kernel, by decide +kernel⟩, by decide +kernel⟩
theorem ws_X4_isFair : Cond.static yX4_isFair ∈ TBL := tbl_tab 365 (by decide +kernel) rfl
theorem ok_X6_wanted : okM yX6_wanted cX6_wanted 3 (some .int) 2 := ⟨tbl_tab 371 (by decide +kernel) rfl, wi_X6, ⟨by decide +kernel, by decide +kernel⟩, by decide +kernel⟩
theorem wn_X6_wanted : Cond.instanceMethod yX6_wanted ∈ TBL := tbl_tab 369 (by decide +kernel) rfl
theorem wl_X6_wanted : Cond.selects RX6 yX6_wanted yX6_wanted ∈ TBL := tbl_tab 370 (by decide +kernel) rfl
theorem ok_X4_fewest : okM yX4_fewest cX4_fewest 8 (some .int) 3 := ⟨tbl_tab 374 (by decide +kernel) rfl, wi_X4, ⟨by decide +kernel, by decide +kernel⟩, by decide +kernel⟩
theorem ws_X4_fewest : Cond.static yX4_fewest ∈ TBL := tbl_tab 373 (by decide +kernel) rfl
theorem ok_X6_self : okM yX6_self cX6_self 1 (some .int) 0 := ⟨tbl_tab 378 (by decide +kernel) rfl, wi_X6, ⟨by decide +kernel, by decide +kernel⟩, by decide +kernel⟩
theorem wn_X6_self : Cond.instanceMethod yX6_self ∈ TBL := tbl_tab 376 (by decide +kernel) rfl
theorem wl_X6_self : Cond.selects RX6 yX6_self yX6_self ∈ TBL := tbl_tab 377 (by decide +kernel) rfl
theorem ok_X4_selfish : okM yX4_selfish cX4_selfish 2 (some .int) 2 := ⟨tbl_tab 381 (by decide +kernel) rfl, wi_X4, ⟨by decide +kernel, by decide +kernel⟩, by decide +kernel⟩
theorem ws_X4_selfish : Cond.static yX4_selfish ∈ TBL := tbl_tab 380 (by decide +kernel) rfl
theorem ok_X4_play : okM yX4_play cX4_play 12 (some .int) 5 := ⟨tbl_tab 384 (by decide +kernel) rfl, wi_X4, ⟨by decide +kernel, by decide +kernel⟩, by decide +kernel⟩
theorem ws_X4_play : Cond.static yX4_play ∈ TBL := tbl_tab 383 (by decide +kernel) rfl
theorem ok_X4_chooser : okM yX4_chooser cX4_chooser 2 (some .int) 2 := ⟨tbl_tab 387 (by decide +kernel) rfl, wi_X4, ⟨by decide +kernel, by decide +kernel⟩, by decide +kernel⟩
theorem ws_X4_chooser : Cond.static yX4_chooser ∈ TBL := tbl_tab 386 (by decide +kernel) rfl
theorem ok_X6_turn : okM yX6_turn cX6_turn 3 (some .int) 1 := ⟨tbl_tab 392 (by decide +kernel) rfl, wi_X6, ⟨by decide +kernel, by decide +kernel⟩, by decide +kernel⟩
theorem wn_X6_turn : Cond.instanceMethod yX6_turn ∈ TBL := tbl_tab 390 (by decide +kernel) rfl
theorem wl_X6_turn : Cond.selects RX6 yX6_turn yX6_turn ∈ TBL := tbl_tab 391 (by decide +kernel) rfl
theorem ok_X6_bargain : okM yX6_bargain cX6_bargain 8 (some .int) 4 := ⟨tbl_tab 396 (by decide +kernel) rfl, wi_X6, ⟨by decide +kernel, by decide +kernel⟩, by decide +kernel⟩
theorem wn_X6_bargain : Cond.instanceMethod yX6_bargain ∈ TBL := tbl_tab 394 (by decide +kernel) rfl
theorem wl_X6_bargain : Cond.selects RX6 yX6_bargain yX6_bargain ∈ TBL := tbl_tab 395 (by decide +kernel) rfl
theorem ok_J9_max_7cf53 : okM yJ9_max_7cf53 cJ9_max_7cf53 2 (some .int) 2 := ⟨tbl_tab 399 (by decide +kernel) rfl, wi_J9, ⟨by decide +kernel, by decide +kernel⟩, by decide +kernel⟩
theorem ws_J9_max_7cf53 : Cond.static yJ9_max_7cf53 ∈ TBL := tbl_tab 398 (by decide +kernel) rfl
theorem ok_X6_due : okM yX6_due cX6_due 2 (some .int) 1 := ⟨tbl_tab 403 (by decide +kernel) rfl, wi_X6, ⟨by decide +kernel, by decide +kernel⟩, by decide +kernel⟩
theorem wn_X6_due : Cond.instanceMethod yX6_due ∈ TBL := tbl_tab 401 (by decide +kernel) rfl
theorem wl_X6_due : Cond.selects RX6 yX6_due yX6_due ∈ TBL := tbl_tab 402 (by decide +kernel) rfl
theorem ok_X0_dueTo : okM yX0_dueTo cX0_dueTo 4 (some .int) 2 := ⟨tbl_tab 406 (by decide +kernel) rfl, wi_X0, ⟨by decide +kernel, by decide +kernel⟩, by decide +kernel⟩
theorem ws_X0_dueTo : Cond.static yX0_dueTo ∈ TBL := tbl_tab 405 (by decide +kernel) rfl
theorem ok_X0_dueFor : okM yX0_dueFor cX0_dueFor 7 (some .int) 3 := ⟨tbl_tab 410 (by decide +kernel) rfl, wi_X0, ⟨by decide +kernel, by decide +kernel⟩, by decide +kernel⟩
theorem ws_X0_dueFor : Cond.static yX0_dueFor ∈ TBL := tbl_tab 409 (by decide +kernel) rfl
theorem ok_X6_payments : okM yX6_payments cX6_payments 2 (some .int) 0 := ⟨tbl_tab 416 (by decide +kernel) rfl, wi_X6, ⟨by decide +kernel, by decide +kernel⟩, by decide +kernel⟩
theorem wn_X6_payments : Cond.instanceMethod yX6_payments ∈ TBL := tbl_tab 414 (by decide +kernel) rfl
theorem wl_X6_payments : Cond.selects RX6 yX6_payments yX6_payments ∈ TBL := tbl_tab 415 (by decide +kernel) rfl
theorem ok_X0_fewestPayments : okM yX0_fewestPayments cX0_fewestPayments 3 (some .int) 1 := ⟨tbl_tab 419 (by decide +kernel) rfl, wi_X0, ⟨by decide +kernel, by decide +kernel⟩, by decide +kernel⟩
theorem ws_X0_fewestPayments : Cond.static yX0_fewestPayments ∈ TBL := tbl_tab 418 (by decide +kernel) rfl
theorem ok_X0_mostSets : okM yX0_mostSets cX0_mostSets 3 (some .int) 2 := ⟨tbl_tab 423 (by decide +kernel) rfl, wi_X0, ⟨by decide +kernel, by decide +kernel⟩, by decide +kernel⟩
theorem ws_X0_mostSets : Cond.static yX0_mostSets ∈ TBL := tbl_tab 422 (by decide +kernel) rfl
theorem ok_X0_sumOf : okM yX0_sumOf cX0_sumOf 4 (some .int) 2 := ⟨tbl_tab 427 (by decide +kernel) rfl, wi_X0, ⟨by decide +kernel, by decide +kernel⟩, by decide +kernel⟩
theorem ws_X0_sumOf : Cond.static yX0_sumOf ∈ TBL := tbl_tab 426 (by decide +kernel) rfl
theorem ok_X6_forgotten : okM yX6_forgotten cX6_forgotten 9 (some .int) 3 := ⟨tbl_tab 431 (by decide +kernel) rfl, wi_X6, ⟨by decide +kernel, by decide +kernel⟩, by decide +kernel⟩
theorem wn_X6_forgotten : Cond.instanceMethod yX6_forgotten ∈ TBL := tbl_tab 429 (by decide +kernel) rfl
theorem wl_X6_forgotten : Cond.selects RX6 yX6_forgotten yX6_forgotten ∈ TBL := tbl_tab 430 (by decide +kernel) rfl
theorem ok_X1_explains : okM yX1_explains cX1_explains 4 (some .boolean) 3 := ⟨tbl_tab 434 (by decide +kernel) rfl, wi_X1, ⟨by decide +kernel, by decide +kernel⟩, by decide +kernel⟩
theorem ws_X1_explains : Cond.static yX1_explains ∈ TBL := tbl_tab 433 (by decide +kernel) rfl
theorem ok_X6_upper : okM yX6_upper cX6_upper 3 (some .long) 0 := ⟨tbl_tab 440 (by decide +kernel) rfl, wi_X6, ⟨by decide +kernel, by decide +kernel⟩, by decide +kernel⟩
theorem wn_X6_upper : Cond.instanceMethod yX6_upper ∈ TBL := tbl_tab 438 (by decide +kernel) rfl
theorem wl_X6_upper : Cond.selects RX6 yX6_upper yX6_upper ∈ TBL := tbl_tab 439 (by decide +kernel) rfl
theorem ok_X1_mean : okM yX1_mean cX1_mean 9 (some .long) 4 := ⟨tbl_tab 443 (by decide +kernel) rfl, wi_X1, ⟨by decide +kernel, by decide +kernel⟩, by decide +kernel⟩
theorem ws_X1_mean : Cond.static yX1_mean ∈ TBL := tbl_tab 442 (by decide +kernel) rfl
theorem ok_X5_worthToAll : okM yX5_worthToAll cX5_worthToAll 4 (some .int) 1 := ⟨tbl_tab 447 (by decide +kernel) rfl, wi_X5, ⟨by decide +kernel, by decide +kernel⟩, by decide +kernel⟩
theorem wn_X5_worthToAll : Cond.instanceMethod yX5_worthToAll ∈ TBL := tbl_tab 446 (by decide +kernel) rfl
theorem wl_X5_worthToAll : Cond.selects RX5 yX5_worthToAll yX5_worthToAll ∈ TBL := tbl_sel 23 (by decide +kernel) rfl
theorem ok_X1_halvings : okM yX1_halvings cX1_halvings 6 (some .int) 2 := ⟨tbl_tab 451 (by decide +kernel) rfl, wi_X1, ⟨by decide +kernel, by decide +kernel⟩, by decide +kernel⟩
theorem ws_X1_halvings : Cond.static yX1_halvings ∈ TBL := tbl_tab 450 (by decide +kernel) rfl
theorem ok_X1_parts : okM yX1_parts cX1_parts 1 (some .long) 1 := ⟨tbl_tab 454 (by decide +kernel) rfl, wi_X1, ⟨by decide +kernel, by decide +kernel⟩, by decide +kernel⟩
theorem ws_X1_parts : Cond.static yX1_parts ∈ TBL := tbl_tab 453 (by decide +kernel) rfl
theorem ok_X6_lower : okM yX6_lower cX6_lower 3 (some .long) 0 := ⟨tbl_tab 458 (by decide +kernel) rfl, wi_X6, ⟨by decide +kernel, by decide +kernel⟩, by decide +kernel⟩
theorem wn_X6_lower : Cond.instanceMethod yX6_lower ∈ TBL := tbl_tab 456 (by decide +kernel) rfl
theorem wl_X6_lower : Cond.selects RX6 yX6_lower yX6_lower ∈ TBL := tbl_tab 457 (by decide +kernel) rfl
theorem ok_X6_comes : okM yX6_comes cX6_comes 5 (some .int) 2 := ⟨tbl_tab 463 (by decide +kernel) rfl, wi_X6, ⟨by decide +kernel, by decide +kernel⟩, by decide +kernel⟩
theorem wn_X6_comes : Cond.instanceMethod yX6_comes ∈ TBL := tbl_tab 461 (by decide +kernel) rfl
theorem wl_X6_comes : Cond.selects RX6 yX6_comes yX6_comes ∈ TBL := tbl_tab 462 (by decide +kernel) rfl
theorem ok_X6_image : okM yX6_image cX6_image 1 (some .int) 0 := ⟨tbl_tab 467 (by decide +kernel) rfl, wi_X6, ⟨by decide +kernel, by decide +kernel⟩, by decide +kernel⟩
theorem wn_X6_image : Cond.instanceMethod yX6_image ∈ TBL := tbl_tab 465 (by decide +kernel) rfl
theorem wl_X6_image : Cond.selects RX6 yX6_image yX6_image ∈ TBL := tbl_tab 466 (by decide +kernel) rfl
theorem ok_X6_restore : okM yX6_restore cX6_restore 1 (some .int) 0 := ⟨tbl_tab 471 (by decide +kernel) rfl, wi_X6, ⟨by decide +kernel, by decide +kernel⟩, by decide +kernel⟩
theorem wn_X6_restore : Cond.instanceMethod yX6_restore ∈ TBL := tbl_tab 469 (by decide +kernel) rfl
theorem wl_X6_restore : Cond.selects RX6 yX6_restore yX6_restore ∈ TBL := tbl_tab 470 (by decide +kernel) rfl
theorem ok_X6_judged : okM yX6_judged cX6_judged 9 (some .int) 3 := ⟨tbl_tab 475 (by decide +kernel) rfl, wi_X6, ⟨by decide +kernel, by decide +kernel⟩, by decide +kernel⟩
theorem wn_X6_judged : Cond.instanceMethod yX6_judged ∈ TBL := tbl_tab 473 (by decide +kernel) rfl
theorem wl_X6_judged : Cond.selects RX6 yX6_judged yX6_judged ∈ TBL := tbl_tab 474 (by decide +kernel) rfl
theorem ok_X2_faultOf : okM yX2_faultOf cX2_faultOf 5 (some .int) 4 := ⟨tbl_tab 479 (by decide +kernel) rfl, wi_X2, ⟨by decide +kernel, by decide +kernel⟩, by decide +kernel⟩
theorem wn_X2_faultOf : Cond.instanceMethod yX2_faultOf ∈ TBL := tbl_tab 478 (by decide +kernel) rfl
theorem wl_X2_faultOf : Cond.selects RX2 yX2_faultOf yX2_faultOf ∈ TBL := tbl_sel 24 (by decide +kernel) rfl
theorem ok_X6_isSheet : okM yX6_isSheet cX6_isSheet 1 (some .boolean) 1 := ⟨tbl_tab 482 (by decide +kernel) rfl, wi_X6, ⟨by decide +kernel, by decide +kernel⟩, by decide +kernel⟩
theorem ws_X6_isSheet : Cond.static yX6_isSheet ∈ TBL := tbl_tab 481 (by decide +kernel) rfl
theorem ok_X6_isLane : okM yX6_isLane cX6_isLane 1 (some .boolean) 1 := ⟨tbl_tab 485 (by decide +kernel) rfl, wi_X6, ⟨by decide +kernel, by decide +kernel⟩, by decide +kernel⟩
theorem ws_X6_isLane : Cond.static yX6_isLane ∈ TBL := tbl_tab 484 (by decide +kernel) rfl
theorem ok_X2_holds : okM yX2_holds cX2_holds 2 (some .boolean) 1 := ⟨tbl_tab 489 (by decide +kernel) rfl, wi_X2, ⟨by decide +kernel, by decide +kernel⟩, by decide +kernel⟩
theorem wn_X2_holds : Cond.instanceMethod yX2_holds ∈ TBL := tbl_tab 488 (by decide +kernel) rfl
theorem wl_X2_holds : Cond.selects RX2 yX2_holds yX2_holds ∈ TBL := tbl_sel 25 (by decide +kernel) rfl
theorem ok_X2_reaches : okM yX2_reaches cX2_reaches 4 (some .boolean) 3 := ⟨tbl_tab 493 (by decide +kernel) rfl, wi_X2, ⟨by decide +kernel, by decide +kernel⟩, by decide +kernel⟩
theorem wn_X2_reaches : Cond.instanceMethod yX2_reaches ∈ TBL := tbl_tab 492 (by decide +kernel) rfl
theorem wl_X2_reaches : Cond.selects RX2 yX2_reaches yX2_reaches ∈ TBL := tbl_sel 26 (by decide +kernel) rfl
theorem ok_X2_at : okM yX2_at cX2_at 3 (some .long) 2 := ⟨tbl_tab 497 (by decide +kernel) rfl, wi_X2, ⟨by decide +kernel, by decide +kernel⟩, by decide +kernel⟩
theorem wn_X2_at : Cond.instanceMethod yX2_at ∈ TBL := tbl_tab 496 (by decide +kernel) rfl
theorem wl_X2_at : Cond.selects RX2 yX2_at yX2_at ∈ TBL := tbl_sel 27 (by decide +kernel) rfl
theorem ok_X6_isOneOf : okM yX6_isOneOf cX6_isOneOf 3 (some .boolean) 2 := ⟨tbl_tab 501 (by decide +kernel) rfl, wi_X6, ⟨by decide +kernel, by decide +kernel⟩, by decide +kernel⟩
theorem ws_X6_isOneOf : Cond.static yX6_isOneOf ∈ TBL := tbl_tab 500 (by decide +kernel) rfl
theorem ok_X6_net : okM yX6_net cX6_net 12 (some .int) 6 := ⟨tbl_tab 506 (by decide +kernel) rfl, wi_X6, ⟨by decide +kernel, by decide +kernel⟩, by decide +kernel⟩
theorem wn_X6_net : Cond.instanceMethod yX6_net ∈ TBL := tbl_tab 504 (by decide +kernel) rfl
theorem wl_X6_net : Cond.selects RX6 yX6_net yX6_net ∈ TBL := tbl_tab 505 (by decide +kernel) rfl
theorem ok_X6_takeToldYears : okM yX6_takeToldYears cX6_takeToldYears 7 (some .boolean) 3 := ⟨tbl_tab 510 (by decide +kernel) rfl, wi_X6, ⟨by decide +kernel, by decide +kernel⟩, by decide +kernel⟩
theorem wn_X6_takeToldYears : Cond.instanceMethod yX6_takeToldYears ∈ TBL := tbl_tab 509 (by decide +kernel) rfl
theorem wl_X6_takeToldYears : Cond.selects RX6 yX6_takeToldYears yX6_takeToldYears ∈ TBL := tbl_sel 28 (by decide +kernel) rfl
theorem ok_X1_fits : okM yX1_fits cX1_fits 7 (some .boolean) 5 := ⟨tbl_tab 513 (by decide +kernel) rfl, wi_X1, ⟨by decide +kernel, by decide +kernel⟩, by decide +kernel⟩
theorem ws_X1_fits : Cond.static yX1_fits ∈ TBL := tbl_tab 512 (by decide +kernel) rfl
theorem ok_X6_film : okM yX6_film cX6_film 6 (some .int) 3 := ⟨tbl_tab 518 (by decide +kernel) rfl, wi_X6, ⟨by decide +kernel, by decide +kernel⟩, by decide +kernel⟩
theorem wn_X6_film : Cond.instanceMethod yX6_film ∈ TBL := tbl_tab 516 (by decide +kernel) rfl
theorem wl_X6_film : Cond.selects RX6 yX6_film yX6_film ∈ TBL := tbl_tab 517 (by decide +kernel) rfl
theorem ok_X2_put : okM yX2_put cX2_put 5 none 3 := ⟨tbl_tab 522 (by decide +kernel) rfl, wi_X2, ⟨by decide +kernel, by decide +kernel⟩, by decide +kernel⟩
theorem wn_X2_put : Cond.instanceMethod yX2_put ∈ TBL := tbl_tab 521 (by decide +kernel) rfl
theorem wl_X2_put : Cond.selects RX2 yX2_put yX2_put ∈ TBL := tbl_sel 29 (by decide +kernel) rfl
theorem ok_X2_lowest : okM yX2_lowest cX2_lowest 3 (some .long) 2 := ⟨tbl_tab 525 (by decide +kernel) rfl, wi_X2, ⟨by decide +kernel, by decide +kernel⟩, by decide +kernel⟩
theorem ws_X2_lowest : Cond.static yX2_lowest ∈ TBL := tbl_tab 524 (by decide +kernel) rfl
theorem ok_X6_sheet : okM yX6_sheet cX6_sheet 4 (some .int) 3 := ⟨tbl_tab 529 (by decide +kernel) rfl, wi_X6, ⟨by decide +kernel, by decide +kernel⟩, by decide +kernel⟩
theorem wn_X6_sheet : Cond.instanceMethod yX6_sheet ∈ TBL := tbl_tab 527 (by decide +kernel) rfl
theorem wl_X6_sheet : Cond.selects RX6 yX6_sheet yX6_sheet ∈ TBL := tbl_tab 528 (by decide +kernel) rfl
theorem ok_X2_begin : okM yX2_begin cX2_begin 5 none 3 := ⟨tbl_tab 535 (by decide +kernel) rfl, wi_X2, ⟨by decide +kernel, by decide +kernel⟩, by decide +kernel⟩
theorem wn_X2_begin : Cond.instanceMethod yX2_begin ∈ TBL := tbl_tab 534 (by decide +kernel) rfl
theorem wl_X2_begin : Cond.selects RX2 yX2_begin yX2_begin ∈ TBL := tbl_sel 30 (by decide +kernel) rfl
theorem ok_X6_drop : okM yX6_drop cX6_drop 3 (some .int) 1 := ⟨tbl_tab 539 (by decide +kernel) rfl, wi_X6, ⟨by decide +kernel, by decide +kernel⟩, by decide +kernel⟩
theorem wn_X6_drop : Cond.instanceMethod yX6_drop ∈ TBL := tbl_tab 537 (by decide +kernel) rfl
theorem wl_X6_drop : Cond.selects RX6 yX6_drop yX6_drop ∈ TBL := tbl_tab 538 (by decide +kernel) rfl
theorem ok_X6_item : okM yX6_item cX6_item 7 (some .int) 4 := ⟨tbl_tab 544 (by decide +kernel) rfl, wi_X6, ⟨by decide +kernel, by decide +kernel⟩, by decide +kernel⟩
theorem wn_X6_item : Cond.instanceMethod yX6_item ∈ TBL := tbl_tab 542 (by decide +kernel) rfl
theorem wl_X6_item : Cond.selects RX6 yX6_item yX6_item ∈ TBL := tbl_tab 543 (by decide +kernel) rfl
theorem ok_X6_copy : okM yX6_copy cX6_copy 6 (some .int) 5 := ⟨tbl_tab 548 (by decide +kernel) rfl, wi_X6, ⟨by decide +kernel, by decide +kernel⟩, by decide +kernel⟩
theorem wn_X6_copy : Cond.instanceMethod yX6_copy ∈ TBL := tbl_tab 546 (by decide +kernel) rfl
theorem wl_X6_copy : Cond.selects RX6 yX6_copy yX6_copy ∈ TBL := tbl_tab 547 (by decide +kernel) rfl
theorem ok_X2_move : okM yX2_move cX2_move 6 none 5 := ⟨tbl_tab 553 (by decide +kernel) rfl, wi_X2, ⟨by decide +kernel, by decide +kernel⟩, by decide +kernel⟩
theorem wn_X2_move : Cond.instanceMethod yX2_move ∈ TBL := tbl_tab 552 (by decide +kernel) rfl
theorem wl_X2_move : Cond.selects RX2 yX2_move yX2_move ∈ TBL := tbl_sel 31 (by decide +kernel) rfl
theorem ok_X7_init : okM yX7_init cX7_init 2 none 0 := ⟨tbl_tab 559 (by decide +kernel) rfl, wi_X7, ⟨by decide +kernel, by decide +kernel⟩, by decide +kernel⟩
theorem wn_X7_init : Cond.instanceMethod yX7_init ∈ TBL := tbl_tab 558 (by decide +kernel) rfl
theorem ok_X7_people : okM yX7_people cX7_people 3 (some .int) 1 := ⟨tbl_tab 676 (by decide +kernel) rfl, wi_X7, ⟨by decide +kernel, by decide +kernel⟩, by decide +kernel⟩
theorem wn_X7_people : Cond.instanceMethod yX7_people ∈ TBL := tbl_tab 674 (by decide +kernel) rfl
theorem wl_X7_people : Cond.selects RX7 yX7_people yX7_people ∈ TBL := tbl_tab 675 (by decide +kernel) rfl
theorem ok_X7_in : okM yX7_in cX7_in 6 (some .boolean) 3 := ⟨tbl_tab 680 (by decide +kernel) rfl, wi_X7, ⟨by decide +kernel, by decide +kernel⟩, by decide +kernel⟩
theorem ws_X7_in : Cond.static yX7_in ∈ TBL := tbl_tab 679 (by decide +kernel) rfl
theorem ok_X7_deed : okM yX7_deed cX7_deed 4 (some .int) 3 := ⟨tbl_tab 684 (by decide +kernel) rfl, wi_X7, ⟨by decide +kernel, by decide +kernel⟩, by decide +kernel⟩
theorem wn_X7_deed : Cond.instanceMethod yX7_deed ∈ TBL := tbl_tab 682 (by decide +kernel) rfl
theorem wl_X7_deed : Cond.selects RX7 yX7_deed yX7_deed ∈ TBL := tbl_tab 683 (by decide +kernel) rfl
theorem ok_X7_ahead : okM yX7_ahead cX7_ahead 5 (some .int) 3 := ⟨tbl_tab 689 (by decide +kernel) rfl, wi_X7, ⟨by decide +kernel, by decide +kernel⟩, by decide +kernel⟩
theorem ws_X7_ahead : Cond.static yX7_ahead ∈ TBL := tbl_tab 688 (by decide +kernel) rfl
theorem ok_X7_adds : okM yX7_adds cX7_adds 5 none 3 := ⟨tbl_tab 693 (by decide +kernel) rfl, wi_X7, ⟨by decide +kernel, by decide +kernel⟩, by decide +kernel⟩
theorem wn_X7_adds : Cond.instanceMethod yX7_adds ∈ TBL := tbl_tab 692 (by decide +kernel) rfl
theorem wl_X7_adds : Cond.selects RX7 yX7_adds yX7_adds ∈ TBL := tbl_sel 32 (by decide +kernel) rfl
theorem ok_X7_told : okM yX7_told cX7_told 3 (some .int) 2 := ⟨tbl_tab 697 (by decide +kernel) rfl, wi_X7, ⟨by decide +kernel, by decide +kernel⟩, by decide +kernel⟩
theorem wn_X7_told : Cond.instanceMethod yX7_told ∈ TBL := tbl_tab 695 (by decide +kernel) rfl
theorem wl_X7_told : Cond.selects RX7 yX7_told yX7_told ∈ TBL := tbl_tab 696 (by decide +kernel) rfl
theorem ok_X7_isDeed : okM yX7_isDeed cX7_isDeed 3 (some .boolean) 1 := ⟨tbl_tab 701 (by decide +kernel) rfl, wi_X7, ⟨by decide +kernel, by decide +kernel⟩, by decide +kernel⟩
theorem wn_X7_isDeed : Cond.instanceMethod yX7_isDeed ∈ TBL := tbl_tab 700 (by decide +kernel) rfl
theorem wl_X7_isDeed : Cond.selects RX7 yX7_isDeed yX7_isDeed ∈ TBL := tbl_sel 33 (by decide +kernel) rfl
theorem ok_X7_stands : okM yX7_stands cX7_stands 5 (some .int) 2 := ⟨tbl_tab 705 (by decide +kernel) rfl, wi_X7, ⟨by decide +kernel, by decide +kernel⟩, by decide +kernel⟩
theorem wn_X7_stands : Cond.instanceMethod yX7_stands ∈ TBL := tbl_tab 704 (by decide +kernel) rfl
theorem wl_X7_stands : Cond.selects RX7 yX7_stands yX7_stands ∈ TBL := tbl_sel 34 (by decide +kernel) rfl
theorem ok_X7_is : okM yX7_is cX7_is 5 (some .boolean) 3 := ⟨tbl_tab 709 (by decide +kernel) rfl, wi_X7, ⟨by decide +kernel, by decide +kernel⟩, by decide +kernel⟩
theorem wn_X7_is : Cond.instanceMethod yX7_is ∈ TBL := tbl_tab 708 (by decide +kernel) rfl
theorem wl_X7_is : Cond.selects RX7 yX7_is yX7_is ∈ TBL := tbl_sel 35 (by decide +kernel) rfl
theorem ok_X7_set : okM yX7_set cX7_set 5 (some .int) 3 := ⟨tbl_tab 713 (by decide +kernel) rfl, wi_X7, ⟨by decide +kernel, by decide +kernel⟩, by decide +kernel⟩
theorem wn_X7_set : Cond.instanceMethod yX7_set ∈ TBL := tbl_tab 711 (by decide +kernel) rfl
theorem wl_X7_set : Cond.selects RX7 yX7_set yX7_set ∈ TBL := tbl_tab 712 (by decide +kernel) rfl
theorem ok_X7_worth : okM yX7_worth cX7_worth 5 (some .int) 3 := ⟨tbl_tab 718 (by decide +kernel) rfl, wi_X7, ⟨by decide +kernel, by decide +kernel⟩, by decide +kernel⟩
theorem wn_X7_worth : Cond.instanceMethod yX7_worth ∈ TBL := tbl_tab 716 (by decide +kernel) rfl
theorem wl_X7_worth : Cond.selects RX7 yX7_worth yX7_worth ∈ TBL := tbl_tab 717 (by decide +kernel) rfl
theorem ok_X7_worthOf : okM yX7_worthOf cX7_worthOf 3 (some .int) 2 := ⟨tbl_tab 724 (by decide +kernel) rfl, wi_X7, ⟨by decide +kernel, by decide +kernel⟩, by decide +kernel⟩
theorem wn_X7_worthOf : Cond.instanceMethod yX7_worthOf ∈ TBL := tbl_tab 722 (by decide +kernel) rfl
theorem wl_X7_worthOf : Cond.selects RX7 yX7_worthOf yX7_worthOf ∈ TBL := tbl_tab 723 (by decide +kernel) rfl
theorem ok_X7_last : okM yX7_last cX7_last 3 (some .int) 1 := ⟨tbl_tab 728 (by decide +kernel) rfl, wi_X7, ⟨by decide +kernel, by decide +kernel⟩, by decide +kernel⟩
theorem wn_X7_last : Cond.instanceMethod yX7_last ∈ TBL := tbl_tab 726 (by decide +kernel) rfl
theorem wl_X7_last : Cond.selects RX7 yX7_last yX7_last ∈ TBL := tbl_tab 727 (by decide +kernel) rfl
theorem ok_X7_areDeeds : okM yX7_areDeeds cX7_areDeeds 3 (some .boolean) 1 := ⟨tbl_tab 732 (by decide +kernel) rfl, wi_X7, ⟨by decide +kernel, by decide +kernel⟩, by decide +kernel⟩
theorem wn_X7_areDeeds : Cond.instanceMethod yX7_areDeeds ∈ TBL := tbl_tab 731 (by decide +kernel) rfl
theorem wl_X7_areDeeds : Cond.selects RX7 yX7_areDeeds yX7_areDeeds ∈ TBL := tbl_sel 36 (by decide +kernel) rfl
theorem ok_X7_count : okM yX7_count cX7_count 2 (some .int) 1 := ⟨tbl_tab 736 (by decide +kernel) rfl, wi_X7, ⟨by decide +kernel, by decide +kernel⟩, by decide +kernel⟩
theorem wn_X7_count : Cond.instanceMethod yX7_count ∈ TBL := tbl_tab 734 (by decide +kernel) rfl
theorem wl_X7_count : Cond.selects RX7 yX7_count yX7_count ∈ TBL := tbl_tab 735 (by decide +kernel) rfl
theorem ok_X7_type : okM yX7_type cX7_type 2 (some .int) 1 := ⟨tbl_tab 740 (by decide +kernel) rfl, wi_X7, ⟨by decide +kernel, by decide +kernel⟩, by decide +kernel⟩
theorem wn_X7_type : Cond.instanceMethod yX7_type ∈ TBL := tbl_tab 738 (by decide +kernel) rfl
theorem wl_X7_type : Cond.selects RX7 yX7_type yX7_type ∈ TBL := tbl_tab 739 (by decide +kernel) rfl
theorem ok_X7_text : okM yX7_text cX7_text 3 (some .int) 0 := ⟨tbl_tab 746 (by decide +kernel) rfl, wi_X7, ⟨by decide +kernel, by decide +kernel⟩, by decide +kernel⟩
theorem wn_X7_text : Cond.instanceMethod yX7_text ∈ TBL := tbl_tab 744 (by decide +kernel) rfl
theorem wl_X7_text : Cond.selects RX7 yX7_text yX7_text ∈ TBL := tbl_tab 745 (by decide +kernel) rfl
theorem ok_X7_readDeed : okM yX7_readDeed cX7_readDeed 7 none 0 := ⟨tbl_tab 750 (by decide +kernel) rfl, wi_X7, ⟨by decide +kernel, by decide +kernel⟩, by decide +kernel⟩
theorem wn_X7_readDeed : Cond.instanceMethod yX7_readDeed ∈ TBL := tbl_tab 749 (by decide +kernel) rfl
theorem wl_X7_readDeed : Cond.selects RX7 yX7_readDeed yX7_readDeed ∈ TBL := tbl_sel 37 (by decide +kernel) rfl
theorem ok_X7_here : okM yX7_here cX7_here 1 (some .int) 0 := ⟨tbl_tab 754 (by decide +kernel) rfl, wi_X7, ⟨by decide +kernel, by decide +kernel⟩, by decide +kernel⟩
theorem wn_X7_here : Cond.instanceMethod yX7_here ∈ TBL := tbl_tab 753 (by decide +kernel) rfl
theorem wl_X7_here : Cond.selects RX7 yX7_here yX7_here ∈ TBL := tbl_sel 38 (by decide +kernel) rfl
theorem ok_X7_right : okM yX7_right cX7_right 3 (some .int) 1 := ⟨tbl_tab 760 (by decide +kernel) rfl, wi_X7, ⟨by decide +kernel, by decide +kernel⟩, by decide +kernel⟩
theorem wn_X7_right : Cond.instanceMethod yX7_right ∈ TBL := tbl_tab 758 (by decide +kernel) rfl
theorem wl_X7_right : Cond.selects RX7 yX7_right yX7_right ∈ TBL := tbl_tab 759 (by decide +kernel) rfl
theorem ok_X7_ofDay : okM yX7_ofDay cX7_ofDay 4 (some .int) 1 := ⟨tbl_tab 764 (by decide +kernel) rfl, wi_X7, ⟨by decide +kernel, by decide +kernel⟩, by decide +kernel⟩
theorem wn_X7_ofDay : Cond.instanceMethod yX7_ofDay ∈ TBL := tbl_tab 763 (by decide +kernel) rfl
theorem wl_X7_ofDay : Cond.selects RX7 yX7_ofDay yX7_ofDay ∈ TBL := tbl_sel 39 (by decide +kernel) rfl
theorem ok_X7_back : okM yX7_back cX7_back 1 (some .int) 0 := ⟨tbl_tab 768 (by decide +kernel) rfl, wi_X7, ⟨by decide +kernel, by decide +kernel⟩, by decide +kernel⟩
theorem wn_X7_back : Cond.instanceMethod yX7_back ∈ TBL := tbl_tab 766 (by decide +kernel) rfl
theorem wl_X7_back : Cond.selects RX7 yX7_back yX7_back ∈ TBL := tbl_tab 767 (by decide +kernel) rfl
theorem ok_X7_year : okM yX7_year cX7_year 1 (some .int) 0 := ⟨tbl_tab 773 (by decide +kernel) rfl, wi_X7, ⟨by decide +kernel, by decide +kernel⟩, by decide +kernel⟩
theorem wn_X7_year : Cond.instanceMethod yX7_year ∈ TBL := tbl_tab 771 (by decide +kernel) rfl
theorem wl_X7_year : Cond.selects RX7 yX7_year yX7_year ∈ TBL := tbl_tab 772 (by decide +kernel) rfl
theorem ok_X7_size : okM yX7_size cX7_size 3 (some .int) 1 := ⟨tbl_tab 776 (by decide +kernel) rfl, wi_X7, ⟨by decide +kernel, by decide +kernel⟩, by decide +kernel⟩
theorem ws_X7_size : Cond.static yX7_size ∈ TBL := tbl_tab 775 (by decide +kernel) rfl
theorem ok_X7_bears : okM yX7_bears cX7_bears 2 (some .int) 1 := ⟨tbl_tab 780 (by decide +kernel) rfl, wi_X7, ⟨by decide +kernel, by decide +kernel⟩, by decide +kernel⟩
theorem wn_X7_bears : Cond.instanceMethod yX7_bears ∈ TBL := tbl_tab 778 (by decide +kernel) rfl
theorem wl_X7_bears : Cond.selects RX7 yX7_bears yX7_bears ∈ TBL := tbl_tab 779 (by decide +kernel) rfl
theorem ok_X7_bearer : okM yX7_bearer cX7_bearer 5 (some .int) 1 := ⟨tbl_tab 784 (by decide +kernel) rfl, wi_X7, ⟨by decide +kernel, by decide +kernel⟩, by decide +kernel⟩
theorem wn_X7_bearer : Cond.instanceMethod yX7_bearer ∈ TBL := tbl_tab 783 (by decide +kernel) rfl
theorem wl_X7_bearer : Cond.selects RX7 yX7_bearer yX7_bearer ∈ TBL := tbl_sel 40 (by decide +kernel) rfl
theorem ok_X7_value : okM yX7_value cX7_value 2 (some .int) 1 := ⟨tbl_tab 788 (by decide +kernel) rfl, wi_X7, ⟨by decide +kernel, by decide +kernel⟩, by decide +kernel⟩
theorem wn_X7_value : Cond.instanceMethod yX7_value ∈ TBL := tbl_tab 786 (by decide +kernel) rfl
theorem wl_X7_value : Cond.selects RX7 yX7_value yX7_value ∈ TBL := tbl_tab 787 (by decide +kernel) rfl
theorem ok_X7_isOne : okM yX7_isOne cX7_isOne 2 (some .boolean) 1 := ⟨tbl_tab 792 (by decide +kernel) rfl, wi_X7, ⟨by decide +kernel, by decide +kernel⟩, by decide +kernel⟩
theorem wn_X7_isOne : Cond.instanceMethod yX7_isOne ∈ TBL := tbl_tab 791 (by decide +kernel) rfl
theorem wl_X7_isOne : Cond.selects RX7 yX7_isOne yX7_isOne ∈ TBL := tbl_sel 41 (by decide +kernel) rfl
theorem ok_X7_counts : okM yX7_counts cX7_counts 6 none 2 := ⟨tbl_tab 796 (by decide +kernel) rfl, wi_X7, ⟨by decide +kernel, by decide +kernel⟩, by decide +kernel⟩
theorem wn_X7_counts : Cond.instanceMethod yX7_counts ∈ TBL := tbl_tab 795 (by decide +kernel) rfl
theorem wl_X7_counts : Cond.selects RX7 yX7_counts yX7_counts ∈ TBL := tbl_sel 42 (by decide +kernel) rfl
theorem ok_X7_best : okM yX7_best cX7_best 5 (some .int) 3 := ⟨tbl_tab 800 (by decide +kernel) rfl, wi_X7, ⟨by decide +kernel, by decide +kernel⟩, by decide +kernel⟩
theorem wn_X7_best : Cond.instanceMethod yX7_best ∈ TBL := tbl_tab 798 (by decide +kernel) rfl
theorem wl_X7_best : Cond.selects RX7 yX7_best yX7_best ∈ TBL := tbl_tab 799 (by decide +kernel) rfl
theorem ok_X7_bestOf : okM yX7_bestOf cX7_bestOf 9 (some .int) 3 := ⟨tbl_tab 804 (by decide +kernel) rfl, wi_X7, ⟨by decide +kernel, by decide +kernel⟩, by decide +kernel⟩
theorem wn_X7_bestOf : Cond.instanceMethod yX7_bestOf ∈ TBL := tbl_tab 803 (by decide +kernel) rfl
theorem wl_X7_bestOf : Cond.selects RX7 yX7_bestOf yX7_bestOf ∈ TBL := tbl_sel 43 (by decide +kernel) rfl
theorem ok_X7_isWalk : okM yX7_isWalk cX7_isWalk 6 (some .boolean) 2 := ⟨tbl_tab 808 (by decide +kernel) rfl, wi_X7, ⟨by decide +kernel, by decide +kernel⟩, by decide +kernel⟩
theorem wn_X7_isWalk : Cond.instanceMethod yX7_isWalk ∈ TBL := tbl_tab 807 (by decide +kernel) rfl
theorem wl_X7_isWalk : Cond.selects RX7 yX7_isWalk yX7_isWalk ∈ TBL := tbl_sel 44 (by decide +kernel) rfl
theorem ok_X7_wanted : okM yX7_wanted cX7_wanted 8 (some .int) 2 := ⟨tbl_tab 812 (by decide +kernel) rfl, wi_X7, ⟨by decide +kernel, by decide +kernel⟩, by decide +kernel⟩
theorem wn_X7_wanted : Cond.instanceMethod yX7_wanted ∈ TBL := tbl_tab 810 (by decide +kernel) rfl
theorem wl_X7_wanted : Cond.selects RX7 yX7_wanted yX7_wanted ∈ TBL := tbl_tab 811 (by decide +kernel) rfl
theorem ok_X7_self : okM yX7_self cX7_self 1 (some .int) 0 := ⟨tbl_tab 816 (by decide +kernel) rfl, wi_X7, ⟨by decide +kernel, by decide +kernel⟩, by decide +kernel⟩
theorem wn_X7_self : Cond.instanceMethod yX7_self ∈ TBL := tbl_tab 814 (by decide +kernel) rfl
theorem wl_X7_self : Cond.selects RX7 yX7_self yX7_self ∈ TBL := tbl_tab 815 (by decide +kernel) rfl
theorem ok_X7_plays : okM yX7_plays cX7_plays 9 (some .int) 1 := ⟨tbl_tab 820 (by decide +kernel) rfl, wi_X7, ⟨by decide +kernel, by decide +kernel⟩, by decide +kernel⟩
theorem wn_X7_plays : Cond.instanceMethod yX7_plays ∈ TBL := tbl_tab 819 (by decide +kernel) rfl
theorem wl_X7_plays : Cond.selects RX7 yX7_plays yX7_plays ∈ TBL := tbl_sel 45 (by decide +kernel) rfl
theorem ok_X7_own : okM yX7_own cX7_own 3 (some .int) 2 := ⟨tbl_tab 824 (by decide +kernel) rfl, wi_X7, ⟨by decide +kernel, by decide +kernel⟩, by decide +kernel⟩
theorem wn_X7_own : Cond.instanceMethod yX7_own ∈ TBL := tbl_tab 823 (by decide +kernel) rfl
theorem wl_X7_own : Cond.selects RX7 yX7_own yX7_own ∈ TBL := tbl_sel 46 (by decide +kernel) rfl
theorem ok_X7_turn : okM yX7_turn cX7_turn 3 (some .int) 1 := ⟨tbl_tab 828 (by decide +kernel) rfl, wi_X7, ⟨by decide +kernel, by decide +kernel⟩, by decide +kernel⟩
theorem wn_X7_turn : Cond.instanceMethod yX7_turn ∈ TBL := tbl_tab 826 (by decide +kernel) rfl
theorem wl_X7_turn : Cond.selects RX7 yX7_turn yX7_turn ∈ TBL := tbl_tab 827 (by decide +kernel) rfl
theorem ok_X7_bargain : okM yX7_bargain cX7_bargain 8 (some .int) 4 := ⟨tbl_tab 832 (by decide +kernel) rfl, wi_X7, ⟨by decide +kernel, by decide +kernel⟩, by decide +kernel⟩
theorem wn_X7_bargain : Cond.instanceMethod yX7_bargain ∈ TBL := tbl_tab 830 (by decide +kernel) rfl
theorem wl_X7_bargain : Cond.selects RX7 yX7_bargain yX7_bargain ∈ TBL := tbl_tab 831 (by decide +kernel) rfl
theorem ok_X7_due : okM yX7_due cX7_due 2 (some .int) 1 := ⟨tbl_tab 836 (by decide +kernel) rfl, wi_X7, ⟨by decide +kernel, by decide +kernel⟩, by decide +kernel⟩
theorem wn_X7_due : Cond.instanceMethod yX7_due ∈ TBL := tbl_tab 834 (by decide +kernel) rfl
theorem wl_X7_due : Cond.selects RX7 yX7_due yX7_due ∈ TBL := tbl_tab 835 (by decide +kernel) rfl
theorem ok_X7_owes : okM yX7_owes cX7_owes 7 none 0 := ⟨tbl_tab 840 (by decide +kernel) rfl, wi_X7, ⟨by decide +kernel, by decide +kernel⟩, by decide +kernel⟩
theorem wn_X7_owes : Cond.instanceMethod yX7_owes ∈ TBL := tbl_tab 839 (by decide +kernel) rfl
theorem wl_X7_owes : Cond.selects RX7 yX7_owes yX7_owes ∈ TBL := tbl_sel 47 (by decide +kernel) rfl
theorem ok_X7_payments : okM yX7_payments cX7_payments 3 (some .int) 0 := ⟨tbl_tab 844 (by decide +kernel) rfl, wi_X7, ⟨by decide +kernel, by decide +kernel⟩, by decide +kernel⟩
theorem wn_X7_payments : Cond.instanceMethod yX7_payments ∈ TBL := tbl_tab 842 (by decide +kernel) rfl
theorem wl_X7_payments : Cond.selects RX7 yX7_payments yX7_payments ∈ TBL := tbl_tab 843 (by decide +kernel) rfl
theorem ok_X7_isZero : okM yX7_isZero cX7_isZero 4 (some .boolean) 1 := ⟨tbl_tab 848 (by decide +kernel) rfl, wi_X7, ⟨by decide +kernel, by decide +kernel⟩, by decide +kernel⟩
theorem wn_X7_isZero : Cond.instanceMethod yX7_isZero ∈ TBL := tbl_tab 847 (by decide +kernel) rfl
theorem wl_X7_isZero : Cond.selects RX7 yX7_isZero yX7_isZero ∈ TBL := tbl_sel 48 (by decide +kernel) rfl
theorem ok_X7_forgotten : okM yX7_forgotten cX7_forgotten 11 (some .int) 3 := ⟨tbl_tab 852 (by decide +kernel) rfl, wi_X7, ⟨by decide +kernel, by decide +kernel⟩, by decide +kernel⟩
theorem wn_X7_forgotten : Cond.instanceMethod yX7_forgotten ∈ TBL := tbl_tab 850 (by decide +kernel) rfl
theorem wl_X7_forgotten : Cond.selects RX7 yX7_forgotten yX7_forgotten ∈ TBL := tbl_tab 851 (by decide +kernel) rfl
theorem ok_X7_upper : okM yX7_upper cX7_upper 1 (some .long) 0 := ⟨tbl_tab 856 (by decide +kernel) rfl, wi_X7, ⟨by decide +kernel, by decide +kernel⟩, by decide +kernel⟩
theorem wn_X7_upper : Cond.instanceMethod yX7_upper ∈ TBL := tbl_tab 854 (by decide +kernel) rfl
theorem wl_X7_upper : Cond.selects RX7 yX7_upper yX7_upper ∈ TBL := tbl_tab 855 (by decide +kernel) rfl
theorem ok_X7_expects : okM yX7_expects cX7_expects 12 none 0 := ⟨tbl_tab 860 (by decide +kernel) rfl, wi_X7, ⟨by decide +kernel, by decide +kernel⟩, by decide +kernel⟩
theorem wn_X7_expects : Cond.instanceMethod yX7_expects ∈ TBL := tbl_tab 859 (by decide +kernel) rfl
theorem wl_X7_expects : Cond.selects RX7 yX7_expects yX7_expects ∈ TBL := tbl_sel 49 (by decide +kernel) rfl
theorem ok_X7_lower : okM yX7_lower cX7_lower 1 (some .long) 0 := ⟨tbl_tab 864 (by decide +kernel) rfl, wi_X7, ⟨by decide +kernel, by decide +kernel⟩, by decide +kernel⟩
theorem wn_X7_lower : Cond.instanceMethod yX7_lower ∈ TBL := tbl_tab 862 (by decide +kernel) rfl
theorem wl_X7_lower : Cond.selects RX7 yX7_lower yX7_lower ∈ TBL := tbl_tab 863 (by decide +kernel) rfl
theorem ok_X7_comes : okM yX7_comes cX7_comes 5 (some .int) 2 := ⟨tbl_tab 868 (by decide +kernel) rfl, wi_X7, ⟨by decide +kernel, by decide +kernel⟩, by decide +kernel⟩
theorem wn_X7_comes : Cond.instanceMethod yX7_comes ∈ TBL := tbl_tab 866 (by decide +kernel) rfl
theorem wl_X7_comes : Cond.selects RX7 yX7_comes yX7_comes ∈ TBL := tbl_tab 867 (by decide +kernel) rfl
theorem ok_X7_image : okM yX7_image cX7_image 2 (some .int) 0 := ⟨tbl_tab 872 (by decide +kernel) rfl, wi_X7, ⟨by decide +kernel, by decide +kernel⟩, by decide +kernel⟩
theorem wn_X7_image : Cond.instanceMethod yX7_image ∈ TBL := tbl_tab 870 (by decide +kernel) rfl
theorem wl_X7_image : Cond.selects RX7 yX7_image yX7_image ∈ TBL := tbl_tab 871 (by decide +kernel) rfl
theorem ok_X7_notes : okM yX7_notes cX7_notes 4 (some .int) 2 := ⟨tbl_tab 876 (by decide +kernel) rfl, wi_X7, ⟨by decide +kernel, by decide +kernel⟩, by decide +kernel⟩
theorem wn_X7_notes : Cond.instanceMethod yX7_notes ∈ TBL := tbl_tab 875 (by decide +kernel) rfl
theorem wl_X7_notes : Cond.selects RX7 yX7_notes yX7_notes ∈ TBL := tbl_sel 50 (by decide +kernel) rfl
theorem ok_X7_restore : okM yX7_restore cX7_restore 2 (some .int) 0 := ⟨tbl_tab 880 (by decide +kernel) rfl, wi_X7, ⟨by decide +kernel, by decide +kernel⟩, by decide +kernel⟩
theorem wn_X7_restore : Cond.instanceMethod yX7_restore ∈ TBL := tbl_tab 878 (by decide +kernel) rfl
theorem wl_X7_restore : Cond.selects RX7 yX7_restore yX7_restore ∈ TBL := tbl_tab 879 (by decide +kernel) rfl
theorem ok_X7_gives : okM yX7_gives cX7_gives 4 (some .int) 2 := ⟨tbl_tab 884 (by decide +kernel) rfl, wi_X7, ⟨by decide +kernel, by decide +kernel⟩, by decide +kernel⟩
theorem wn_X7_gives : Cond.instanceMethod yX7_gives ∈ TBL := tbl_tab 883 (by decide +kernel) rfl
theorem wl_X7_gives : Cond.selects RX7 yX7_gives yX7_gives ∈ TBL := tbl_sel 51 (by decide +kernel) rfl
theorem ok_X7_judged : okM yX7_judged cX7_judged 10 (some .int) 3 := ⟨tbl_tab 888 (by decide +kernel) rfl, wi_X7, ⟨by decide +kernel, by decide +kernel⟩, by decide +kernel⟩
theorem wn_X7_judged : Cond.instanceMethod yX7_judged ∈ TBL := tbl_tab 886 (by decide +kernel) rfl
theorem wl_X7_judged : Cond.selects RX7 yX7_judged yX7_judged ∈ TBL := tbl_tab 887 (by decide +kernel) rfl
theorem ok_X7_isSheet : okM yX7_isSheet cX7_isSheet 1 (some .boolean) 1 := ⟨tbl_tab 891 (by decide +kernel) rfl, wi_X7, ⟨by decide +kernel, by decide +kernel⟩, by decide +kernel⟩
theorem ws_X7_isSheet : Cond.static yX7_isSheet ∈ TBL := tbl_tab 890 (by decide +kernel) rfl
theorem ok_X7_isLane : okM yX7_isLane cX7_isLane 1 (some .boolean) 1 := ⟨tbl_tab 894 (by decide +kernel) rfl, wi_X7, ⟨by decide +kernel, by decide +kernel⟩, by decide +kernel⟩
theorem ws_X7_isLane : Cond.static yX7_isLane ∈ TBL := tbl_tab 893 (by decide +kernel) rfl
theorem ok_X7_why : okM yX7_why cX7_why 5 (some .int) 4 := ⟨tbl_tab 898 (by decide +kernel) rfl, wi_X7, ⟨by decide +kernel, by decide +kernel⟩, by decide +kernel⟩
theorem wn_X7_why : Cond.instanceMethod yX7_why ∈ TBL := tbl_tab 897 (by decide +kernel) rfl
theorem wl_X7_why : Cond.selects RX7 yX7_why yX7_why ∈ TBL := tbl_sel 52 (by decide +kernel) rfl
theorem ok_X7_net : okM yX7_net cX7_net 16 (some .int) 6 := ⟨tbl_tab 903 (by decide +kernel) rfl, wi_X7, ⟨by decide +kernel, by decide +kernel⟩, by decide +kernel⟩
theorem wn_X7_net : Cond.instanceMethod yX7_net ∈ TBL := tbl_tab 901 (by decide +kernel) rfl
theorem wl_X7_net : Cond.selects RX7 yX7_net yX7_net ∈ TBL := tbl_tab 902 (by decide +kernel) rfl
theorem ok_X7_film : okM yX7_film cX7_film 6 (some .int) 3 := ⟨tbl_tab 908 (by decide +kernel) rfl, wi_X7, ⟨by decide +kernel, by decide +kernel⟩, by decide +kernel⟩
theorem wn_X7_film : Cond.instanceMethod yX7_film ∈ TBL := tbl_tab 906 (by decide +kernel) rfl
theorem wl_X7_film : Cond.selects RX7 yX7_film yX7_film ∈ TBL := tbl_tab 907 (by decide +kernel) rfl
theorem ok_X7_puts : okM yX7_puts cX7_puts 6 none 3 := ⟨tbl_tab 912 (by decide +kernel) rfl, wi_X7, ⟨by decide +kernel, by decide +kernel⟩, by decide +kernel⟩
theorem wn_X7_puts : Cond.instanceMethod yX7_puts ∈ TBL := tbl_tab 911 (by decide +kernel) rfl
theorem wl_X7_puts : Cond.selects RX7 yX7_puts yX7_puts ∈ TBL := tbl_sel 53 (by decide +kernel) rfl
theorem ok_X7_sheet : okM yX7_sheet cX7_sheet 5 (some .int) 3 := ⟨tbl_tab 916 (by decide +kernel) rfl, wi_X7, ⟨by decide +kernel, by decide +kernel⟩, by decide +kernel⟩
theorem wn_X7_sheet : Cond.instanceMethod yX7_sheet ∈ TBL := tbl_tab 914 (by decide +kernel) rfl
theorem wl_X7_sheet : Cond.selects RX7 yX7_sheet yX7_sheet ∈ TBL := tbl_tab 915 (by decide +kernel) rfl
theorem ok_X7_drop : okM yX7_drop cX7_drop 2 (some .int) 1 := ⟨tbl_tab 920 (by decide +kernel) rfl, wi_X7, ⟨by decide +kernel, by decide +kernel⟩, by decide +kernel⟩
theorem wn_X7_drop : Cond.instanceMethod yX7_drop ∈ TBL := tbl_tab 918 (by decide +kernel) rfl
theorem wl_X7_drop : Cond.selects RX7 yX7_drop yX7_drop ∈ TBL := tbl_tab 919 (by decide +kernel) rfl
theorem ok_X7_item : okM yX7_item cX7_item 7 (some .int) 4 := ⟨tbl_tab 924 (by decide +kernel) rfl, wi_X7, ⟨by decide +kernel, by decide +kernel⟩, by decide +kernel⟩
theorem wn_X7_item : Cond.instanceMethod yX7_item ∈ TBL := tbl_tab 922 (by decide +kernel) rfl
theorem wl_X7_item : Cond.selects RX7 yX7_item yX7_item ∈ TBL := tbl_tab 923 (by decide +kernel) rfl
theorem ok_X7_copy : okM yX7_copy cX7_copy 7 (some .int) 5 := ⟨tbl_tab 928 (by decide +kernel) rfl, wi_X7, ⟨by decide +kernel, by decide +kernel⟩, by decide +kernel⟩
theorem wn_X7_copy : Cond.instanceMethod yX7_copy ∈ TBL := tbl_tab 926 (by decide +kernel) rfl
theorem wl_X7_copy : Cond.selects RX7 yX7_copy yX7_copy ∈ TBL := tbl_tab 927 (by decide +kernel) rfl
end
section
section FR
variable {p : Program} {l : Launch} {e : Env} {R : Room} {s : State} {m : MethodId} {args : Array Value} {below : List Frame} {meth : Method} {c : Code} {D : va_G} {H0 : Heap} {A : Nat → Prop} {nL : Nat} {Q : State → Prop} {ws : va_W} {pc : Nat} {lv : List (Nat × Value)} {st : List Value} {cc : ByteArray} {own : String} {ret : Option FieldType}
theorem gf_X0_9 (C : Cx p s m args meth c cc RX0 nL ret D) (q0 : Nat) {a : Nat} {fs : List Value} {v : Value} (he : ws[q0]? = some (a, .inr (0, fs))) (hv : fs[1]? = some v) (hdg : decode cc pc = .ok (.getfield 9, 3)) (k : G p l e R s m args below meth c D H0 A nL Q ws (pc + 3) lv (v :: st)) : G p l e R s m args below meth c D H0 A nL Q ws pc lv (.ref a :: st) :=
  fun H locs ls hP hS hl => va_getN (D := D) (C := RX5) (T := TX5) (N := 12) C.1 C.2.1 C.2.2.1 iX5 C.2.2.2.1 C.2.2.2.2.2.1 hP q0 he rfl 1 (by decide) (C.2.2.1 _ wf_X0_9) (fun _ h => h) hv hdg (k H locs ls hP hS hl)
theorem gf_X0_15 (C : Cx p s m args meth c cc RX0 nL ret D) (q0 : Nat) {a : Nat} {fs : List Value} {v : Value} (he : ws[q0]? = some (a, .inr (0, fs))) (hv : fs[5]? = some v) (hdg : decode cc pc = .ok (.getfield 15, 3)) (k : G p l e R s m args below meth c D H0 A nL Q ws (pc + 3) lv (v :: st)) : G p l e R s m args below meth c D H0 A nL Q ws pc lv (.ref a :: st) :=
  fun H locs ls hP hS hl => va_getN (D := D) (C := RX5) (T := TX5) (N := 12) C.1 C.2.1 C.2.2.1 iX5 C.2.2.2.1 C.2.2.2.2.2.1 hP q0 he rfl 5 (by decide) (C.2.2.1 _ wf_X0_15) (fun _ h => h) hv hdg (k H locs ls hP hS hl)
theorem gf_X0_32 (C : Cx p s m args meth c cc RX0 nL ret D) (q0 : Nat) {a : Nat} {fs : List Value} {v : Value} (he : ws[q0]? = some (a, .inr (0, fs))) (hv : fs[0]? = some v) (hdg : decode cc pc = .ok (.getfield 32, 3)) (k : G p l e R s m args below meth c D H0 A nL Q ws (pc + 3) lv (v :: st)) : G p l e R s m args below meth c D H0 A nL Q ws pc lv (.ref a :: st) :=
  fun H locs ls hP hS hl => va_getN (D := D) (C := RX5) (T := TX5) (N := 12) C.1 C.2.1 C.2.2.1 iX5 C.2.2.2.1 C.2.2.2.2.2.1 hP q0 he rfl 0 (by decide) (C.2.2.1 _ wf_X0_32) (fun _ h => h) hv hdg (k H locs ls hP hS hl)
theorem gf_X0_39 (C : Cx p s m args meth c cc RX0 nL ret D) (q0 : Nat) {a : Nat} {fs : List Value} {v : Value} (he : ws[q0]? = some (a, .inr (0, fs))) (hv : fs[9]? = some v) (hdg : decode cc pc = .ok (.getfield 39, 3)) (k : G p l e R s m args below meth c D H0 A nL Q ws (pc + 3) lv (v :: st)) : G p l e R s m args below meth c D H0 A nL Q ws pc lv (.ref a :: st) :=
  fun H locs ls hP hS hl => va_getN (D := D) (C := RX5) (T := TX5) (N := 12) C.1 C.2.1 C.2.2.1 iX5 C.2.2.2.1 C.2.2.2.2.2.1 hP q0 he rfl 9 (by decide) (C.2.2.1 _ wf_X0_39) (fun _ h => h) hv hdg (k H locs ls hP hS hl)
theorem gf_X1_15 (C : Cx p s m args meth c cc RX1 nL ret D) (q0 : Nat) {a : Nat} {fs : List Value} {v : Value} (he : ws[q0]? = some (a, .inr (0, fs))) (hv : fs[1]? = some v) (hdg : decode cc pc = .ok (.getfield 15, 3)) (k : G p l e R s m args below meth c D H0 A nL Q ws (pc + 3) lv (v :: st)) : G p l e R s m args below meth c D H0 A nL Q ws pc lv (.ref a :: st) :=
  fun H locs ls hP hS hl => va_getN (D := D) (C := RX5) (T := TX5) (N := 12) C.1 C.2.1 C.2.2.1 iX5 C.2.2.2.1 C.2.2.2.2.2.1 hP q0 he rfl 1 (by decide) (C.2.2.1 _ wf_X1_15) (fun _ h => h) hv hdg (k H locs ls hP hS hl)
theorem gf_X1_32 (C : Cx p s m args meth c cc RX1 nL ret D) (q0 : Nat) {a : Nat} {fs : List Value} {v : Value} (he : ws[q0]? = some (a, .inr (0, fs))) (hv : fs[10]? = some v) (hdg : decode cc pc = .ok (.getfield 32, 3)) (k : G p l e R s m args below meth c D H0 A nL Q ws (pc + 3) lv (v :: st)) : G p l e R s m args below meth c D H0 A nL Q ws pc lv (.ref a :: st) :=
  fun H locs ls hP hS hl => va_getN (D := D) (C := RX5) (T := TX5) (N := 12) C.1 C.2.1 C.2.2.1 iX5 C.2.2.2.1 C.2.2.2.2.2.1 hP q0 he rfl 10 (by decide) (C.2.2.1 _ wf_X1_32) (fun _ h => h) hv hdg (k H locs ls hP hS hl)
theorem gf_X2_9 (C : Cx p s m args meth c cc RX2 nL ret D) (q0 : Nat) {a : Nat} {fs : List Value} {v : Value} (he : ws[q0]? = some (a, .inr (2, fs))) (hv : fs[0]? = some v) (hdg : decode cc pc = .ok (.getfield 9, 3)) (k : G p l e R s m args below meth c D H0 A nL Q ws (pc + 3) lv (v :: st)) : G p l e R s m args below meth c D H0 A nL Q ws pc lv (.ref a :: st) :=
  fun H locs ls hP hS hl => va_get (D := D) (C := RX2) (T := TX2) (N := 3) C.1 C.2.1 C.2.2.1 iX2 C.2.2.2.1 C.2.2.2.2.2.1 hP q0 he rfl 0 (by decide) (C.2.2.1 _ wf_X2_9) (fun _ h => h) hv hdg (k H locs ls hP hS hl)
theorem gf_X2_15 (C : Cx p s m args meth c cc RX2 nL ret D) (q0 : Nat) {a : Nat} {fs : List Value} {v : Value} (he : ws[q0]? = some (a, .inr (2, fs))) (hv : fs[1]? = some v) (hdg : decode cc pc = .ok (.getfield 15, 3)) (k : G p l e R s m args below meth c D H0 A nL Q ws (pc + 3) lv (v :: st)) : G p l e R s m args below meth c D H0 A nL Q ws pc lv (.ref a :: st) :=
  fun H locs ls hP hS hl => va_get (D := D) (C := RX2) (T := TX2) (N := 3) C.1 C.2.1 C.2.2.1 iX2 C.2.2.2.1 C.2.2.2.2.2.1 hP q0 he rfl 1 (by decide) (C.2.2.1 _ wf_X2_15) (fun _ h => h) hv hdg (k H locs ls hP hS hl)
theorem gf_X2_18 (C : Cx p s m args meth c cc RX2 nL ret D) (q0 : Nat) {a : Nat} {fs : List Value} {v : Value} (he : ws[q0]? = some (a, .inr (2, fs))) (hv : fs[2]? = some v) (hdg : decode cc pc = .ok (.getfield 18, 3)) (k : G p l e R s m args below meth c D H0 A nL Q ws (pc + 3) lv (v :: st)) : G p l e R s m args below meth c D H0 A nL Q ws pc lv (.ref a :: st) :=
  fun H locs ls hP hS hl => va_get (D := D) (C := RX2) (T := TX2) (N := 3) C.1 C.2.1 C.2.2.1 iX2 C.2.2.2.1 C.2.2.2.2.2.1 hP q0 he rfl 2 (by decide) (C.2.2.1 _ wf_X2_18) (fun _ h => h) hv hdg (k H locs ls hP hS hl)
theorem gf_X3_9 (C : Cx p s m args meth c cc RX3 nL ret D) (q0 : Nat) {a : Nat} {fs : List Value} {v : Value} (he : ws[q0]? = some (a, .inr (1, fs))) (hv : fs[0]? = some v) (hdg : decode cc pc = .ok (.getfield 9, 3)) (k : G p l e R s m args below meth c D H0 A nL Q ws (pc + 3) lv (v :: st)) : G p l e R s m args below meth c D H0 A nL Q ws pc lv (.ref a :: st) :=
  fun H locs ls hP hS hl => va_get (D := D) (C := RX3) (T := TX3) (N := 4) C.1 C.2.1 C.2.2.1 iX3 C.2.2.2.1 C.2.2.2.2.2.1 hP q0 he rfl 0 (by decide) (C.2.2.1 _ wf_X3_9) (fun _ h => h) hv hdg (k H locs ls hP hS hl)
theorem gf_X3_15 (C : Cx p s m args meth c cc RX3 nL ret D) (q0 : Nat) {a : Nat} {fs : List Value} {v : Value} (he : ws[q0]? = some (a, .inr (1, fs))) (hv : fs[1]? = some v) (hdg : decode cc pc = .ok (.getfield 15, 3)) (k : G p l e R s m args below meth c D H0 A nL Q ws (pc + 3) lv (v :: st)) : G p l e R s m args below meth c D H0 A nL Q ws pc lv (.ref a :: st) :=
  fun H locs ls hP hS hl => va_get (D := D) (C := RX3) (T := TX3) (N := 4) C.1 C.2.1 C.2.2.1 iX3 C.2.2.2.1 C.2.2.2.2.2.1 hP q0 he rfl 1 (by decide) (C.2.2.1 _ wf_X3_15) (fun _ h => h) hv hdg (k H locs ls hP hS hl)
theorem gf_X3_19 (C : Cx p s m args meth c cc RX3 nL ret D) (q0 : Nat) {a : Nat} {fs : List Value} {v : Value} (he : ws[q0]? = some (a, .inr (1, fs))) (hv : fs[2]? = some v) (hdg : decode cc pc = .ok (.getfield 19, 3)) (k : G p l e R s m args below meth c D H0 A nL Q ws (pc + 3) lv (v :: st)) : G p l e R s m args below meth c D H0 A nL Q ws pc lv (.ref a :: st) :=
  fun H locs ls hP hS hl => va_get (D := D) (C := RX3) (T := TX3) (N := 4) C.1 C.2.1 C.2.2.1 iX3 C.2.2.2.1 C.2.2.2.2.2.1 hP q0 he rfl 2 (by decide) (C.2.2.1 _ wf_X3_19) (fun _ h => h) hv hdg (k H locs ls hP hS hl)
theorem gf_X3_22 (C : Cx p s m args meth c cc RX3 nL ret D) (q0 : Nat) {a : Nat} {fs : List Value} {v : Value} (he : ws[q0]? = some (a, .inr (1, fs))) (hv : fs[3]? = some v) (hdg : decode cc pc = .ok (.getfield 22, 3)) (k : G p l e R s m args below meth c D H0 A nL Q ws (pc + 3) lv (v :: st)) : G p l e R s m args below meth c D H0 A nL Q ws pc lv (.ref a :: st) :=
  fun H locs ls hP hS hl => va_get (D := D) (C := RX3) (T := TX3) (N := 4) C.1 C.2.1 C.2.2.1 iX3 C.2.2.2.1 C.2.2.2.2.2.1 hP q0 he rfl 3 (by decide) (C.2.2.1 _ wf_X3_22) (fun _ h => h) hv hdg (k H locs ls hP hS hl)
theorem gf_X3_29 (C : Cx p s m args meth c cc RX3 nL ret D) (q0 : Nat) {a : Nat} {fs : List Value} {v : Value} (he : ws[q0]? = some (a, .inr (0, fs))) (hv : fs[1]? = some v) (hdg : decode cc pc = .ok (.getfield 29, 3)) (k : G p l e R s m args below meth c D H0 A nL Q ws (pc + 3) lv (v :: st)) : G p l e R s m args below meth c D H0 A nL Q ws pc lv (.ref a :: st) :=
  fun H locs ls hP hS hl => va_getN (D := D) (C := RX5) (T := TX5) (N := 12) C.1 C.2.1 C.2.2.1 iX5 C.2.2.2.1 C.2.2.2.2.2.1 hP q0 he rfl 1 (by decide) (C.2.2.1 _ wf_X3_29) (fun _ h => h) hv hdg (k H locs ls hP hS hl)
theorem gf_X3_59 (C : Cx p s m args meth c cc RX3 nL ret D) (q0 : Nat) {a : Nat} {fs : List Value} {v : Value} (he : ws[q0]? = some (a, .inr (0, fs))) (hv : fs[7]? = some v) (hdg : decode cc pc = .ok (.getfield 59, 3)) (k : G p l e R s m args below meth c D H0 A nL Q ws (pc + 3) lv (v :: st)) : G p l e R s m args below meth c D H0 A nL Q ws pc lv (.ref a :: st) :=
  fun H locs ls hP hS hl => va_getN (D := D) (C := RX5) (T := TX5) (N := 12) C.1 C.2.1 C.2.2.1 iX5 C.2.2.2.1 C.2.2.2.2.2.1 hP q0 he rfl 7 (by decide) (C.2.2.1 _ wf_X3_59) (fun _ h => h) hv hdg (k H locs ls hP hS hl)
theorem gf_X3_67 (C : Cx p s m args meth c cc RX3 nL ret D) (q0 : Nat) {a : Nat} {fs : List Value} {v : Value} (he : ws[q0]? = some (a, .inr (0, fs))) (hv : fs[8]? = some v) (hdg : decode cc pc = .ok (.getfield 67, 3)) (k : G p l e R s m args below meth c D H0 A nL Q ws (pc + 3) lv (v :: st)) : G p l e R s m args below meth c D H0 A nL Q ws pc lv (.ref a :: st) :=
  fun H locs ls hP hS hl => va_getN (D := D) (C := RX5) (T := TX5) (N := 12) C.1 C.2.1 C.2.2.1 iX5 C.2.2.2.1 C.2.2.2.2.2.1 hP q0 he rfl 8 (by decide) (C.2.2.1 _ wf_X3_67) (fun _ h => h) hv hdg (k H locs ls hP hS hl)
theorem gf_X4_37 (C : Cx p s m args meth c cc RX4 nL ret D) (q0 : Nat) {a : Nat} {fs : List Value} {v : Value} (he : ws[q0]? = some (a, .inr (0, fs))) (hv : fs[1]? = some v) (hdg : decode cc pc = .ok (.getfield 37, 3)) (k : G p l e R s m args below meth c D H0 A nL Q ws (pc + 3) lv (v :: st)) : G p l e R s m args below meth c D H0 A nL Q ws pc lv (.ref a :: st) :=
  fun H locs ls hP hS hl => va_getN (D := D) (C := RX5) (T := TX5) (N := 12) C.1 C.2.1 C.2.2.1 iX5 C.2.2.2.1 C.2.2.2.2.2.1 hP q0 he rfl 1 (by decide) (C.2.2.1 _ wf_X4_37) (fun _ h => h) hv hdg (k H locs ls hP hS hl)
theorem gf_X4_44 (C : Cx p s m args meth c cc RX4 nL ret D) (q0 : Nat) {a : Nat} {fs : List Value} {v : Value} (he : ws[q0]? = some (a, .inr (0, fs))) (hv : fs[7]? = some v) (hdg : decode cc pc = .ok (.getfield 44, 3)) (k : G p l e R s m args below meth c D H0 A nL Q ws (pc + 3) lv (v :: st)) : G p l e R s m args below meth c D H0 A nL Q ws pc lv (.ref a :: st) :=
  fun H locs ls hP hS hl => va_getN (D := D) (C := RX5) (T := TX5) (N := 12) C.1 C.2.1 C.2.2.1 iX5 C.2.2.2.1 C.2.2.2.2.2.1 hP q0 he rfl 7 (by decide) (C.2.2.1 _ wf_X4_44) (fun _ h => h) hv hdg (k H locs ls hP hS hl)
theorem gf_X4_48 (C : Cx p s m args meth c cc RX4 nL ret D) (q0 : Nat) {a : Nat} {fs : List Value} {v : Value} (he : ws[q0]? = some (a, .inr (0, fs))) (hv : fs[0]? = some v) (hdg : decode cc pc = .ok (.getfield 48, 3)) (k : G p l e R s m args below meth c D H0 A nL Q ws (pc + 3) lv (v :: st)) : G p l e R s m args below meth c D H0 A nL Q ws pc lv (.ref a :: st) :=
  fun H locs ls hP hS hl => va_getN (D := D) (C := RX5) (T := TX5) (N := 12) C.1 C.2.1 C.2.2.1 iX5 C.2.2.2.1 C.2.2.2.2.2.1 hP q0 he rfl 0 (by decide) (C.2.2.1 _ wf_X4_48) (fun _ h => h) hv hdg (k H locs ls hP hS hl)
theorem gf_X5_9 (C : Cx p s m args meth c cc RX5 nL ret D) (q0 : Nat) {a : Nat} {fs : List Value} {v : Value} (he : ws[q0]? = some (a, .inr (0, fs))) (hv : fs[0]? = some v) (hdg : decode cc pc = .ok (.getfield 9, 3)) (k : G p l e R s m args below meth c D H0 A nL Q ws (pc + 3) lv (v :: st)) : G p l e R s m args below meth c D H0 A nL Q ws pc lv (.ref a :: st) :=
  fun H locs ls hP hS hl => va_get (D := D) (C := RX5) (T := TX5) (N := 12) C.1 C.2.1 C.2.2.1 iX5 C.2.2.2.1 C.2.2.2.2.2.1 hP q0 he rfl 0 (by decide) (C.2.2.1 _ wf_X5_9) (fun _ h => h) hv hdg (k H locs ls hP hS hl)
theorem gf_X5_15 (C : Cx p s m args meth c cc RX5 nL ret D) (q0 : Nat) {a : Nat} {fs : List Value} {v : Value} (he : ws[q0]? = some (a, .inr (0, fs))) (hv : fs[1]? = some v) (hdg : decode cc pc = .ok (.getfield 15, 3)) (k : G p l e R s m args below meth c D H0 A nL Q ws (pc + 3) lv (v :: st)) : G p l e R s m args below meth c D H0 A nL Q ws pc lv (.ref a :: st) :=
  fun H locs ls hP hS hl => va_get (D := D) (C := RX5) (T := TX5) (N := 12) C.1 C.2.1 C.2.2.1 iX5 C.2.2.2.1 C.2.2.2.2.2.1 hP q0 he rfl 1 (by decide) (C.2.2.1 _ wf_X5_15) (fun _ h => h) hv hdg (k H locs ls hP hS hl)
theorem gf_X5_18 (C : Cx p s m args meth c cc RX5 nL ret D) (q0 : Nat) {a : Nat} {fs : List Value} {v : Value} (he : ws[q0]? = some (a, .inr (0, fs))) (hv : fs[2]? = some v) (hdg : decode cc pc = .ok (.getfield 18, 3)) (k : G p l e R s m args below meth c D H0 A nL Q ws (pc + 3) lv (v :: st)) : G p l e R s m args below meth c D H0 A nL Q ws pc lv (.ref a :: st) :=
  fun H locs ls hP hS hl => va_get (D := D) (C := RX5) (T := TX5) (N := 12) C.1 C.2.1 C.2.2.1 iX5 C.2.2.2.1 C.2.2.2.2.2.1 hP q0 he rfl 2 (by decide) (C.2.2.1 _ wf_X5_18) (fun _ h => h) hv hdg (k H locs ls hP hS hl)
theorem gf_X5_21 (C : Cx p s m args meth c cc RX5 nL ret D) (q0 : Nat) {a : Nat} {fs : List Value} {v : Value} (he : ws[q0]? = some (a, .inr (0, fs))) (hv : fs[3]? = some v) (hdg : decode cc pc = .ok (.getfield 21, 3)) (k : G p l e R s m args below meth c D H0 A nL Q ws (pc + 3) lv (v :: st)) : G p l e R s m args below meth c D H0 A nL Q ws pc lv (.ref a :: st) :=
  fun H locs ls hP hS hl => va_get (D := D) (C := RX5) (T := TX5) (N := 12) C.1 C.2.1 C.2.2.1 iX5 C.2.2.2.1 C.2.2.2.2.2.1 hP q0 he rfl 3 (by decide) (C.2.2.1 _ wf_X5_21) (fun _ h => h) hv hdg (k H locs ls hP hS hl)
theorem gf_X5_24 (C : Cx p s m args meth c cc RX5 nL ret D) (q0 : Nat) {a : Nat} {fs : List Value} {v : Value} (he : ws[q0]? = some (a, .inr (0, fs))) (hv : fs[4]? = some v) (hdg : decode cc pc = .ok (.getfield 24, 3)) (k : G p l e R s m args below meth c D H0 A nL Q ws (pc + 3) lv (v :: st)) : G p l e R s m args below meth c D H0 A nL Q ws pc lv (.ref a :: st) :=
  fun H locs ls hP hS hl => va_get (D := D) (C := RX5) (T := TX5) (N := 12) C.1 C.2.1 C.2.2.1 iX5 C.2.2.2.1 C.2.2.2.2.2.1 hP q0 he rfl 4 (by decide) (C.2.2.1 _ wf_X5_24) (fun _ h => h) hv hdg (k H locs ls hP hS hl)
theorem gf_X5_27 (C : Cx p s m args meth c cc RX5 nL ret D) (q0 : Nat) {a : Nat} {fs : List Value} {v : Value} (he : ws[q0]? = some (a, .inr (0, fs))) (hv : fs[5]? = some v) (hdg : decode cc pc = .ok (.getfield 27, 3)) (k : G p l e R s m args below meth c D H0 A nL Q ws (pc + 3) lv (v :: st)) : G p l e R s m args below meth c D H0 A nL Q ws pc lv (.ref a :: st) :=
  fun H locs ls hP hS hl => va_get (D := D) (C := RX5) (T := TX5) (N := 12) C.1 C.2.1 C.2.2.1 iX5 C.2.2.2.1 C.2.2.2.2.2.1 hP q0 he rfl 5 (by decide) (C.2.2.1 _ wf_X5_27) (fun _ h => h) hv hdg (k H locs ls hP hS hl)
theorem gf_X5_30 (C : Cx p s m args meth c cc RX5 nL ret D) (q0 : Nat) {a : Nat} {fs : List Value} {v : Value} (he : ws[q0]? = some (a, .inr (0, fs))) (hv : fs[6]? = some v) (hdg : decode cc pc = .ok (.getfield 30, 3)) (k : G p l e R s m args below meth c D H0 A nL Q ws (pc + 3) lv (v :: st)) : G p l e R s m args below meth c D H0 A nL Q ws pc lv (.ref a :: st) :=
  fun H locs ls hP hS hl => va_get (D := D) (C := RX5) (T := TX5) (N := 12) C.1 C.2.1 C.2.2.1 iX5 C.2.2.2.1 C.2.2.2.2.2.1 hP q0 he rfl 6 (by decide) (C.2.2.1 _ wf_X5_30) (fun _ h => h) hv hdg (k H locs ls hP hS hl)
theorem gf_X5_34 (C : Cx p s m args meth c cc RX5 nL ret D) (q0 : Nat) {a : Nat} {fs : List Value} {v : Value} (he : ws[q0]? = some (a, .inr (0, fs))) (hv : fs[7]? = some v) (hdg : decode cc pc = .ok (.getfield 34, 3)) (k : G p l e R s m args below meth c D H0 A nL Q ws (pc + 3) lv (v :: st)) : G p l e R s m args below meth c D H0 A nL Q ws pc lv (.ref a :: st) :=
  fun H locs ls hP hS hl => va_get (D := D) (C := RX5) (T := TX5) (N := 12) C.1 C.2.1 C.2.2.1 iX5 C.2.2.2.1 C.2.2.2.2.2.1 hP q0 he rfl 7 (by decide) (C.2.2.1 _ wf_X5_34) (fun _ h => h) hv hdg (k H locs ls hP hS hl)
theorem gf_X5_37 (C : Cx p s m args meth c cc RX5 nL ret D) (q0 : Nat) {a : Nat} {fs : List Value} {v : Value} (he : ws[q0]? = some (a, .inr (0, fs))) (hv : fs[8]? = some v) (hdg : decode cc pc = .ok (.getfield 37, 3)) (k : G p l e R s m args below meth c D H0 A nL Q ws (pc + 3) lv (v :: st)) : G p l e R s m args below meth c D H0 A nL Q ws pc lv (.ref a :: st) :=
  fun H locs ls hP hS hl => va_get (D := D) (C := RX5) (T := TX5) (N := 12) C.1 C.2.1 C.2.2.1 iX5 C.2.2.2.1 C.2.2.2.2.2.1 hP q0 he rfl 8 (by decide) (C.2.2.1 _ wf_X5_37) (fun _ h => h) hv hdg (k H locs ls hP hS hl)
theorem gf_X5_40 (C : Cx p s m args meth c cc RX5 nL ret D) (q0 : Nat) {a : Nat} {fs : List Value} {v : Value} (he : ws[q0]? = some (a, .inr (0, fs))) (hv : fs[9]? = some v) (hdg : decode cc pc = .ok (.getfield 40, 3)) (k : G p l e R s m args below meth c D H0 A nL Q ws (pc + 3) lv (v :: st)) : G p l e R s m args below meth c D H0 A nL Q ws pc lv (.ref a :: st) :=
  fun H locs ls hP hS hl => va_get (D := D) (C := RX5) (T := TX5) (N := 12) C.1 C.2.1 C.2.2.1 iX5 C.2.2.2.1 C.2.2.2.2.2.1 hP q0 he rfl 9 (by decide) (C.2.2.1 _ wf_X5_40) (fun _ h => h) hv hdg (k H locs ls hP hS hl)
theorem gf_X5_43 (C : Cx p s m args meth c cc RX5 nL ret D) (q0 : Nat) {a : Nat} {fs : List Value} {v : Value} (he : ws[q0]? = some (a, .inr (0, fs))) (hv : fs[10]? = some v) (hdg : decode cc pc = .ok (.getfield 43, 3)) (k : G p l e R s m args below meth c D H0 A nL Q ws (pc + 3) lv (v :: st)) : G p l e R s m args below meth c D H0 A nL Q ws pc lv (.ref a :: st) :=
  fun H locs ls hP hS hl => va_get (D := D) (C := RX5) (T := TX5) (N := 12) C.1 C.2.1 C.2.2.1 iX5 C.2.2.2.1 C.2.2.2.2.2.1 hP q0 he rfl 10 (by decide) (C.2.2.1 _ wf_X5_43) (fun _ h => h) hv hdg (k H locs ls hP hS hl)
theorem gf_X5_46 (C : Cx p s m args meth c cc RX5 nL ret D) (q0 : Nat) {a : Nat} {fs : List Value} {v : Value} (he : ws[q0]? = some (a, .inr (0, fs))) (hv : fs[11]? = some v) (hdg : decode cc pc = .ok (.getfield 46, 3)) (k : G p l e R s m args below meth c D H0 A nL Q ws (pc + 3) lv (v :: st)) : G p l e R s m args below meth c D H0 A nL Q ws pc lv (.ref a :: st) :=
  fun H locs ls hP hS hl => va_get (D := D) (C := RX5) (T := TX5) (N := 12) C.1 C.2.1 C.2.2.1 iX5 C.2.2.2.1 C.2.2.2.2.2.1 hP q0 he rfl 11 (by decide) (C.2.2.1 _ wf_X5_46) (fun _ h => h) hv hdg (k H locs ls hP hS hl)
theorem gf_X6_10 (C : Cx p s m args meth c cc RX6 nL ret D) (q0 : Nat) {a : Nat} {fs : List Value} {v : Value} (he : ws[q0]? = some (a, .inr (3, fs))) (hv : fs[0]? = some v) (hdg : decode cc pc = .ok (.getfield 10, 3)) (k : G p l e R s m args below meth c D H0 A nL Q ws (pc + 3) lv (v :: st)) : G p l e R s m args below meth c D H0 A nL Q ws pc lv (.ref a :: st) :=
  fun H locs ls hP hS hl => va_get (D := D) (C := RX6) (T := TX6) (N := 9) C.1 C.2.1 C.2.2.1 iX6 C.2.2.2.1 C.2.2.2.2.2.1 hP q0 he rfl 0 (by decide) (C.2.2.1 _ wf_X6_10) (fun _ h => h) hv hdg (k H locs ls hP hS hl)
theorem gf_X6_16 (C : Cx p s m args meth c cc RX6 nL ret D) (q0 : Nat) {a : Nat} {fs : List Value} {v : Value} (he : ws[q0]? = some (a, .inr (3, fs))) (hv : fs[1]? = some v) (hdg : decode cc pc = .ok (.getfield 16, 3)) (k : G p l e R s m args below meth c D H0 A nL Q ws (pc + 3) lv (v :: st)) : G p l e R s m args below meth c D H0 A nL Q ws pc lv (.ref a :: st) :=
  fun H locs ls hP hS hl => va_get (D := D) (C := RX6) (T := TX6) (N := 9) C.1 C.2.1 C.2.2.1 iX6 C.2.2.2.1 C.2.2.2.2.2.1 hP q0 he rfl 1 (by decide) (C.2.2.1 _ wf_X6_16) (fun _ h => h) hv hdg (k H locs ls hP hS hl)
theorem gf_X6_19 (C : Cx p s m args meth c cc RX6 nL ret D) (q0 : Nat) {a : Nat} {fs : List Value} {v : Value} (he : ws[q0]? = some (a, .inr (3, fs))) (hv : fs[2]? = some v) (hdg : decode cc pc = .ok (.getfield 19, 3)) (k : G p l e R s m args below meth c D H0 A nL Q ws (pc + 3) lv (v :: st)) : G p l e R s m args below meth c D H0 A nL Q ws pc lv (.ref a :: st) :=
  fun H locs ls hP hS hl => va_get (D := D) (C := RX6) (T := TX6) (N := 9) C.1 C.2.1 C.2.2.1 iX6 C.2.2.2.1 C.2.2.2.2.2.1 hP q0 he rfl 2 (by decide) (C.2.2.1 _ wf_X6_19) (fun _ h => h) hv hdg (k H locs ls hP hS hl)
theorem gf_X6_25 (C : Cx p s m args meth c cc RX6 nL ret D) (q0 : Nat) {a : Nat} {fs : List Value} {v : Value} (he : ws[q0]? = some (a, .inr (3, fs))) (hv : fs[3]? = some v) (hdg : decode cc pc = .ok (.getfield 25, 3)) (k : G p l e R s m args below meth c D H0 A nL Q ws (pc + 3) lv (v :: st)) : G p l e R s m args below meth c D H0 A nL Q ws pc lv (.ref a :: st) :=
  fun H locs ls hP hS hl => va_get (D := D) (C := RX6) (T := TX6) (N := 9) C.1 C.2.1 C.2.2.1 iX6 C.2.2.2.1 C.2.2.2.2.2.1 hP q0 he rfl 3 (by decide) (C.2.2.1 _ wf_X6_25) (fun _ h => h) hv hdg (k H locs ls hP hS hl)
theorem gf_X6_32 (C : Cx p s m args meth c cc RX6 nL ret D) (q0 : Nat) {a : Nat} {fs : List Value} {v : Value} (he : ws[q0]? = some (a, .inr (3, fs))) (hv : fs[4]? = some v) (hdg : decode cc pc = .ok (.getfield 32, 3)) (k : G p l e R s m args below meth c D H0 A nL Q ws (pc + 3) lv (v :: st)) : G p l e R s m args below meth c D H0 A nL Q ws pc lv (.ref a :: st) :=
  fun H locs ls hP hS hl => va_get (D := D) (C := RX6) (T := TX6) (N := 9) C.1 C.2.1 C.2.2.1 iX6 C.2.2.2.1 C.2.2.2.2.2.1 hP q0 he rfl 4 (by decide) (C.2.2.1 _ wf_X6_32) (fun _ h => h) hv hdg (k H locs ls hP hS hl)
theorem gf_X6_36 (C : Cx p s m args meth c cc RX6 nL ret D) (q0 : Nat) {a : Nat} {fs : List Value} {v : Value} (he : ws[q0]? = some (a, .inr (3, fs))) (hv : fs[5]? = some v) (hdg : decode cc pc = .ok (.getfield 36, 3)) (k : G p l e R s m args below meth c D H0 A nL Q ws (pc + 3) lv (v :: st)) : G p l e R s m args below meth c D H0 A nL Q ws pc lv (.ref a :: st) :=
  fun H locs ls hP hS hl => va_get (D := D) (C := RX6) (T := TX6) (N := 9) C.1 C.2.1 C.2.2.1 iX6 C.2.2.2.1 C.2.2.2.2.2.1 hP q0 he rfl 5 (by decide) (C.2.2.1 _ wf_X6_36) (fun _ h => h) hv hdg (k H locs ls hP hS hl)
theorem gf_X6_40 (C : Cx p s m args meth c cc RX6 nL ret D) (q0 : Nat) {a : Nat} {fs : List Value} {v : Value} (he : ws[q0]? = some (a, .inr (3, fs))) (hv : fs[6]? = some v) (hdg : decode cc pc = .ok (.getfield 40, 3)) (k : G p l e R s m args below meth c D H0 A nL Q ws (pc + 3) lv (v :: st)) : G p l e R s m args below meth c D H0 A nL Q ws pc lv (.ref a :: st) :=
  fun H locs ls hP hS hl => va_get (D := D) (C := RX6) (T := TX6) (N := 9) C.1 C.2.1 C.2.2.1 iX6 C.2.2.2.1 C.2.2.2.2.2.1 hP q0 he rfl 6 (by decide) (C.2.2.1 _ wf_X6_40) (fun _ h => h) hv hdg (k H locs ls hP hS hl)
theorem gf_X6_43 (C : Cx p s m args meth c cc RX6 nL ret D) (q0 : Nat) {a : Nat} {fs : List Value} {v : Value} (he : ws[q0]? = some (a, .inr (3, fs))) (hv : fs[7]? = some v) (hdg : decode cc pc = .ok (.getfield 43, 3)) (k : G p l e R s m args below meth c D H0 A nL Q ws (pc + 3) lv (v :: st)) : G p l e R s m args below meth c D H0 A nL Q ws pc lv (.ref a :: st) :=
  fun H locs ls hP hS hl => va_get (D := D) (C := RX6) (T := TX6) (N := 9) C.1 C.2.1 C.2.2.1 iX6 C.2.2.2.1 C.2.2.2.2.2.1 hP q0 he rfl 7 (by decide) (C.2.2.1 _ wf_X6_43) (fun _ h => h) hv hdg (k H locs ls hP hS hl)
theorem gf_X6_46 (C : Cx p s m args meth c cc RX6 nL ret D) (q0 : Nat) {a : Nat} {fs : List Value} {v : Value} (he : ws[q0]? = some (a, .inr (3, fs))) (hv : fs[8]? = some v) (hdg : decode cc pc = .ok (.getfield 46, 3)) (k : G p l e R s m args below meth c D H0 A nL Q ws (pc + 3) lv (v :: st)) : G p l e R s m args below meth c D H0 A nL Q ws pc lv (.ref a :: st) :=
  fun H locs ls hP hS hl => va_get (D := D) (C := RX6) (T := TX6) (N := 9) C.1 C.2.1 C.2.2.1 iX6 C.2.2.2.1 C.2.2.2.2.2.1 hP q0 he rfl 8 (by decide) (C.2.2.1 _ wf_X6_46) (fun _ h => h) hv hdg (k H locs ls hP hS hl)
theorem gf_X6_50 (C : Cx p s m args meth c cc RX6 nL ret D) (q0 : Nat) {a : Nat} {fs : List Value} {v : Value} (he : ws[q0]? = some (a, .inr (0, fs))) (hv : fs[0]? = some v) (hdg : decode cc pc = .ok (.getfield 50, 3)) (k : G p l e R s m args below meth c D H0 A nL Q ws (pc + 3) lv (v :: st)) : G p l e R s m args below meth c D H0 A nL Q ws pc lv (.ref a :: st) :=
  fun H locs ls hP hS hl => va_getN (D := D) (C := RX5) (T := TX5) (N := 12) C.1 C.2.1 C.2.2.1 iX5 C.2.2.2.1 C.2.2.2.2.2.1 hP q0 he rfl 0 (by decide) (C.2.2.1 _ wf_X6_50) (fun _ h => h) hv hdg (k H locs ls hP hS hl)
theorem gf_X6_58 (C : Cx p s m args meth c cc RX6 nL ret D) (q0 : Nat) {a : Nat} {fs : List Value} {v : Value} (he : ws[q0]? = some (a, .inr (0, fs))) (hv : fs[1]? = some v) (hdg : decode cc pc = .ok (.getfield 58, 3)) (k : G p l e R s m args below meth c D H0 A nL Q ws (pc + 3) lv (v :: st)) : G p l e R s m args below meth c D H0 A nL Q ws pc lv (.ref a :: st) :=
  fun H locs ls hP hS hl => va_getN (D := D) (C := RX5) (T := TX5) (N := 12) C.1 C.2.1 C.2.2.1 iX5 C.2.2.2.1 C.2.2.2.2.2.1 hP q0 he rfl 1 (by decide) (C.2.2.1 _ wf_X6_58) (fun _ h => h) hv hdg (k H locs ls hP hS hl)
theorem gf_X6_76 (C : Cx p s m args meth c cc RX6 nL ret D) (q0 : Nat) {a : Nat} {fs : List Value} {v : Value} (he : ws[q0]? = some (a, .inr (0, fs))) (hv : fs[6]? = some v) (hdg : decode cc pc = .ok (.getfield 76, 3)) (k : G p l e R s m args below meth c D H0 A nL Q ws (pc + 3) lv (v :: st)) : G p l e R s m args below meth c D H0 A nL Q ws pc lv (.ref a :: st) :=
  fun H locs ls hP hS hl => va_getN (D := D) (C := RX5) (T := TX5) (N := 12) C.1 C.2.1 C.2.2.1 iX5 C.2.2.2.1 C.2.2.2.2.2.1 hP q0 he rfl 6 (by decide) (C.2.2.1 _ wf_X6_76) (fun _ h => h) hv hdg (k H locs ls hP hS hl)
theorem gf_X6_79 (C : Cx p s m args meth c cc RX6 nL ret D) (q0 : Nat) {a : Nat} {fs : List Value} {v : Value} (he : ws[q0]? = some (a, .inr (0, fs))) (hv : fs[7]? = some v) (hdg : decode cc pc = .ok (.getfield 79, 3)) (k : G p l e R s m args below meth c D H0 A nL Q ws (pc + 3) lv (v :: st)) : G p l e R s m args below meth c D H0 A nL Q ws pc lv (.ref a :: st) :=
  fun H locs ls hP hS hl => va_getN (D := D) (C := RX5) (T := TX5) (N := 12) C.1 C.2.1 C.2.2.1 iX5 C.2.2.2.1 C.2.2.2.2.2.1 hP q0 he rfl 7 (by decide) (C.2.2.1 _ wf_X6_79) (fun _ h => h) hv hdg (k H locs ls hP hS hl)
theorem gf_X6_82 (C : Cx p s m args meth c cc RX6 nL ret D) (q0 : Nat) {a : Nat} {fs : List Value} {v : Value} (he : ws[q0]? = some (a, .inr (0, fs))) (hv : fs[8]? = some v) (hdg : decode cc pc = .ok (.getfield 82, 3)) (k : G p l e R s m args below meth c D H0 A nL Q ws (pc + 3) lv (v :: st)) : G p l e R s m args below meth c D H0 A nL Q ws pc lv (.ref a :: st) :=
  fun H locs ls hP hS hl => va_getN (D := D) (C := RX5) (T := TX5) (N := 12) C.1 C.2.1 C.2.2.1 iX5 C.2.2.2.1 C.2.2.2.2.2.1 hP q0 he rfl 8 (by decide) (C.2.2.1 _ wf_X6_82) (fun _ h => h) hv hdg (k H locs ls hP hS hl)
theorem gf_X6_85 (C : Cx p s m args meth c cc RX6 nL ret D) (q0 : Nat) {a : Nat} {fs : List Value} {v : Value} (he : ws[q0]? = some (a, .inr (0, fs))) (hv : fs[9]? = some v) (hdg : decode cc pc = .ok (.getfield 85, 3)) (k : G p l e R s m args below meth c D H0 A nL Q ws (pc + 3) lv (v :: st)) : G p l e R s m args below meth c D H0 A nL Q ws pc lv (.ref a :: st) :=
  fun H locs ls hP hS hl => va_getN (D := D) (C := RX5) (T := TX5) (N := 12) C.1 C.2.1 C.2.2.1 iX5 C.2.2.2.1 C.2.2.2.2.2.1 hP q0 he rfl 9 (by decide) (C.2.2.1 _ wf_X6_85) (fun _ h => h) hv hdg (k H locs ls hP hS hl)
theorem gf_X6_88 (C : Cx p s m args meth c cc RX6 nL ret D) (q0 : Nat) {a : Nat} {fs : List Value} {v : Value} (he : ws[q0]? = some (a, .inr (0, fs))) (hv : fs[10]? = some v) (hdg : decode cc pc = .ok (.getfield 88, 3)) (k : G p l e R s m args below meth c D H0 A nL Q ws (pc + 3) lv (v :: st)) : G p l e R s m args below meth c D H0 A nL Q ws pc lv (.ref a :: st) :=
  fun H locs ls hP hS hl => va_getN (D := D) (C := RX5) (T := TX5) (N := 12) C.1 C.2.1 C.2.2.1 iX5 C.2.2.2.1 C.2.2.2.2.2.1 hP q0 he rfl 10 (by decide) (C.2.2.1 _ wf_X6_88) (fun _ h => h) hv hdg (k H locs ls hP hS hl)
theorem gf_X6_91 (C : Cx p s m args meth c cc RX6 nL ret D) (q0 : Nat) {a : Nat} {fs : List Value} {v : Value} (he : ws[q0]? = some (a, .inr (0, fs))) (hv : fs[5]? = some v) (hdg : decode cc pc = .ok (.getfield 91, 3)) (k : G p l e R s m args below meth c D H0 A nL Q ws (pc + 3) lv (v :: st)) : G p l e R s m args below meth c D H0 A nL Q ws pc lv (.ref a :: st) :=
  fun H locs ls hP hS hl => va_getN (D := D) (C := RX5) (T := TX5) (N := 12) C.1 C.2.1 C.2.2.1 iX5 C.2.2.2.1 C.2.2.2.2.2.1 hP q0 he rfl 5 (by decide) (C.2.2.1 _ wf_X6_91) (fun _ h => h) hv hdg (k H locs ls hP hS hl)
theorem gf_X6_111 (C : Cx p s m args meth c cc RX6 nL ret D) (q0 : Nat) {a : Nat} {fs : List Value} {v : Value} (he : ws[q0]? = some (a, .inr (0, fs))) (hv : fs[11]? = some v) (hdg : decode cc pc = .ok (.getfield 111, 3)) (k : G p l e R s m args below meth c D H0 A nL Q ws (pc + 3) lv (v :: st)) : G p l e R s m args below meth c D H0 A nL Q ws pc lv (.ref a :: st) :=
  fun H locs ls hP hS hl => va_getN (D := D) (C := RX5) (T := TX5) (N := 12) C.1 C.2.1 C.2.2.1 iX5 C.2.2.2.1 C.2.2.2.2.2.1 hP q0 he rfl 11 (by decide) (C.2.2.1 _ wf_X6_111) (fun _ h => h) hv hdg (k H locs ls hP hS hl)
theorem gf_X6_118 (C : Cx p s m args meth c cc RX6 nL ret D) (q0 : Nat) {a : Nat} {fs : List Value} {v : Value} (he : ws[q0]? = some (a, .inr (0, fs))) (hv : fs[4]? = some v) (hdg : decode cc pc = .ok (.getfield 118, 3)) (k : G p l e R s m args below meth c D H0 A nL Q ws (pc + 3) lv (v :: st)) : G p l e R s m args below meth c D H0 A nL Q ws pc lv (.ref a :: st) :=
  fun H locs ls hP hS hl => va_getN (D := D) (C := RX5) (T := TX5) (N := 12) C.1 C.2.1 C.2.2.1 iX5 C.2.2.2.1 C.2.2.2.2.2.1 hP q0 he rfl 4 (by decide) (C.2.2.1 _ wf_X6_118) (fun _ h => h) hv hdg (k H locs ls hP hS hl)
theorem gf_X6_124 (C : Cx p s m args meth c cc RX6 nL ret D) (q0 : Nat) {a : Nat} {fs : List Value} {v : Value} (he : ws[q0]? = some (a, .inr (1, fs))) (hv : fs[1]? = some v) (hdg : decode cc pc = .ok (.getfield 124, 3)) (k : G p l e R s m args below meth c D H0 A nL Q ws (pc + 3) lv (v :: st)) : G p l e R s m args below meth c D H0 A nL Q ws pc lv (.ref a :: st) :=
  fun H locs ls hP hS hl => va_getN (D := D) (C := RX3) (T := TX3) (N := 4) C.1 C.2.1 C.2.2.1 iX3 C.2.2.2.1 C.2.2.2.2.2.1 hP q0 he rfl 1 (by decide) (C.2.2.1 _ wf_X6_124) (fun _ h => h) hv hdg (k H locs ls hP hS hl)
theorem gf_X6_134 (C : Cx p s m args meth c cc RX6 nL ret D) (q0 : Nat) {a : Nat} {fs : List Value} {v : Value} (he : ws[q0]? = some (a, .inr (0, fs))) (hv : fs[3]? = some v) (hdg : decode cc pc = .ok (.getfield 134, 3)) (k : G p l e R s m args below meth c D H0 A nL Q ws (pc + 3) lv (v :: st)) : G p l e R s m args below meth c D H0 A nL Q ws pc lv (.ref a :: st) :=
  fun H locs ls hP hS hl => va_getN (D := D) (C := RX5) (T := TX5) (N := 12) C.1 C.2.1 C.2.2.1 iX5 C.2.2.2.1 C.2.2.2.2.2.1 hP q0 he rfl 3 (by decide) (C.2.2.1 _ wf_X6_134) (fun _ h => h) hv hdg (k H locs ls hP hS hl)
theorem gf_X6_141 (C : Cx p s m args meth c cc RX6 nL ret D) (q0 : Nat) {a : Nat} {fs : List Value} {v : Value} (he : ws[q0]? = some (a, .inr (0, fs))) (hv : fs[2]? = some v) (hdg : decode cc pc = .ok (.getfield 141, 3)) (k : G p l e R s m args below meth c D H0 A nL Q ws (pc + 3) lv (v :: st)) : G p l e R s m args below meth c D H0 A nL Q ws pc lv (.ref a :: st) :=
  fun H locs ls hP hS hl => va_getN (D := D) (C := RX5) (T := TX5) (N := 12) C.1 C.2.1 C.2.2.1 iX5 C.2.2.2.1 C.2.2.2.2.2.1 hP q0 he rfl 2 (by decide) (C.2.2.1 _ wf_X6_141) (fun _ h => h) hv hdg (k H locs ls hP hS hl)
theorem gf_X6_255 (C : Cx p s m args meth c cc RX6 nL ret D) (q0 : Nat) {a : Nat} {fs : List Value} {v : Value} (he : ws[q0]? = some (a, .inr (2, fs))) (hv : fs[1]? = some v) (hdg : decode cc pc = .ok (.getfield 255, 3)) (k : G p l e R s m args below meth c D H0 A nL Q ws (pc + 3) lv (v :: st)) : G p l e R s m args below meth c D H0 A nL Q ws pc lv (.ref a :: st) :=
  fun H locs ls hP hS hl => va_getN (D := D) (C := RX2) (T := TX2) (N := 3) C.1 C.2.1 C.2.2.1 iX2 C.2.2.2.1 C.2.2.2.2.2.1 hP q0 he rfl 1 (by decide) (C.2.2.1 _ wf_X6_255) (fun _ h => h) hv hdg (k H locs ls hP hS hl)
theorem gf_X6_258 (C : Cx p s m args meth c cc RX6 nL ret D) (q0 : Nat) {a : Nat} {fs : List Value} {v : Value} (he : ws[q0]? = some (a, .inr (2, fs))) (hv : fs[0]? = some v) (hdg : decode cc pc = .ok (.getfield 258, 3)) (k : G p l e R s m args below meth c D H0 A nL Q ws (pc + 3) lv (v :: st)) : G p l e R s m args below meth c D H0 A nL Q ws pc lv (.ref a :: st) :=
  fun H locs ls hP hS hl => va_getN (D := D) (C := RX2) (T := TX2) (N := 3) C.1 C.2.1 C.2.2.1 iX2 C.2.2.2.1 C.2.2.2.2.2.1 hP q0 he rfl 0 (by decide) (C.2.2.1 _ wf_X6_258) (fun _ h => h) hv hdg (k H locs ls hP hS hl)
theorem gf_X7_7 (C : Cx p s m args meth c cc RX7 nL ret D) (q0 : Nat) {a : Nat} {fs : List Value} {v : Value} (he : ws[q0]? = some (a, .inr (4, fs))) (hv : fs[2]? = some v) (hdg : decode cc pc = .ok (.getfield 7, 3)) (k : G p l e R s m args below meth c D H0 A nL Q ws (pc + 3) lv (v :: st)) : G p l e R s m args below meth c D H0 A nL Q ws pc lv (.ref a :: st) :=
  fun H locs ls hP hS hl => va_get (D := D) (C := RX7) (T := TX7) (N := 37) C.1 C.2.1 C.2.2.1 iX7 C.2.2.2.1 C.2.2.2.2.2.1 hP q0 he rfl 2 (by decide) (C.2.2.1 _ wf_X7_7) (fun _ h => h) hv hdg (k H locs ls hP hS hl)
theorem gf_X7_13 (C : Cx p s m args meth c cc RX7 nL ret D) (q0 : Nat) {a : Nat} {fs : List Value} {v : Value} (he : ws[q0]? = some (a, .inr (4, fs))) (hv : fs[3]? = some v) (hdg : decode cc pc = .ok (.getfield 13, 3)) (k : G p l e R s m args below meth c D H0 A nL Q ws (pc + 3) lv (v :: st)) : G p l e R s m args below meth c D H0 A nL Q ws pc lv (.ref a :: st) :=
  fun H locs ls hP hS hl => va_get (D := D) (C := RX7) (T := TX7) (N := 37) C.1 C.2.1 C.2.2.1 iX7 C.2.2.2.1 C.2.2.2.2.2.1 hP q0 he rfl 3 (by decide) (C.2.2.1 _ wf_X7_13) (fun _ h => h) hv hdg (k H locs ls hP hS hl)
theorem gf_X7_16 (C : Cx p s m args meth c cc RX7 nL ret D) (q0 : Nat) {a : Nat} {fs : List Value} {v : Value} (he : ws[q0]? = some (a, .inr (4, fs))) (hv : fs[4]? = some v) (hdg : decode cc pc = .ok (.getfield 16, 3)) (k : G p l e R s m args below meth c D H0 A nL Q ws (pc + 3) lv (v :: st)) : G p l e R s m args below meth c D H0 A nL Q ws pc lv (.ref a :: st) :=
  fun H locs ls hP hS hl => va_get (D := D) (C := RX7) (T := TX7) (N := 37) C.1 C.2.1 C.2.2.1 iX7 C.2.2.2.1 C.2.2.2.2.2.1 hP q0 he rfl 4 (by decide) (C.2.2.1 _ wf_X7_16) (fun _ h => h) hv hdg (k H locs ls hP hS hl)
theorem gf_X7_19 (C : Cx p s m args meth c cc RX7 nL ret D) (q0 : Nat) {a : Nat} {fs : List Value} {v : Value} (he : ws[q0]? = some (a, .inr (4, fs))) (hv : fs[5]? = some v) (hdg : decode cc pc = .ok (.getfield 19, 3)) (k : G p l e R s m args below meth c D H0 A nL Q ws (pc + 3) lv (v :: st)) : G p l e R s m args below meth c D H0 A nL Q ws pc lv (.ref a :: st) :=
  fun H locs ls hP hS hl => va_get (D := D) (C := RX7) (T := TX7) (N := 37) C.1 C.2.1 C.2.2.1 iX7 C.2.2.2.1 C.2.2.2.2.2.1 hP q0 he rfl 5 (by decide) (C.2.2.1 _ wf_X7_19) (fun _ h => h) hv hdg (k H locs ls hP hS hl)
theorem gf_X7_22 (C : Cx p s m args meth c cc RX7 nL ret D) (q0 : Nat) {a : Nat} {fs : List Value} {v : Value} (he : ws[q0]? = some (a, .inr (4, fs))) (hv : fs[6]? = some v) (hdg : decode cc pc = .ok (.getfield 22, 3)) (k : G p l e R s m args below meth c D H0 A nL Q ws (pc + 3) lv (v :: st)) : G p l e R s m args below meth c D H0 A nL Q ws pc lv (.ref a :: st) :=
  fun H locs ls hP hS hl => va_get (D := D) (C := RX7) (T := TX7) (N := 37) C.1 C.2.1 C.2.2.1 iX7 C.2.2.2.1 C.2.2.2.2.2.1 hP q0 he rfl 6 (by decide) (C.2.2.1 _ wf_X7_22) (fun _ h => h) hv hdg (k H locs ls hP hS hl)
theorem gf_X7_25 (C : Cx p s m args meth c cc RX7 nL ret D) (q0 : Nat) {a : Nat} {fs : List Value} {v : Value} (he : ws[q0]? = some (a, .inr (4, fs))) (hv : fs[7]? = some v) (hdg : decode cc pc = .ok (.getfield 25, 3)) (k : G p l e R s m args below meth c D H0 A nL Q ws (pc + 3) lv (v :: st)) : G p l e R s m args below meth c D H0 A nL Q ws pc lv (.ref a :: st) :=
  fun H locs ls hP hS hl => va_get (D := D) (C := RX7) (T := TX7) (N := 37) C.1 C.2.1 C.2.2.1 iX7 C.2.2.2.1 C.2.2.2.2.2.1 hP q0 he rfl 7 (by decide) (C.2.2.1 _ wf_X7_25) (fun _ h => h) hv hdg (k H locs ls hP hS hl)
theorem gf_X7_28 (C : Cx p s m args meth c cc RX7 nL ret D) (q0 : Nat) {a : Nat} {fs : List Value} {v : Value} (he : ws[q0]? = some (a, .inr (4, fs))) (hv : fs[12]? = some v) (hdg : decode cc pc = .ok (.getfield 28, 3)) (k : G p l e R s m args below meth c D H0 A nL Q ws (pc + 3) lv (v :: st)) : G p l e R s m args below meth c D H0 A nL Q ws pc lv (.ref a :: st) :=
  fun H locs ls hP hS hl => va_get (D := D) (C := RX7) (T := TX7) (N := 37) C.1 C.2.1 C.2.2.1 iX7 C.2.2.2.1 C.2.2.2.2.2.1 hP q0 he rfl 12 (by decide) (C.2.2.1 _ wf_X7_28) (fun _ h => h) hv hdg (k H locs ls hP hS hl)
theorem gf_X7_31 (C : Cx p s m args meth c cc RX7 nL ret D) (q0 : Nat) {a : Nat} {fs : List Value} {v : Value} (he : ws[q0]? = some (a, .inr (4, fs))) (hv : fs[17]? = some v) (hdg : decode cc pc = .ok (.getfield 31, 3)) (k : G p l e R s m args below meth c D H0 A nL Q ws (pc + 3) lv (v :: st)) : G p l e R s m args below meth c D H0 A nL Q ws pc lv (.ref a :: st) :=
  fun H locs ls hP hS hl => va_get (D := D) (C := RX7) (T := TX7) (N := 37) C.1 C.2.1 C.2.2.1 iX7 C.2.2.2.1 C.2.2.2.2.2.1 hP q0 he rfl 17 (by decide) (C.2.2.1 _ wf_X7_31) (fun _ h => h) hv hdg (k H locs ls hP hS hl)
theorem gf_X7_34 (C : Cx p s m args meth c cc RX7 nL ret D) (q0 : Nat) {a : Nat} {fs : List Value} {v : Value} (he : ws[q0]? = some (a, .inr (4, fs))) (hv : fs[18]? = some v) (hdg : decode cc pc = .ok (.getfield 34, 3)) (k : G p l e R s m args below meth c D H0 A nL Q ws (pc + 3) lv (v :: st)) : G p l e R s m args below meth c D H0 A nL Q ws pc lv (.ref a :: st) :=
  fun H locs ls hP hS hl => va_get (D := D) (C := RX7) (T := TX7) (N := 37) C.1 C.2.1 C.2.2.1 iX7 C.2.2.2.1 C.2.2.2.2.2.1 hP q0 he rfl 18 (by decide) (C.2.2.1 _ wf_X7_34) (fun _ h => h) hv hdg (k H locs ls hP hS hl)
theorem gf_X7_37 (C : Cx p s m args meth c cc RX7 nL ret D) (q0 : Nat) {a : Nat} {fs : List Value} {v : Value} (he : ws[q0]? = some (a, .inr (4, fs))) (hv : fs[19]? = some v) (hdg : decode cc pc = .ok (.getfield 37, 3)) (k : G p l e R s m args below meth c D H0 A nL Q ws (pc + 3) lv (v :: st)) : G p l e R s m args below meth c D H0 A nL Q ws pc lv (.ref a :: st) :=
  fun H locs ls hP hS hl => va_get (D := D) (C := RX7) (T := TX7) (N := 37) C.1 C.2.1 C.2.2.1 iX7 C.2.2.2.1 C.2.2.2.2.2.1 hP q0 he rfl 19 (by decide) (C.2.2.1 _ wf_X7_37) (fun _ h => h) hv hdg (k H locs ls hP hS hl)
theorem gf_X7_40 (C : Cx p s m args meth c cc RX7 nL ret D) (q0 : Nat) {a : Nat} {fs : List Value} {v : Value} (he : ws[q0]? = some (a, .inr (4, fs))) (hv : fs[20]? = some v) (hdg : decode cc pc = .ok (.getfield 40, 3)) (k : G p l e R s m args below meth c D H0 A nL Q ws (pc + 3) lv (v :: st)) : G p l e R s m args below meth c D H0 A nL Q ws pc lv (.ref a :: st) :=
  fun H locs ls hP hS hl => va_get (D := D) (C := RX7) (T := TX7) (N := 37) C.1 C.2.1 C.2.2.1 iX7 C.2.2.2.1 C.2.2.2.2.2.1 hP q0 he rfl 20 (by decide) (C.2.2.1 _ wf_X7_40) (fun _ h => h) hv hdg (k H locs ls hP hS hl)
theorem gf_X7_43 (C : Cx p s m args meth c cc RX7 nL ret D) (q0 : Nat) {a : Nat} {fs : List Value} {v : Value} (he : ws[q0]? = some (a, .inr (4, fs))) (hv : fs[22]? = some v) (hdg : decode cc pc = .ok (.getfield 43, 3)) (k : G p l e R s m args below meth c D H0 A nL Q ws (pc + 3) lv (v :: st)) : G p l e R s m args below meth c D H0 A nL Q ws pc lv (.ref a :: st) :=
  fun H locs ls hP hS hl => va_get (D := D) (C := RX7) (T := TX7) (N := 37) C.1 C.2.1 C.2.2.1 iX7 C.2.2.2.1 C.2.2.2.2.2.1 hP q0 he rfl 22 (by decide) (C.2.2.1 _ wf_X7_43) (fun _ h => h) hv hdg (k H locs ls hP hS hl)
theorem gf_X7_46 (C : Cx p s m args meth c cc RX7 nL ret D) (q0 : Nat) {a : Nat} {fs : List Value} {v : Value} (he : ws[q0]? = some (a, .inr (4, fs))) (hv : fs[24]? = some v) (hdg : decode cc pc = .ok (.getfield 46, 3)) (k : G p l e R s m args below meth c D H0 A nL Q ws (pc + 3) lv (v :: st)) : G p l e R s m args below meth c D H0 A nL Q ws pc lv (.ref a :: st) :=
  fun H locs ls hP hS hl => va_get (D := D) (C := RX7) (T := TX7) (N := 37) C.1 C.2.1 C.2.2.1 iX7 C.2.2.2.1 C.2.2.2.2.2.1 hP q0 he rfl 24 (by decide) (C.2.2.1 _ wf_X7_46) (fun _ h => h) hv hdg (k H locs ls hP hS hl)
theorem gf_X7_49 (C : Cx p s m args meth c cc RX7 nL ret D) (q0 : Nat) {a : Nat} {fs : List Value} {v : Value} (he : ws[q0]? = some (a, .inr (4, fs))) (hv : fs[25]? = some v) (hdg : decode cc pc = .ok (.getfield 49, 3)) (k : G p l e R s m args below meth c D H0 A nL Q ws (pc + 3) lv (v :: st)) : G p l e R s m args below meth c D H0 A nL Q ws pc lv (.ref a :: st) :=
  fun H locs ls hP hS hl => va_get (D := D) (C := RX7) (T := TX7) (N := 37) C.1 C.2.1 C.2.2.1 iX7 C.2.2.2.1 C.2.2.2.2.2.1 hP q0 he rfl 25 (by decide) (C.2.2.1 _ wf_X7_49) (fun _ h => h) hv hdg (k H locs ls hP hS hl)
theorem gf_X7_52 (C : Cx p s m args meth c cc RX7 nL ret D) (q0 : Nat) {a : Nat} {fs : List Value} {v : Value} (he : ws[q0]? = some (a, .inr (4, fs))) (hv : fs[26]? = some v) (hdg : decode cc pc = .ok (.getfield 52, 3)) (k : G p l e R s m args below meth c D H0 A nL Q ws (pc + 3) lv (v :: st)) : G p l e R s m args below meth c D H0 A nL Q ws pc lv (.ref a :: st) :=
  fun H locs ls hP hS hl => va_get (D := D) (C := RX7) (T := TX7) (N := 37) C.1 C.2.1 C.2.2.1 iX7 C.2.2.2.1 C.2.2.2.2.2.1 hP q0 he rfl 26 (by decide) (C.2.2.1 _ wf_X7_52) (fun _ h => h) hv hdg (k H locs ls hP hS hl)
theorem gf_X7_55 (C : Cx p s m args meth c cc RX7 nL ret D) (q0 : Nat) {a : Nat} {fs : List Value} {v : Value} (he : ws[q0]? = some (a, .inr (4, fs))) (hv : fs[27]? = some v) (hdg : decode cc pc = .ok (.getfield 55, 3)) (k : G p l e R s m args below meth c D H0 A nL Q ws (pc + 3) lv (v :: st)) : G p l e R s m args below meth c D H0 A nL Q ws pc lv (.ref a :: st) :=
  fun H locs ls hP hS hl => va_get (D := D) (C := RX7) (T := TX7) (N := 37) C.1 C.2.1 C.2.2.1 iX7 C.2.2.2.1 C.2.2.2.2.2.1 hP q0 he rfl 27 (by decide) (C.2.2.1 _ wf_X7_55) (fun _ h => h) hv hdg (k H locs ls hP hS hl)
theorem gf_X7_58 (C : Cx p s m args meth c cc RX7 nL ret D) (q0 : Nat) {a : Nat} {fs : List Value} {v : Value} (he : ws[q0]? = some (a, .inr (4, fs))) (hv : fs[30]? = some v) (hdg : decode cc pc = .ok (.getfield 58, 3)) (k : G p l e R s m args below meth c D H0 A nL Q ws (pc + 3) lv (v :: st)) : G p l e R s m args below meth c D H0 A nL Q ws pc lv (.ref a :: st) :=
  fun H locs ls hP hS hl => va_get (D := D) (C := RX7) (T := TX7) (N := 37) C.1 C.2.1 C.2.2.1 iX7 C.2.2.2.1 C.2.2.2.2.2.1 hP q0 he rfl 30 (by decide) (C.2.2.1 _ wf_X7_58) (fun _ h => h) hv hdg (k H locs ls hP hS hl)
theorem gf_X7_61 (C : Cx p s m args meth c cc RX7 nL ret D) (q0 : Nat) {a : Nat} {fs : List Value} {v : Value} (he : ws[q0]? = some (a, .inr (4, fs))) (hv : fs[31]? = some v) (hdg : decode cc pc = .ok (.getfield 61, 3)) (k : G p l e R s m args below meth c D H0 A nL Q ws (pc + 3) lv (v :: st)) : G p l e R s m args below meth c D H0 A nL Q ws pc lv (.ref a :: st) :=
  fun H locs ls hP hS hl => va_get (D := D) (C := RX7) (T := TX7) (N := 37) C.1 C.2.1 C.2.2.1 iX7 C.2.2.2.1 C.2.2.2.2.2.1 hP q0 he rfl 31 (by decide) (C.2.2.1 _ wf_X7_61) (fun _ h => h) hv hdg (k H locs ls hP hS hl)
theorem gf_X7_64 (C : Cx p s m args meth c cc RX7 nL ret D) (q0 : Nat) {a : Nat} {fs : List Value} {v : Value} (he : ws[q0]? = some (a, .inr (4, fs))) (hv : fs[33]? = some v) (hdg : decode cc pc = .ok (.getfield 64, 3)) (k : G p l e R s m args below meth c D H0 A nL Q ws (pc + 3) lv (v :: st)) : G p l e R s m args below meth c D H0 A nL Q ws pc lv (.ref a :: st) :=
  fun H locs ls hP hS hl => va_get (D := D) (C := RX7) (T := TX7) (N := 37) C.1 C.2.1 C.2.2.1 iX7 C.2.2.2.1 C.2.2.2.2.2.1 hP q0 he rfl 33 (by decide) (C.2.2.1 _ wf_X7_64) (fun _ h => h) hv hdg (k H locs ls hP hS hl)
theorem gf_X7_67 (C : Cx p s m args meth c cc RX7 nL ret D) (q0 : Nat) {a : Nat} {fs : List Value} {v : Value} (he : ws[q0]? = some (a, .inr (4, fs))) (hv : fs[34]? = some v) (hdg : decode cc pc = .ok (.getfield 67, 3)) (k : G p l e R s m args below meth c D H0 A nL Q ws (pc + 3) lv (v :: st)) : G p l e R s m args below meth c D H0 A nL Q ws pc lv (.ref a :: st) :=
  fun H locs ls hP hS hl => va_get (D := D) (C := RX7) (T := TX7) (N := 37) C.1 C.2.1 C.2.2.1 iX7 C.2.2.2.1 C.2.2.2.2.2.1 hP q0 he rfl 34 (by decide) (C.2.2.1 _ wf_X7_67) (fun _ h => h) hv hdg (k H locs ls hP hS hl)
theorem gf_X7_70 (C : Cx p s m args meth c cc RX7 nL ret D) (q0 : Nat) {a : Nat} {fs : List Value} {v : Value} (he : ws[q0]? = some (a, .inr (4, fs))) (hv : fs[35]? = some v) (hdg : decode cc pc = .ok (.getfield 70, 3)) (k : G p l e R s m args below meth c D H0 A nL Q ws (pc + 3) lv (v :: st)) : G p l e R s m args below meth c D H0 A nL Q ws pc lv (.ref a :: st) :=
  fun H locs ls hP hS hl => va_get (D := D) (C := RX7) (T := TX7) (N := 37) C.1 C.2.1 C.2.2.1 iX7 C.2.2.2.1 C.2.2.2.2.2.1 hP q0 he rfl 35 (by decide) (C.2.2.1 _ wf_X7_70) (fun _ h => h) hv hdg (k H locs ls hP hS hl)
theorem gf_X7_74 (C : Cx p s m args meth c cc RX7 nL ret D) (q0 : Nat) {a : Nat} {fs : List Value} {v : Value} (he : ws[q0]? = some (a, .inr (4, fs))) (hv : fs[36]? = some v) (hdg : decode cc pc = .ok (.getfield 74, 3)) (k : G p l e R s m args below meth c D H0 A nL Q ws (pc + 3) lv (v :: st)) : G p l e R s m args below meth c D H0 A nL Q ws pc lv (.ref a :: st) :=
  fun H locs ls hP hS hl => va_get (D := D) (C := RX7) (T := TX7) (N := 37) C.1 C.2.1 C.2.2.1 iX7 C.2.2.2.1 C.2.2.2.2.2.1 hP q0 he rfl 36 (by decide) (C.2.2.1 _ wf_X7_74) (fun _ h => h) hv hdg (k H locs ls hP hS hl)
theorem gf_X7_77 (C : Cx p s m args meth c cc RX7 nL ret D) (q0 : Nat) {a : Nat} {fs : List Value} {v : Value} (he : ws[q0]? = some (a, .inr (4, fs))) (hv : fs[0]? = some v) (hdg : decode cc pc = .ok (.getfield 77, 3)) (k : G p l e R s m args below meth c D H0 A nL Q ws (pc + 3) lv (v :: st)) : G p l e R s m args below meth c D H0 A nL Q ws pc lv (.ref a :: st) :=
  fun H locs ls hP hS hl => va_get (D := D) (C := RX7) (T := TX7) (N := 37) C.1 C.2.1 C.2.2.1 iX7 C.2.2.2.1 C.2.2.2.2.2.1 hP q0 he rfl 0 (by decide) (C.2.2.1 _ wf_X7_77) (fun _ h => h) hv hdg (k H locs ls hP hS hl)
theorem gf_X7_81 (C : Cx p s m args meth c cc RX7 nL ret D) (q0 : Nat) {a : Nat} {fs : List Value} {v : Value} (he : ws[q0]? = some (a, .inr (4, fs))) (hv : fs[10]? = some v) (hdg : decode cc pc = .ok (.getfield 81, 3)) (k : G p l e R s m args below meth c D H0 A nL Q ws (pc + 3) lv (v :: st)) : G p l e R s m args below meth c D H0 A nL Q ws pc lv (.ref a :: st) :=
  fun H locs ls hP hS hl => va_get (D := D) (C := RX7) (T := TX7) (N := 37) C.1 C.2.1 C.2.2.1 iX7 C.2.2.2.1 C.2.2.2.2.2.1 hP q0 he rfl 10 (by decide) (C.2.2.1 _ wf_X7_81) (fun _ h => h) hv hdg (k H locs ls hP hS hl)
theorem gf_X7_84 (C : Cx p s m args meth c cc RX7 nL ret D) (q0 : Nat) {a : Nat} {fs : List Value} {v : Value} (he : ws[q0]? = some (a, .inr (4, fs))) (hv : fs[1]? = some v) (hdg : decode cc pc = .ok (.getfield 84, 3)) (k : G p l e R s m args below meth c D H0 A nL Q ws (pc + 3) lv (v :: st)) : G p l e R s m args below meth c D H0 A nL Q ws pc lv (.ref a :: st) :=
  fun H locs ls hP hS hl => va_get (D := D) (C := RX7) (T := TX7) (N := 37) C.1 C.2.1 C.2.2.1 iX7 C.2.2.2.1 C.2.2.2.2.2.1 hP q0 he rfl 1 (by decide) (C.2.2.1 _ wf_X7_84) (fun _ h => h) hv hdg (k H locs ls hP hS hl)
theorem gf_X7_113 (C : Cx p s m args meth c cc RX7 nL ret D) (q0 : Nat) {a : Nat} {fs : List Value} {v : Value} (he : ws[q0]? = some (a, .inr (4, fs))) (hv : fs[9]? = some v) (hdg : decode cc pc = .ok (.getfield 113, 3)) (k : G p l e R s m args below meth c D H0 A nL Q ws (pc + 3) lv (v :: st)) : G p l e R s m args below meth c D H0 A nL Q ws pc lv (.ref a :: st) :=
  fun H locs ls hP hS hl => va_get (D := D) (C := RX7) (T := TX7) (N := 37) C.1 C.2.1 C.2.2.1 iX7 C.2.2.2.1 C.2.2.2.2.2.1 hP q0 he rfl 9 (by decide) (C.2.2.1 _ wf_X7_113) (fun _ h => h) hv hdg (k H locs ls hP hS hl)
theorem gf_X7_116 (C : Cx p s m args meth c cc RX7 nL ret D) (q0 : Nat) {a : Nat} {fs : List Value} {v : Value} (he : ws[q0]? = some (a, .inr (4, fs))) (hv : fs[8]? = some v) (hdg : decode cc pc = .ok (.getfield 116, 3)) (k : G p l e R s m args below meth c D H0 A nL Q ws (pc + 3) lv (v :: st)) : G p l e R s m args below meth c D H0 A nL Q ws pc lv (.ref a :: st) :=
  fun H locs ls hP hS hl => va_get (D := D) (C := RX7) (T := TX7) (N := 37) C.1 C.2.1 C.2.2.1 iX7 C.2.2.2.1 C.2.2.2.2.2.1 hP q0 he rfl 8 (by decide) (C.2.2.1 _ wf_X7_116) (fun _ h => h) hv hdg (k H locs ls hP hS hl)
theorem gf_X7_131 (C : Cx p s m args meth c cc RX7 nL ret D) (q0 : Nat) {a : Nat} {fs : List Value} {v : Value} (he : ws[q0]? = some (a, .inr (4, fs))) (hv : fs[11]? = some v) (hdg : decode cc pc = .ok (.getfield 131, 3)) (k : G p l e R s m args below meth c D H0 A nL Q ws (pc + 3) lv (v :: st)) : G p l e R s m args below meth c D H0 A nL Q ws pc lv (.ref a :: st) :=
  fun H locs ls hP hS hl => va_get (D := D) (C := RX7) (T := TX7) (N := 37) C.1 C.2.1 C.2.2.1 iX7 C.2.2.2.1 C.2.2.2.2.2.1 hP q0 he rfl 11 (by decide) (C.2.2.1 _ wf_X7_131) (fun _ h => h) hv hdg (k H locs ls hP hS hl)
theorem gf_X7_138 (C : Cx p s m args meth c cc RX7 nL ret D) (q0 : Nat) {a : Nat} {fs : List Value} {v : Value} (he : ws[q0]? = some (a, .inr (4, fs))) (hv : fs[13]? = some v) (hdg : decode cc pc = .ok (.getfield 138, 3)) (k : G p l e R s m args below meth c D H0 A nL Q ws (pc + 3) lv (v :: st)) : G p l e R s m args below meth c D H0 A nL Q ws pc lv (.ref a :: st) :=
  fun H locs ls hP hS hl => va_get (D := D) (C := RX7) (T := TX7) (N := 37) C.1 C.2.1 C.2.2.1 iX7 C.2.2.2.1 C.2.2.2.2.2.1 hP q0 he rfl 13 (by decide) (C.2.2.1 _ wf_X7_138) (fun _ h => h) hv hdg (k H locs ls hP hS hl)
theorem gf_X7_141 (C : Cx p s m args meth c cc RX7 nL ret D) (q0 : Nat) {a : Nat} {fs : List Value} {v : Value} (he : ws[q0]? = some (a, .inr (4, fs))) (hv : fs[14]? = some v) (hdg : decode cc pc = .ok (.getfield 141, 3)) (k : G p l e R s m args below meth c D H0 A nL Q ws (pc + 3) lv (v :: st)) : G p l e R s m args below meth c D H0 A nL Q ws pc lv (.ref a :: st) :=
  fun H locs ls hP hS hl => va_get (D := D) (C := RX7) (T := TX7) (N := 37) C.1 C.2.1 C.2.2.1 iX7 C.2.2.2.1 C.2.2.2.2.2.1 hP q0 he rfl 14 (by decide) (C.2.2.1 _ wf_X7_141) (fun _ h => h) hv hdg (k H locs ls hP hS hl)
theorem gf_X7_148 (C : Cx p s m args meth c cc RX7 nL ret D) (q0 : Nat) {a : Nat} {fs : List Value} {v : Value} (he : ws[q0]? = some (a, .inr (4, fs))) (hv : fs[15]? = some v) (hdg : decode cc pc = .ok (.getfield 148, 3)) (k : G p l e R s m args below meth c D H0 A nL Q ws (pc + 3) lv (v :: st)) : G p l e R s m args below meth c D H0 A nL Q ws pc lv (.ref a :: st) :=
  fun H locs ls hP hS hl => va_get (D := D) (C := RX7) (T := TX7) (N := 37) C.1 C.2.1 C.2.2.1 iX7 C.2.2.2.1 C.2.2.2.2.2.1 hP q0 he rfl 15 (by decide) (C.2.2.1 _ wf_X7_148) (fun _ h => h) hv hdg (k H locs ls hP hS hl)
theorem gf_X7_156 (C : Cx p s m args meth c cc RX7 nL ret D) (q0 : Nat) {a : Nat} {fs : List Value} {v : Value} (he : ws[q0]? = some (a, .inr (4, fs))) (hv : fs[16]? = some v) (hdg : decode cc pc = .ok (.getfield 156, 3)) (k : G p l e R s m args below meth c D H0 A nL Q ws (pc + 3) lv (v :: st)) : G p l e R s m args below meth c D H0 A nL Q ws pc lv (.ref a :: st) :=
  fun H locs ls hP hS hl => va_get (D := D) (C := RX7) (T := TX7) (N := 37) C.1 C.2.1 C.2.2.1 iX7 C.2.2.2.1 C.2.2.2.2.2.1 hP q0 he rfl 16 (by decide) (C.2.2.1 _ wf_X7_156) (fun _ h => h) hv hdg (k H locs ls hP hS hl)
theorem gf_X7_173 (C : Cx p s m args meth c cc RX7 nL ret D) (q0 : Nat) {a : Nat} {fs : List Value} {v : Value} (he : ws[q0]? = some (a, .inr (4, fs))) (hv : fs[21]? = some v) (hdg : decode cc pc = .ok (.getfield 173, 3)) (k : G p l e R s m args below meth c D H0 A nL Q ws (pc + 3) lv (v :: st)) : G p l e R s m args below meth c D H0 A nL Q ws pc lv (.ref a :: st) :=
  fun H locs ls hP hS hl => va_get (D := D) (C := RX7) (T := TX7) (N := 37) C.1 C.2.1 C.2.2.1 iX7 C.2.2.2.1 C.2.2.2.2.2.1 hP q0 he rfl 21 (by decide) (C.2.2.1 _ wf_X7_173) (fun _ h => h) hv hdg (k H locs ls hP hS hl)
theorem gf_X7_184 (C : Cx p s m args meth c cc RX7 nL ret D) (q0 : Nat) {a : Nat} {fs : List Value} {v : Value} (he : ws[q0]? = some (a, .inr (4, fs))) (hv : fs[23]? = some v) (hdg : decode cc pc = .ok (.getfield 184, 3)) (k : G p l e R s m args below meth c D H0 A nL Q ws (pc + 3) lv (v :: st)) : G p l e R s m args below meth c D H0 A nL Q ws pc lv (.ref a :: st) :=
  fun H locs ls hP hS hl => va_get (D := D) (C := RX7) (T := TX7) (N := 37) C.1 C.2.1 C.2.2.1 iX7 C.2.2.2.1 C.2.2.2.2.2.1 hP q0 he rfl 23 (by decide) (C.2.2.1 _ wf_X7_184) (fun _ h => h) hv hdg (k H locs ls hP hS hl)
theorem gf_X7_207 (C : Cx p s m args meth c cc RX7 nL ret D) (q0 : Nat) {a : Nat} {fs : List Value} {v : Value} (he : ws[q0]? = some (a, .inr (4, fs))) (hv : fs[28]? = some v) (hdg : decode cc pc = .ok (.getfield 207, 3)) (k : G p l e R s m args below meth c D H0 A nL Q ws (pc + 3) lv (v :: st)) : G p l e R s m args below meth c D H0 A nL Q ws pc lv (.ref a :: st) :=
  fun H locs ls hP hS hl => va_get (D := D) (C := RX7) (T := TX7) (N := 37) C.1 C.2.1 C.2.2.1 iX7 C.2.2.2.1 C.2.2.2.2.2.1 hP q0 he rfl 28 (by decide) (C.2.2.1 _ wf_X7_207) (fun _ h => h) hv hdg (k H locs ls hP hS hl)
theorem gf_X7_211 (C : Cx p s m args meth c cc RX7 nL ret D) (q0 : Nat) {a : Nat} {fs : List Value} {v : Value} (he : ws[q0]? = some (a, .inr (4, fs))) (hv : fs[29]? = some v) (hdg : decode cc pc = .ok (.getfield 211, 3)) (k : G p l e R s m args below meth c D H0 A nL Q ws (pc + 3) lv (v :: st)) : G p l e R s m args below meth c D H0 A nL Q ws pc lv (.ref a :: st) :=
  fun H locs ls hP hS hl => va_get (D := D) (C := RX7) (T := TX7) (N := 37) C.1 C.2.1 C.2.2.1 iX7 C.2.2.2.1 C.2.2.2.2.2.1 hP q0 he rfl 29 (by decide) (C.2.2.1 _ wf_X7_211) (fun _ h => h) hv hdg (k H locs ls hP hS hl)
theorem gf_X7_221 (C : Cx p s m args meth c cc RX7 nL ret D) (q0 : Nat) {a : Nat} {fs : List Value} {v : Value} (he : ws[q0]? = some (a, .inr (4, fs))) (hv : fs[32]? = some v) (hdg : decode cc pc = .ok (.getfield 221, 3)) (k : G p l e R s m args below meth c D H0 A nL Q ws (pc + 3) lv (v :: st)) : G p l e R s m args below meth c D H0 A nL Q ws pc lv (.ref a :: st) :=
  fun H locs ls hP hS hl => va_get (D := D) (C := RX7) (T := TX7) (N := 37) C.1 C.2.1 C.2.2.1 iX7 C.2.2.2.1 C.2.2.2.2.2.1 hP q0 he rfl 32 (by decide) (C.2.2.1 _ wf_X7_221) (fun _ h => h) hv hdg (k H locs ls hP hS hl)
theorem pf_X3_15 (C : Cx p s m args meth c cc RX3 nL ret D) {w0 ws2 : va_W} {B : Nat → Prop} (h0 : va_D B w0) (hA : Ad w0 = A) (q0 : Nat) {a : Nat} {fs : List Value} {x : Int32} (he : ws[q0]? = some (a, .inr (1, fs))) (hl0 : 1 < fs.length) (hdg : decode cc pc = .ok (.putfield 15, 3)) (hw : ws.map (·.1) = w0.map (·.1)) (h2 : ws.set q0 (a, .inr (1, fs.set 1 (.int x))) = ws2) (k : G p l e R s m args below meth c D H0 A nL Q ws2 (pc + 3) lv st) : G p l e R s m args below meth c D H0 A nL Q ws pc lv (.int x :: .ref a :: st) := by
  intro H locs ls hP hS hl
  subst hA
  refine va_put (D := D) (ci := 1) (v := .int x) (ty := .int) (C := RX3) (T := TX3) (N := 4) C.1 C.2.1 C.2.2.1 iX3 tyX3 tyX3_ok nmX3 C.2.2.2.1 C.2.2.2.2.2.1 hP (dis_of h0 hw) hS q0 he rfl 1 (by decide) (C.2.2.1 _ wf_X3_15) (fun _ h => h) rfl (by decide +kernel) rfl rfl hl0 hdg (fun H1 l1 hP1 _ hS1 => ?_)
  rw [h2] at hP1
  exact k H1 l1 ls hP1 hS1 hl
theorem pf_X3_19 (C : Cx p s m args meth c cc RX3 nL ret D) {w0 ws2 : va_W} {B : Nat → Prop} (h0 : va_D B w0) (hA : Ad w0 = A) (q0 : Nat) {a : Nat} {fs : List Value} {x : Int32} (he : ws[q0]? = some (a, .inr (1, fs))) (hl0 : 2 < fs.length) (hdg : decode cc pc = .ok (.putfield 19, 3)) (hw : ws.map (·.1) = w0.map (·.1)) (h2 : ws.set q0 (a, .inr (1, fs.set 2 (.int x))) = ws2) (k : G p l e R s m args below meth c D H0 A nL Q ws2 (pc + 3) lv st) : G p l e R s m args below meth c D H0 A nL Q ws pc lv (.int x :: .ref a :: st) := by
  intro H locs ls hP hS hl
  subst hA
  refine va_put (D := D) (ci := 1) (v := .int x) (ty := .int) (C := RX3) (T := TX3) (N := 4) C.1 C.2.1 C.2.2.1 iX3 tyX3 tyX3_ok nmX3 C.2.2.2.1 C.2.2.2.2.2.1 hP (dis_of h0 hw) hS q0 he rfl 2 (by decide) (C.2.2.1 _ wf_X3_19) (fun _ h => h) rfl (by decide +kernel) rfl rfl hl0 hdg (fun H1 l1 hP1 _ hS1 => ?_)
  rw [h2] at hP1
  exact k H1 l1 ls hP1 hS1 hl
theorem pf_X3_22 (C : Cx p s m args meth c cc RX3 nL ret D) {w0 ws2 : va_W} {B : Nat → Prop} (h0 : va_D B w0) (hA : Ad w0 = A) (q0 : Nat) {a : Nat} {fs : List Value} {x : Int32} (he : ws[q0]? = some (a, .inr (1, fs))) (hl0 : 3 < fs.length) (hdg : decode cc pc = .ok (.putfield 22, 3)) (hw : ws.map (·.1) = w0.map (·.1)) (h2 : ws.set q0 (a, .inr (1, fs.set 3 (.int x))) = ws2) (k : G p l e R s m args below meth c D H0 A nL Q ws2 (pc + 3) lv st) : G p l e R s m args below meth c D H0 A nL Q ws pc lv (.int x :: .ref a :: st) := by
  intro H locs ls hP hS hl
  subst hA
  refine va_put (D := D) (ci := 1) (v := .int x) (ty := .int) (C := RX3) (T := TX3) (N := 4) C.1 C.2.1 C.2.2.1 iX3 tyX3 tyX3_ok nmX3 C.2.2.2.1 C.2.2.2.2.2.1 hP (dis_of h0 hw) hS q0 he rfl 3 (by decide) (C.2.2.1 _ wf_X3_22) (fun _ h => h) rfl (by decide +kernel) rfl rfl hl0 hdg (fun H1 l1 hP1 _ hS1 => ?_)
  rw [h2] at hP1
  exact k H1 l1 ls hP1 hS1 hl
theorem pf_X5_9 (C : Cx p s m args meth c cc RX5 nL ret D) {w0 ws2 : va_W} {B : Nat → Prop} (h0 : va_D B w0) (hA : Ad w0 = A) (q0 : Nat) {a : Nat} {fs : List Value} {x : Int32} (he : ws[q0]? = some (a, .inr (0, fs))) (hl0 : 0 < fs.length) (hdg : decode cc pc = .ok (.putfield 9, 3)) (hw : ws.map (·.1) = w0.map (·.1)) (h2 : ws.set q0 (a, .inr (0, fs.set 0 (.int x))) = ws2) (k : G p l e R s m args below meth c D H0 A nL Q ws2 (pc + 3) lv st) : G p l e R s m args below meth c D H0 A nL Q ws pc lv (.int x :: .ref a :: st) := by
  intro H locs ls hP hS hl
  subst hA
  refine va_put (D := D) (ci := 0) (v := .int x) (ty := .int) (C := RX5) (T := TX5) (N := 12) C.1 C.2.1 C.2.2.1 iX5 tyX5 tyX5_ok nmX5 C.2.2.2.1 C.2.2.2.2.2.1 hP (dis_of h0 hw) hS q0 he rfl 0 (by decide) (C.2.2.1 _ wf_X5_9) (fun _ h => h) rfl (by decide +kernel) rfl rfl hl0 hdg (fun H1 l1 hP1 _ hS1 => ?_)
  rw [h2] at hP1
  exact k H1 l1 ls hP1 hS1 hl
theorem pf_X5_15 (C : Cx p s m args meth c cc RX5 nL ret D) {w0 ws2 : va_W} {B : Nat → Prop} (h0 : va_D B w0) (hA : Ad w0 = A) (q0 : Nat) {a : Nat} {fs : List Value} {x : Int32} (he : ws[q0]? = some (a, .inr (0, fs))) (hl0 : 1 < fs.length) (hdg : decode cc pc = .ok (.putfield 15, 3)) (hw : ws.map (·.1) = w0.map (·.1)) (h2 : ws.set q0 (a, .inr (0, fs.set 1 (.int x))) = ws2) (k : G p l e R s m args below meth c D H0 A nL Q ws2 (pc + 3) lv st) : G p l e R s m args below meth c D H0 A nL Q ws pc lv (.int x :: .ref a :: st) := by
  intro H locs ls hP hS hl
  subst hA
  refine va_put (D := D) (ci := 0) (v := .int x) (ty := .int) (C := RX5) (T := TX5) (N := 12) C.1 C.2.1 C.2.2.1 iX5 tyX5 tyX5_ok nmX5 C.2.2.2.1 C.2.2.2.2.2.1 hP (dis_of h0 hw) hS q0 he rfl 1 (by decide) (C.2.2.1 _ wf_X5_15) (fun _ h => h) rfl (by decide +kernel) rfl rfl hl0 hdg (fun H1 l1 hP1 _ hS1 => ?_)
  rw [h2] at hP1
  exact k H1 l1 ls hP1 hS1 hl
theorem pf_X5_18 (C : Cx p s m args meth c cc RX5 nL ret D) {w0 ws2 : va_W} {B : Nat → Prop} (h0 : va_D B w0) (hA : Ad w0 = A) (q0 : Nat) {a : Nat} {fs : List Value} {x : Int32} (he : ws[q0]? = some (a, .inr (0, fs))) (hl0 : 2 < fs.length) (hdg : decode cc pc = .ok (.putfield 18, 3)) (hw : ws.map (·.1) = w0.map (·.1)) (h2 : ws.set q0 (a, .inr (0, fs.set 2 (.int x))) = ws2) (k : G p l e R s m args below meth c D H0 A nL Q ws2 (pc + 3) lv st) : G p l e R s m args below meth c D H0 A nL Q ws pc lv (.int x :: .ref a :: st) := by
  intro H locs ls hP hS hl
  subst hA
  refine va_put (D := D) (ci := 0) (v := .int x) (ty := .int) (C := RX5) (T := TX5) (N := 12) C.1 C.2.1 C.2.2.1 iX5 tyX5 tyX5_ok nmX5 C.2.2.2.1 C.2.2.2.2.2.1 hP (dis_of h0 hw) hS q0 he rfl 2 (by decide) (C.2.2.1 _ wf_X5_18) (fun _ h => h) rfl (by decide +kernel) rfl rfl hl0 hdg (fun H1 l1 hP1 _ hS1 => ?_)
  rw [h2] at hP1
  exact k H1 l1 ls hP1 hS1 hl
theorem pf_X5_21 (C : Cx p s m args meth c cc RX5 nL ret D) {w0 ws2 : va_W} {B : Nat → Prop} (h0 : va_D B w0) (hA : Ad w0 = A) (q0 : Nat) {a : Nat} {fs : List Value} {x : Int32} (he : ws[q0]? = some (a, .inr (0, fs))) (hl0 : 3 < fs.length) (hdg : decode cc pc = .ok (.putfield 21, 3)) (hw : ws.map (·.1) = w0.map (·.1)) (h2 : ws.set q0 (a, .inr (0, fs.set 3 (.int x))) = ws2) (k : G p l e R s m args below meth c D H0 A nL Q ws2 (pc + 3) lv st) : G p l e R s m args below meth c D H0 A nL Q ws pc lv (.int x :: .ref a :: st) := by
  intro H locs ls hP hS hl
  subst hA
  refine va_put (D := D) (ci := 0) (v := .int x) (ty := .int) (C := RX5) (T := TX5) (N := 12) C.1 C.2.1 C.2.2.1 iX5 tyX5 tyX5_ok nmX5 C.2.2.2.1 C.2.2.2.2.2.1 hP (dis_of h0 hw) hS q0 he rfl 3 (by decide) (C.2.2.1 _ wf_X5_21) (fun _ h => h) rfl (by decide +kernel) rfl rfl hl0 hdg (fun H1 l1 hP1 _ hS1 => ?_)
  rw [h2] at hP1
  exact k H1 l1 ls hP1 hS1 hl
theorem pf_X5_24 (C : Cx p s m args meth c cc RX5 nL ret D) {w0 ws2 : va_W} {B : Nat → Prop} (h0 : va_D B w0) (hA : Ad w0 = A) (q0 : Nat) {a : Nat} {fs : List Value} {x : Int32} (he : ws[q0]? = some (a, .inr (0, fs))) (hl0 : 4 < fs.length) (hdg : decode cc pc = .ok (.putfield 24, 3)) (hw : ws.map (·.1) = w0.map (·.1)) (h2 : ws.set q0 (a, .inr (0, fs.set 4 (.int x))) = ws2) (k : G p l e R s m args below meth c D H0 A nL Q ws2 (pc + 3) lv st) : G p l e R s m args below meth c D H0 A nL Q ws pc lv (.int x :: .ref a :: st) := by
  intro H locs ls hP hS hl
  subst hA
  refine va_put (D := D) (ci := 0) (v := .int x) (ty := .int) (C := RX5) (T := TX5) (N := 12) C.1 C.2.1 C.2.2.1 iX5 tyX5 tyX5_ok nmX5 C.2.2.2.1 C.2.2.2.2.2.1 hP (dis_of h0 hw) hS q0 he rfl 4 (by decide) (C.2.2.1 _ wf_X5_24) (fun _ h => h) rfl (by decide +kernel) rfl rfl hl0 hdg (fun H1 l1 hP1 _ hS1 => ?_)
  rw [h2] at hP1
  exact k H1 l1 ls hP1 hS1 hl
theorem pf_X5_27 (C : Cx p s m args meth c cc RX5 nL ret D) {w0 ws2 : va_W} {B : Nat → Prop} (h0 : va_D B w0) (hA : Ad w0 = A) (q0 : Nat) {a : Nat} {fs : List Value} {x : Int32} (he : ws[q0]? = some (a, .inr (0, fs))) (hl0 : 5 < fs.length) (hdg : decode cc pc = .ok (.putfield 27, 3)) (hw : ws.map (·.1) = w0.map (·.1)) (h2 : ws.set q0 (a, .inr (0, fs.set 5 (.int x))) = ws2) (k : G p l e R s m args below meth c D H0 A nL Q ws2 (pc + 3) lv st) : G p l e R s m args below meth c D H0 A nL Q ws pc lv (.int x :: .ref a :: st) := by
  intro H locs ls hP hS hl
  subst hA
  refine va_put (D := D) (ci := 0) (v := .int x) (ty := .int) (C := RX5) (T := TX5) (N := 12) C.1 C.2.1 C.2.2.1 iX5 tyX5 tyX5_ok nmX5 C.2.2.2.1 C.2.2.2.2.2.1 hP (dis_of h0 hw) hS q0 he rfl 5 (by decide) (C.2.2.1 _ wf_X5_27) (fun _ h => h) rfl (by decide +kernel) rfl rfl hl0 hdg (fun H1 l1 hP1 _ hS1 => ?_)
  rw [h2] at hP1
  exact k H1 l1 ls hP1 hS1 hl
theorem pf_X6_46 (C : Cx p s m args meth c cc RX6 nL ret D) {w0 ws2 : va_W} {B : Nat → Prop} (h0 : va_D B w0) (hA : Ad w0 = A) (q0 : Nat) {a : Nat} {fs : List Value} {x : Int32} (he : ws[q0]? = some (a, .inr (3, fs))) (hl0 : 8 < fs.length) (hz : narrow .boolean (.int x) = .int x) (hf : fits .boolean (.int x) = true) (hdg : decode cc pc = .ok (.putfield 46, 3)) (hw : ws.map (·.1) = w0.map (·.1)) (h2 : ws.set q0 (a, .inr (3, fs.set 8 (.int x))) = ws2) (k : G p l e R s m args below meth c D H0 A nL Q ws2 (pc + 3) lv st) : G p l e R s m args below meth c D H0 A nL Q ws pc lv (.int x :: .ref a :: st) := by
  intro H locs ls hP hS hl
  subst hA
  refine va_put (D := D) (ci := 3) (v := .int x) (ty := .boolean) (C := RX6) (T := TX6) (N := 9) C.1 C.2.1 C.2.2.1 iX6 tyX6 tyX6_ok nmX6 C.2.2.2.1 C.2.2.2.2.2.1 hP (dis_of h0 hw) hS q0 he rfl 8 (by decide) (C.2.2.1 _ wf_X6_46) (fun _ h => h) rfl (by decide +kernel) hz hf hl0 hdg (fun H1 l1 hP1 _ hS1 => ?_)
  rw [h2] at hP1
  exact k H1 l1 ls hP1 hS1 hl
theorem pf_X6_50 (C : Cx p s m args meth c cc RX6 nL ret D) {w0 ws2 : va_W} {B : Nat → Prop} (h0 : va_D B w0) (hA : Ad w0 = A) (q0 : Nat) {a : Nat} {fs : List Value} {x : Int32} (he : ws[q0]? = some (a, .inr (0, fs))) (hl0 : 0 < fs.length) (hdg : decode cc pc = .ok (.putfield 50, 3)) (hw : ws.map (·.1) = w0.map (·.1)) (h2 : ws.set q0 (a, .inr (0, fs.set 0 (.int x))) = ws2) (k : G p l e R s m args below meth c D H0 A nL Q ws2 (pc + 3) lv st) : G p l e R s m args below meth c D H0 A nL Q ws pc lv (.int x :: .ref a :: st) := by
  intro H locs ls hP hS hl
  subst hA
  refine va_putN (D := D) (ci := 0) (v := .int x) (ty := .int) (C := RX5) (T := TX5) (N := 12) C.1 C.2.1 C.2.2.1 iX5 tyX5 tyX5_ok nmX5 C.2.2.2.1 C.2.2.2.2.2.1 hP (dis_of h0 hw) hS q0 he rfl 0 (by decide) (C.2.2.1 _ wf_X6_50) (fun _ h => h) rfl (by decide +kernel) rfl rfl hl0 hdg (fun H1 l1 hP1 _ hS1 => ?_)
  rw [h2] at hP1
  exact k H1 l1 ls hP1 hS1 hl
theorem pf_X6_91 (C : Cx p s m args meth c cc RX6 nL ret D) {w0 ws2 : va_W} {B : Nat → Prop} (h0 : va_D B w0) (hA : Ad w0 = A) (q0 : Nat) {a : Nat} {fs : List Value} {x : Int32} (he : ws[q0]? = some (a, .inr (0, fs))) (hl0 : 5 < fs.length) (hdg : decode cc pc = .ok (.putfield 91, 3)) (hw : ws.map (·.1) = w0.map (·.1)) (h2 : ws.set q0 (a, .inr (0, fs.set 5 (.int x))) = ws2) (k : G p l e R s m args below meth c D H0 A nL Q ws2 (pc + 3) lv st) : G p l e R s m args below meth c D H0 A nL Q ws pc lv (.int x :: .ref a :: st) := by
  intro H locs ls hP hS hl
  subst hA
  refine va_putN (D := D) (ci := 0) (v := .int x) (ty := .int) (C := RX5) (T := TX5) (N := 12) C.1 C.2.1 C.2.2.1 iX5 tyX5 tyX5_ok nmX5 C.2.2.2.1 C.2.2.2.2.2.1 hP (dis_of h0 hw) hS q0 he rfl 5 (by decide) (C.2.2.1 _ wf_X6_91) (fun _ h => h) rfl (by decide +kernel) rfl rfl hl0 hdg (fun H1 l1 hP1 _ hS1 => ?_)
  rw [h2] at hP1
  exact k H1 l1 ls hP1 hS1 hl
theorem pf_X6_118 (C : Cx p s m args meth c cc RX6 nL ret D) {w0 ws2 : va_W} {B : Nat → Prop} (h0 : va_D B w0) (hA : Ad w0 = A) (q0 : Nat) {a : Nat} {fs : List Value} {x : Int32} (he : ws[q0]? = some (a, .inr (0, fs))) (hl0 : 4 < fs.length) (hdg : decode cc pc = .ok (.putfield 118, 3)) (hw : ws.map (·.1) = w0.map (·.1)) (h2 : ws.set q0 (a, .inr (0, fs.set 4 (.int x))) = ws2) (k : G p l e R s m args below meth c D H0 A nL Q ws2 (pc + 3) lv st) : G p l e R s m args below meth c D H0 A nL Q ws pc lv (.int x :: .ref a :: st) := by
  intro H locs ls hP hS hl
  subst hA
  refine va_putN (D := D) (ci := 0) (v := .int x) (ty := .int) (C := RX5) (T := TX5) (N := 12) C.1 C.2.1 C.2.2.1 iX5 tyX5 tyX5_ok nmX5 C.2.2.2.1 C.2.2.2.2.2.1 hP (dis_of h0 hw) hS q0 he rfl 4 (by decide) (C.2.2.1 _ wf_X6_118) (fun _ h => h) rfl (by decide +kernel) rfl rfl hl0 hdg (fun H1 l1 hP1 _ hS1 => ?_)
  rw [h2] at hP1
  exact k H1 l1 ls hP1 hS1 hl
theorem pf_X6_124 (C : Cx p s m args meth c cc RX6 nL ret D) {w0 ws2 : va_W} {B : Nat → Prop} (h0 : va_D B w0) (hA : Ad w0 = A) (q0 : Nat) {a : Nat} {fs : List Value} {x : Int32} (he : ws[q0]? = some (a, .inr (1, fs))) (hl0 : 1 < fs.length) (hdg : decode cc pc = .ok (.putfield 124, 3)) (hw : ws.map (·.1) = w0.map (·.1)) (h2 : ws.set q0 (a, .inr (1, fs.set 1 (.int x))) = ws2) (k : G p l e R s m args below meth c D H0 A nL Q ws2 (pc + 3) lv st) : G p l e R s m args below meth c D H0 A nL Q ws pc lv (.int x :: .ref a :: st) := by
  intro H locs ls hP hS hl
  subst hA
  refine va_putN (D := D) (ci := 1) (v := .int x) (ty := .int) (C := RX3) (T := TX3) (N := 4) C.1 C.2.1 C.2.2.1 iX3 tyX3 tyX3_ok nmX3 C.2.2.2.1 C.2.2.2.2.2.1 hP (dis_of h0 hw) hS q0 he rfl 1 (by decide) (C.2.2.1 _ wf_X6_124) (fun _ h => h) rfl (by decide +kernel) rfl rfl hl0 hdg (fun H1 l1 hP1 _ hS1 => ?_)
  rw [h2] at hP1
  exact k H1 l1 ls hP1 hS1 hl
theorem pf_X6_134 (C : Cx p s m args meth c cc RX6 nL ret D) {w0 ws2 : va_W} {B : Nat → Prop} (h0 : va_D B w0) (hA : Ad w0 = A) (q0 : Nat) {a : Nat} {fs : List Value} {x : Int32} (he : ws[q0]? = some (a, .inr (0, fs))) (hl0 : 3 < fs.length) (hdg : decode cc pc = .ok (.putfield 134, 3)) (hw : ws.map (·.1) = w0.map (·.1)) (h2 : ws.set q0 (a, .inr (0, fs.set 3 (.int x))) = ws2) (k : G p l e R s m args below meth c D H0 A nL Q ws2 (pc + 3) lv st) : G p l e R s m args below meth c D H0 A nL Q ws pc lv (.int x :: .ref a :: st) := by
  intro H locs ls hP hS hl
  subst hA
  refine va_putN (D := D) (ci := 0) (v := .int x) (ty := .int) (C := RX5) (T := TX5) (N := 12) C.1 C.2.1 C.2.2.1 iX5 tyX5 tyX5_ok nmX5 C.2.2.2.1 C.2.2.2.2.2.1 hP (dis_of h0 hw) hS q0 he rfl 3 (by decide) (C.2.2.1 _ wf_X6_134) (fun _ h => h) rfl (by decide +kernel) rfl rfl hl0 hdg (fun H1 l1 hP1 _ hS1 => ?_)
  rw [h2] at hP1
  exact k H1 l1 ls hP1 hS1 hl
theorem pf_X6_141 (C : Cx p s m args meth c cc RX6 nL ret D) {w0 ws2 : va_W} {B : Nat → Prop} (h0 : va_D B w0) (hA : Ad w0 = A) (q0 : Nat) {a : Nat} {fs : List Value} {x : Int32} (he : ws[q0]? = some (a, .inr (0, fs))) (hl0 : 2 < fs.length) (hdg : decode cc pc = .ok (.putfield 141, 3)) (hw : ws.map (·.1) = w0.map (·.1)) (h2 : ws.set q0 (a, .inr (0, fs.set 2 (.int x))) = ws2) (k : G p l e R s m args below meth c D H0 A nL Q ws2 (pc + 3) lv st) : G p l e R s m args below meth c D H0 A nL Q ws pc lv (.int x :: .ref a :: st) := by
  intro H locs ls hP hS hl
  subst hA
  refine va_putN (D := D) (ci := 0) (v := .int x) (ty := .int) (C := RX5) (T := TX5) (N := 12) C.1 C.2.1 C.2.2.1 iX5 tyX5 tyX5_ok nmX5 C.2.2.2.1 C.2.2.2.2.2.1 hP (dis_of h0 hw) hS q0 he rfl 2 (by decide) (C.2.2.1 _ wf_X6_141) (fun _ h => h) rfl (by decide +kernel) rfl rfl hl0 hdg (fun H1 l1 hP1 _ hS1 => ?_)
  rw [h2] at hP1
  exact k H1 l1 ls hP1 hS1 hl
theorem pf_X7_77 (C : Cx p s m args meth c cc RX7 nL ret D) {w0 ws2 : va_W} {B : Nat → Prop} (h0 : va_D B w0) (hA : Ad w0 = A) (q0 : Nat) {a : Nat} {fs : List Value} {x : Int32} (he : ws[q0]? = some (a, .inr (4, fs))) (hl0 : 0 < fs.length) (hdg : decode cc pc = .ok (.putfield 77, 3)) (hw : ws.map (·.1) = w0.map (·.1)) (h2 : ws.set q0 (a, .inr (4, fs.set 0 (.int x))) = ws2) (k : G p l e R s m args below meth c D H0 A nL Q ws2 (pc + 3) lv st) : G p l e R s m args below meth c D H0 A nL Q ws pc lv (.int x :: .ref a :: st) := by
  intro H locs ls hP hS hl
  subst hA
  refine va_put (D := D) (ci := 4) (v := .int x) (ty := .int) (C := RX7) (T := TX7) (N := 37) C.1 C.2.1 C.2.2.1 iX7 tyX7 tyX7_ok nmX7 C.2.2.2.1 C.2.2.2.2.2.1 hP (dis_of h0 hw) hS q0 he rfl 0 (by decide) (C.2.2.1 _ wf_X7_77) (fun _ h => h) rfl (by decide +kernel) rfl rfl hl0 hdg (fun H1 l1 hP1 _ hS1 => ?_)
  rw [h2] at hP1
  exact k H1 l1 ls hP1 hS1 hl
theorem pf_X7_81 (C : Cx p s m args meth c cc RX7 nL ret D) {w0 ws2 : va_W} {B : Nat → Prop} (h0 : va_D B w0) (hA : Ad w0 = A) (q0 : Nat) {a : Nat} {fs : List Value} {x : Int32} (he : ws[q0]? = some (a, .inr (4, fs))) (hl0 : 10 < fs.length) (hdg : decode cc pc = .ok (.putfield 81, 3)) (hw : ws.map (·.1) = w0.map (·.1)) (h2 : ws.set q0 (a, .inr (4, fs.set 10 (.int x))) = ws2) (k : G p l e R s m args below meth c D H0 A nL Q ws2 (pc + 3) lv st) : G p l e R s m args below meth c D H0 A nL Q ws pc lv (.int x :: .ref a :: st) := by
  intro H locs ls hP hS hl
  subst hA
  refine va_put (D := D) (ci := 4) (v := .int x) (ty := .int) (C := RX7) (T := TX7) (N := 37) C.1 C.2.1 C.2.2.1 iX7 tyX7 tyX7_ok nmX7 C.2.2.2.1 C.2.2.2.2.2.1 hP (dis_of h0 hw) hS q0 he rfl 10 (by decide) (C.2.2.1 _ wf_X7_81) (fun _ h => h) rfl (by decide +kernel) rfl rfl hl0 hdg (fun H1 l1 hP1 _ hS1 => ?_)
  rw [h2] at hP1
  exact k H1 l1 ls hP1 hS1 hl
theorem pf_X7_84 (C : Cx p s m args meth c cc RX7 nL ret D) {w0 ws2 : va_W} {B : Nat → Prop} (h0 : va_D B w0) (hA : Ad w0 = A) (q0 : Nat) {a : Nat} {fs : List Value} {x : Int32} (he : ws[q0]? = some (a, .inr (4, fs))) (hl0 : 1 < fs.length) (hdg : decode cc pc = .ok (.putfield 84, 3)) (hw : ws.map (·.1) = w0.map (·.1)) (h2 : ws.set q0 (a, .inr (4, fs.set 1 (.int x))) = ws2) (k : G p l e R s m args below meth c D H0 A nL Q ws2 (pc + 3) lv st) : G p l e R s m args below meth c D H0 A nL Q ws pc lv (.int x :: .ref a :: st) := by
  intro H locs ls hP hS hl
  subst hA
  refine va_put (D := D) (ci := 4) (v := .int x) (ty := .int) (C := RX7) (T := TX7) (N := 37) C.1 C.2.1 C.2.2.1 iX7 tyX7 tyX7_ok nmX7 C.2.2.2.1 C.2.2.2.2.2.1 hP (dis_of h0 hw) hS q0 he rfl 1 (by decide) (C.2.2.1 _ wf_X7_84) (fun _ h => h) rfl (by decide +kernel) rfl rfl hl0 hdg (fun H1 l1 hP1 _ hS1 => ?_)
  rw [h2] at hP1
  exact k H1 l1 ls hP1 hS1 hl
theorem pf_X7_113 (C : Cx p s m args meth c cc RX7 nL ret D) {w0 ws2 : va_W} {B : Nat → Prop} (h0 : va_D B w0) (hA : Ad w0 = A) (q0 : Nat) {a : Nat} {fs : List Value} {x : Int32} (he : ws[q0]? = some (a, .inr (4, fs))) (hl0 : 9 < fs.length) (hdg : decode cc pc = .ok (.putfield 113, 3)) (hw : ws.map (·.1) = w0.map (·.1)) (h2 : ws.set q0 (a, .inr (4, fs.set 9 (.int x))) = ws2) (k : G p l e R s m args below meth c D H0 A nL Q ws2 (pc + 3) lv st) : G p l e R s m args below meth c D H0 A nL Q ws pc lv (.int x :: .ref a :: st) := by
  intro H locs ls hP hS hl
  subst hA
  refine va_put (D := D) (ci := 4) (v := .int x) (ty := .int) (C := RX7) (T := TX7) (N := 37) C.1 C.2.1 C.2.2.1 iX7 tyX7 tyX7_ok nmX7 C.2.2.2.1 C.2.2.2.2.2.1 hP (dis_of h0 hw) hS q0 he rfl 9 (by decide) (C.2.2.1 _ wf_X7_113) (fun _ h => h) rfl (by decide +kernel) rfl rfl hl0 hdg (fun H1 l1 hP1 _ hS1 => ?_)
  rw [h2] at hP1
  exact k H1 l1 ls hP1 hS1 hl
theorem pf_X7_116 (C : Cx p s m args meth c cc RX7 nL ret D) {w0 ws2 : va_W} {B : Nat → Prop} (h0 : va_D B w0) (hA : Ad w0 = A) (q0 : Nat) {a : Nat} {fs : List Value} {x : Int32} (he : ws[q0]? = some (a, .inr (4, fs))) (hl0 : 8 < fs.length) (hdg : decode cc pc = .ok (.putfield 116, 3)) (hw : ws.map (·.1) = w0.map (·.1)) (h2 : ws.set q0 (a, .inr (4, fs.set 8 (.int x))) = ws2) (k : G p l e R s m args below meth c D H0 A nL Q ws2 (pc + 3) lv st) : G p l e R s m args below meth c D H0 A nL Q ws pc lv (.int x :: .ref a :: st) := by
  intro H locs ls hP hS hl
  subst hA
  refine va_put (D := D) (ci := 4) (v := .int x) (ty := .int) (C := RX7) (T := TX7) (N := 37) C.1 C.2.1 C.2.2.1 iX7 tyX7 tyX7_ok nmX7 C.2.2.2.1 C.2.2.2.2.2.1 hP (dis_of h0 hw) hS q0 he rfl 8 (by decide) (C.2.2.1 _ wf_X7_116) (fun _ h => h) rfl (by decide +kernel) rfl rfl hl0 hdg (fun H1 l1 hP1 _ hS1 => ?_)
  rw [h2] at hP1
  exact k H1 l1 ls hP1 hS1 hl
theorem pf_X7_131 (C : Cx p s m args meth c cc RX7 nL ret D) {w0 ws2 : va_W} {B : Nat → Prop} (h0 : va_D B w0) (hA : Ad w0 = A) (q0 : Nat) {a : Nat} {fs : List Value} {x : Int32} (he : ws[q0]? = some (a, .inr (4, fs))) (hl0 : 11 < fs.length) (hdg : decode cc pc = .ok (.putfield 131, 3)) (hw : ws.map (·.1) = w0.map (·.1)) (h2 : ws.set q0 (a, .inr (4, fs.set 11 (.int x))) = ws2) (k : G p l e R s m args below meth c D H0 A nL Q ws2 (pc + 3) lv st) : G p l e R s m args below meth c D H0 A nL Q ws pc lv (.int x :: .ref a :: st) := by
  intro H locs ls hP hS hl
  subst hA
  refine va_put (D := D) (ci := 4) (v := .int x) (ty := .int) (C := RX7) (T := TX7) (N := 37) C.1 C.2.1 C.2.2.1 iX7 tyX7 tyX7_ok nmX7 C.2.2.2.1 C.2.2.2.2.2.1 hP (dis_of h0 hw) hS q0 he rfl 11 (by decide) (C.2.2.1 _ wf_X7_131) (fun _ h => h) rfl (by decide +kernel) rfl rfl hl0 hdg (fun H1 l1 hP1 _ hS1 => ?_)
  rw [h2] at hP1
  exact k H1 l1 ls hP1 hS1 hl
theorem pf_X7_138 (C : Cx p s m args meth c cc RX7 nL ret D) {w0 ws2 : va_W} {B : Nat → Prop} (h0 : va_D B w0) (hA : Ad w0 = A) (q0 : Nat) {a : Nat} {fs : List Value} {x : Int32} (he : ws[q0]? = some (a, .inr (4, fs))) (hl0 : 13 < fs.length) (hdg : decode cc pc = .ok (.putfield 138, 3)) (hw : ws.map (·.1) = w0.map (·.1)) (h2 : ws.set q0 (a, .inr (4, fs.set 13 (.int x))) = ws2) (k : G p l e R s m args below meth c D H0 A nL Q ws2 (pc + 3) lv st) : G p l e R s m args below meth c D H0 A nL Q ws pc lv (.int x :: .ref a :: st) := by
  intro H locs ls hP hS hl
  subst hA
  refine va_put (D := D) (ci := 4) (v := .int x) (ty := .int) (C := RX7) (T := TX7) (N := 37) C.1 C.2.1 C.2.2.1 iX7 tyX7 tyX7_ok nmX7 C.2.2.2.1 C.2.2.2.2.2.1 hP (dis_of h0 hw) hS q0 he rfl 13 (by decide) (C.2.2.1 _ wf_X7_138) (fun _ h => h) rfl (by decide +kernel) rfl rfl hl0 hdg (fun H1 l1 hP1 _ hS1 => ?_)
  rw [h2] at hP1
  exact k H1 l1 ls hP1 hS1 hl
theorem pf_X7_141 (C : Cx p s m args meth c cc RX7 nL ret D) {w0 ws2 : va_W} {B : Nat → Prop} (h0 : va_D B w0) (hA : Ad w0 = A) (q0 : Nat) {a : Nat} {fs : List Value} {x : Int32} (he : ws[q0]? = some (a, .inr (4, fs))) (hl0 : 14 < fs.length) (hdg : decode cc pc = .ok (.putfield 141, 3)) (hw : ws.map (·.1) = w0.map (·.1)) (h2 : ws.set q0 (a, .inr (4, fs.set 14 (.int x))) = ws2) (k : G p l e R s m args below meth c D H0 A nL Q ws2 (pc + 3) lv st) : G p l e R s m args below meth c D H0 A nL Q ws pc lv (.int x :: .ref a :: st) := by
  intro H locs ls hP hS hl
  subst hA
  refine va_put (D := D) (ci := 4) (v := .int x) (ty := .int) (C := RX7) (T := TX7) (N := 37) C.1 C.2.1 C.2.2.1 iX7 tyX7 tyX7_ok nmX7 C.2.2.2.1 C.2.2.2.2.2.1 hP (dis_of h0 hw) hS q0 he rfl 14 (by decide) (C.2.2.1 _ wf_X7_141) (fun _ h => h) rfl (by decide +kernel) rfl rfl hl0 hdg (fun H1 l1 hP1 _ hS1 => ?_)
  rw [h2] at hP1
  exact k H1 l1 ls hP1 hS1 hl
theorem pf_X7_148 (C : Cx p s m args meth c cc RX7 nL ret D) {w0 ws2 : va_W} {B : Nat → Prop} (h0 : va_D B w0) (hA : Ad w0 = A) (q0 : Nat) {a : Nat} {fs : List Value} {x : Int32} (he : ws[q0]? = some (a, .inr (4, fs))) (hl0 : 15 < fs.length) (hz : narrow .boolean (.int x) = .int x) (hf : fits .boolean (.int x) = true) (hdg : decode cc pc = .ok (.putfield 148, 3)) (hw : ws.map (·.1) = w0.map (·.1)) (h2 : ws.set q0 (a, .inr (4, fs.set 15 (.int x))) = ws2) (k : G p l e R s m args below meth c D H0 A nL Q ws2 (pc + 3) lv st) : G p l e R s m args below meth c D H0 A nL Q ws pc lv (.int x :: .ref a :: st) := by
  intro H locs ls hP hS hl
  subst hA
  refine va_put (D := D) (ci := 4) (v := .int x) (ty := .boolean) (C := RX7) (T := TX7) (N := 37) C.1 C.2.1 C.2.2.1 iX7 tyX7 tyX7_ok nmX7 C.2.2.2.1 C.2.2.2.2.2.1 hP (dis_of h0 hw) hS q0 he rfl 15 (by decide) (C.2.2.1 _ wf_X7_148) (fun _ h => h) rfl (by decide +kernel) hz hf hl0 hdg (fun H1 l1 hP1 _ hS1 => ?_)
  rw [h2] at hP1
  exact k H1 l1 ls hP1 hS1 hl
theorem pf_X7_156 (C : Cx p s m args meth c cc RX7 nL ret D) {w0 ws2 : va_W} {B : Nat → Prop} (h0 : va_D B w0) (hA : Ad w0 = A) (q0 : Nat) {a : Nat} {fs : List Value} {x : Int32} (he : ws[q0]? = some (a, .inr (4, fs))) (hl0 : 16 < fs.length) (hdg : decode cc pc = .ok (.putfield 156, 3)) (hw : ws.map (·.1) = w0.map (·.1)) (h2 : ws.set q0 (a, .inr (4, fs.set 16 (.int x))) = ws2) (k : G p l e R s m args below meth c D H0 A nL Q ws2 (pc + 3) lv st) : G p l e R s m args below meth c D H0 A nL Q ws pc lv (.int x :: .ref a :: st) := by
  intro H locs ls hP hS hl
  subst hA
  refine va_put (D := D) (ci := 4) (v := .int x) (ty := .int) (C := RX7) (T := TX7) (N := 37) C.1 C.2.1 C.2.2.1 iX7 tyX7 tyX7_ok nmX7 C.2.2.2.1 C.2.2.2.2.2.1 hP (dis_of h0 hw) hS q0 he rfl 16 (by decide) (C.2.2.1 _ wf_X7_156) (fun _ h => h) rfl (by decide +kernel) rfl rfl hl0 hdg (fun H1 l1 hP1 _ hS1 => ?_)
  rw [h2] at hP1
  exact k H1 l1 ls hP1 hS1 hl
theorem pf_X7_173 (C : Cx p s m args meth c cc RX7 nL ret D) {w0 ws2 : va_W} {B : Nat → Prop} (h0 : va_D B w0) (hA : Ad w0 = A) (q0 : Nat) {a : Nat} {fs : List Value} {x : Int32} (he : ws[q0]? = some (a, .inr (4, fs))) (hl0 : 21 < fs.length) (hdg : decode cc pc = .ok (.putfield 173, 3)) (hw : ws.map (·.1) = w0.map (·.1)) (h2 : ws.set q0 (a, .inr (4, fs.set 21 (.int x))) = ws2) (k : G p l e R s m args below meth c D H0 A nL Q ws2 (pc + 3) lv st) : G p l e R s m args below meth c D H0 A nL Q ws pc lv (.int x :: .ref a :: st) := by
  intro H locs ls hP hS hl
  subst hA
  refine va_put (D := D) (ci := 4) (v := .int x) (ty := .int) (C := RX7) (T := TX7) (N := 37) C.1 C.2.1 C.2.2.1 iX7 tyX7 tyX7_ok nmX7 C.2.2.2.1 C.2.2.2.2.2.1 hP (dis_of h0 hw) hS q0 he rfl 21 (by decide) (C.2.2.1 _ wf_X7_173) (fun _ h => h) rfl (by decide +kernel) rfl rfl hl0 hdg (fun H1 l1 hP1 _ hS1 => ?_)
  rw [h2] at hP1
  exact k H1 l1 ls hP1 hS1 hl
theorem pf_X7_184 (C : Cx p s m args meth c cc RX7 nL ret D) {w0 ws2 : va_W} {B : Nat → Prop} (h0 : va_D B w0) (hA : Ad w0 = A) (q0 : Nat) {a : Nat} {fs : List Value} {x : Int32} (he : ws[q0]? = some (a, .inr (4, fs))) (hl0 : 23 < fs.length) (hdg : decode cc pc = .ok (.putfield 184, 3)) (hw : ws.map (·.1) = w0.map (·.1)) (h2 : ws.set q0 (a, .inr (4, fs.set 23 (.int x))) = ws2) (k : G p l e R s m args below meth c D H0 A nL Q ws2 (pc + 3) lv st) : G p l e R s m args below meth c D H0 A nL Q ws pc lv (.int x :: .ref a :: st) := by
  intro H locs ls hP hS hl
  subst hA
  refine va_put (D := D) (ci := 4) (v := .int x) (ty := .int) (C := RX7) (T := TX7) (N := 37) C.1 C.2.1 C.2.2.1 iX7 tyX7 tyX7_ok nmX7 C.2.2.2.1 C.2.2.2.2.2.1 hP (dis_of h0 hw) hS q0 he rfl 23 (by decide) (C.2.2.1 _ wf_X7_184) (fun _ h => h) rfl (by decide +kernel) rfl rfl hl0 hdg (fun H1 l1 hP1 _ hS1 => ?_)
  rw [h2] at hP1
  exact k H1 l1 ls hP1 hS1 hl
theorem pf_X7_207 (C : Cx p s m args meth c cc RX7 nL ret D) {w0 ws2 : va_W} {B : Nat → Prop} (h0 : va_D B w0) (hA : Ad w0 = A) (q0 : Nat) {a : Nat} {fs : List Value} {x : Int64} (he : ws[q0]? = some (a, .inr (4, fs))) (hl0 : 28 < fs.length) (hdg : decode cc pc = .ok (.putfield 207, 3)) (hw : ws.map (·.1) = w0.map (·.1)) (h2 : ws.set q0 (a, .inr (4, fs.set 28 (.long x))) = ws2) (k : G p l e R s m args below meth c D H0 A nL Q ws2 (pc + 3) lv st) : G p l e R s m args below meth c D H0 A nL Q ws pc lv (.long x :: .ref a :: st) := by
  intro H locs ls hP hS hl
  subst hA
  refine va_put (D := D) (ci := 4) (v := .long x) (ty := .long) (C := RX7) (T := TX7) (N := 37) C.1 C.2.1 C.2.2.1 iX7 tyX7 tyX7_ok nmX7 C.2.2.2.1 C.2.2.2.2.2.1 hP (dis_of h0 hw) hS q0 he rfl 28 (by decide) (C.2.2.1 _ wf_X7_207) (fun _ h => h) rfl (by decide +kernel) rfl rfl hl0 hdg (fun H1 l1 hP1 _ hS1 => ?_)
  rw [h2] at hP1
  exact k H1 l1 ls hP1 hS1 hl
theorem pf_X7_211 (C : Cx p s m args meth c cc RX7 nL ret D) {w0 ws2 : va_W} {B : Nat → Prop} (h0 : va_D B w0) (hA : Ad w0 = A) (q0 : Nat) {a : Nat} {fs : List Value} {x : Int64} (he : ws[q0]? = some (a, .inr (4, fs))) (hl0 : 29 < fs.length) (hdg : decode cc pc = .ok (.putfield 211, 3)) (hw : ws.map (·.1) = w0.map (·.1)) (h2 : ws.set q0 (a, .inr (4, fs.set 29 (.long x))) = ws2) (k : G p l e R s m args below meth c D H0 A nL Q ws2 (pc + 3) lv st) : G p l e R s m args below meth c D H0 A nL Q ws pc lv (.long x :: .ref a :: st) := by
  intro H locs ls hP hS hl
  subst hA
  refine va_put (D := D) (ci := 4) (v := .long x) (ty := .long) (C := RX7) (T := TX7) (N := 37) C.1 C.2.1 C.2.2.1 iX7 tyX7 tyX7_ok nmX7 C.2.2.2.1 C.2.2.2.2.2.1 hP (dis_of h0 hw) hS q0 he rfl 29 (by decide) (C.2.2.1 _ wf_X7_211) (fun _ h => h) rfl (by decide +kernel) rfl rfl hl0 hdg (fun H1 l1 hP1 _ hS1 => ?_)
  rw [h2] at hP1
  exact k H1 l1 ls hP1 hS1 hl
theorem pf_X7_221 (C : Cx p s m args meth c cc RX7 nL ret D) {w0 ws2 : va_W} {B : Nat → Prop} (h0 : va_D B w0) (hA : Ad w0 = A) (q0 : Nat) {a : Nat} {fs : List Value} {x : Int32} (he : ws[q0]? = some (a, .inr (4, fs))) (hl0 : 32 < fs.length) (hz : narrow .boolean (.int x) = .int x) (hf : fits .boolean (.int x) = true) (hdg : decode cc pc = .ok (.putfield 221, 3)) (hw : ws.map (·.1) = w0.map (·.1)) (h2 : ws.set q0 (a, .inr (4, fs.set 32 (.int x))) = ws2) (k : G p l e R s m args below meth c D H0 A nL Q ws2 (pc + 3) lv st) : G p l e R s m args below meth c D H0 A nL Q ws pc lv (.int x :: .ref a :: st) := by
  intro H locs ls hP hS hl
  subst hA
  refine va_put (D := D) (ci := 4) (v := .int x) (ty := .boolean) (C := RX7) (T := TX7) (N := 37) C.1 C.2.1 C.2.2.1 iX7 tyX7 tyX7_ok nmX7 C.2.2.2.1 C.2.2.2.2.2.1 hP (dis_of h0 hw) hS q0 he rfl 32 (by decide) (C.2.2.1 _ wf_X7_221) (fun _ h => h) rfl (by decide +kernel) hz hf hl0 hdg (fun H1 l1 hP1 _ hS1 => ?_)
  rw [h2] at hP1
  exact k H1 l1 ls hP1 hS1 hl
end FR
section CR
variable {p : Program} {l : Launch} {e : Env} {R : Room} {s : State} {m : MethodId} {args : Array Value} {below : List Frame} {meth : Method} {c : Code} {D : va_G} {H0 : Heap} {A : Nat → Prop} {nL : Nat} {Q : State → Prop} {ws : va_W} {pc : Nat} {lv : List (Nat × Value)} {st : List Value} {cc : ByteArray} {own : String} {ret : Option FieldType}
def wput : va_W → List Nat → va_W → va_W
  | ws, i :: is, x :: xs => wput (ws.set i x) is xs
  | ws, _, _ => ws
theorem wput_P {cl : List vw_C} {H : Heap} : ∀ (is : List Nat) (ws xs : va_W), is.length = xs.length → (∀ (i : Nat) (q : Nat × va_E), ws[i]? = some q → i ∉ is → va_at D cl q H) → va_P D cl xs H → va_P D cl (wput ws is xs) H
  | [], ws, xs, _, h, _ => by
    unfold wput
    exact fun k q hk => h k q hk List.not_mem_nil
  | i :: is, ws, [], hn, _, _ => by cases hn
  | i :: is, ws, x :: xs, hn, h, hx => by
    unfold wput
    refine wput_P is (ws.set i x) xs (Nat.succ.inj hn) (fun j q hj hm => ?_) (fun k q hk => hx (k + 1) q hk)
    rw [List.getElem?_set] at hj
    by_cases hij : i = j
    · subst hij
      rw [if_pos rfl] at hj
      by_cases hl : i < ws.length
      · rw [if_pos hl] at hj
        have e := Option.some.inj hj
        subst e
        exact hx 0 x rfl
      · rw [if_neg hl] at hj
        cases hj
    · rw [if_neg hij] at hj
      exact h j q hj (fun z => (List.mem_cons.mp z).elim (fun e => hij e.symm) hm)
theorem aft_rd {rest st' : List Value} {rv : Option Value} {ws1 : va_W} (h : ∀ (H : Heap) (locs : List Loc) (ls : Array Slot), va_P D classes ws H → va_S A H0 H locs → lv_has ls nL lv → va_Run p l e R s m args below meth c H locs 0 0 0 0 (F0 m pc ls st) rest (fun st o t => o = .returned rv ∧ va_P D classes ws1 t.heap ∧ va_F (fun _ => False) st t) (fun _ => False)) (hst : rv.toList ++ rest = st') (k : G p l e R s m args below meth c D H0 A nL Q ws (pc + 3) lv st') : G p l e R s m args below meth c D H0 A nL Q ws pc lv st := by
  intro H locs ls hP hS hl T hT X
  obtain ⟨v, st₀, t, T', L, h0, X', hL, e1, e2, ⟨hv, -, hz, hk⟩, stp⟩ := h H locs ls hP hS hl T hT X
  cases hv
  subst hst
  rw [h0] at hz hk
  have hP2 : va_P D classes ws T'.heap := by rw [e1]; exact hP.kept (fun k q hq => hk q.1 ((hP k q hq).lt) (fun z => z))
  obtain ⟨t2, a1, b1⟩ := k T'.heap (locs ++ L) ls hP2 ⟨Nat.le_trans hS.1 (by rw [e1]; exact hz), fun q h1 h2 => by rw [e1, hk q (Nat.lt_of_lt_of_le h1 hS.1) (fun z => z)]; exact hS.2.1 q h1 h2, fun q hq => (List.mem_append.mp hq).elim (hS.2.2 q) (fun h => (hL q h).elim)⟩ hl T' rfl X'
  exact ⟨t2, stp t2 a1, b1⟩
theorem aft_wr {rest st' : List Value} {rv : Option Value} {w0 wsC ws1 ws2 : va_W} {B : Nat → Prop} (h0 : va_D B w0) (hA : Ad w0 = A) (is : List Nat) (h : ∀ (H : Heap) (locs : List Loc) (ls : Array Slot), va_P D classes ws H → va_S A H0 H locs → lv_has ls nL lv → va_Run p l e R s m args below meth c H locs 0 0 0 0 (F0 m pc ls st) rest (fun st o t => o = .returned rv ∧ va_P D classes ws1 t.heap ∧ va_F (Ad wsC) st t) (Ad wsC)) (hw : ws.map (·.1) = w0.map (·.1)) (hC : is.map (fun i => ws[i]?) = wsC.map some) (hlen : is.length = ws1.length) (h2 : wput ws is ws1 = ws2) (hst : rv.toList ++ rest = st') (k : G p l e R s m args below meth c D H0 A nL Q ws2 (pc + 3) lv st') : G p l e R s m args below meth c D H0 A nL Q ws pc lv st := by
  intro H locs ls hP hS hl T hT X
  obtain ⟨v, st₀, t, T', L, hh, X', hL, e1, e2, ⟨hv, hP1, hz, hk⟩, stp⟩ := h H locs ls hP hS hl T hT X
  cases hv
  subst hst; subst hA; subst h2
  rw [hh] at hz hk
  have hD := dis_of h0 hw
  have hAd : ∀ q : Nat, Ad wsC q → ∃ (i : Nat) (e : va_E), i ∈ is ∧ ws[i]? = some (q, e) := by
    intro q hq
    obtain ⟨k2, e2, hk2⟩ := hq
    have h3 : (is.map (fun i => ws[i]?))[k2]? = some (some (q, e2)) := by rw [hC, List.getElem?_map, hk2]; rfl
    rw [List.getElem?_map] at h3
    cases hi : is[k2]? with
    | none => rw [hi] at h3; cases h3
    | some i => rw [hi] at h3; exact ⟨i, e2, List.mem_of_getElem? hi, Option.some.inj h3⟩
  have hsub : ∀ q : Nat, Ad wsC q → Ad w0 q := fun q hq => by
    obtain ⟨i, e, -, hi⟩ := hAd q hq
    exact hD.2 i _ hi
  have hP2 : va_P D classes (wput ws is ws1) T'.heap := by
    refine wput_P is ws ws1 hlen (fun i q hi hm => ?_) (by rw [e1]; exact hP1)
    rw [e1]
    refine (hP i q hi).kept (hk q.1 ((hP i q hi).lt) (fun z => ?_))
    obtain ⟨j, e, hj, hj2⟩ := hAd q.1 z
    exact hm (hD.1 i j q _ hi hj2 rfl ▸ hj)
  obtain ⟨t2, a1, b1⟩ := k T'.heap (locs ++ L) ls hP2 ⟨Nat.le_trans hS.1 (by rw [e1]; exact hz), fun q h1 h2 => by rw [e1, hk q (Nat.lt_of_lt_of_le h1 hS.1) (fun z => h2 (hsub q z))]; exact hS.2.1 q h1 h2, fun q hq => (List.mem_append.mp hq).elim (hS.2.2 q) (fun h => hsub _ (hL q h))⟩ hl T' rfl X'
  exact ⟨t2, stp t2 a1, b1⟩
section RUN
variable {y : MethodName} {b : ByteArray} {nl : Nat} {rt : Option FieldType} {fr lo n idx : Nat} {av As rest : List Value} {wsC ws1 : va_W} {A1 : Nat → Prop} {rv : Option Value}
theorem ct_blind : FrameBlind (va_Pc av (fun U => va_P D classes wsC U.heap ∧ va_K D classes (tysD D) U)) := fun a U g mk q => by
  obtain ⟨q0, qP, qK⟩ := q
  exact ⟨q0, qP, va_K.moved (u := U) (U := U.calling g mk a) (Vm.Alike.refl U.vm) qK⟩
theorem ct_len (h : (parseMethodDescriptor y.desc).map (fun d => d.parameters.length) = some n) : ∀ sig, parseMethodDescriptor y.desc = some sig → n = sig.parameters.length := fun sig hs => by
  rw [hs] at h
  exact (Option.some.inj h).symm
theorem ct_ws (C : Cx p s m args meth c cc own nL ret D) (ok : okM y b nl rt n) : ∀ w ∈ Cond.code y b nl rt :: TBL, ∀ (a' : Array Value) (U : State), s.WarmedH U.vm → w.before a' U = true := fun w hw => (List.mem_cons.mp hw).elim (fun e => e ▸ warm_of C.2.2.1 _ ok.1) (fun h => warm_of C.2.2.1 _ h)
theorem ct_pre (C : Cx p s m args meth c cc own nL ret D) {H : Heap} (hP : va_P D classes wsC H) : ∀ U : State, U.heap = H → s.WarmedH U.vm → va_Pc av (fun U => va_P D classes wsC U.heap ∧ va_K D classes (tysD D) U) av.toArray U := fun U hU hW => ⟨rfl, by rw [hU]; exact hP, va_K.moved hW.alike C.2.2.2.2.2.1⟩
theorem run_S (C : Cx p s m args meth c cc own nL ret D) (hM : ct l y b nl rt fr lo D av wsC ws1 A1 rv) (ok : okM y b nl rt n) (hs : Cond.static y ∈ TBL) (hlk : Cond.methodLink own idx y ∈ TBL) (is : List Nat) (hn : av.length = n) (hR : fr + 1 ≤ R.frames ∧ 8 + (nl + 11) + lo ≤ R.locals) (hsub : is.filterMap (fun i => ws[i]?) = wsC) (hstk : st = av.reverse ++ rest) (hrest : (rest.map fun v => v.category).sum ≤ 8) (hdg : decode cc pc = .ok (.invokestatic idx, 3)) : ∀ (H : Heap) (locs : List Loc) (ls : Array Slot), va_P D classes ws H → va_S A H0 H locs → lv_has ls nL lv → va_Run p l e R s m args below meth c H locs 0 0 0 0 (F0 m pc ls st) rest (fun st o t => o = .returned rv ∧ va_P D classes ws1 t.heap ∧ va_F A1 st t) A1 := by
  intro H locs ls hP hS hl
  exact va_runS (Ts := TBL) ⟨C.1, C.2.1, C.2.2.2.2.1, C.2.2.2.1, C.2.2.1⟩ hM ⟨⟨rfl, rfl, hR.1, hR.2, ct_ws C ok, List.mem_cons_self, C.2.2.1 _ ok.1, C.2.2.1 _ ok.2.1, ok.2.2.1, ct_len ok.2.2.2, C.2.2.1 _ hlk⟩, C.2.2.1 _ hs⟩ ⟨ct_blind, ct_pre C (hP.sub is hsub)⟩ rfl hn hl.1 hstk (lv_room hrest) hdg ⟨Nat.zero_le _, Nat.zero_le _⟩
theorem run_SN {host : String} (C : Cx p s m args meth c cc own nL ret D) (hM : ct l y b nl rt fr lo D av wsC ws1 A1 rv) (ok : okM y b nl rt n) (hs : Cond.static y ∈ TBL) (hlk : Cond.methodLinkNest own idx y host ∈ TBL) (is : List Nat) (hn : av.length = n) (hR : fr + 1 ≤ R.frames ∧ 8 + (nl + 11) + lo ≤ R.locals) (hsub : is.filterMap (fun i => ws[i]?) = wsC) (hstk : st = av.reverse ++ rest) (hrest : (rest.map fun v => v.category).sum ≤ 8) (hdg : decode cc pc = .ok (.invokestatic idx, 3)) : ∀ (H : Heap) (locs : List Loc) (ls : Array Slot), va_P D classes ws H → va_S A H0 H locs → lv_has ls nL lv → va_Run p l e R s m args below meth c H locs 0 0 0 0 (F0 m pc ls st) rest (fun st o t => o = .returned rv ∧ va_P D classes ws1 t.heap ∧ va_F A1 st t) A1 := by
  intro H locs ls hP hS hl
  exact va_runSN (Ts := TBL) ⟨C.1, C.2.1, C.2.2.2.2.1, C.2.2.2.1, C.2.2.1⟩ hM ⟨⟨⟨rfl, rfl, hR.1, hR.2, ct_ws C ok, List.mem_cons_self⟩, C.2.2.1 _ ok.1, C.2.2.1 _ ok.2.1, ok.2.2.1, ct_len ok.2.2.2, C.2.2.1 _ hlk⟩, C.2.2.1 _ hs, trivial⟩ ⟨ct_blind, ct_pre C (hP.sub is hsub)⟩ rfl hn hl.1 hstk (lv_room hrest) hdg ⟨Nat.zero_le _, Nat.zero_le _⟩
theorem run_V {bb ci : Nat} {fs : List Value} {K : String} {T : u_T} {N : Nat} (C : Cx p s m args meth c cc own nL ret D) (hM : ct l y b nl rt fr lo D (.ref bb :: As) wsC ws1 A1 rv) (ok : okM y b nl rt n) (hi : Cond.instanceMethod y ∈ TBL) (hse : Cond.selects K y y ∈ TBL) (hlk : Cond.methodLink own idx y ∈ TBL) (is : List Nat) (q0 : Nat) (he : wsC[q0]? = some (bb, .inr (ci, fs))) (hc : classes[ci]? = some (K, T, N)) (hn : As.length = n) (hR : fr + 1 ≤ R.frames ∧ 8 + (nl + 11) + lo ≤ R.locals) (hsub : is.filterMap (fun i => ws[i]?) = wsC) (hstk : st = As.reverse ++ .ref bb :: rest) (hrest : (rest.map fun v => v.category).sum ≤ 8) (hdg : decode cc pc = .ok (.invokevirtual idx, 3)) : ∀ (H : Heap) (locs : List Loc) (ls : Array Slot), va_P D classes ws H → va_S A H0 H locs → lv_has ls nL lv → va_Run p l e R s m args below meth c H locs 0 0 0 0 (F0 m pc ls st) rest (fun st o t => o = .returned rv ∧ va_P D classes ws1 t.heap ∧ va_F A1 st t) A1 := by
  intro H locs ls hP hS hl
  have hPC := hP.sub is hsub
  exact va_runV (Ts := TBL) (C := K) ⟨C.1, C.2.1, C.2.2.2.2.1, C.2.2.2.1, C.2.2.1⟩ hM ⟨⟨rfl, rfl, hR.1, hR.2, ct_ws C ok, List.mem_cons_self, C.2.2.1 _ ok.1, C.2.2.1 _ ok.2.1, ok.2.2.1, ct_len ok.2.2.2, C.2.2.1 _ hlk⟩, C.2.2.1 _ hi, C.2.2.1 _ hse⟩ ⟨ct_blind, va_recv C.2.2.2.2.2.1 hPC hc he, ct_pre C hPC⟩ rfl hn hl.1 hstk (lv_room hrest) hdg ⟨Nat.zero_le _, Nat.zero_le _⟩
theorem run_VN {host : String} {bb ci : Nat} {fs : List Value} {K : String} {T : u_T} {N : Nat} (C : Cx p s m args meth c cc own nL ret D) (hM : ct l y b nl rt fr lo D (.ref bb :: As) wsC ws1 A1 rv) (ok : okM y b nl rt n) (hi : Cond.instanceMethod y ∈ TBL) (hse : Cond.selects K y y ∈ TBL) (hlk : Cond.methodLinkNest own idx y host ∈ TBL) (is : List Nat) (q0 : Nat) (he : wsC[q0]? = some (bb, .inr (ci, fs))) (hc : classes[ci]? = some (K, T, N)) (hn : As.length = n) (hR : fr + 1 ≤ R.frames ∧ 8 + (nl + 11) + lo ≤ R.locals) (hsub : is.filterMap (fun i => ws[i]?) = wsC) (hstk : st = As.reverse ++ .ref bb :: rest) (hrest : (rest.map fun v => v.category).sum ≤ 8) (hdg : decode cc pc = .ok (.invokevirtual idx, 3)) : ∀ (H : Heap) (locs : List Loc) (ls : Array Slot), va_P D classes ws H → va_S A H0 H locs → lv_has ls nL lv → va_Run p l e R s m args below meth c H locs 0 0 0 0 (F0 m pc ls st) rest (fun st o t => o = .returned rv ∧ va_P D classes ws1 t.heap ∧ va_F A1 st t) A1 := by
  intro H locs ls hP hS hl
  have hPC := hP.sub is hsub
  exact va_runVN (Ts := TBL) (C := K) ⟨C.1, C.2.1, C.2.2.2.2.1, C.2.2.2.1, C.2.2.1⟩ hM ⟨⟨⟨rfl, rfl, hR.1, hR.2, ct_ws C ok, List.mem_cons_self⟩, C.2.2.1 _ ok.1, C.2.2.1 _ ok.2.1, ok.2.2.1, ct_len ok.2.2.2, C.2.2.1 _ hlk⟩, C.2.2.1 _ hi, C.2.2.1 _ hse⟩ ⟨ct_blind, va_recv C.2.2.2.2.2.1 hPC hc he, ct_pre C hPC⟩ rfl hn hl.1 hstk (lv_room hrest) hdg ⟨Nat.zero_le _, Nat.zero_le _⟩
end RUN
end CR
end
