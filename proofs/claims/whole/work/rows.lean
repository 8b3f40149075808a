section
-- ===== PART A: goes FIRST, ahead of the names: the tables' words, and 'selects' of the private methods out of them =====
/-- a private method of a class that the tables say can be made, by its rows of tables_1 -/
def lw_okq (q : MethodName × Nat) : Prop := (q.1.cls ≠ "java/lang/invoke/MethodHandle" ∧ q.1.cls ≠ "java/lang/invoke/VarHandle") ∧ Cond.instantiable q.1.cls q.2 ∈ tables_1 ∧ Cond.privateMethod q.1 ∈ tables_1 ∧ Cond.instanceMethod q.1 ∈ tables_1
theorem lw_p0 : lw_okq (⟨"BackYear$Year", "needable", "(II)I"⟩, 12) := ⟨⟨by decide +kernel, by decide +kernel⟩, List.mem_of_getElem? (i := 21) (by decide +kernel), List.mem_of_getElem? (i := 168) (by decide +kernel), List.mem_of_getElem? (i := 169) (by decide +kernel)⟩
theorem lw_p1 : lw_okq (⟨"BackYear$Year", "add", "(III)Z"⟩, 12) := ⟨⟨by decide +kernel, by decide +kernel⟩, List.mem_of_getElem? (i := 21) (by decide +kernel), List.mem_of_getElem? (i := 175) (by decide +kernel), List.mem_of_getElem? (i := 176) (by decide +kernel)⟩
theorem lw_p2 : lw_okq (⟨"BackYear$Year", "has", "(I)Z"⟩, 12) := ⟨⟨by decide +kernel, by decide +kernel⟩, List.mem_of_getElem? (i := 21) (by decide +kernel), List.mem_of_getElem? (i := 183) (by decide +kernel), List.mem_of_getElem? (i := 184) (by decide +kernel)⟩
theorem lw_p3 : lw_okq (⟨"BackYear$Year", "standing", "(I)I"⟩, 12) := ⟨⟨by decide +kernel, by decide +kernel⟩, List.mem_of_getElem? (i := 21) (by decide +kernel), List.mem_of_getElem? (i := 187) (by decide +kernel), List.mem_of_getElem? (i := 188) (by decide +kernel)⟩
theorem lw_p4 : lw_okq (⟨"BackYear$Year", "wouldStand", "(II)Z"⟩, 12) := ⟨⟨by decide +kernel, by decide +kernel⟩, List.mem_of_getElem? (i := 21) (by decide +kernel), List.mem_of_getElem? (i := 194) (by decide +kernel), List.mem_of_getElem? (i := 195) (by decide +kernel)⟩
theorem lw_p5 : lw_okq (⟨"BackYear$Year", "worthTo", "(II)I"⟩, 12) := ⟨⟨by decide +kernel, by decide +kernel⟩, List.mem_of_getElem? (i := 21) (by decide +kernel), List.mem_of_getElem? (i := 217) (by decide +kernel), List.mem_of_getElem? (i := 218) (by decide +kernel)⟩
theorem lw_p6 : lw_okq (⟨"BackYear$Year", "all", "()I"⟩, 12) := ⟨⟨by decide +kernel, by decide +kernel⟩, List.mem_of_getElem? (i := 21) (by decide +kernel), List.mem_of_getElem? (i := 229) (by decide +kernel), List.mem_of_getElem? (i := 230) (by decide +kernel)⟩
theorem lw_p7 : lw_okq (⟨"BackYear$Tape", "add", "(C)Z"⟩, 4) := ⟨⟨by decide +kernel, by decide +kernel⟩, List.mem_of_getElem? (i := 89) (by decide +kernel), List.mem_of_getElem? (i := 237) (by decide +kernel), List.mem_of_getElem? (i := 238) (by decide +kernel)⟩
theorem lw_p8 : lw_okq (⟨"BackYear$Year", "clear", "()V"⟩, 12) := ⟨⟨by decide +kernel, by decide +kernel⟩, List.mem_of_getElem? (i := 21) (by decide +kernel), List.mem_of_getElem? (i := 245) (by decide +kernel), List.mem_of_getElem? (i := 246) (by decide +kernel)⟩
theorem lw_p9 : lw_okq (⟨"BackYear$Tape", "readInto", "(LBackYear$Year;)I"⟩, 4) := ⟨⟨by decide +kernel, by decide +kernel⟩, List.mem_of_getElem? (i := 89) (by decide +kernel), List.mem_of_getElem? (i := 249) (by decide +kernel), List.mem_of_getElem? (i := 250) (by decide +kernel)⟩
theorem lw_p10 : lw_okq (⟨"BackYear$Tape", "takes", "(CLBackYear$Year;)Z"⟩, 4) := ⟨⟨by decide +kernel, by decide +kernel⟩, List.mem_of_getElem? (i := 89) (by decide +kernel), List.mem_of_getElem? (i := 253) (by decide +kernel), List.mem_of_getElem? (i := 254) (by decide +kernel)⟩
theorem lw_p11 : lw_okq (⟨"BackYear$Tape", "takesKind", "(C)Z"⟩, 4) := ⟨⟨by decide +kernel, by decide +kernel⟩, List.mem_of_getElem? (i := 89) (by decide +kernel), List.mem_of_getElem? (i := 257) (by decide +kernel), List.mem_of_getElem? (i := 258) (by decide +kernel)⟩
theorem lw_p12 : lw_okq (⟨"BackYear$Tape", "takesDay", "(CLBackYear$Year;)Z"⟩, 4) := ⟨⟨by decide +kernel, by decide +kernel⟩, List.mem_of_getElem? (i := 89) (by decide +kernel), List.mem_of_getElem? (i := 261) (by decide +kernel), List.mem_of_getElem? (i := 262) (by decide +kernel)⟩
theorem lw_p13 : lw_okq (⟨"BackYear$Tape", "takesComma", "(LBackYear$Year;)Z"⟩, 4) := ⟨⟨by decide +kernel, by decide +kernel⟩, List.mem_of_getElem? (i := 89) (by decide +kernel), List.mem_of_getElem? (i := 267) (by decide +kernel), List.mem_of_getElem? (i := 268) (by decide +kernel)⟩
theorem lw_p14 : lw_okq (⟨"BackYear$Tape", "takesNeed", "(CLBackYear$Year;)Z"⟩, 4) := ⟨⟨by decide +kernel, by decide +kernel⟩, List.mem_of_getElem? (i := 89) (by decide +kernel), List.mem_of_getElem? (i := 271) (by decide +kernel), List.mem_of_getElem? (i := 272) (by decide +kernel)⟩
theorem lw_p15 : lw_okq (⟨"BackYear$Year", "become", "(LBackYear$Year;)V"⟩, 12) := ⟨⟨by decide +kernel, by decide +kernel⟩, List.mem_of_getElem? (i := 21) (by decide +kernel), List.mem_of_getElem? (i := 278) (by decide +kernel), List.mem_of_getElem? (i := 279) (by decide +kernel)⟩
def lw_privs_1 : List (MethodName × Nat) := [(⟨"BackYear$Year", "needable", "(II)I"⟩, 12), (⟨"BackYear$Year", "add", "(III)Z"⟩, 12), (⟨"BackYear$Year", "has", "(I)Z"⟩, 12), (⟨"BackYear$Year", "standing", "(I)I"⟩, 12), (⟨"BackYear$Year", "wouldStand", "(II)Z"⟩, 12), (⟨"BackYear$Year", "worthTo", "(II)I"⟩, 12), (⟨"BackYear$Year", "all", "()I"⟩, 12), (⟨"BackYear$Tape", "add", "(C)Z"⟩, 4), (⟨"BackYear$Year", "clear", "()V"⟩, 12), (⟨"BackYear$Tape", "readInto", "(LBackYear$Year;)I"⟩, 4), (⟨"BackYear$Tape", "takes", "(CLBackYear$Year;)Z"⟩, 4), (⟨"BackYear$Tape", "takesKind", "(C)Z"⟩, 4), (⟨"BackYear$Tape", "takesDay", "(CLBackYear$Year;)Z"⟩, 4), (⟨"BackYear$Tape", "takesComma", "(LBackYear$Year;)Z"⟩, 4), (⟨"BackYear$Tape", "takesNeed", "(CLBackYear$Year;)Z"⟩, 4), (⟨"BackYear$Year", "become", "(LBackYear$Year;)V"⟩, 12)]
theorem lw_r1 : ∀ q ∈ lw_privs_1, lw_okq q := List.forall_mem_cons.mpr ⟨lw_p0, List.forall_mem_cons.mpr ⟨lw_p1, List.forall_mem_cons.mpr ⟨lw_p2, List.forall_mem_cons.mpr ⟨lw_p3, List.forall_mem_cons.mpr ⟨lw_p4, List.forall_mem_cons.mpr ⟨lw_p5, List.forall_mem_cons.mpr ⟨lw_p6, List.forall_mem_cons.mpr ⟨lw_p7, List.forall_mem_cons.mpr ⟨lw_p8, List.forall_mem_cons.mpr ⟨lw_p9, List.forall_mem_cons.mpr ⟨lw_p10, List.forall_mem_cons.mpr ⟨lw_p11, List.forall_mem_cons.mpr ⟨lw_p12, List.forall_mem_cons.mpr ⟨lw_p13, List.forall_mem_cons.mpr ⟨lw_p14, List.forall_mem_cons.mpr ⟨lw_p15, fun _ h => absurd h List.not_mem_nil⟩⟩⟩⟩⟩⟩⟩⟩⟩⟩⟩⟩⟩⟩⟩⟩
theorem lw_p16 : lw_okq (⟨"BackYear$Year", "ofDay", "(I)I"⟩, 12) := ⟨⟨by decide +kernel, by decide +kernel⟩, List.mem_of_getElem? (i := 21) (by decide +kernel), List.mem_of_getElem? (i := 293) (by decide +kernel), List.mem_of_getElem? (i := 294) (by decide +kernel)⟩
theorem lw_p17 : lw_okq (⟨"BackYear$Year", "beginNext", "()V"⟩, 12) := ⟨⟨by decide +kernel, by decide +kernel⟩, List.mem_of_getElem? (i := 21) (by decide +kernel), List.mem_of_getElem? (i := 306) (by decide +kernel), List.mem_of_getElem? (i := 307) (by decide +kernel)⟩
theorem lw_p18 : lw_okq (⟨"BackYear$Year", "sumBy", "(I)I"⟩, 12) := ⟨⟨by decide +kernel, by decide +kernel⟩, List.mem_of_getElem? (i := 21) (by decide +kernel), List.mem_of_getElem? (i := 321) (by decide +kernel), List.mem_of_getElem? (i := 322) (by decide +kernel)⟩
theorem lw_p19 : lw_okq (⟨"BackYear$Year", "valueOf", "(III)I"⟩, 12) := ⟨⟨by decide +kernel, by decide +kernel⟩, List.mem_of_getElem? (i := 21) (by decide +kernel), List.mem_of_getElem? (i := 325) (by decide +kernel), List.mem_of_getElem? (i := 326) (by decide +kernel)⟩
theorem lw_p20 : lw_okq (⟨"BackYear$Year", "bearer", "(I)I"⟩, 12) := ⟨⟨by decide +kernel, by decide +kernel⟩, List.mem_of_getElem? (i := 21) (by decide +kernel), List.mem_of_getElem? (i := 330) (by decide +kernel), List.mem_of_getElem? (i := 331) (by decide +kernel)⟩
theorem lw_p21 : lw_okq (⟨"BackYear$Year", "isPerson", "(I)Z"⟩, 12) := ⟨⟨by decide +kernel, by decide +kernel⟩, List.mem_of_getElem? (i := 21) (by decide +kernel), List.mem_of_getElem? (i := 334) (by decide +kernel), List.mem_of_getElem? (i := 335) (by decide +kernel)⟩
theorem lw_p22 : lw_okq (⟨"BackYear$Year", "valueBy", "(II)I"⟩, 12) := ⟨⟨by decide +kernel, by decide +kernel⟩, List.mem_of_getElem? (i := 21) (by decide +kernel), List.mem_of_getElem? (i := 338) (by decide +kernel), List.mem_of_getElem? (i := 339) (by decide +kernel)⟩
theorem lw_p23 : lw_okq (⟨"BackYear$Year", "worthToAll", "(I)I"⟩, 12) := ⟨⟨by decide +kernel, by decide +kernel⟩, List.mem_of_getElem? (i := 21) (by decide +kernel), List.mem_of_getElem? (i := 445) (by decide +kernel), List.mem_of_getElem? (i := 446) (by decide +kernel)⟩
theorem lw_p24 : lw_okq (⟨"BackYear$Sheets", "faultOf", "(IIII)I"⟩, 3) := ⟨⟨by decide +kernel, by decide +kernel⟩, List.mem_of_getElem? (i := 110) (by decide +kernel), List.mem_of_getElem? (i := 477) (by decide +kernel), List.mem_of_getElem? (i := 478) (by decide +kernel)⟩
theorem lw_p25 : lw_okq (⟨"BackYear$Sheets", "holds", "(I)Z"⟩, 3) := ⟨⟨by decide +kernel, by decide +kernel⟩, List.mem_of_getElem? (i := 110) (by decide +kernel), List.mem_of_getElem? (i := 487) (by decide +kernel), List.mem_of_getElem? (i := 488) (by decide +kernel)⟩
theorem lw_p26 : lw_okq (⟨"BackYear$Sheets", "reaches", "(III)Z"⟩, 3) := ⟨⟨by decide +kernel, by decide +kernel⟩, List.mem_of_getElem? (i := 110) (by decide +kernel), List.mem_of_getElem? (i := 491) (by decide +kernel), List.mem_of_getElem? (i := 492) (by decide +kernel)⟩
theorem lw_p27 : lw_okq (⟨"BackYear$Sheets", "at", "(II)J"⟩, 3) := ⟨⟨by decide +kernel, by decide +kernel⟩, List.mem_of_getElem? (i := 110) (by decide +kernel), List.mem_of_getElem? (i := 495) (by decide +kernel), List.mem_of_getElem? (i := 496) (by decide +kernel)⟩
theorem lw_p28 : lw_okq (⟨"BackYear", "takeToldYears", "(III)Z"⟩, 9) := ⟨⟨by decide +kernel, by decide +kernel⟩, List.mem_of_getElem? (i := 13) (by decide +kernel), List.mem_of_getElem? (i := 508) (by decide +kernel), List.mem_of_getElem? (i := 509) (by decide +kernel)⟩
theorem lw_p29 : lw_okq (⟨"BackYear$Sheets", "put", "(IIJ)V"⟩, 3) := ⟨⟨by decide +kernel, by decide +kernel⟩, List.mem_of_getElem? (i := 110) (by decide +kernel), List.mem_of_getElem? (i := 520) (by decide +kernel), List.mem_of_getElem? (i := 521) (by decide +kernel)⟩
theorem lw_p30 : lw_okq (⟨"BackYear$Sheets", "begin", "(III)V"⟩, 3) := ⟨⟨by decide +kernel, by decide +kernel⟩, List.mem_of_getElem? (i := 110) (by decide +kernel), List.mem_of_getElem? (i := 533) (by decide +kernel), List.mem_of_getElem? (i := 534) (by decide +kernel)⟩
theorem lw_p31 : lw_okq (⟨"BackYear$Sheets", "move", "(IIIII)V"⟩, 3) := ⟨⟨by decide +kernel, by decide +kernel⟩, List.mem_of_getElem? (i := 110) (by decide +kernel), List.mem_of_getElem? (i := 551) (by decide +kernel), List.mem_of_getElem? (i := 552) (by decide +kernel)⟩
def lw_privs_2 : List (MethodName × Nat) := [(⟨"BackYear$Year", "ofDay", "(I)I"⟩, 12), (⟨"BackYear$Year", "beginNext", "()V"⟩, 12), (⟨"BackYear$Year", "sumBy", "(I)I"⟩, 12), (⟨"BackYear$Year", "valueOf", "(III)I"⟩, 12), (⟨"BackYear$Year", "bearer", "(I)I"⟩, 12), (⟨"BackYear$Year", "isPerson", "(I)Z"⟩, 12), (⟨"BackYear$Year", "valueBy", "(II)I"⟩, 12), (⟨"BackYear$Year", "worthToAll", "(I)I"⟩, 12), (⟨"BackYear$Sheets", "faultOf", "(IIII)I"⟩, 3), (⟨"BackYear$Sheets", "holds", "(I)Z"⟩, 3), (⟨"BackYear$Sheets", "reaches", "(III)Z"⟩, 3), (⟨"BackYear$Sheets", "at", "(II)J"⟩, 3), (⟨"BackYear", "takeToldYears", "(III)Z"⟩, 9), (⟨"BackYear$Sheets", "put", "(IIJ)V"⟩, 3), (⟨"BackYear$Sheets", "begin", "(III)V"⟩, 3), (⟨"BackYear$Sheets", "move", "(IIIII)V"⟩, 3)]
theorem lw_r2 : ∀ q ∈ lw_privs_2, lw_okq q := List.forall_mem_cons.mpr ⟨lw_p16, List.forall_mem_cons.mpr ⟨lw_p17, List.forall_mem_cons.mpr ⟨lw_p18, List.forall_mem_cons.mpr ⟨lw_p19, List.forall_mem_cons.mpr ⟨lw_p20, List.forall_mem_cons.mpr ⟨lw_p21, List.forall_mem_cons.mpr ⟨lw_p22, List.forall_mem_cons.mpr ⟨lw_p23, List.forall_mem_cons.mpr ⟨lw_p24, List.forall_mem_cons.mpr ⟨lw_p25, List.forall_mem_cons.mpr ⟨lw_p26, List.forall_mem_cons.mpr ⟨lw_p27, List.forall_mem_cons.mpr ⟨lw_p28, List.forall_mem_cons.mpr ⟨lw_p29, List.forall_mem_cons.mpr ⟨lw_p30, List.forall_mem_cons.mpr ⟨lw_p31, fun _ h => absurd h List.not_mem_nil⟩⟩⟩⟩⟩⟩⟩⟩⟩⟩⟩⟩⟩⟩⟩⟩
theorem lw_p32 : lw_okq (⟨"BackYearModel", "adds", "(III)V"⟩, 37) := ⟨⟨by decide +kernel, by decide +kernel⟩, List.mem_of_getElem? (i := 556) (by decide +kernel), List.mem_of_getElem? (i := 691) (by decide +kernel), List.mem_of_getElem? (i := 692) (by decide +kernel)⟩
theorem lw_p33 : lw_okq (⟨"BackYearModel", "isDeed", "(J)Z"⟩, 37) := ⟨⟨by decide +kernel, by decide +kernel⟩, List.mem_of_getElem? (i := 556) (by decide +kernel), List.mem_of_getElem? (i := 699) (by decide +kernel), List.mem_of_getElem? (i := 700) (by decide +kernel)⟩
theorem lw_p34 : lw_okq (⟨"BackYearModel", "stands", "(II)I"⟩, 37) := ⟨⟨by decide +kernel, by decide +kernel⟩, List.mem_of_getElem? (i := 556) (by decide +kernel), List.mem_of_getElem? (i := 703) (by decide +kernel), List.mem_of_getElem? (i := 704) (by decide +kernel)⟩
theorem lw_p35 : lw_okq (⟨"BackYearModel", "is", "(III)Z"⟩, 37) := ⟨⟨by decide +kernel, by decide +kernel⟩, List.mem_of_getElem? (i := 556) (by decide +kernel), List.mem_of_getElem? (i := 707) (by decide +kernel), List.mem_of_getElem? (i := 708) (by decide +kernel)⟩
theorem lw_p36 : lw_okq (⟨"BackYearModel", "areDeeds", "(J)Z"⟩, 37) := ⟨⟨by decide +kernel, by decide +kernel⟩, List.mem_of_getElem? (i := 556) (by decide +kernel), List.mem_of_getElem? (i := 730) (by decide +kernel), List.mem_of_getElem? (i := 731) (by decide +kernel)⟩
theorem lw_p37 : lw_okq (⟨"BackYearModel", "readDeed", "()V"⟩, 37) := ⟨⟨by decide +kernel, by decide +kernel⟩, List.mem_of_getElem? (i := 556) (by decide +kernel), List.mem_of_getElem? (i := 748) (by decide +kernel), List.mem_of_getElem? (i := 749) (by decide +kernel)⟩
theorem lw_p38 : lw_okq (⟨"BackYearModel", "here", "()I"⟩, 37) := ⟨⟨by decide +kernel, by decide +kernel⟩, List.mem_of_getElem? (i := 556) (by decide +kernel), List.mem_of_getElem? (i := 752) (by decide +kernel), List.mem_of_getElem? (i := 753) (by decide +kernel)⟩
theorem lw_p39 : lw_okq (⟨"BackYearModel", "ofDay", "(I)I"⟩, 37) := ⟨⟨by decide +kernel, by decide +kernel⟩, List.mem_of_getElem? (i := 556) (by decide +kernel), List.mem_of_getElem? (i := 762) (by decide +kernel), List.mem_of_getElem? (i := 763) (by decide +kernel)⟩
theorem lw_p40 : lw_okq (⟨"BackYearModel", "bearer", "(I)I"⟩, 37) := ⟨⟨by decide +kernel, by decide +kernel⟩, List.mem_of_getElem? (i := 556) (by decide +kernel), List.mem_of_getElem? (i := 782) (by decide +kernel), List.mem_of_getElem? (i := 783) (by decide +kernel)⟩
theorem lw_p41 : lw_okq (⟨"BackYearModel", "isOne", "(I)Z"⟩, 37) := ⟨⟨by decide +kernel, by decide +kernel⟩, List.mem_of_getElem? (i := 556) (by decide +kernel), List.mem_of_getElem? (i := 790) (by decide +kernel), List.mem_of_getElem? (i := 791) (by decide +kernel)⟩
theorem lw_p42 : lw_okq (⟨"BackYearModel", "counts", "(II)V"⟩, 37) := ⟨⟨by decide +kernel, by decide +kernel⟩, List.mem_of_getElem? (i := 556) (by decide +kernel), List.mem_of_getElem? (i := 794) (by decide +kernel), List.mem_of_getElem? (i := 795) (by decide +kernel)⟩
theorem lw_p43 : lw_okq (⟨"BackYearModel", "bestOf", "(IZI)I"⟩, 37) := ⟨⟨by decide +kernel, by decide +kernel⟩, List.mem_of_getElem? (i := 556) (by decide +kernel), List.mem_of_getElem? (i := 802) (by decide +kernel), List.mem_of_getElem? (i := 803) (by decide +kernel)⟩
theorem lw_p44 : lw_okq (⟨"BackYearModel", "isWalk", "(II)Z"⟩, 37) := ⟨⟨by decide +kernel, by decide +kernel⟩, List.mem_of_getElem? (i := 556) (by decide +kernel), List.mem_of_getElem? (i := 806) (by decide +kernel), List.mem_of_getElem? (i := 807) (by decide +kernel)⟩
theorem lw_p45 : lw_okq (⟨"BackYearModel", "plays", "(I)I"⟩, 37) := ⟨⟨by decide +kernel, by decide +kernel⟩, List.mem_of_getElem? (i := 556) (by decide +kernel), List.mem_of_getElem? (i := 818) (by decide +kernel), List.mem_of_getElem? (i := 819) (by decide +kernel)⟩
theorem lw_p46 : lw_okq (⟨"BackYearModel", "own", "(II)I"⟩, 37) := ⟨⟨by decide +kernel, by decide +kernel⟩, List.mem_of_getElem? (i := 556) (by decide +kernel), List.mem_of_getElem? (i := 822) (by decide +kernel), List.mem_of_getElem? (i := 823) (by decide +kernel)⟩
theorem lw_p47 : lw_okq (⟨"BackYearModel", "owes", "()V"⟩, 37) := ⟨⟨by decide +kernel, by decide +kernel⟩, List.mem_of_getElem? (i := 556) (by decide +kernel), List.mem_of_getElem? (i := 838) (by decide +kernel), List.mem_of_getElem? (i := 839) (by decide +kernel)⟩
def lw_privs_3 : List (MethodName × Nat) := [(⟨"BackYearModel", "adds", "(III)V"⟩, 37), (⟨"BackYearModel", "isDeed", "(J)Z"⟩, 37), (⟨"BackYearModel", "stands", "(II)I"⟩, 37), (⟨"BackYearModel", "is", "(III)Z"⟩, 37), (⟨"BackYearModel", "areDeeds", "(J)Z"⟩, 37), (⟨"BackYearModel", "readDeed", "()V"⟩, 37), (⟨"BackYearModel", "here", "()I"⟩, 37), (⟨"BackYearModel", "ofDay", "(I)I"⟩, 37), (⟨"BackYearModel", "bearer", "(I)I"⟩, 37), (⟨"BackYearModel", "isOne", "(I)Z"⟩, 37), (⟨"BackYearModel", "counts", "(II)V"⟩, 37), (⟨"BackYearModel", "bestOf", "(IZI)I"⟩, 37), (⟨"BackYearModel", "isWalk", "(II)Z"⟩, 37), (⟨"BackYearModel", "plays", "(I)I"⟩, 37), (⟨"BackYearModel", "own", "(II)I"⟩, 37), (⟨"BackYearModel", "owes", "()V"⟩, 37)]
theorem lw_r3 : ∀ q ∈ lw_privs_3, lw_okq q := List.forall_mem_cons.mpr ⟨lw_p32, List.forall_mem_cons.mpr ⟨lw_p33, List.forall_mem_cons.mpr ⟨lw_p34, List.forall_mem_cons.mpr ⟨lw_p35, List.forall_mem_cons.mpr ⟨lw_p36, List.forall_mem_cons.mpr ⟨lw_p37, List.forall_mem_cons.mpr ⟨lw_p38, List.forall_mem_cons.mpr ⟨lw_p39, List.forall_mem_cons.mpr ⟨lw_p40, List.forall_mem_cons.mpr ⟨lw_p41, List.forall_mem_cons.mpr ⟨lw_p42, List.forall_mem_cons.mpr ⟨lw_p43, List.forall_mem_cons.mpr ⟨lw_p44, List.forall_mem_cons.mpr ⟨lw_p45, List.forall_mem_cons.mpr ⟨lw_p46, List.forall_mem_cons.mpr ⟨lw_p47, fun _ h => absurd h List.not_mem_nil⟩⟩⟩⟩⟩⟩⟩⟩⟩⟩⟩⟩⟩⟩⟩⟩
theorem lw_p48 : lw_okq (⟨"BackYearModel", "isZero", "(I)Z"⟩, 37) := ⟨⟨by decide +kernel, by decide +kernel⟩, List.mem_of_getElem? (i := 556) (by decide +kernel), List.mem_of_getElem? (i := 846) (by decide +kernel), List.mem_of_getElem? (i := 847) (by decide +kernel)⟩
theorem lw_p49 : lw_okq (⟨"BackYearModel", "expects", "()V"⟩, 37) := ⟨⟨by decide +kernel, by decide +kernel⟩, List.mem_of_getElem? (i := 556) (by decide +kernel), List.mem_of_getElem? (i := 858) (by decide +kernel), List.mem_of_getElem? (i := 859) (by decide +kernel)⟩
theorem lw_p50 : lw_okq (⟨"BackYearModel", "notes", "([II)I"⟩, 37) := ⟨⟨by decide +kernel, by decide +kernel⟩, List.mem_of_getElem? (i := 556) (by decide +kernel), List.mem_of_getElem? (i := 874) (by decide +kernel), List.mem_of_getElem? (i := 875) (by decide +kernel)⟩
theorem lw_p51 : lw_okq (⟨"BackYearModel", "gives", "(I[I)I"⟩, 37) := ⟨⟨by decide +kernel, by decide +kernel⟩, List.mem_of_getElem? (i := 556) (by decide +kernel), List.mem_of_getElem? (i := 882) (by decide +kernel), List.mem_of_getElem? (i := 883) (by decide +kernel)⟩
theorem lw_p52 : lw_okq (⟨"BackYearModel", "why", "(IIII)I"⟩, 37) := ⟨⟨by decide +kernel, by decide +kernel⟩, List.mem_of_getElem? (i := 556) (by decide +kernel), List.mem_of_getElem? (i := 896) (by decide +kernel), List.mem_of_getElem? (i := 897) (by decide +kernel)⟩
theorem lw_p53 : lw_okq (⟨"BackYearModel", "puts", "(IIJ)V"⟩, 37) := ⟨⟨by decide +kernel, by decide +kernel⟩, List.mem_of_getElem? (i := 556) (by decide +kernel), List.mem_of_getElem? (i := 910) (by decide +kernel), List.mem_of_getElem? (i := 911) (by decide +kernel)⟩
def lw_privs_4 : List (MethodName × Nat) := [(⟨"BackYearModel", "isZero", "(I)Z"⟩, 37), (⟨"BackYearModel", "expects", "()V"⟩, 37), (⟨"BackYearModel", "notes", "([II)I"⟩, 37), (⟨"BackYearModel", "gives", "(I[I)I"⟩, 37), (⟨"BackYearModel", "why", "(IIII)I"⟩, 37), (⟨"BackYearModel", "puts", "(IIJ)V"⟩, 37)]
theorem lw_r4 : ∀ q ∈ lw_privs_4, lw_okq q := List.forall_mem_cons.mpr ⟨lw_p48, List.forall_mem_cons.mpr ⟨lw_p49, List.forall_mem_cons.mpr ⟨lw_p50, List.forall_mem_cons.mpr ⟨lw_p51, List.forall_mem_cons.mpr ⟨lw_p52, List.forall_mem_cons.mpr ⟨lw_p53, fun _ h => absurd h List.not_mem_nil⟩⟩⟩⟩⟩⟩
def lw_privs : List (MethodName × Nat) := lw_privs_1 ++ (lw_privs_2 ++ (lw_privs_3 ++ (lw_privs_4)))
def lw_tbl : List Cond := k2_sels lw_privs ++ tables_1
theorem lw_privs_ok : ∀ q ∈ lw_privs, lw_okq q := by
  show ∀ q ∈ lw_privs_1 ++ (lw_privs_2 ++ (lw_privs_3 ++ (lw_privs_4))), lw_okq q
  exact List.forall_mem_append.mpr ⟨lw_r1, List.forall_mem_append.mpr ⟨lw_r2, List.forall_mem_append.mpr ⟨lw_r3, lw_r4⟩⟩⟩
end
section
/-! ===== BEGIN printed: names, fields, word lists, decode rows ===== -/
def RX0 : String := "BackYear$Bills"
def TX0 : u_T := fun k => match k with
  | _ => ("", "", "", false)
def tyX0 : Nat → FieldType := fun k => match k with
  | _ => .int
theorem nmX0 : ∀ a, a < 0 → ∀ b, b < 0 → a ≠ b → (TX0 a).2.1 ≠ (TX0 b).2.1 := by decide +kernel
theorem tyX0_ok : ∀ k, k < 0 → parseFieldDescriptor (TX0 k).2.2.1 = some (tyX0 k) := by decide +kernel
abbrev cX0_dueTo : ByteArray := prog_2_method_2_code
def yX0_dueTo : MethodName := ⟨RX0, "dueTo", "(LBackYear$Year;I)I"⟩
abbrev cX0_dueFor : ByteArray := prog_2_method_3_code
def yX0_dueFor : MethodName := ⟨RX0, "dueFor", "(LBackYear$Year;II)I"⟩
abbrev cX0_fewestPayments : ByteArray := prog_2_method_4_code
def yX0_fewestPayments : MethodName := ⟨RX0, "fewestPayments", "([I)I"⟩
abbrev cX0_mostSets : ByteArray := prog_2_method_5_code
def yX0_mostSets : MethodName := ⟨RX0, "mostSets", "([II)I"⟩
abbrev cX0_sumOf : ByteArray := prog_2_method_6_code
def yX0_sumOf : MethodName := ⟨RX0, "sumOf", "([II)I"⟩
def RX1 : String := "BackYear$Guesses"
def TX1 : u_T := fun k => match k with
  | _ => ("", "", "", false)
def tyX1 : Nat → FieldType := fun k => match k with
  | _ => .int
theorem nmX1 : ∀ a, a < 0 → ∀ b, b < 0 → a ≠ b → (TX1 a).2.1 ≠ (TX1 b).2.1 := by decide +kernel
theorem tyX1_ok : ∀ k, k < 0 → parseFieldDescriptor (TX1 k).2.2.1 = some (tyX1 k) := by decide +kernel
abbrev cX1_fits : ByteArray := prog_3_method_2_code
def yX1_fits : MethodName := ⟨RX1, "fits", "(III[II)Z"⟩
abbrev cX1_explains : ByteArray := prog_3_method_3_code
def yX1_explains : MethodName := ⟨RX1, "explains", "(LBackYear$Year;II)Z"⟩
abbrev cX1_parts : ByteArray := prog_3_method_4_code
def yX1_parts : MethodName := ⟨RX1, "parts", "(I)J"⟩
abbrev cX1_halvings : ByteArray := prog_3_method_5_code
def yX1_halvings : MethodName := ⟨RX1, "halvings", "(JI)I"⟩
abbrev cX1_mean : ByteArray := prog_3_method_6_code
def yX1_mean : MethodName := ⟨RX1, "mean", "(LBackYear$Year;III)J"⟩
def RX2 : String := "BackYear$Sheets"
def TX2 : u_T := fun k => match k with
  | 0 => ("BackYear$Sheets", "lane", "[I", true)
  | 1 => ("BackYear$Sheets", "size", "[I", true)
  | _ => ("BackYear$Sheets", "items", "[J", true)
def tyX2 : Nat → FieldType := fun k => match k with
  | 0 => .array .int
  | 1 => .array .int
  | _ => .array .long
theorem nmX2 : ∀ a, a < 3 → ∀ b, b < 3 → a ≠ b → (TX2 a).2.1 ≠ (TX2 b).2.1 := by decide +kernel
theorem tyX2_ok : ∀ k, k < 3 → parseFieldDescriptor (TX2 k).2.2.1 = some (tyX2 k) := by decide +kernel
abbrev cX2_init : ByteArray := prog_4_method_1_code
def yX2_init : MethodName := ⟨RX2, "<init>", "()V"⟩
abbrev cX2_holds : ByteArray := prog_4_method_2_code
def yX2_holds : MethodName := ⟨RX2, "holds", "(I)Z"⟩
abbrev cX2_faultOf : ByteArray := prog_4_method_3_code
def yX2_faultOf : MethodName := ⟨RX2, "faultOf", "(IIII)I"⟩
abbrev cX2_reaches : ByteArray := prog_4_method_4_code
def yX2_reaches : MethodName := ⟨RX2, "reaches", "(III)Z"⟩
abbrev cX2_begin : ByteArray := prog_4_method_5_code
def yX2_begin : MethodName := ⟨RX2, "begin", "(III)V"⟩
abbrev cX2_at : ByteArray := prog_4_method_6_code
def yX2_at : MethodName := ⟨RX2, "at", "(II)J"⟩
abbrev cX2_put : ByteArray := prog_4_method_7_code
def yX2_put : MethodName := ⟨RX2, "put", "(IIJ)V"⟩
abbrev cX2_lowest : ByteArray := prog_4_method_8_code
def yX2_lowest : MethodName := ⟨RX2, "lowest", "(IJ)J"⟩
abbrev cX2_move : ByteArray := prog_4_method_9_code
def yX2_move : MethodName := ⟨RX2, "move", "(IIIII)V"⟩
def RX3 : String := "BackYear$Tape"
def TX3 : u_T := fun k => match k with
  | 0 => ("BackYear$Tape", "letters", "[C", true)
  | 1 => ("BackYear$Tape", "typed", "I", false)
  | 2 => ("BackYear$Tape", "awaited", "I", false)
  | _ => ("BackYear$Tape", "kind", "I", false)
def tyX3 : Nat → FieldType := fun k => match k with
  | 0 => .array .char
  | 1 => .int
  | 2 => .int
  | _ => .int
theorem nmX3 : ∀ a, a < 4 → ∀ b, b < 4 → a ≠ b → (TX3 a).2.1 ≠ (TX3 b).2.1 := by decide +kernel
theorem tyX3_ok : ∀ k, k < 4 → parseFieldDescriptor (TX3 k).2.2.1 = some (tyX3 k) := by decide +kernel
abbrev cX3_init : ByteArray := prog_5_method_1_code
def yX3_init : MethodName := ⟨RX3, "<init>", "()V"⟩
abbrev cX3_add : ByteArray := prog_5_method_2_code
def yX3_add : MethodName := ⟨RX3, "add", "(C)Z"⟩
abbrev cX3_readInto : ByteArray := prog_5_method_3_code
def yX3_readInto : MethodName := ⟨RX3, "readInto", "(LBackYear$Year;)I"⟩
abbrev cX3_takes : ByteArray := prog_5_method_4_code
def yX3_takes : MethodName := ⟨RX3, "takes", "(CLBackYear$Year;)Z"⟩
abbrev cX3_takesKind : ByteArray := prog_5_method_5_code
def yX3_takesKind : MethodName := ⟨RX3, "takesKind", "(C)Z"⟩
abbrev cX3_takesDay : ByteArray := prog_5_method_6_code
def yX3_takesDay : MethodName := ⟨RX3, "takesDay", "(CLBackYear$Year;)Z"⟩
abbrev cX3_takesComma : ByteArray := prog_5_method_7_code
def yX3_takesComma : MethodName := ⟨RX3, "takesComma", "(LBackYear$Year;)Z"⟩
abbrev cX3_takesNeed : ByteArray := prog_5_method_8_code
def yX3_takesNeed : MethodName := ⟨RX3, "takesNeed", "(CLBackYear$Year;)Z"⟩
def RX4 : String := "BackYear$Walks"
def TX4 : u_T := fun k => match k with
  | _ => ("", "", "", false)
def tyX4 : Nat → FieldType := fun k => match k with
  | _ => .int
theorem nmX4 : ∀ a, a < 0 → ∀ b, b < 0 → a ≠ b → (TX4 a).2.1 ≠ (TX4 b).2.1 := by decide +kernel
theorem tyX4_ok : ∀ k, k < 0 → parseFieldDescriptor (TX4 k).2.2.1 = some (tyX4 k) := by decide +kernel
abbrev cX4_most : ByteArray := prog_6_method_2_code
def yX4_most : MethodName := ⟨RX4, "most", "(LBackYear$Year;IZ)I"⟩
abbrev cX4_fewest : ByteArray := prog_6_method_3_code
def yX4_fewest : MethodName := ⟨RX4, "fewest", "(LBackYear$Year;II)I"⟩
abbrev cX4_isWalk : ByteArray := prog_6_method_4_code
def yX4_isWalk : MethodName := ⟨RX4, "isWalk", "(LBackYear$Year;III)Z"⟩
abbrev cX4_isFair : ByteArray := prog_6_method_5_code
def yX4_isFair : MethodName := ⟨RX4, "isFair", "(LBackYear$Year;I)Z"⟩
abbrev cX4_selfish : ByteArray := prog_6_method_6_code
def yX4_selfish : MethodName := ⟨RX4, "selfish", "(LBackYear$Year;I)I"⟩
abbrev cX4_play : ByteArray := prog_6_method_7_code
def yX4_play : MethodName := ⟨RX4, "play", "(LBackYear$Year;IIII)I"⟩
abbrev cX4_chooser : ByteArray := prog_6_method_8_code
def yX4_chooser : MethodName := ⟨RX4, "chooser", "(LBackYear$Year;I)I"⟩
def RX5 : String := "BackYear$Year"
def TX5 : u_T := fun k => match k with
  | 0 => ("BackYear$Year", "people", "I", false)
  | 1 => ("BackYear$Year", "deeds", "I", false)
  | 2 => ("BackYear$Year", "theDay", "I", false)
  | 3 => ("BackYear$Year", "years", "I", false)
  | 4 => ("BackYear$Year", "lastYear", "I", false)
  | 5 => ("BackYear$Year", "righted", "I", false)
  | 6 => ("BackYear$Year", "kind", "[I", true)
  | 7 => ("BackYear$Year", "day", "[I", true)
  | 8 => ("BackYear$Year", "needs", "[I", true)
  | 9 => ("BackYear$Year", "cost", "[I", true)
  | 10 => ("BackYear$Year", "odds", "[I", true)
  | _ => ("BackYear$Year", "worth", "[I", true)
def tyX5 : Nat → FieldType := fun k => match k with
  | 0 => .int
  | 1 => .int
  | 2 => .int
  | 3 => .int
  | 4 => .int
  | 5 => .int
  | 6 => .array .int
  | 7 => .array .int
  | 8 => .array .int
  | 9 => .array .int
  | 10 => .array .int
  | _ => .array .int
theorem nmX5 : ∀ a, a < 12 → ∀ b, b < 12 → a ≠ b → (TX5 a).2.1 ≠ (TX5 b).2.1 := by decide +kernel
theorem tyX5_ok : ∀ k, k < 12 → parseFieldDescriptor (TX5 k).2.2.1 = some (tyX5 k) := by decide +kernel
abbrev cX5_init : ByteArray := prog_7_method_1_code
def yX5_init : MethodName := ⟨RX5, "<init>", "()V"⟩
abbrev cX5_become : ByteArray := prog_7_method_2_code
def yX5_become : MethodName := ⟨RX5, "become", "(LBackYear$Year;)V"⟩
abbrev cX5_clear : ByteArray := prog_7_method_3_code
def yX5_clear : MethodName := ⟨RX5, "clear", "()V"⟩
abbrev cX5_add : ByteArray := prog_7_method_4_code
def yX5_add : MethodName := ⟨RX5, "add", "(III)Z"⟩
abbrev cX5_beginNext : ByteArray := prog_7_method_5_code
def yX5_beginNext : MethodName := ⟨RX5, "beginNext", "()V"⟩
abbrev cX5_has : ByteArray := prog_7_method_6_code
def yX5_has : MethodName := ⟨RX5, "has", "(I)Z"⟩
abbrev cX5_isPerson : ByteArray := prog_7_method_7_code
def yX5_isPerson : MethodName := ⟨RX5, "isPerson", "(I)Z"⟩
abbrev cX5_all : ByteArray := prog_7_method_8_code
def yX5_all : MethodName := ⟨RX5, "all", "()I"⟩
abbrev cX5_ofDay : ByteArray := prog_7_method_9_code
def yX5_ofDay : MethodName := ⟨RX5, "ofDay", "(I)I"⟩
abbrev cX5_needable : ByteArray := prog_7_method_10_code
def yX5_needable : MethodName := ⟨RX5, "needable", "(II)I"⟩
abbrev cX5_worthTo : ByteArray := prog_7_method_11_code
def yX5_worthTo : MethodName := ⟨RX5, "worthTo", "(II)I"⟩
abbrev cX5_worthToAll : ByteArray := prog_7_method_12_code
def yX5_worthToAll : MethodName := ⟨RX5, "worthToAll", "(I)I"⟩
abbrev cX5_wouldStand : ByteArray := prog_7_method_13_code
def yX5_wouldStand : MethodName := ⟨RX5, "wouldStand", "(II)Z"⟩
abbrev cX5_isMet : ByteArray := prog_7_method_14_code
def yX5_isMet : MethodName := ⟨RX5, "isMet", "(III)Z"⟩
abbrev cX5_standing : ByteArray := prog_7_method_15_code
def yX5_standing : MethodName := ⟨RX5, "standing", "(I)I"⟩
abbrev cX5_bearer : ByteArray := prog_7_method_16_code
def yX5_bearer : MethodName := ⟨RX5, "bearer", "(I)I"⟩
abbrev cX5_valueBy : ByteArray := prog_7_method_17_code
def yX5_valueBy : MethodName := ⟨RX5, "valueBy", "(II)I"⟩
abbrev cX5_sumBy : ByteArray := prog_7_method_18_code
def yX5_sumBy : MethodName := ⟨RX5, "sumBy", "(I)I"⟩
abbrev cX5_valueOf : ByteArray := prog_7_method_19_code
def yX5_valueOf : MethodName := ⟨RX5, "valueOf", "(III)I"⟩
def RX6 : String := "BackYear"
def TX6 : u_T := fun k => match k with
  | 0 => ("BackYear", "now", "LBackYear$Year;", true)
  | 1 => ("BackYear", "kept", "LBackYear$Year;", true)
  | 2 => ("BackYear", "draft", "LBackYear$Year;", true)
  | 3 => ("BackYear", "tape", "LBackYear$Tape;", true)
  | 4 => ("BackYear", "sheets", "LBackYear$Sheets;", true)
  | 5 => ("BackYear", "begun", "[I", true)
  | 6 => ("BackYear", "toldYears", "[I", true)
  | 7 => ("BackYear", "dues", "[I", true)
  | _ => ("BackYear", "imaged", "Z", false)
def tyX6 : Nat → FieldType := fun k => match k with
  | 0 => .object "BackYear$Year"
  | 1 => .object "BackYear$Year"
  | 2 => .object "BackYear$Year"
  | 3 => .object "BackYear$Tape"
  | 4 => .object "BackYear$Sheets"
  | 5 => .array .int
  | 6 => .array .int
  | 7 => .array .int
  | _ => .boolean
theorem nmX6 : ∀ a, a < 9 → ∀ b, b < 9 → a ≠ b → (TX6 a).2.1 ≠ (TX6 b).2.1 := by decide +kernel
theorem tyX6_ok : ∀ k, k < 9 → parseFieldDescriptor (TX6 k).2.2.1 = some (tyX6 k) := by decide +kernel
abbrev cX6_init : ByteArray := prog_1_method_1_code
def yX6_init : MethodName := ⟨RX6, "<init>", "()V"⟩
abbrev cX6_people : ByteArray := prog_1_method_2_code
def yX6_people : MethodName := ⟨RX6, "people", "(I)I"⟩
abbrev cX6_deed : ByteArray := prog_1_method_3_code
def yX6_deed : MethodName := ⟨RX6, "deed", "(III)I"⟩
abbrev cX6_told : ByteArray := prog_1_method_4_code
def yX6_told : MethodName := ⟨RX6, "told", "(II)I"⟩
abbrev cX6_set : ByteArray := prog_1_method_5_code
def yX6_set : MethodName := ⟨RX6, "set", "(III)I"⟩
abbrev cX6_worth : ByteArray := prog_1_method_6_code
def yX6_worth : MethodName := ⟨RX6, "worth", "(III)I"⟩
abbrev cX6_worthOf : ByteArray := prog_1_method_7_code
def yX6_worthOf : MethodName := ⟨RX6, "worthOf", "(II)I"⟩
abbrev cX6_last : ByteArray := prog_1_method_8_code
def yX6_last : MethodName := ⟨RX6, "last", "(I)I"⟩
abbrev cX6_type : ByteArray := prog_1_method_9_code
def yX6_type : MethodName := ⟨RX6, "type", "(I)I"⟩
abbrev cX6_text : ByteArray := prog_1_method_10_code
def yX6_text : MethodName := ⟨RX6, "text", "()I"⟩
abbrev cX6_count : ByteArray := prog_1_method_11_code
def yX6_count : MethodName := ⟨RX6, "count", "(I)I"⟩
abbrev cX6_right : ByteArray := prog_1_method_12_code
def yX6_right : MethodName := ⟨RX6, "right", "(I)I"⟩
abbrev cX6_back : ByteArray := prog_1_method_13_code
def yX6_back : MethodName := ⟨RX6, "back", "()I"⟩
abbrev cX6_year : ByteArray := prog_1_method_14_code
def yX6_year : MethodName := ⟨RX6, "year", "()I"⟩
abbrev cX6_value : ByteArray := prog_1_method_15_code
def yX6_value : MethodName := ⟨RX6, "value", "(I)I"⟩
abbrev cX6_bears : ByteArray := prog_1_method_16_code
def yX6_bears : MethodName := ⟨RX6, "bears", "(I)I"⟩
abbrev cX6_best : ByteArray := prog_1_method_17_code
def yX6_best : MethodName := ⟨RX6, "best", "(III)I"⟩
abbrev cX6_wanted : ByteArray := prog_1_method_18_code
def yX6_wanted : MethodName := ⟨RX6, "wanted", "(II)I"⟩
abbrev cX6_self : ByteArray := prog_1_method_19_code
def yX6_self : MethodName := ⟨RX6, "self", "()I"⟩
abbrev cX6_turn : ByteArray := prog_1_method_20_code
def yX6_turn : MethodName := ⟨RX6, "turn", "(I)I"⟩
abbrev cX6_bargain : ByteArray := prog_1_method_21_code
def yX6_bargain : MethodName := ⟨RX6, "bargain", "(IIII)I"⟩
abbrev cX6_due : ByteArray := prog_1_method_22_code
def yX6_due : MethodName := ⟨RX6, "due", "(I)I"⟩
abbrev cX6_payments : ByteArray := prog_1_method_23_code
def yX6_payments : MethodName := ⟨RX6, "payments", "()I"⟩
abbrev cX6_forgotten : ByteArray := prog_1_method_24_code
def yX6_forgotten : MethodName := ⟨RX6, "forgotten", "(III)I"⟩
abbrev cX6_upper : ByteArray := prog_1_method_25_code
def yX6_upper : MethodName := ⟨RX6, "upper", "()J"⟩
abbrev cX6_lower : ByteArray := prog_1_method_26_code
def yX6_lower : MethodName := ⟨RX6, "lower", "()J"⟩
abbrev cX6_comes : ByteArray := prog_1_method_27_code
def yX6_comes : MethodName := ⟨RX6, "comes", "(II)I"⟩
abbrev cX6_image : ByteArray := prog_1_method_28_code
def yX6_image : MethodName := ⟨RX6, "image", "()I"⟩
abbrev cX6_restore : ByteArray := prog_1_method_29_code
def yX6_restore : MethodName := ⟨RX6, "restore", "()I"⟩
abbrev cX6_judged : ByteArray := prog_1_method_30_code
def yX6_judged : MethodName := ⟨RX6, "judged", "(III)I"⟩
abbrev cX6_net : ByteArray := prog_1_method_31_code
def yX6_net : MethodName := ⟨RX6, "net", "(IIIIII)I"⟩
abbrev cX6_film : ByteArray := prog_1_method_32_code
def yX6_film : MethodName := ⟨RX6, "film", "(III)I"⟩
abbrev cX6_sheet : ByteArray := prog_1_method_33_code
def yX6_sheet : MethodName := ⟨RX6, "sheet", "(III)I"⟩
abbrev cX6_drop : ByteArray := prog_1_method_34_code
def yX6_drop : MethodName := ⟨RX6, "drop", "(I)I"⟩
abbrev cX6_item : ByteArray := prog_1_method_35_code
def yX6_item : MethodName := ⟨RX6, "item", "(IIIJ)I"⟩
abbrev cX6_copy : ByteArray := prog_1_method_36_code
def yX6_copy : MethodName := ⟨RX6, "copy", "(IIIII)I"⟩
abbrev cX6_takeToldYears : ByteArray := prog_1_method_37_code
def yX6_takeToldYears : MethodName := ⟨RX6, "takeToldYears", "(III)Z"⟩
abbrev cX6_isDay : ByteArray := prog_1_method_38_code
def yX6_isDay : MethodName := ⟨RX6, "isDay", "(I)Z"⟩
abbrev cX6_isEverPerson : ByteArray := prog_1_method_39_code
def yX6_isEverPerson : MethodName := ⟨RX6, "isEverPerson", "(I)Z"⟩
abbrev cX6_isWalkLength : ByteArray := prog_1_method_40_code
def yX6_isWalkLength : MethodName := ⟨RX6, "isWalkLength", "(I)Z"⟩
abbrev cX6_isChoice : ByteArray := prog_1_method_41_code
def yX6_isChoice : MethodName := ⟨RX6, "isChoice", "(I)Z"⟩
abbrev cX6_isSheet : ByteArray := prog_1_method_42_code
def yX6_isSheet : MethodName := ⟨RX6, "isSheet", "(I)Z"⟩
abbrev cX6_isLane : ByteArray := prog_1_method_43_code
def yX6_isLane : MethodName := ⟨RX6, "isLane", "(I)Z"⟩
abbrev cX6_isIn : ByteArray := prog_1_method_44_code
def yX6_isIn : MethodName := ⟨RX6, "isIn", "(II)Z"⟩
abbrev cX6_isOneOf : ByteArray := prog_1_method_45_code
def yX6_isOneOf : MethodName := ⟨RX6, "isOneOf", "(JI)Z"⟩
abbrev cX6_isWithin : ByteArray := prog_1_method_46_code
def yX6_isWithin : MethodName := ⟨RX6, "isWithin", "(II)Z"⟩
def RX7 : String := "BackYearModel"
def TX7 : u_T := fun k => match k with
  | 0 => ("BackYearModel", "people", "I", false)
  | 1 => ("BackYearModel", "deeds", "I", false)
  | 2 => ("BackYearModel", "kinds", "[I", true)
  | 3 => ("BackYearModel", "days", "[I", true)
  | 4 => ("BackYearModel", "needs", "[I", true)
  | 5 => ("BackYearModel", "costs", "[I", true)
  | 6 => ("BackYearModel", "odds", "[I", true)
  | 7 => ("BackYearModel", "worths", "[I", true)
  | 8 => ("BackYearModel", "last", "I", false)
  | 9 => ("BackYearModel", "righted", "I", false)
  | 10 => ("BackYearModel", "day", "I", false)
  | 11 => ("BackYearModel", "years", "I", false)
  | 12 => ("BackYearModel", "tape", "[I", true)
  | 13 => ("BackYearModel", "taped", "I", false)
  | 14 => ("BackYearModel", "at", "I", false)
  | 15 => ("BackYearModel", "wrong", "Z", false)
  | 16 => ("BackYearModel", "readDeeds", "I", false)
  | 17 => ("BackYearModel", "readKinds", "[I", true)
  | 18 => ("BackYearModel", "readDays", "[I", true)
  | 19 => ("BackYearModel", "readNeeds", "[I", true)
  | 20 => ("BackYearModel", "values", "[I", true)
  | 21 => ("BackYearModel", "sum", "I", false)
  | 22 => ("BackYearModel", "base", "[I", true)
  | 23 => ("BackYearModel", "bestSum", "I", false)
  | 24 => ("BackYearModel", "chosen", "[I", true)
  | 25 => ("BackYearModel", "tries", "[I", true)
  | 26 => ("BackYearModel", "ends", "[I", true)
  | 27 => ("BackYearModel", "dues", "[I", true)
  | 28 => ("BackYearModel", "upper", "J", false)
  | 29 => ("BackYearModel", "lower", "J", false)
  | 30 => ("BackYearModel", "olds", "[I", true)
  | 31 => ("BackYearModel", "image", "[I", true)
  | 32 => ("BackYearModel", "isImage", "Z", false)
  | 33 => ("BackYearModel", "lanes", "[I", true)
  | 34 => ("BackYearModel", "sizes", "[I", true)
  | 35 => ("BackYearModel", "items", "[J", true)
  | _ => ("BackYearModel", "moved", "[J", true)
def tyX7 : Nat → FieldType := fun k => match k with
  | 0 => .int
  | 1 => .int
  | 2 => .array .int
  | 3 => .array .int
  | 4 => .array .int
  | 5 => .array .int
  | 6 => .array .int
  | 7 => .array .int
  | 8 => .int
  | 9 => .int
  | 10 => .int
  | 11 => .int
  | 12 => .array .int
  | 13 => .int
  | 14 => .int
  | 15 => .boolean
  | 16 => .int
  | 17 => .array .int
  | 18 => .array .int
  | 19 => .array .int
  | 20 => .array .int
  | 21 => .int
  | 22 => .array .int
  | 23 => .int
  | 24 => .array .int
  | 25 => .array .int
  | 26 => .array .int
  | 27 => .array .int
  | 28 => .long
  | 29 => .long
  | 30 => .array .int
  | 31 => .array .int
  | 32 => .boolean
  | 33 => .array .int
  | 34 => .array .int
  | 35 => .array .long
  | _ => .array .long
theorem nmX7 : ∀ a, a < 37 → ∀ b, b < 37 → a ≠ b → (TX7 a).2.1 ≠ (TX7 b).2.1 := by decide +kernel
theorem tyX7_ok : ∀ k, k < 37 → parseFieldDescriptor (TX7 k).2.2.1 = some (tyX7 k) := by decide +kernel
abbrev cX7_in : ByteArray := prog_9_method_2_code
def yX7_in : MethodName := ⟨RX7, "in", "(JJJ)Z"⟩
abbrev cX7_init : ByteArray := prog_9_method_3_code
def yX7_init : MethodName := ⟨RX7, "<init>", "()V"⟩
abbrev cX7_isDeed : ByteArray := prog_9_method_4_code
def yX7_isDeed : MethodName := ⟨RX7, "isDeed", "(J)Z"⟩
abbrev cX7_isOne : ByteArray := prog_9_method_5_code
def yX7_isOne : MethodName := ⟨RX7, "isOne", "(I)Z"⟩
abbrev cX7_areDeeds : ByteArray := prog_9_method_6_code
def yX7_areDeeds : MethodName := ⟨RX7, "areDeeds", "(J)Z"⟩
abbrev cX7_people : ByteArray := prog_9_method_7_code
def yX7_people : MethodName := ⟨RX7, "people", "(I)I"⟩
abbrev cX7_ahead : ByteArray := prog_9_method_8_code
def yX7_ahead : MethodName := ⟨RX7, "ahead", "(II[I)I"⟩
abbrev cX7_adds : ByteArray := prog_9_method_9_code
def yX7_adds : MethodName := ⟨RX7, "adds", "(III)V"⟩
abbrev cX7_deed : ByteArray := prog_9_method_10_code
def yX7_deed : MethodName := ⟨RX7, "deed", "(III)I"⟩
abbrev cX7_is : ByteArray := prog_9_method_11_code
def yX7_is : MethodName := ⟨RX7, "is", "(III)Z"⟩
abbrev cX7_stands : ByteArray := prog_9_method_12_code
def yX7_stands : MethodName := ⟨RX7, "stands", "(II)I"⟩
abbrev cX7_told : ByteArray := prog_9_method_13_code
def yX7_told : MethodName := ⟨RX7, "told", "(II)I"⟩
abbrev cX7_set : ByteArray := prog_9_method_14_code
def yX7_set : MethodName := ⟨RX7, "set", "(III)I"⟩
abbrev cX7_worth : ByteArray := prog_9_method_15_code
def yX7_worth : MethodName := ⟨RX7, "worth", "(III)I"⟩
abbrev cX7_worthOf : ByteArray := prog_9_method_16_code
def yX7_worthOf : MethodName := ⟨RX7, "worthOf", "(II)I"⟩
abbrev cX7_last : ByteArray := prog_9_method_17_code
def yX7_last : MethodName := ⟨RX7, "last", "(I)I"⟩
abbrev cX7_count : ByteArray := prog_9_method_18_code
def yX7_count : MethodName := ⟨RX7, "count", "(I)I"⟩
abbrev cX7_type : ByteArray := prog_9_method_19_code
def yX7_type : MethodName := ⟨RX7, "type", "(I)I"⟩
abbrev cX7_here : ByteArray := prog_9_method_20_code
def yX7_here : MethodName := ⟨RX7, "here", "()I"⟩
abbrev cX7_readDeed : ByteArray := prog_9_method_21_code
def yX7_readDeed : MethodName := ⟨RX7, "readDeed", "()V"⟩
abbrev cX7_text : ByteArray := prog_9_method_22_code
def yX7_text : MethodName := ⟨RX7, "text", "()I"⟩
abbrev cX7_ofDay : ByteArray := prog_9_method_23_code
def yX7_ofDay : MethodName := ⟨RX7, "ofDay", "(I)I"⟩
abbrev cX7_right : ByteArray := prog_9_method_24_code
def yX7_right : MethodName := ⟨RX7, "right", "(I)I"⟩
abbrev cX7_back : ByteArray := prog_9_method_25_code
def yX7_back : MethodName := ⟨RX7, "back", "()I"⟩
abbrev cX7_size : ByteArray := prog_9_method_26_code
def yX7_size : MethodName := ⟨RX7, "size", "(I)I"⟩
abbrev cX7_year : ByteArray := prog_9_method_27_code
def yX7_year : MethodName := ⟨RX7, "year", "()I"⟩
abbrev cX7_bearer : ByteArray := prog_9_method_28_code
def yX7_bearer : MethodName := ⟨RX7, "bearer", "(I)I"⟩
abbrev cX7_bears : ByteArray := prog_9_method_29_code
def yX7_bears : MethodName := ⟨RX7, "bears", "(I)I"⟩
abbrev cX7_counts : ByteArray := prog_9_method_30_code
def yX7_counts : MethodName := ⟨RX7, "counts", "(II)V"⟩
abbrev cX7_value : ByteArray := prog_9_method_31_code
def yX7_value : MethodName := ⟨RX7, "value", "(I)I"⟩
abbrev cX7_isWalk : ByteArray := prog_9_method_32_code
def yX7_isWalk : MethodName := ⟨RX7, "isWalk", "(II)Z"⟩
abbrev cX7_bestOf : ByteArray := prog_9_method_33_code
def yX7_bestOf : MethodName := ⟨RX7, "bestOf", "(IZI)I"⟩
abbrev cX7_best : ByteArray := prog_9_method_34_code
def yX7_best : MethodName := ⟨RX7, "best", "(III)I"⟩
abbrev cX7_wanted : ByteArray := prog_9_method_35_code
def yX7_wanted : MethodName := ⟨RX7, "wanted", "(II)I"⟩
abbrev cX7_own : ByteArray := prog_9_method_36_code
def yX7_own : MethodName := ⟨RX7, "own", "(II)I"⟩
abbrev cX7_plays : ByteArray := prog_9_method_37_code
def yX7_plays : MethodName := ⟨RX7, "plays", "(I)I"⟩
abbrev cX7_self : ByteArray := prog_9_method_38_code
def yX7_self : MethodName := ⟨RX7, "self", "()I"⟩
abbrev cX7_turn : ByteArray := prog_9_method_39_code
def yX7_turn : MethodName := ⟨RX7, "turn", "(I)I"⟩
abbrev cX7_bargain : ByteArray := prog_9_method_40_code
def yX7_bargain : MethodName := ⟨RX7, "bargain", "(IIII)I"⟩
abbrev cX7_owes : ByteArray := prog_9_method_41_code
def yX7_owes : MethodName := ⟨RX7, "owes", "()V"⟩
abbrev cX7_due : ByteArray := prog_9_method_42_code
def yX7_due : MethodName := ⟨RX7, "due", "(I)I"⟩
abbrev cX7_isZero : ByteArray := prog_9_method_43_code
def yX7_isZero : MethodName := ⟨RX7, "isZero", "(I)Z"⟩
abbrev cX7_payments : ByteArray := prog_9_method_44_code
def yX7_payments : MethodName := ⟨RX7, "payments", "()I"⟩
abbrev cX7_forgotten : ByteArray := prog_9_method_45_code
def yX7_forgotten : MethodName := ⟨RX7, "forgotten", "(III)I"⟩
abbrev cX7_expects : ByteArray := prog_9_method_46_code
def yX7_expects : MethodName := ⟨RX7, "expects", "()V"⟩
abbrev cX7_upper : ByteArray := prog_9_method_47_code
def yX7_upper : MethodName := ⟨RX7, "upper", "()J"⟩
abbrev cX7_lower : ByteArray := prog_9_method_48_code
def yX7_lower : MethodName := ⟨RX7, "lower", "()J"⟩
abbrev cX7_comes : ByteArray := prog_9_method_49_code
def yX7_comes : MethodName := ⟨RX7, "comes", "(II)I"⟩
abbrev cX7_notes : ByteArray := prog_9_method_50_code
def yX7_notes : MethodName := ⟨RX7, "notes", "([II)I"⟩
abbrev cX7_gives : ByteArray := prog_9_method_51_code
def yX7_gives : MethodName := ⟨RX7, "gives", "(I[I)I"⟩
abbrev cX7_image : ByteArray := prog_9_method_52_code
def yX7_image : MethodName := ⟨RX7, "image", "()I"⟩
abbrev cX7_restore : ByteArray := prog_9_method_53_code
def yX7_restore : MethodName := ⟨RX7, "restore", "()I"⟩
abbrev cX7_isSheet : ByteArray := prog_9_method_54_code
def yX7_isSheet : MethodName := ⟨RX7, "isSheet", "(I)Z"⟩
abbrev cX7_isLane : ByteArray := prog_9_method_55_code
def yX7_isLane : MethodName := ⟨RX7, "isLane", "(I)Z"⟩
abbrev cX7_why : ByteArray := prog_9_method_56_code
def yX7_why : MethodName := ⟨RX7, "why", "(IIII)I"⟩
abbrev cX7_judged : ByteArray := prog_9_method_57_code
def yX7_judged : MethodName := ⟨RX7, "judged", "(III)I"⟩
abbrev cX7_net : ByteArray := prog_9_method_58_code
def yX7_net : MethodName := ⟨RX7, "net", "(IIIIII)I"⟩
abbrev cX7_puts : ByteArray := prog_9_method_59_code
def yX7_puts : MethodName := ⟨RX7, "puts", "(IIJ)V"⟩
abbrev cX7_film : ByteArray := prog_9_method_60_code
def yX7_film : MethodName := ⟨RX7, "film", "(III)I"⟩
abbrev cX7_sheet : ByteArray := prog_9_method_61_code
def yX7_sheet : MethodName := ⟨RX7, "sheet", "(III)I"⟩
abbrev cX7_drop : ByteArray := prog_9_method_62_code
def yX7_drop : MethodName := ⟨RX7, "drop", "(I)I"⟩
abbrev cX7_item : ByteArray := prog_9_method_63_code
def yX7_item : MethodName := ⟨RX7, "item", "(IIIJ)I"⟩
abbrev cX7_copy : ByteArray := prog_9_method_64_code
def yX7_copy : MethodName := ⟨RX7, "copy", "(IIIII)I"⟩
def RJ6 : String := "java/lang/Integer"
def TJ6 : u_T := fun k => match k with
  | _ => ("", "", "", false)
def tyJ6 : Nat → FieldType := fun k => match k with
  | _ => .int
theorem nmJ6 : ∀ a, a < 0 → ∀ b, b < 0 → a ≠ b → (TJ6 a).2.1 ≠ (TJ6 b).2.1 := by decide +kernel
theorem tyJ6_ok : ∀ k, k < 0 → parseFieldDescriptor (TJ6 k).2.2.1 = some (tyJ6 k) := by decide +kernel
abbrev cJ6_bitCount_0f7a4 : ByteArray := prog_10_method_49_code
def yJ6_bitCount_0f7a4 : MethodName := ⟨RJ6, "bitCount", "(I)I"⟩
def RJ9 : String := "java/lang/Math"
def TJ9 : u_T := fun k => match k with
  | _ => ("", "", "", false)
def tyJ9 : Nat → FieldType := fun k => match k with
  | _ => .int
theorem nmJ9 : ∀ a, a < 0 → ∀ b, b < 0 → a ≠ b → (TJ9 a).2.1 ≠ (TJ9 b).2.1 := by decide +kernel
theorem tyJ9_ok : ∀ k, k < 0 → parseFieldDescriptor (TJ9 k).2.2.1 = some (tyJ9 k) := by decide +kernel
abbrev cJ9_max_7cf53 : ByteArray := prog_11_method_65_code
def yJ9_max_7cf53 : MethodName := ⟨RJ9, "max", "(II)I"⟩
def RJ10 : String := "java/lang/System"
def TJ10 : u_T := fun k => match k with
  | _ => ("", "", "", false)
def tyJ10 : Nat → FieldType := fun k => match k with
  | _ => .int
theorem nmJ10 : ∀ a, a < 0 → ∀ b, b < 0 → a ≠ b → (TJ10 a).2.1 ≠ (TJ10 b).2.1 := by decide +kernel
theorem tyJ10_ok : ∀ k, k < 0 → parseFieldDescriptor (TJ10 k).2.2.1 = some (tyJ10 k) := by decide +kernel
def RL : String := "BackYearLaw"
abbrev cL_law : ByteArray := code
def yL_law : MethodName := ⟨RL, "law", "([I)Z"⟩
end
section
def isNest : Cond → Bool
  | .fieldLinkNest .. => true
  | .methodLinkNest .. => true
  | _ => false
def gw (w : Cond) : Bool := goodWord w || isNest w
/-- the words of the tables that last -/
def TBL : List Cond := lw_tbl.filter gw
theorem tbl_of {args : Array Value} {s : State} (h : ∀ w ∈ lw_tbl, w.before args s = true) : ∀ w ∈ TBL, w.before args s = true := fun w hw => h w (List.mem_filter.mp hw).1
theorem tbl_sel {w : Cond} (i : Nat) (h : (k2_sels lw_privs)[i]? = some w) (hg : gw w = true) : w ∈ TBL := List.mem_filter.mpr ⟨List.mem_append_left _ (List.mem_of_getElem? h), hg⟩
theorem tbl_tab {w : Cond} (i : Nat) (h : tables_1[i]? = some w) (hg : gw w = true) : w ∈ TBL := List.mem_filter.mpr ⟨List.mem_append_right _ (List.mem_of_getElem? h), hg⟩
set_option maxHeartbeats 4000000 in
theorem warm_of {args : Array Value} {s : State} (h : ∀ w ∈ TBL, w.before args s = true) : ∀ w ∈ TBL, ∀ (a' : Array Value) (U : State), s.WarmedH U.vm → w.before a' U = true := by
  intro w hw a' U hW
  have h1 := h w hw
  have h2 : gw w = true := (List.mem_filter.mp hw).2
  have h3 : goodWord w = true ∨ isNest w = true := by
    cases hg : goodWord w with
    | true => exact Or.inl rfl
    | false => exact Or.inr (by unfold gw at h2; rw [hg] at h2; exact h2)
  rcases h3 with h3 | h3
  · exact word_at hW (good_of_word h3) h1
  · cases w <;> first | exact va_Nw.use rfl (va_Nw.warmF hW (va_Nw.of rfl h1)) | exact va_Nw.use rfl (va_Nw.warmM hW (va_Nw.of rfl h1)) | exact Bool.noConfusion h3
/-- the classes whose objects the worlds hold -/
abbrev classes : List vw_C := [(RX5, TX5, 12), (RX3, TX3, 4), (RX2, TX2, 3), (RX6, TX6, 9), (RX7, TX7, 37)]
abbrev tysD (D : va_G) : List (ClassId × FieldType) := [(D.1 10, .int), (D.1 11, .long), (D.1 12, .char)]
def Cx (p : Program) (s : State) (m : MethodId) (args : Array Value) (meth : Method) (c : Code) (cc : ByteArray) (own : String) (nL : Nat) (ret : Option FieldType) (D : va_G) : Prop :=
  p.tables.exec = Jvm.exec ∧ c.code = cc ∧ (∀ w ∈ TBL, w.before args s = true) ∧ s.vm.findClass own = some m.cls ∧ c.maxLocals = nL ∧ va_K D classes (tysD D) s ∧ meth.sig.returnType = ret ∧ meth.locks = false
def G (p : Program) (l : Launch) (e : Env) (R : Room) (s : State) (m : MethodId) (args : Array Value) (below : List Frame) (meth : Method) (c : Code) (D : va_G) (H0 : Heap) (A : Nat → Prop) (nL : Nat) (Q : State → Prop) (ws : va_W) (pc : Nat) (lv : List (Nat × Value)) (st : List Value) : Prop :=
  ∀ (H : Heap) (locs : List Loc) (ls : Array Slot), va_P D classes ws H → va_S A H0 H locs → lv_has ls nL lv → W p l e R s m args below meth c H locs 0 0 Q (F0 m pc ls st)
/-- the addresses of a world -/
def Ad (ws : va_W) : Nat → Prop := fun q => ∃ (k : Nat) (e : va_E), ws[k]? = some (q, e)
/-- a contract: from the world ws to the world ws1, the answer rv, no cell outside A touched -/
def ct (l : Launch) (y : MethodName) (b : ByteArray) (nL : Nat) (ret : Option FieldType) (fr lo : Nat) (D : va_G) (av : List Value) (ws ws1 : va_W) (A : Nat → Prop) (rv : Option Value) : Prop :=
  Met l y (Cond.code y b nL ret :: TBL) { frames := fr, cells := 0, slots := 0, locals := lo } (va_Pc av (fun U => va_P D classes ws U.heap ∧ va_K D classes (tysD D) U)) (fun _ st o t => o = .returned rv ∧ va_P D classes ws1 t.heap ∧ va_F A st t) 0 0 A
theorem ct_intro {l : Launch} {y : MethodName} {b : ByteArray} {nL : Nat} {ret : Option FieldType} {fr lo : Nat} {D : va_G} {av : List Value} {ws ws1 : va_W} {A : Nat → Prop} {rv : Option Value} {own : String} {lv : List (Nat × Value)}
    (hplain : plainName y.cls = true) (hown : y.cls = own) (hn : (lg_sl av).length ≤ nL) (hlv : lv_args 0 av = lv)
    (body : ∀ (p : Program) (e : Env) (s : State) (m : MethodId) (below : List Frame) (meth : Method) (c : Code), Cx p s m av.toArray meth c b own nL ret D →
      G p l e { frames := fr, cells := 0, slots := 0, locals := lo } s m av.toArray below meth c D s.heap A nL (MQ below (fun _ st o t => o = .returned rv ∧ va_P D classes ws1 t.heap ∧ va_F A st t) av.toArray s 0 0 A) ws 0 lv []) :
    ct l y b nL ret fr lo D av ws ws1 A rv := by
  refine Met.ofW (cc := b) (maxL := nL) (ret := ret) hplain rfl ?_
  intro p e s m args below meth c s₁ B hml hv
  obtain ⟨rfl, hP, hK⟩ := hv
  have hts := atoms_spec (ws := Cond.code y b nL ret :: TBL) B.pre
  have hown2 : s.vm.findClass own = some m.cls := by rw [← hown]; exact findClass_of_methodNamed B.named
  have hl := lv_entry av (n := nL) hn
  rw [hlv] at hl
  rw [lg_entry_eq]
  exact body p e s m below meth c ⟨B.exec, B.bytes, fun w hw => hts w (List.mem_cons_of_mem _ hw), hown2, hml, hK, B.returns, B.notSynchronized⟩ s.heap [] _ hP va_S.rf hl
end
section
section GR
variable {p : Program} {l : Launch} {e : Env} {R : Room} {s : State} {m : MethodId} {args : Array Value} {below : List Frame} {meth : Method} {c : Code} {D : va_G} {H0 : Heap} {A : Nat → Prop} {nL : Nat} {Q : State → Prop} {ws : va_W} {pc : Nat} {lv : List (Nat × Value)} {st : List Value} {cc : ByteArray} {own : String} {ret : Option FieldType}
theorem r_ic (C : Cx p s m args meth c cc own nL ret D) {n : Int} {v : Int32} (hdg : decode cc pc = .ok (.iconst n, 1)) (hv : Int32.ofInt n = v) (k : G p l e R s m args below meth c D H0 A nL Q ws (pc + 1) lv (.int v :: st)) : G p l e R s m args below meth c D H0 A nL Q ws pc lv st :=
  fun H locs ls hP hS hl => lv_iconst C.1 C.2.1 hdg hv (k H locs ls hP hS hl)
theorem r_bp (C : Cx p s m args meth c cc own nL ret D) {n : Int} {v : Int32} (hdg : decode cc pc = .ok (.bipush n, 2)) (hv : (Int8.ofInt n).toInt32 = v) (k : G p l e R s m args below meth c D H0 A nL Q ws (pc + 2) lv (.int v :: st)) : G p l e R s m args below meth c D H0 A nL Q ws pc lv st :=
  fun H locs ls hP hS hl => lv_bipush C.1 C.2.1 hdg hv (k H locs ls hP hS hl)
theorem r_sp (C : Cx p s m args meth c cc own nL ret D) {n : Int} {v : Int32} (hdg : decode cc pc = .ok (.sipush n, 3)) (hv : (Int16.ofInt n).toInt32 = v) (k : G p l e R s m args below meth c D H0 A nL Q ws (pc + 3) lv (.int v :: st)) : G p l e R s m args below meth c D H0 A nL Q ws pc lv st :=
  fun H locs ls hP hS hl => lv_sipush C.1 C.2.1 hdg hv (k H locs ls hP hS hl)
theorem r_lc (C : Cx p s m args meth c cc own nL ret D) {n : Fin 2} {v : Int64} (hdg : decode cc pc = .ok (.lconst n, 1)) (hv : Int64.ofNat (n : Nat) = v) (k : G p l e R s m args below meth c D H0 A nL Q ws (pc + 1) lv (.long v :: st)) : G p l e R s m args below meth c D H0 A nL Q ws pc lv st :=
  fun H locs ls hP hS hl => lv_lconst C.1 C.2.1 hdg hv (k H locs ls hP hS hl)
theorem r_iln (C : Cx p s m args meth c cc own nL ret D) {k : Fin 4} {i : Nat} {x : Int32} (hdg : decode cc pc = .ok (.iload_n k, 1)) (hi : (k : Nat) = i) (q : Nat) (hq : lv[q]? = some (i, .int x)) (kk : G p l e R s m args below meth c D H0 A nL Q ws (pc + 1) lv (.int x :: st)) : G p l e R s m args below meth c D H0 A nL Q ws pc lv st :=
  fun H locs ls hP hS hl => lv_iload_n C.1 C.2.1 hdg hi (lv_at hl q hq) (kk H locs ls hP hS hl)
theorem r_il (C : Cx p s m args meth c cc own nL ret D) {i : Nat} {x : Int32} (hdg : decode cc pc = .ok (.iload i, 2)) (q : Nat) (hq : lv[q]? = some (i, .int x)) (kk : G p l e R s m args below meth c D H0 A nL Q ws (pc + 2) lv (.int x :: st)) : G p l e R s m args below meth c D H0 A nL Q ws pc lv st :=
  fun H locs ls hP hS hl => lv_iload C.1 C.2.1 hdg (lv_at hl q hq) (kk H locs ls hP hS hl)
theorem r_lln (C : Cx p s m args meth c cc own nL ret D) {k : Fin 4} {i : Nat} {x : Int64} (hdg : decode cc pc = .ok (.lload_n k, 1)) (hi : (k : Nat) = i) (q : Nat) (hq : lv[q]? = some (i, .long x)) (kk : G p l e R s m args below meth c D H0 A nL Q ws (pc + 1) lv (.long x :: st)) : G p l e R s m args below meth c D H0 A nL Q ws pc lv st :=
  fun H locs ls hP hS hl => lv_lload_n C.1 C.2.1 hdg hi (lv_at hl q hq) (kk H locs ls hP hS hl)
theorem r_ll (C : Cx p s m args meth c cc own nL ret D) {i : Nat} {x : Int64} (hdg : decode cc pc = .ok (.lload i, 2)) (q : Nat) (hq : lv[q]? = some (i, .long x)) (kk : G p l e R s m args below meth c D H0 A nL Q ws (pc + 2) lv (.long x :: st)) : G p l e R s m args below meth c D H0 A nL Q ws pc lv st :=
  fun H locs ls hP hS hl => lv_lload C.1 C.2.1 hdg (lv_at hl q hq) (kk H locs ls hP hS hl)
theorem r_aln (C : Cx p s m args meth c cc own nL ret D) {k : Fin 4} {i : Nat} {x : Nat} (hdg : decode cc pc = .ok (.aload_n k, 1)) (hi : (k : Nat) = i) (q : Nat) (hq : lv[q]? = some (i, .ref x)) (kk : G p l e R s m args below meth c D H0 A nL Q ws (pc + 1) lv (.ref x :: st)) : G p l e R s m args below meth c D H0 A nL Q ws pc lv st :=
  fun H locs ls hP hS hl => lv_aload_n C.1 C.2.1 hdg hi (lv_at hl q hq) (kk H locs ls hP hS hl)
theorem r_al (C : Cx p s m args meth c cc own nL ret D) {i : Nat} {x : Nat} (hdg : decode cc pc = .ok (.aload i, 2)) (q : Nat) (hq : lv[q]? = some (i, .ref x)) (kk : G p l e R s m args below meth c D H0 A nL Q ws (pc + 2) lv (.ref x :: st)) : G p l e R s m args below meth c D H0 A nL Q ws pc lv st :=
  fun H locs ls hP hS hl => lv_aload C.1 C.2.1 hdg (lv_at hl q hq) (kk H locs ls hP hS hl)
theorem r_isn (C : Cx p s m args meth c cc own nL ret D) {k : Fin 4} {i : Nat} {x : Int32} {lv' : List (Nat × Value)} (hdg : decode cc pc = .ok (.istore_n k, 1)) (hi : (k : Nat) = i) (hn : i < nL) (h : (i, Value.int x) :: lv.filter (fun q => !(q.1 == i) && !(q.1 + 1 == i && q.2.category == 2)) = lv') (kk : G p l e R s m args below meth c D H0 A nL Q ws (pc + 1) lv' st) : G p l e R s m args below meth c D H0 A nL Q ws pc lv (.int x :: st) :=
  fun H locs _ hP hS hl => lv_istore_n C.1 C.2.1 hdg hi hl hn h (fun ls hl => kk H locs ls hP hS hl)
theorem r_is (C : Cx p s m args meth c cc own nL ret D) {i : Nat} {x : Int32} {lv' : List (Nat × Value)} (hdg : decode cc pc = .ok (.istore i, 2)) (hn : i < nL) (h : (i, Value.int x) :: lv.filter (fun q => !(q.1 == i) && !(q.1 + 1 == i && q.2.category == 2)) = lv') (kk : G p l e R s m args below meth c D H0 A nL Q ws (pc + 2) lv' st) : G p l e R s m args below meth c D H0 A nL Q ws pc lv (.int x :: st) :=
  fun H locs _ hP hS hl => lv_istore C.1 C.2.1 hdg hl hn h (fun ls hl => kk H locs ls hP hS hl)
theorem r_lsn (C : Cx p s m args meth c cc own nL ret D) {k : Fin 4} {i : Nat} {x : Int64} {lv' : List (Nat × Value)} (hdg : decode cc pc = .ok (.lstore_n k, 1)) (hi : (k : Nat) = i) (hn : i + 1 < nL) (h : (i, Value.long x) :: lv.filter (fun q => !(q.1 == i) && (!(q.1 == i + 1) && !(q.1 + 1 == i && q.2.category == 2))) = lv') (kk : G p l e R s m args below meth c D H0 A nL Q ws (pc + 1) lv' st) : G p l e R s m args below meth c D H0 A nL Q ws pc lv (.long x :: st) :=
  fun H locs _ hP hS hl => lv_lstore_n C.1 C.2.1 hdg hi hl hn h (fun ls hl => kk H locs ls hP hS hl)
theorem r_ls (C : Cx p s m args meth c cc own nL ret D) {i : Nat} {x : Int64} {lv' : List (Nat × Value)} (hdg : decode cc pc = .ok (.lstore i, 2)) (hn : i + 1 < nL) (h : (i, Value.long x) :: lv.filter (fun q => !(q.1 == i) && (!(q.1 == i + 1) && !(q.1 + 1 == i && q.2.category == 2))) = lv') (kk : G p l e R s m args below meth c D H0 A nL Q ws (pc + 2) lv' st) : G p l e R s m args below meth c D H0 A nL Q ws pc lv (.long x :: st) :=
  fun H locs _ hP hS hl => lv_lstore C.1 C.2.1 hdg hl hn h (fun ls hl => kk H locs ls hP hS hl)
theorem r_asn (C : Cx p s m args meth c cc own nL ret D) {k : Fin 4} {i : Nat} {x : Nat} {lv' : List (Nat × Value)} (hdg : decode cc pc = .ok (.astore_n k, 1)) (hi : (k : Nat) = i) (hn : i < nL) (h : (i, Value.ref x) :: lv.filter (fun q => !(q.1 == i) && !(q.1 + 1 == i && q.2.category == 2)) = lv') (kk : G p l e R s m args below meth c D H0 A nL Q ws (pc + 1) lv' st) : G p l e R s m args below meth c D H0 A nL Q ws pc lv (.ref x :: st) :=
  fun H locs _ hP hS hl => lv_astore_n C.1 C.2.1 hdg hi hl hn h (fun ls hl => kk H locs ls hP hS hl)
theorem r_as (C : Cx p s m args meth c cc own nL ret D) {i : Nat} {x : Nat} {lv' : List (Nat × Value)} (hdg : decode cc pc = .ok (.astore i, 2)) (hn : i < nL) (h : (i, Value.ref x) :: lv.filter (fun q => !(q.1 == i) && !(q.1 + 1 == i && q.2.category == 2)) = lv') (kk : G p l e R s m args below meth c D H0 A nL Q ws (pc + 2) lv' st) : G p l e R s m args below meth c D H0 A nL Q ws pc lv (.ref x :: st) :=
  fun H locs _ hP hS hl => lv_astore C.1 C.2.1 hdg hl hn h (fun ls hl => kk H locs ls hP hS hl)
theorem r_inc (C : Cx p s m args meth c cc own nL ret D) {i : Nat} {n : Int} {x v : Int32} {lv' : List (Nat × Value)} (hdg : decode cc pc = .ok (.iinc i n, 3)) (q : Nat) (hk : lv[q]? = some (i, .int x)) (hv : x + Int32.ofInt n = v) (hn : i < nL) (h : (i, Value.int v) :: lv.filter (fun q => !(q.1 == i) && !(q.1 + 1 == i && q.2.category == 2)) = lv') (kk : G p l e R s m args below meth c D H0 A nL Q ws (pc + 3) lv' st) : G p l e R s m args below meth c D H0 A nL Q ws pc lv st :=
  fun H locs _ hP hS hl => lv_iinc C.1 C.2.1 hdg hl hk hv hn h (fun ls hl => kk H locs ls hP hS hl)
theorem r_lv {lv' : List (Nat × Value)} (ks : List Nat) (h : lv_pick lv ks = lv') (k : G p l e R s m args below meth c D H0 A nL Q ws pc lv' st) : G p l e R s m args below meth c D H0 A nL Q ws pc lv st :=
  fun H locs ls hP hS hl => k H locs ls hP hS (lv_sub hl ks h)
theorem r_goto (C : Cx p s m args meth c cc own nL ret D) {off : Int} {tgt : Nat} (hdg : decode cc pc = .ok (.goto off, 3)) (ht : (pc : Int) + off = (tgt : Int)) (k : G p l e R s m args below meth c D H0 A nL Q ws tgt lv st) : G p l e R s m args below meth c D H0 A nL Q ws pc lv st :=
  fun H locs ls hP hS hl => lv_goto C.1 C.2.1 hdg ht (k H locs ls hP hS hl)
theorem r_dup (C : Cx p s m args meth c cc own nL ret D) {v : Value} (hdg : decode cc pc = .ok (.dup, 1)) (hv : v.category = 1) (k : G p l e R s m args below meth c D H0 A nL Q ws (pc + 1) lv (v :: v :: st)) : G p l e R s m args below meth c D H0 A nL Q ws pc lv (v :: st) :=
  fun H locs ls hP hS hl => lv_dup C.1 C.2.1 hdg hv (k H locs ls hP hS hl)
theorem r_dup211 (C : Cx p s m args meth c cc own nL ret D) {v w : Value} (hdg : decode cc pc = .ok (.dup2, 1)) (hv : v.category = 1) (hw : w.category = 1) (k : G p l e R s m args below meth c D H0 A nL Q ws (pc + 1) lv (v :: w :: v :: w :: st)) : G p l e R s m args below meth c D H0 A nL Q ws pc lv (v :: w :: st) :=
  fun H locs ls hP hS hl => lv_dup2_11 C.1 C.2.1 hdg hv hw (k H locs ls hP hS hl)
theorem r_pop (C : Cx p s m args meth c cc own nL ret D) {v : Value} (hdg : decode cc pc = .ok (.pop, 1)) (hv : v.category = 1) (k : G p l e R s m args below meth c D H0 A nL Q ws (pc + 1) lv st) : G p l e R s m args below meth c D H0 A nL Q ws pc lv (v :: st) :=
  fun H locs ls hP hS hl => lv_pop C.1 C.2.1 hdg hv (k H locs ls hP hS hl)
theorem r_iadd (C : Cx p s m args meth c cc own nL ret D) {x y : Int32} (hdg : decode cc pc = .ok (.iadd, 1)) (k : G p l e R s m args below meth c D H0 A nL Q ws (pc + 1) lv (.int (x + y) :: st)) : G p l e R s m args below meth c D H0 A nL Q ws pc lv (.int y :: .int x :: st) :=
  fun H locs ls hP hS hl => lv_iadd C.1 C.2.1 hdg (k H locs ls hP hS hl)
theorem r_isub (C : Cx p s m args meth c cc own nL ret D) {x y : Int32} (hdg : decode cc pc = .ok (.isub, 1)) (k : G p l e R s m args below meth c D H0 A nL Q ws (pc + 1) lv (.int (x - y) :: st)) : G p l e R s m args below meth c D H0 A nL Q ws pc lv (.int y :: .int x :: st) :=
  fun H locs ls hP hS hl => lv_isub C.1 C.2.1 hdg (k H locs ls hP hS hl)
theorem r_imul (C : Cx p s m args meth c cc own nL ret D) {x y : Int32} (hdg : decode cc pc = .ok (.imul, 1)) (k : G p l e R s m args below meth c D H0 A nL Q ws (pc + 1) lv (.int (x * y) :: st)) : G p l e R s m args below meth c D H0 A nL Q ws pc lv (.int y :: .int x :: st) :=
  fun H locs ls hP hS hl => lv_imul C.1 C.2.1 hdg (k H locs ls hP hS hl)
theorem r_iand (C : Cx p s m args meth c cc own nL ret D) {x y : Int32} (hdg : decode cc pc = .ok (.iand, 1)) (k : G p l e R s m args below meth c D H0 A nL Q ws (pc + 1) lv (.int (x &&& y) :: st)) : G p l e R s m args below meth c D H0 A nL Q ws pc lv (.int y :: .int x :: st) :=
  fun H locs ls hP hS hl => lv_iand C.1 C.2.1 hdg (k H locs ls hP hS hl)
theorem r_ior (C : Cx p s m args meth c cc own nL ret D) {x y : Int32} (hdg : decode cc pc = .ok (.ior, 1)) (k : G p l e R s m args below meth c D H0 A nL Q ws (pc + 1) lv (.int (x ||| y) :: st)) : G p l e R s m args below meth c D H0 A nL Q ws pc lv (.int y :: .int x :: st) :=
  fun H locs ls hP hS hl => lv_ior C.1 C.2.1 hdg (k H locs ls hP hS hl)
theorem r_ixor (C : Cx p s m args meth c cc own nL ret D) {x y : Int32} (hdg : decode cc pc = .ok (.ixor, 1)) (k : G p l e R s m args below meth c D H0 A nL Q ws (pc + 1) lv (.int (x ^^^ y) :: st)) : G p l e R s m args below meth c D H0 A nL Q ws pc lv (.int y :: .int x :: st) :=
  fun H locs ls hP hS hl => lv_ixor C.1 C.2.1 hdg (k H locs ls hP hS hl)
theorem r_ishl (C : Cx p s m args meth c cc own nL ret D) {x y : Int32} (hdg : decode cc pc = .ok (.ishl, 1)) (k : G p l e R s m args below meth c D H0 A nL Q ws (pc + 1) lv (.int (x <<< (y &&& 31)) :: st)) : G p l e R s m args below meth c D H0 A nL Q ws pc lv (.int y :: .int x :: st) :=
  fun H locs ls hP hS hl => lv_ishl C.1 C.2.1 hdg (k H locs ls hP hS hl)
theorem r_ishr (C : Cx p s m args meth c cc own nL ret D) {x y : Int32} (hdg : decode cc pc = .ok (.ishr, 1)) (k : G p l e R s m args below meth c D H0 A nL Q ws (pc + 1) lv (.int (x >>> (y &&& 31)) :: st)) : G p l e R s m args below meth c D H0 A nL Q ws pc lv (.int y :: .int x :: st) :=
  fun H locs ls hP hS hl => lv_ishr C.1 C.2.1 hdg (k H locs ls hP hS hl)
theorem r_idiv (C : Cx p s m args meth c cc own nL ret D) {x y : Int32} (hdg : decode cc pc = .ok (.idiv, 1)) (hne : ¬ y = 0) (k : G p l e R s m args below meth c D H0 A nL Q ws (pc + 1) lv (.int (x / y) :: st)) : G p l e R s m args below meth c D H0 A nL Q ws pc lv (.int y :: .int x :: st) :=
  fun H locs ls hP hS hl => lv_idiv C.1 C.2.1 hdg hne (k H locs ls hP hS hl)
theorem r_irem (C : Cx p s m args meth c cc own nL ret D) {x y : Int32} (hdg : decode cc pc = .ok (.irem, 1)) (hne : ¬ y = 0) (k : G p l e R s m args below meth c D H0 A nL Q ws (pc + 1) lv (.int (x - x / y * y) :: st)) : G p l e R s m args below meth c D H0 A nL Q ws pc lv (.int y :: .int x :: st) :=
  fun H locs ls hP hS hl => lv_irem C.1 C.2.1 hdg hne (k H locs ls hP hS hl)
theorem r_ineg (C : Cx p s m args meth c cc own nL ret D) {x : Int32} (hdg : decode cc pc = .ok (.ineg, 1)) (k : G p l e R s m args below meth c D H0 A nL Q ws (pc + 1) lv (.int (-x) :: st)) : G p l e R s m args below meth c D H0 A nL Q ws pc lv (.int x :: st) :=
  fun H locs ls hP hS hl => lv_ineg C.1 C.2.1 hdg (k H locs ls hP hS hl)
theorem r_ladd (C : Cx p s m args meth c cc own nL ret D) {x y : Int64} (hdg : decode cc pc = .ok (.ladd, 1)) (k : G p l e R s m args below meth c D H0 A nL Q ws (pc + 1) lv (.long (x + y) :: st)) : G p l e R s m args below meth c D H0 A nL Q ws pc lv (.long y :: .long x :: st) :=
  fun H locs ls hP hS hl => lv_ladd C.1 C.2.1 hdg (k H locs ls hP hS hl)
theorem r_lsub (C : Cx p s m args meth c cc own nL ret D) {x y : Int64} (hdg : decode cc pc = .ok (.lsub, 1)) (k : G p l e R s m args below meth c D H0 A nL Q ws (pc + 1) lv (.long (x - y) :: st)) : G p l e R s m args below meth c D H0 A nL Q ws pc lv (.long y :: .long x :: st) :=
  fun H locs ls hP hS hl => lv_lsub C.1 C.2.1 hdg (k H locs ls hP hS hl)
theorem r_lmul (C : Cx p s m args meth c cc own nL ret D) {x y : Int64} (hdg : decode cc pc = .ok (.lmul, 1)) (k : G p l e R s m args below meth c D H0 A nL Q ws (pc + 1) lv (.long (x * y) :: st)) : G p l e R s m args below meth c D H0 A nL Q ws pc lv (.long y :: .long x :: st) :=
  fun H locs ls hP hS hl => lv_lmul C.1 C.2.1 hdg (k H locs ls hP hS hl)
theorem r_land (C : Cx p s m args meth c cc own nL ret D) {x y : Int64} (hdg : decode cc pc = .ok (.land, 1)) (k : G p l e R s m args below meth c D H0 A nL Q ws (pc + 1) lv (.long (x &&& y) :: st)) : G p l e R s m args below meth c D H0 A nL Q ws pc lv (.long y :: .long x :: st) :=
  fun H locs ls hP hS hl => lv_land C.1 C.2.1 hdg (k H locs ls hP hS hl)
theorem r_lor (C : Cx p s m args meth c cc own nL ret D) {x y : Int64} (hdg : decode cc pc = .ok (.lor, 1)) (k : G p l e R s m args below meth c D H0 A nL Q ws (pc + 1) lv (.long (x ||| y) :: st)) : G p l e R s m args below meth c D H0 A nL Q ws pc lv (.long y :: .long x :: st) :=
  fun H locs ls hP hS hl => lv_lor C.1 C.2.1 hdg (k H locs ls hP hS hl)
theorem r_lxor (C : Cx p s m args meth c cc own nL ret D) {x y : Int64} (hdg : decode cc pc = .ok (.lxor, 1)) (k : G p l e R s m args below meth c D H0 A nL Q ws (pc + 1) lv (.long (x ^^^ y) :: st)) : G p l e R s m args below meth c D H0 A nL Q ws pc lv (.long y :: .long x :: st) :=
  fun H locs ls hP hS hl => lv_lxor C.1 C.2.1 hdg (k H locs ls hP hS hl)
theorem r_ldiv (C : Cx p s m args meth c cc own nL ret D) {x y : Int64} (hdg : decode cc pc = .ok (.ldiv, 1)) (hne : ¬ y = 0) (k : G p l e R s m args below meth c D H0 A nL Q ws (pc + 1) lv (.long (x / y) :: st)) : G p l e R s m args below meth c D H0 A nL Q ws pc lv (.long y :: .long x :: st) :=
  fun H locs ls hP hS hl => lv_ldiv C.1 C.2.1 hdg hne (k H locs ls hP hS hl)
theorem r_lrem (C : Cx p s m args meth c cc own nL ret D) {x y : Int64} (hdg : decode cc pc = .ok (.lrem, 1)) (hne : ¬ y = 0) (k : G p l e R s m args below meth c D H0 A nL Q ws (pc + 1) lv (.long (x - x / y * y) :: st)) : G p l e R s m args below meth c D H0 A nL Q ws pc lv (.long y :: .long x :: st) :=
  fun H locs ls hP hS hl => lv_lrem C.1 C.2.1 hdg hne (k H locs ls hP hS hl)
theorem r_lneg (C : Cx p s m args meth c cc own nL ret D) {x : Int64} (hdg : decode cc pc = .ok (.lneg, 1)) (k : G p l e R s m args below meth c D H0 A nL Q ws (pc + 1) lv (.long (-x) :: st)) : G p l e R s m args below meth c D H0 A nL Q ws pc lv (.long x :: st) :=
  fun H locs ls hP hS hl => lv_lneg C.1 C.2.1 hdg (k H locs ls hP hS hl)
theorem r_lcmp (C : Cx p s m args meth c cc own nL ret D) {x y : Int64} (hdg : decode cc pc = .ok (.lcmp, 1)) (k : G p l e R s m args below meth c D H0 A nL Q ws (pc + 1) lv (.int (lg_cmp x y) :: st)) : G p l e R s m args below meth c D H0 A nL Q ws pc lv (.long y :: .long x :: st) :=
  fun H locs ls hP hS hl => W.lcmp C.1 C.2.1 hdg (k H locs ls hP hS hl)
theorem r_i2l (C : Cx p s m args meth c cc own nL ret D) {x : Int32} (hdg : decode cc pc = .ok (.i2l, 1)) (k : G p l e R s m args below meth c D H0 A nL Q ws (pc + 1) lv (.long x.toInt64 :: st)) : G p l e R s m args below meth c D H0 A nL Q ws pc lv (.int x :: st) :=
  fun H locs ls hP hS hl => lv_i2l C.1 C.2.1 hdg rfl (k H locs ls hP hS hl)
theorem r_l2i (C : Cx p s m args meth c cc own nL ret D) {x : Int64} (hdg : decode cc pc = .ok (.l2i, 1)) (k : G p l e R s m args below meth c D H0 A nL Q ws (pc + 1) lv (.int x.toInt32 :: st)) : G p l e R s m args below meth c D H0 A nL Q ws pc lv (.long x :: st) :=
  fun H locs ls hP hS hl => lv_l2i C.1 C.2.1 hdg rfl (k H locs ls hP hS hl)
theorem r_i2b (C : Cx p s m args meth c cc own nL ret D) {x : Int32} (hdg : decode cc pc = .ok (.i2b, 1)) (k : G p l e R s m args below meth c D H0 A nL Q ws (pc + 1) lv (.int x.toInt8.toInt32 :: st)) : G p l e R s m args below meth c D H0 A nL Q ws pc lv (.int x :: st) :=
  fun H locs ls hP hS hl => lv_i2b C.1 C.2.1 hdg rfl (k H locs ls hP hS hl)
theorem r_i2s (C : Cx p s m args meth c cc own nL ret D) {x : Int32} (hdg : decode cc pc = .ok (.i2s, 1)) (k : G p l e R s m args below meth c D H0 A nL Q ws (pc + 1) lv (.int x.toInt16.toInt32 :: st)) : G p l e R s m args below meth c D H0 A nL Q ws pc lv (.int x :: st) :=
  fun H locs ls hP hS hl => lv_i2s C.1 C.2.1 hdg rfl (k H locs ls hP hS hl)
theorem r_iushr (C : Cx p s m args meth c cc own nL ret D) {x y : Int32} (hdg : decode cc pc = .ok (.iushr, 1)) (k : G p l e R s m args below meth c D H0 A nL Q ws (pc + 1) lv (.int ((x.toUInt32 >>> (y.toUInt32 &&& Int32.toUInt32 31)).toInt32) :: st)) : G p l e R s m args below meth c D H0 A nL Q ws pc lv (.int y :: .int x :: st) :=
  fun H locs ls hP hS hl => lv_iushr C.1 C.2.1 hdg rfl (k H locs ls hP hS hl)
theorem r_lshl (C : Cx p s m args meth c cc own nL ret D) {x : Int64} {y : Int32} (hdg : decode cc pc = .ok (.lshl, 1)) (k : G p l e R s m args below meth c D H0 A nL Q ws (pc + 1) lv (.long (x <<< (y.toInt64 &&& 63)) :: st)) : G p l e R s m args below meth c D H0 A nL Q ws pc lv (.int y :: .long x :: st) :=
  fun H locs ls hP hS hl => lv_lshl C.1 C.2.1 hdg rfl (k H locs ls hP hS hl)
theorem r_lshr (C : Cx p s m args meth c cc own nL ret D) {x : Int64} {y : Int32} (hdg : decode cc pc = .ok (.lshr, 1)) (k : G p l e R s m args below meth c D H0 A nL Q ws (pc + 1) lv (.long (x >>> (y.toInt64 &&& 63)) :: st)) : G p l e R s m args below meth c D H0 A nL Q ws pc lv (.int y :: .long x :: st) :=
  fun H locs ls hP hS hl => lv_lshr C.1 C.2.1 hdg rfl (k H locs ls hP hS hl)
theorem r_ifeq (C : Cx p s m args meth c cc own nL ret D) {x : Int32} {off : Int} {tgt : Nat} (hdg : decode cc pc = .ok (.ifCond .eq off, 3)) (ht : (pc : Int) + off = (tgt : Int)) (kt : x = (0 : Int32) → G p l e R s m args below meth c D H0 A nL Q ws tgt lv st) (kf : ¬ x = (0 : Int32) → G p l e R s m args below meth c D H0 A nL Q ws (pc + 3) lv st) : G p l e R s m args below meth c D H0 A nL Q ws pc lv (.int x :: st) :=
  fun H locs ls hP hS hl => lv_if_eq C.1 C.2.1 hdg ht (fun z => kt z H locs ls hP hS hl) (fun z => kf z H locs ls hP hS hl)
theorem r_iceq (C : Cx p s m args meth c cc own nL ret D) {x y : Int32} {off : Int} {tgt : Nat} (hdg : decode cc pc = .ok (.if_icmp .eq off, 3)) (ht : (pc : Int) + off = (tgt : Int)) (kt : x = y → G p l e R s m args below meth c D H0 A nL Q ws tgt lv st) (kf : ¬ x = y → G p l e R s m args below meth c D H0 A nL Q ws (pc + 3) lv st) : G p l e R s m args below meth c D H0 A nL Q ws pc lv (.int y :: .int x :: st) :=
  fun H locs ls hP hS hl => lv_icmp_eq C.1 C.2.1 hdg ht (fun z => kt z H locs ls hP hS hl) (fun z => kf z H locs ls hP hS hl)
theorem r_ifne (C : Cx p s m args meth c cc own nL ret D) {x : Int32} {off : Int} {tgt : Nat} (hdg : decode cc pc = .ok (.ifCond .ne off, 3)) (ht : (pc : Int) + off = (tgt : Int)) (kt : ¬ x = (0 : Int32) → G p l e R s m args below meth c D H0 A nL Q ws tgt lv st) (kf : x = (0 : Int32) → G p l e R s m args below meth c D H0 A nL Q ws (pc + 3) lv st) : G p l e R s m args below meth c D H0 A nL Q ws pc lv (.int x :: st) :=
  fun H locs ls hP hS hl => lv_if_ne C.1 C.2.1 hdg ht (fun z => kt z H locs ls hP hS hl) (fun z => kf z H locs ls hP hS hl)
theorem r_icne (C : Cx p s m args meth c cc own nL ret D) {x y : Int32} {off : Int} {tgt : Nat} (hdg : decode cc pc = .ok (.if_icmp .ne off, 3)) (ht : (pc : Int) + off = (tgt : Int)) (kt : ¬ x = y → G p l e R s m args below meth c D H0 A nL Q ws tgt lv st) (kf : x = y → G p l e R s m args below meth c D H0 A nL Q ws (pc + 3) lv st) : G p l e R s m args below meth c D H0 A nL Q ws pc lv (.int y :: .int x :: st) :=
  fun H locs ls hP hS hl => lv_icmp_ne C.1 C.2.1 hdg ht (fun z => kt z H locs ls hP hS hl) (fun z => kf z H locs ls hP hS hl)
theorem r_iflt (C : Cx p s m args meth c cc own nL ret D) {x : Int32} {off : Int} {tgt : Nat} (hdg : decode cc pc = .ok (.ifCond .lt off, 3)) (ht : (pc : Int) + off = (tgt : Int)) (kt : x < (0 : Int32) → G p l e R s m args below meth c D H0 A nL Q ws tgt lv st) (kf : ¬ x < (0 : Int32) → G p l e R s m args below meth c D H0 A nL Q ws (pc + 3) lv st) : G p l e R s m args below meth c D H0 A nL Q ws pc lv (.int x :: st) :=
  fun H locs ls hP hS hl => lv_if_lt C.1 C.2.1 hdg ht (fun z => kt z H locs ls hP hS hl) (fun z => kf z H locs ls hP hS hl)
theorem r_iclt (C : Cx p s m args meth c cc own nL ret D) {x y : Int32} {off : Int} {tgt : Nat} (hdg : decode cc pc = .ok (.if_icmp .lt off, 3)) (ht : (pc : Int) + off = (tgt : Int)) (kt : x < y → G p l e R s m args below meth c D H0 A nL Q ws tgt lv st) (kf : ¬ x < y → G p l e R s m args below meth c D H0 A nL Q ws (pc + 3) lv st) : G p l e R s m args below meth c D H0 A nL Q ws pc lv (.int y :: .int x :: st) :=
  fun H locs ls hP hS hl => lv_icmp_lt C.1 C.2.1 hdg ht (fun z => kt z H locs ls hP hS hl) (fun z => kf z H locs ls hP hS hl)
theorem r_ifge (C : Cx p s m args meth c cc own nL ret D) {x : Int32} {off : Int} {tgt : Nat} (hdg : decode cc pc = .ok (.ifCond .ge off, 3)) (ht : (pc : Int) + off = (tgt : Int)) (kt : ¬ x < (0 : Int32) → G p l e R s m args below meth c D H0 A nL Q ws tgt lv st) (kf : x < (0 : Int32) → G p l e R s m args below meth c D H0 A nL Q ws (pc + 3) lv st) : G p l e R s m args below meth c D H0 A nL Q ws pc lv (.int x :: st) :=
  fun H locs ls hP hS hl => lv_if_ge C.1 C.2.1 hdg ht (fun z => kt (Int32.not_lt.mpr z) H locs ls hP hS hl) (fun z => kf (Int32.not_le.mp z) H locs ls hP hS hl)
theorem r_icge (C : Cx p s m args meth c cc own nL ret D) {x y : Int32} {off : Int} {tgt : Nat} (hdg : decode cc pc = .ok (.if_icmp .ge off, 3)) (ht : (pc : Int) + off = (tgt : Int)) (kt : ¬ x < y → G p l e R s m args below meth c D H0 A nL Q ws tgt lv st) (kf : x < y → G p l e R s m args below meth c D H0 A nL Q ws (pc + 3) lv st) : G p l e R s m args below meth c D H0 A nL Q ws pc lv (.int y :: .int x :: st) :=
  fun H locs ls hP hS hl => lv_icmp_ge C.1 C.2.1 hdg ht (fun z => kt (Int32.not_lt.mpr z) H locs ls hP hS hl) (fun z => kf (Int32.not_le.mp z) H locs ls hP hS hl)
theorem r_ifgt (C : Cx p s m args meth c cc own nL ret D) {x : Int32} {off : Int} {tgt : Nat} (hdg : decode cc pc = .ok (.ifCond .gt off, 3)) (ht : (pc : Int) + off = (tgt : Int)) (kt : (0 : Int32) < x → G p l e R s m args below meth c D H0 A nL Q ws tgt lv st) (kf : ¬ (0 : Int32) < x → G p l e R s m args below meth c D H0 A nL Q ws (pc + 3) lv st) : G p l e R s m args below meth c D H0 A nL Q ws pc lv (.int x :: st) :=
  fun H locs ls hP hS hl => lv_if_gt C.1 C.2.1 hdg ht (fun z => kt z H locs ls hP hS hl) (fun z => kf z H locs ls hP hS hl)
theorem r_icgt (C : Cx p s m args meth c cc own nL ret D) {x y : Int32} {off : Int} {tgt : Nat} (hdg : decode cc pc = .ok (.if_icmp .gt off, 3)) (ht : (pc : Int) + off = (tgt : Int)) (kt : y < x → G p l e R s m args below meth c D H0 A nL Q ws tgt lv st) (kf : ¬ y < x → G p l e R s m args below meth c D H0 A nL Q ws (pc + 3) lv st) : G p l e R s m args below meth c D H0 A nL Q ws pc lv (.int y :: .int x :: st) :=
  fun H locs ls hP hS hl => lv_icmp_gt C.1 C.2.1 hdg ht (fun z => kt z H locs ls hP hS hl) (fun z => kf z H locs ls hP hS hl)
theorem r_ifle (C : Cx p s m args meth c cc own nL ret D) {x : Int32} {off : Int} {tgt : Nat} (hdg : decode cc pc = .ok (.ifCond .le off, 3)) (ht : (pc : Int) + off = (tgt : Int)) (kt : ¬ (0 : Int32) < x → G p l e R s m args below meth c D H0 A nL Q ws tgt lv st) (kf : (0 : Int32) < x → G p l e R s m args below meth c D H0 A nL Q ws (pc + 3) lv st) : G p l e R s m args below meth c D H0 A nL Q ws pc lv (.int x :: st) :=
  fun H locs ls hP hS hl => lv_if_le C.1 C.2.1 hdg ht (fun z => kt (Int32.not_lt.mpr z) H locs ls hP hS hl) (fun z => kf (Int32.not_le.mp z) H locs ls hP hS hl)
theorem r_icle (C : Cx p s m args meth c cc own nL ret D) {x y : Int32} {off : Int} {tgt : Nat} (hdg : decode cc pc = .ok (.if_icmp .le off, 3)) (ht : (pc : Int) + off = (tgt : Int)) (kt : ¬ y < x → G p l e R s m args below meth c D H0 A nL Q ws tgt lv st) (kf : y < x → G p l e R s m args below meth c D H0 A nL Q ws (pc + 3) lv st) : G p l e R s m args below meth c D H0 A nL Q ws pc lv (.int y :: .int x :: st) :=
  fun H locs ls hP hS hl => lv_icmp_le C.1 C.2.1 hdg ht (fun z => kt (Int32.not_lt.mpr z) H locs ls hP hS hl) (fun z => kf (Int32.not_le.mp z) H locs ls hP hS hl)
theorem r_i2c (C : Cx p s m args meth c cc own nL ret D) {x : Int32} (hdg : decode cc pc = .ok (.i2c, 1)) (k : G p l e R s m args below meth c D H0 A nL Q ws (pc + 1) lv (.int ((x.toUInt32 % 65536).toInt32) :: st)) : G p l e R s m args below meth c D H0 A nL Q ws pc lv (.int x :: st) :=
  fun H locs ls hP hS hl => lv_i2c C.1 C.2.1 hdg rfl (k H locs ls hP hS hl)
theorem r_ldc (C : Cx p s m args meth c cc own nL ret D) {index : Nat} {v : Int32} (hw : Cond.constant own index v ∈ TBL) (hdg : decode cc pc = .ok (.ldc index, 2)) (k : G p l e R s m args below meth c D H0 A nL Q ws (pc + 2) lv (.int v :: st)) : G p l e R s m args below meth c D H0 A nL Q ws pc lv st :=
  fun H locs ls hP hS hl => lv_ldc C.1 C.2.1 C.2.2.2.1 (C.2.2.1 _ hw) hdg (k H locs ls hP hS hl)
theorem r_ldcw (C : Cx p s m args meth c cc own nL ret D) {index : Nat} {v : Int32} (hw : Cond.constant own index v ∈ TBL) (hdg : decode cc pc = .ok (.ldc_w index, 3)) (k : G p l e R s m args below meth c D H0 A nL Q ws (pc + 3) lv (.int v :: st)) : G p l e R s m args below meth c D H0 A nL Q ws pc lv st :=
  fun H locs ls hP hS hl => lv_ldcw C.1 C.2.1 C.2.2.2.1 (C.2.2.1 _ hw) hdg (k H locs ls hP hS hl)
theorem r_ldc2 (C : Cx p s m args meth c cc own nL ret D) {index : Nat} {v : Int64} (hw : Cond.constantLong own index v ∈ TBL) (hdg : decode cc pc = .ok (.ldc2_w index, 3)) (k : G p l e R s m args below meth c D H0 A nL Q ws (pc + 3) lv (.long v :: st)) : G p l e R s m args below meth c D H0 A nL Q ws pc lv st :=
  fun H locs ls hP hS hl => lv_ldc2 C.1 C.2.1 C.2.2.2.1 (C.2.2.1 _ hw) hdg (k H locs ls hP hS hl)
theorem r_tabIn (C : Cx p s m args meth c cc own nL ret D) {dflt lo hi : Int} {offs : Array Int} {len : Nat} {x : Int32} {off : Int} {tgt : Nat} (hdg : decode cc pc = .ok (.tableswitch dflt lo hi offs, len)) (h1 : ¬ x.toInt < lo) (h2 : ¬ hi < x.toInt) (ho : offs[(x.toInt - lo).toNat]? = some off) (ht : (pc : Int) + off = (tgt : Int)) (k : G p l e R s m args below meth c D H0 A nL Q ws tgt lv st) : G p l e R s m args below meth c D H0 A nL Q ws pc lv (.int x :: st) :=
  fun H locs ls hP hS hl => lv_tableIn C.1 C.2.1 hdg h1 h2 ho ht (k H locs ls hP hS hl)
theorem r_tabOut (C : Cx p s m args meth c cc own nL ret D) {dflt lo hi : Int} {offs : Array Int} {len : Nat} {x : Int32} {tgt : Nat} (hdg : decode cc pc = .ok (.tableswitch dflt lo hi offs, len)) (h : x.toInt < lo ∨ hi < x.toInt) (ht : (pc : Int) + dflt = (tgt : Int)) (k : G p l e R s m args below meth c D H0 A nL Q ws tgt lv st) : G p l e R s m args below meth c D H0 A nL Q ws pc lv (.int x :: st) :=
  fun H locs ls hP hS hl => lv_tableOut C.1 C.2.1 hdg h ht (k H locs ls hP hS hl)
theorem r_look (C : Cx p s m args meth c cc own nL ret D) {dflt : Int} {ps : Array (Int × Int)} {len : Nat} {x : Int32} {off : Int} {tgt : Nat} (hdg : decode cc pc = .ok (.lookupswitch dflt ps, len)) (hp : (ps.toList.zip (ps.toList.drop 1)).all (fun (a, next) => a.1 < next.1) = true) (ho : Op.lookupswitch.offset ps.toList dflt x.toInt = off) (ht : (pc : Int) + off = (tgt : Int)) (k : G p l e R s m args below meth c D H0 A nL Q ws tgt lv st) : G p l e R s m args below meth c D H0 A nL Q ws pc lv (.int x :: st) :=
  fun H locs ls hP hS hl => lv_lookup C.1 C.2.1 hdg hp ho ht (k H locs ls hP hS hl)
theorem r_iald (C : Cx p s m args meth c cc own nL ret D) (q0 : Nat) {a n : Nat} {f : Nat → Int32} {i : Int32} {y : Int32} (j : Nat) (ha : ws[q0]? = some (a, .inl (D.1 10, n, .inl f))) (hi : i = nI j) (hj : j < n) (hn : n ≤ 200) (hy : f j = y) (hdg : decode cc pc = .ok (.iaload, 1)) (k : G p l e R s m args below meth c D H0 A nL Q ws (pc + 1) lv (.int y :: st)) : G p l e R s m args below meth c D H0 A nL Q ws pc lv (.int i :: .ref a :: st) := by
  intro H locs ls hP hS hl
  subst hi; subst hy
  have e : (nI j).toNatClampNeg = j := nI_clamp (by omega)
  refine va_iald C.1 C.2.1 C.2.2.2.2.2.1 hP q0 0 ha rfl (vp_in_nI hj (by omega)) hdg ?_
  rw [e]
  exact k H locs ls hP hS hl
theorem r_cald (C : Cx p s m args meth c cc own nL ret D) (q0 : Nat) {a n : Nat} {f : Nat → Int32} {i : Int32} {y : Int32} (j : Nat) (ha : ws[q0]? = some (a, .inl (D.1 12, n, .inl f))) (hi : i = nI j) (hj : j < n) (hn : n ≤ 200) (hy : f j = y) (hdg : decode cc pc = .ok (.caload, 1)) (k : G p l e R s m args below meth c D H0 A nL Q ws (pc + 1) lv (.int y :: st)) : G p l e R s m args below meth c D H0 A nL Q ws pc lv (.int i :: .ref a :: st) := by
  intro H locs ls hP hS hl
  subst hi; subst hy
  have e : (nI j).toNatClampNeg = j := nI_clamp (by omega)
  refine va_cald C.1 C.2.1 C.2.2.2.2.2.1 hP q0 2 ha rfl (vp_in_nI hj (by omega)) hdg ?_
  rw [e]
  exact k H locs ls hP hS hl
theorem r_lald (C : Cx p s m args meth c cc own nL ret D) (q0 : Nat) {a n : Nat} {f : Nat → Int64} {i : Int32} {y : Int64} (j : Nat) (ha : ws[q0]? = some (a, .inl (D.1 11, n, .inr (.inl f)))) (hi : i = nI j) (hj : j < n) (hn : n ≤ 200) (hy : f j = y) (hdg : decode cc pc = .ok (.laload, 1)) (k : G p l e R s m args below meth c D H0 A nL Q ws (pc + 1) lv (.long y :: st)) : G p l e R s m args below meth c D H0 A nL Q ws pc lv (.int i :: .ref a :: st) := by
  intro H locs ls hP hS hl
  subst hi; subst hy
  have e : (nI j).toNatClampNeg = j := nI_clamp (by omega)
  refine va_lald C.1 C.2.1 C.2.2.2.2.2.1 hP q0 1 ha rfl (vp_in_nI hj (by omega)) hdg ?_
  rw [e]
  exact k H locs ls hP hS hl
theorem r_alen (C : Cx p s m args meth c cc own nL ret D) (q0 t0 : Nat) {a n : Nat} {ty : FieldType} {x : (Nat → Int32) ⊕ (Nat → Int64) ⊕ (Nat → UInt32) ⊕ (Nat → UInt64) ⊕ (Nat → Option Nat)} {cA : ClassId} (ha : ws[q0]? = some (a, .inl (cA, n, x))) (ht : (tysD D)[t0]? = some (cA, ty)) (hdg : decode cc pc = .ok (.arraylength, 1)) (k : G p l e R s m args below meth c D H0 A nL Q ws (pc + 1) lv (.int (nI n) :: st)) : G p l e R s m args below meth c D H0 A nL Q ws pc lv (.ref a :: st) :=
  fun H locs ls hP hS hl => va_alen C.1 C.2.1 C.2.2.2.2.2.1 hP q0 t0 ha ht rfl hdg (k H locs ls hP hS hl)
/-- distinct addresses, whatever the cells hold -/
theorem dis_of {w0 : va_W} {B : Nat → Prop} (h0 : va_D B w0) (h : ws.map (·.1) = w0.map (·.1)) : va_D (Ad w0) ws := by
  have at0 : ∀ (k : Nat) (q : Nat × va_E), ws[k]? = some q → ∃ e, w0[k]? = some (q.1, e) := by
    intro k q hq
    have h1 : (ws.map (·.1))[k]? = some q.1 := by rw [List.getElem?_map, hq]; rfl
    rw [h, List.getElem?_map] at h1
    cases h2 : w0[k]? with
    | none => rw [h2] at h1; cases h1
    | some z => rw [h2] at h1; exact ⟨z.2, by rw [← Option.some.inj h1]⟩
  refine ⟨fun i j p q hi hj hpq => ?_, fun k q hk => ?_⟩
  · obtain ⟨e1, h1⟩ := at0 i p hi
    obtain ⟨e2, h2⟩ := at0 j q hj
    exact h0.1 i j _ _ h1 h2 hpq
  · obtain ⟨e1, h1⟩ := at0 k q hk
    exact ⟨k, e1, h1⟩
theorem r_iast (C : Cx p s m args meth c cc own nL ret D) {w0 ws2 : va_W} {B : Nat → Prop} (h0 : va_D B w0) (hA : Ad w0 = A) (q0 : Nat) {a n : Nat} {f : Nat → Int32} {i x : Int32} (j : Nat) (ha : ws[q0]? = some (a, .inl (D.1 10, n, .inl f))) (hi : i = nI j) (hj : j < n) (hn : n ≤ 200) (hdg : decode cc pc = .ok (.iastore, 1)) (hw : ws.map (·.1) = w0.map (·.1)) (h2 : ws.set q0 (a, .inl (D.1 10, n, .inl (upd f j x))) = ws2) (k : G p l e R s m args below meth c D H0 A nL Q ws2 (pc + 1) lv st) : G p l e R s m args below meth c D H0 A nL Q ws pc lv (.int x :: .int i :: .ref a :: st) := by
  intro H locs ls hP hS hl
  subst hi; subst hA
  have e : (nI j).toNatClampNeg = j := nI_clamp (by omega)
  refine va_iast C.1 C.2.1 C.2.2.2.2.2.1 hP (dis_of h0 hw) hS q0 0 ha rfl (vp_in_nI hj (by omega)) hdg (fun H1 l1 hP1 _ hS1 => ?_)
  rw [e, h2] at hP1
  exact k H1 l1 ls hP1 hS1 hl
theorem r_cast (C : Cx p s m args meth c cc own nL ret D) {w0 ws2 : va_W} {B : Nat → Prop} (h0 : va_D B w0) (hA : Ad w0 = A) (q0 : Nat) {a n : Nat} {f : Nat → Int32} {i x : Int32} (j : Nat) (ha : ws[q0]? = some (a, .inl (D.1 12, n, .inl f))) (hi : i = nI j) (hj : j < n) (hn : n ≤ 200) (hdg : decode cc pc = .ok (.castore, 1)) (hw : ws.map (·.1) = w0.map (·.1)) (h2 : ws.set q0 (a, .inl (D.1 12, n, .inl (upd f j (vp_nar .char x)))) = ws2) (k : G p l e R s m args below meth c D H0 A nL Q ws2 (pc + 1) lv st) : G p l e R s m args below meth c D H0 A nL Q ws pc lv (.int x :: .int i :: .ref a :: st) := by
  intro H locs ls hP hS hl
  subst hi; subst hA
  have e : (nI j).toNatClampNeg = j := nI_clamp (by omega)
  refine va_cast C.1 C.2.1 C.2.2.2.2.2.1 hP (dis_of h0 hw) hS q0 2 ha rfl (vp_in_nI hj (by omega)) hdg (fun H1 l1 hP1 _ hS1 => ?_)
  rw [e, h2] at hP1
  exact k H1 l1 ls hP1 hS1 hl
theorem r_last (C : Cx p s m args meth c cc own nL ret D) {w0 ws2 : va_W} {B : Nat → Prop} (h0 : va_D B w0) (hA : Ad w0 = A) (q0 : Nat) {a n : Nat} {f : Nat → Int64} {i : Int32} {x : Int64} (j : Nat) (ha : ws[q0]? = some (a, .inl (D.1 11, n, .inr (.inl f)))) (hi : i = nI j) (hj : j < n) (hn : n ≤ 200) (hdg : decode cc pc = .ok (.lastore, 1)) (hw : ws.map (·.1) = w0.map (·.1)) (h2 : ws.set q0 (a, .inl (D.1 11, n, .inr (.inl (vp_updL f j x)))) = ws2) (k : G p l e R s m args below meth c D H0 A nL Q ws2 (pc + 1) lv st) : G p l e R s m args below meth c D H0 A nL Q ws pc lv (.long x :: .int i :: .ref a :: st) := by
  intro H locs ls hP hS hl
  subst hi; subst hA
  have e : (nI j).toNatClampNeg = j := nI_clamp (by omega)
  refine va_last C.1 C.2.1 C.2.2.2.2.2.1 hP (dis_of h0 hw) hS q0 1 ha rfl (vp_in_nI hj (by omega)) hdg (fun H1 l1 hP1 _ hS1 => ?_)
  rw [e, h2] at hP1
  exact k H1 l1 ls hP1 hS1 hl
theorem r_iret (hr : ret = some .int) {rm : Room} {rv : Option Value} {ws1 : va_W} {v : Int32} (C : Cx p s m args meth c cc own nL ret D) (hq : some (.int v) = rv) (hw : ws = ws1) (hdg : decode cc pc = .ok (.ireturn, 1)) : G p l e rm s m args below meth c D s.heap A nL (MQ below (fun _ st o t => o = .returned rv ∧ va_P D classes ws1 t.heap ∧ va_F A st t) args s 0 0 A) ws pc lv [.int v] := by
  intro H locs ls hP hS hl
  subst hr; subst hq; subst hw
  exact W.iret C.1 C.2.1 C.2.2.2.2.2.2.1 (fun t ht _ => ⟨rfl, by rw [ht]; exact hP, hS.F ht⟩) hS.2.2 hdg C.2.2.2.2.2.2.2
theorem r_zret (hr : ret = some .boolean) {rm : Room} {rv : Option Value} {ws1 : va_W} {v : Int32} (C : Cx p s m args meth c cc own nL ret D) (hn : narrow .boolean (.int v) = .int v) (hq : some (.int v) = rv) (hw : ws = ws1) (hdg : decode cc pc = .ok (.ireturn, 1)) : G p l e rm s m args below meth c D s.heap A nL (MQ below (fun _ st o t => o = .returned rv ∧ va_P D classes ws1 t.heap ∧ va_F A st t) args s 0 0 A) ws pc lv [.int v] := by
  intro H locs ls hP hS hl
  subst hr; subst hq; subst hw
  exact W.zret C.1 C.2.1 C.2.2.2.2.2.2.1 hn (fun t ht _ => ⟨rfl, by rw [ht]; exact hP, hS.F ht⟩) hS.2.2 hdg C.2.2.2.2.2.2.2
theorem r_lret (hr : ret = some .long) {rm : Room} {rv : Option Value} {ws1 : va_W} {v : Int64} (C : Cx p s m args meth c cc own nL ret D) (hq : some (.long v) = rv) (hw : ws = ws1) (hdg : decode cc pc = .ok (.lreturn, 1)) : G p l e rm s m args below meth c D s.heap A nL (MQ below (fun _ st o t => o = .returned rv ∧ va_P D classes ws1 t.heap ∧ va_F A st t) args s 0 0 A) ws pc lv [.long v] := by
  intro H locs ls hP hS hl
  subst hr; subst hq; subst hw
  exact W.lret C.1 C.2.1 C.2.2.2.2.2.2.1 (fun t ht _ => ⟨rfl, by rw [ht]; exact hP, hS.F ht⟩) hS.2.2 hdg C.2.2.2.2.2.2.2
theorem r_vret (hr : ret = none) {rm : Room} {ws1 : va_W} (C : Cx p s m args meth c cc own nL ret D) (hw : ws = ws1) (hdg : decode cc pc = .ok (.return_, 1)) : G p l e rm s m args below meth c D s.heap A nL (MQ below (fun _ st o t => o = .returned none ∧ va_P D classes ws1 t.heap ∧ va_F A st t) args s 0 0 A) ws pc lv [] := by
  intro H locs ls hP hS hl
  subst hr; subst hw
  exact W.vret C.1 C.2.1 C.2.2.2.2.2.2.1 (fun t ht _ => ⟨rfl, by rw [ht]; exact hP, hS.F ht⟩) hS.2.2 hdg C.2.2.2.2.2.2.2
end GR
end
section
theorem tbl_list (ws : List Cond) (ps : List Nat) (hp : ws = ps.filterMap (fun i => tables_1[i]?)) (hg : ws.all gw = true) : ∀ w ∈ ws, w ∈ TBL := by
  intro w hw
  have h1 := List.all_eq_true.mp hg w hw
  rw [hp] at hw
  obtain ⟨i, -, hi⟩ := List.mem_filterMap.mp hw
  exact tbl_tab i hi h1
theorem iX2 : ∀ w ∈ u_ws RX2 TX2 3, w ∈ TBL := tbl_list _ [120, 122, 124] (by decide +kernel) (by decide +kernel)
theorem iX3 : ∀ w ∈ u_ws RX3 TX3 4, w ∈ TBL := tbl_list _ [99, 101, 103, 105] (by decide +kernel) (by decide +kernel)
theorem iX5 : ∀ w ∈ u_ws RX5 TX5 12, w ∈ TBL := tbl_list _ [62, 64, 66, 68, 70, 72, 74, 76, 78, 80, 82, 84] (by decide +kernel) (by decide +kernel)
theorem iX6 : ∀ w ∈ u_ws RX6 TX6 9, w ∈ TBL := tbl_list _ [137, 139, 141, 143, 145, 147, 149, 151, 153] (by decide +kernel) (by decide +kernel)
theorem iX7 : ∀ w ∈ u_ws RX7 TX7 37, w ∈ TBL := tbl_list _ [598, 600, 602, 604, 606, 608, 610, 612, 614, 616, 618, 620, 622, 624, 626, 628, 630, 632, 634, 636, 638, 640, 642, 644, 646, 648, 650, 652, 654, 656, 658, 660, 662, 664, 666, 668, 670] (by decide +kernel) (by decide +kernel)
theorem wi_L : Cond.initialized RL ∈ TBL := tbl_tab 0 (by decide +kernel) rfl
theorem wi_X6 : Cond.initialized RX6 ∈ TBL := tbl_tab 1 (by decide +kernel) rfl
theorem wi_X5 : Cond.initialized RX5 ∈ TBL := tbl_tab 2 (by decide +kernel) rfl
theorem wi_X3 : Cond.initialized RX3 ∈ TBL := tbl_tab 3 (by decide +kernel) rfl
theorem wi_X2 : Cond.initialized RX2 ∈ TBL := tbl_tab 4 (by decide +kernel) rfl
theorem wi_X7 : Cond.initialized RX7 ∈ TBL := tbl_tab 5 (by decide +kernel) rfl
theorem wi_java_lang_System : Cond.initialized "java/lang/System" ∈ TBL := tbl_tab 6 (by decide +kernel) rfl
theorem wi_J6 : Cond.initialized RJ6 ∈ TBL := tbl_tab 7 (by decide +kernel) rfl
theorem wi_X4 : Cond.initialized RX4 ∈ TBL := tbl_tab 8 (by decide +kernel) rfl
theorem wi_J9 : Cond.initialized RJ9 ∈ TBL := tbl_tab 9 (by decide +kernel) rfl
theorem wi_X0 : Cond.initialized RX0 ∈ TBL := tbl_tab 10 (by decide +kernel) rfl
theorem wi_X1 : Cond.initialized RX1 ∈ TBL := tbl_tab 11 (by decide +kernel) rfl
theorem wm_L_9 : Cond.methodLink RL 9 yX6_init ∈ TBL := tbl_tab 14 (by decide +kernel) rfl
theorem wm_X6_9 : Cond.methodLinkNest RX6 9 yX5_init "BackYear" ∈ TBL := tbl_tab 22 (by decide +kernel) rfl
theorem wf_X5_9 : Cond.fieldLink RX5 9 RX5 "people" "I" ∈ TBL := tbl_tab 26 (by decide +kernel) rfl
theorem wf_X6_50 : Cond.fieldLinkNest RX6 50 RX5 "people" "I" "BackYear" ∈ TBL := tbl_tab 27 (by decide +kernel) rfl
theorem wf_X0_32 : Cond.fieldLinkNest RX0 32 RX5 "people" "I" "BackYear" ∈ TBL := tbl_tab 28 (by decide +kernel) rfl
theorem wf_X4_48 : Cond.fieldLinkNest RX4 48 RX5 "people" "I" "BackYear" ∈ TBL := tbl_tab 29 (by decide +kernel) rfl
theorem wf_X5_15 : Cond.fieldLink RX5 15 RX5 "deeds" "I" ∈ TBL := tbl_tab 30 (by decide +kernel) rfl
theorem wf_X0_9 : Cond.fieldLinkNest RX0 9 RX5 "deeds" "I" "BackYear" ∈ TBL := tbl_tab 31 (by decide +kernel) rfl
theorem wf_X1_15 : Cond.fieldLinkNest RX1 15 RX5 "deeds" "I" "BackYear" ∈ TBL := tbl_tab 32 (by decide +kernel) rfl
theorem wf_X6_58 : Cond.fieldLinkNest RX6 58 RX5 "deeds" "I" "BackYear" ∈ TBL := tbl_tab 33 (by decide +kernel) rfl
theorem wf_X3_29 : Cond.fieldLinkNest RX3 29 RX5 "deeds" "I" "BackYear" ∈ TBL := tbl_tab 34 (by decide +kernel) rfl
theorem wf_X4_37 : Cond.fieldLinkNest RX4 37 RX5 "deeds" "I" "BackYear" ∈ TBL := tbl_tab 35 (by decide +kernel) rfl
theorem wf_X5_18 : Cond.fieldLink RX5 18 RX5 "theDay" "I" ∈ TBL := tbl_tab 36 (by decide +kernel) rfl
theorem wf_X6_141 : Cond.fieldLinkNest RX6 141 RX5 "theDay" "I" "BackYear" ∈ TBL := tbl_tab 37 (by decide +kernel) rfl
theorem wf_X5_21 : Cond.fieldLink RX5 21 RX5 "years" "I" ∈ TBL := tbl_tab 38 (by decide +kernel) rfl
theorem wf_X6_134 : Cond.fieldLinkNest RX6 134 RX5 "years" "I" "BackYear" ∈ TBL := tbl_tab 39 (by decide +kernel) rfl
theorem wf_X5_24 : Cond.fieldLink RX5 24 RX5 "lastYear" "I" ∈ TBL := tbl_tab 40 (by decide +kernel) rfl
theorem wf_X6_118 : Cond.fieldLinkNest RX6 118 RX5 "lastYear" "I" "BackYear" ∈ TBL := tbl_tab 41 (by decide +kernel) rfl
theorem wf_X5_27 : Cond.fieldLink RX5 27 RX5 "righted" "I" ∈ TBL := tbl_tab 42 (by decide +kernel) rfl
theorem wf_X0_15 : Cond.fieldLinkNest RX0 15 RX5 "righted" "I" "BackYear" ∈ TBL := tbl_tab 43 (by decide +kernel) rfl
theorem wf_X6_91 : Cond.fieldLinkNest RX6 91 RX5 "righted" "I" "BackYear" ∈ TBL := tbl_tab 44 (by decide +kernel) rfl
theorem wf_X5_30 : Cond.fieldLink RX5 30 RX5 "kind" "[I" ∈ TBL := tbl_tab 45 (by decide +kernel) rfl
theorem wf_X6_76 : Cond.fieldLinkNest RX6 76 RX5 "kind" "[I" "BackYear" ∈ TBL := tbl_tab 46 (by decide +kernel) rfl
theorem wf_X5_34 : Cond.fieldLink RX5 34 RX5 "day" "[I" ∈ TBL := tbl_tab 47 (by decide +kernel) rfl
theorem wf_X4_44 : Cond.fieldLinkNest RX4 44 RX5 "day" "[I" "BackYear" ∈ TBL := tbl_tab 48 (by decide +kernel) rfl
theorem wf_X6_79 : Cond.fieldLinkNest RX6 79 RX5 "day" "[I" "BackYear" ∈ TBL := tbl_tab 49 (by decide +kernel) rfl
theorem wf_X3_59 : Cond.fieldLinkNest RX3 59 RX5 "day" "[I" "BackYear" ∈ TBL := tbl_tab 50 (by decide +kernel) rfl
theorem wf_X5_37 : Cond.fieldLink RX5 37 RX5 "needs" "[I" ∈ TBL := tbl_tab 51 (by decide +kernel) rfl
theorem wf_X6_82 : Cond.fieldLinkNest RX6 82 RX5 "needs" "[I" "BackYear" ∈ TBL := tbl_tab 52 (by decide +kernel) rfl
theorem wf_X3_67 : Cond.fieldLinkNest RX3 67 RX5 "needs" "[I" "BackYear" ∈ TBL := tbl_tab 53 (by decide +kernel) rfl
theorem wf_X5_40 : Cond.fieldLink RX5 40 RX5 "cost" "[I" ∈ TBL := tbl_tab 54 (by decide +kernel) rfl
theorem wf_X0_39 : Cond.fieldLinkNest RX0 39 RX5 "cost" "[I" "BackYear" ∈ TBL := tbl_tab 55 (by decide +kernel) rfl
theorem wf_X6_85 : Cond.fieldLinkNest RX6 85 RX5 "cost" "[I" "BackYear" ∈ TBL := tbl_tab 56 (by decide +kernel) rfl
theorem wf_X5_43 : Cond.fieldLink RX5 43 RX5 "odds" "[I" ∈ TBL := tbl_tab 57 (by decide +kernel) rfl
theorem wf_X6_88 : Cond.fieldLinkNest RX6 88 RX5 "odds" "[I" "BackYear" ∈ TBL := tbl_tab 58 (by decide +kernel) rfl
theorem wf_X1_32 : Cond.fieldLinkNest RX1 32 RX5 "odds" "[I" "BackYear" ∈ TBL := tbl_tab 59 (by decide +kernel) rfl
theorem wf_X5_46 : Cond.fieldLink RX5 46 RX5 "worth" "[I" ∈ TBL := tbl_tab 60 (by decide +kernel) rfl
theorem wf_X6_111 : Cond.fieldLinkNest RX6 111 RX5 "worth" "[I" "BackYear" ∈ TBL := tbl_tab 61 (by decide +kernel) rfl
theorem wm_X6_24 : Cond.methodLinkNest RX6 24 yX3_init "BackYear" ∈ TBL := tbl_tab 90 (by decide +kernel) rfl
theorem wf_X3_9 : Cond.fieldLink RX3 9 RX3 "letters" "[C" ∈ TBL := tbl_tab 94 (by decide +kernel) rfl
theorem wf_X3_15 : Cond.fieldLink RX3 15 RX3 "typed" "I" ∈ TBL := tbl_tab 95 (by decide +kernel) rfl
theorem wf_X6_124 : Cond.fieldLinkNest RX6 124 RX3 "typed" "I" "BackYear" ∈ TBL := tbl_tab 96 (by decide +kernel) rfl
theorem wf_X3_19 : Cond.fieldLink RX3 19 RX3 "awaited" "I" ∈ TBL := tbl_tab 97 (by decide +kernel) rfl
theorem wf_X3_22 : Cond.fieldLink RX3 22 RX3 "kind" "I" ∈ TBL := tbl_tab 98 (by decide +kernel) rfl
theorem wm_X6_31 : Cond.methodLinkNest RX6 31 yX2_init "BackYear" ∈ TBL := tbl_tab 111 (by decide +kernel) rfl
theorem wf_X2_9 : Cond.fieldLink RX2 9 RX2 "lane" "[I" ∈ TBL := tbl_tab 115 (by decide +kernel) rfl
theorem wf_X6_258 : Cond.fieldLinkNest RX6 258 RX2 "lane" "[I" "BackYear" ∈ TBL := tbl_tab 116 (by decide +kernel) rfl
theorem wf_X2_15 : Cond.fieldLink RX2 15 RX2 "size" "[I" ∈ TBL := tbl_tab 117 (by decide +kernel) rfl
theorem wf_X6_255 : Cond.fieldLinkNest RX6 255 RX2 "size" "[I" "BackYear" ∈ TBL := tbl_tab 118 (by decide +kernel) rfl
theorem wf_X2_18 : Cond.fieldLink RX2 18 RX2 "items" "[J" ∈ TBL := tbl_tab 119 (by decide +kernel) rfl
theorem wf_X6_10 : Cond.fieldLink RX6 10 RX6 "now" "LBackYear$Year;" ∈ TBL := tbl_tab 128 (by decide +kernel) rfl
theorem wf_X6_16 : Cond.fieldLink RX6 16 RX6 "kept" "LBackYear$Year;" ∈ TBL := tbl_tab 129 (by decide +kernel) rfl
theorem wf_X6_19 : Cond.fieldLink RX6 19 RX6 "draft" "LBackYear$Year;" ∈ TBL := tbl_tab 130 (by decide +kernel) rfl
theorem wf_X6_25 : Cond.fieldLink RX6 25 RX6 "tape" "LBackYear$Tape;" ∈ TBL := tbl_tab 131 (by decide +kernel) rfl
theorem wf_X6_32 : Cond.fieldLink RX6 32 RX6 "sheets" "LBackYear$Sheets;" ∈ TBL := tbl_tab 132 (by decide +kernel) rfl
theorem wf_X6_36 : Cond.fieldLink RX6 36 RX6 "begun" "[I" ∈ TBL := tbl_tab 133 (by decide +kernel) rfl
theorem wf_X6_40 : Cond.fieldLink RX6 40 RX6 "toldYears" "[I" ∈ TBL := tbl_tab 134 (by decide +kernel) rfl
theorem wf_X6_43 : Cond.fieldLink RX6 43 RX6 "dues" "[I" ∈ TBL := tbl_tab 135 (by decide +kernel) rfl
theorem wf_X6_46 : Cond.fieldLink RX6 46 RX6 "imaged" "Z" ∈ TBL := tbl_tab 136 (by decide +kernel) rfl
theorem wm_L_13 : Cond.methodLink RL 13 yX6_people ∈ TBL := tbl_tab 156 (by decide +kernel) rfl
theorem wm_L_18 : Cond.methodLink RL 18 yX6_deed ∈ TBL := tbl_tab 160 (by decide +kernel) rfl
theorem wm_X6_54 : Cond.methodLink RX6 54 yX6_isDay ∈ TBL := tbl_tab 164 (by decide +kernel) rfl
theorem wm_X6_61 : Cond.methodLinkNest RX6 61 yX5_needable "BackYear" ∈ TBL := tbl_tab 167 (by decide +kernel) rfl
theorem wm_X6_65 : Cond.methodLink RX6 65 yX6_isWithin ∈ TBL := tbl_tab 171 (by decide +kernel) rfl
theorem wm_X6_69 : Cond.methodLinkNest RX6 69 yX5_add "BackYear" ∈ TBL := tbl_tab 174 (by decide +kernel) rfl
theorem wm_L_23 : Cond.methodLink RL 23 yX6_told ∈ TBL := tbl_tab 178 (by decide +kernel) rfl
theorem wm_X6_73 : Cond.methodLinkNest RX6 73 yX5_has "BackYear" ∈ TBL := tbl_tab 182 (by decide +kernel) rfl
theorem wm_X6_94 : Cond.methodLinkNest RX6 94 yX5_standing "BackYear" ∈ TBL := tbl_tab 186 (by decide +kernel) rfl
theorem wm_X5_63 : Cond.methodLinkNest RX5 63 yX6_isIn "BackYear" ∈ TBL := tbl_tab 190 (by decide +kernel) rfl
theorem wm_X5_71 : Cond.methodLink RX5 71 yX5_wouldStand ∈ TBL := tbl_tab 193 (by decide +kernel) rfl
theorem wm_X5_67 : Cond.methodLink RX5 67 yX5_isMet ∈ TBL := tbl_tab 197 (by decide +kernel) rfl
theorem wm_X6_98 : Cond.methodLink RX6 98 yX6_isIn ∈ TBL := tbl_tab 200 (by decide +kernel) rfl
theorem wm_L_28 : Cond.methodLink RL 28 yX6_set ∈ TBL := tbl_tab 201 (by decide +kernel) rfl
theorem wm_X6_101 : Cond.methodLink RX6 101 yX6_isChoice ∈ TBL := tbl_tab 205 (by decide +kernel) rfl
theorem wm_L_32 : Cond.methodLink RL 32 yX6_worth ∈ TBL := tbl_tab 208 (by decide +kernel) rfl
theorem wm_X6_104 : Cond.methodLink RX6 104 yX6_isEverPerson ∈ TBL := tbl_tab 212 (by decide +kernel) rfl
theorem wc_X6_107 : Cond.constant RX6 107 (-100001) ∈ TBL := tbl_tab 215 (by decide +kernel) rfl
theorem wm_X6_108 : Cond.methodLinkNest RX6 108 yX5_worthTo "BackYear" ∈ TBL := tbl_tab 216 (by decide +kernel) rfl
theorem wm_L_36 : Cond.methodLink RL 36 yX6_worthOf ∈ TBL := tbl_tab 220 (by decide +kernel) rfl
theorem wm_L_40 : Cond.methodLink RL 40 yX6_last ∈ TBL := tbl_tab 224 (by decide +kernel) rfl
theorem wm_X6_114 : Cond.methodLinkNest RX6 114 yX5_all "BackYear" ∈ TBL := tbl_tab 228 (by decide +kernel) rfl
theorem wm_L_44 : Cond.methodLink RL 44 yX6_type ∈ TBL := tbl_tab 232 (by decide +kernel) rfl
theorem wm_X6_121 : Cond.methodLinkNest RX6 121 yX3_add "BackYear" ∈ TBL := tbl_tab 236 (by decide +kernel) rfl
theorem wm_L_48 : Cond.methodLink RL 48 yX6_text ∈ TBL := tbl_tab 240 (by decide +kernel) rfl
theorem wm_X6_127 : Cond.methodLinkNest RX6 127 yX5_clear "BackYear" ∈ TBL := tbl_tab 244 (by decide +kernel) rfl
theorem wm_X6_130 : Cond.methodLinkNest RX6 130 yX3_readInto "BackYear" ∈ TBL := tbl_tab 248 (by decide +kernel) rfl
theorem wm_X3_25 : Cond.methodLink RX3 25 yX3_takes ∈ TBL := tbl_tab 252 (by decide +kernel) rfl
theorem wm_X3_34 : Cond.methodLink RX3 34 yX3_takesKind ∈ TBL := tbl_tab 256 (by decide +kernel) rfl
theorem wm_X3_38 : Cond.methodLink RX3 38 yX3_takesDay ∈ TBL := tbl_tab 260 (by decide +kernel) rfl
theorem wm_X3_48 : Cond.methodLinkNest RX3 48 yX6_isDay "BackYear" ∈ TBL := tbl_tab 264 (by decide +kernel) rfl
theorem wm_X3_52 : Cond.methodLinkNest RX3 52 yX5_add "BackYear" ∈ TBL := tbl_tab 265 (by decide +kernel) rfl
theorem wm_X3_41 : Cond.methodLink RX3 41 yX3_takesComma ∈ TBL := tbl_tab 266 (by decide +kernel) rfl
theorem wm_X3_45 : Cond.methodLink RX3 45 yX3_takesNeed ∈ TBL := tbl_tab 270 (by decide +kernel) rfl
theorem wm_X3_56 : Cond.methodLinkNest RX3 56 yX5_has "BackYear" ∈ TBL := tbl_tab 274 (by decide +kernel) rfl
theorem wm_X3_63 : Cond.methodLinkNest RX3 63 yX5_needable "BackYear" ∈ TBL := tbl_tab 275 (by decide +kernel) rfl
theorem wm_X3_70 : Cond.methodLinkNest RX3 70 yX6_isIn "BackYear" ∈ TBL := tbl_tab 276 (by decide +kernel) rfl
theorem wm_X6_137 : Cond.methodLinkNest RX6 137 yX5_become "BackYear" ∈ TBL := tbl_tab 277 (by decide +kernel) rfl
theorem wm_L_53 : Cond.methodLink RL 53 yX6_count ∈ TBL := tbl_tab 284 (by decide +kernel) rfl
theorem wm_L_57 : Cond.methodLink RL 57 yX6_right ∈ TBL := tbl_tab 288 (by decide +kernel) rfl
theorem wm_X6_144 : Cond.methodLinkNest RX6 144 yX5_ofDay "BackYear" ∈ TBL := tbl_tab 292 (by decide +kernel) rfl
theorem wm_L_61 : Cond.methodLink RL 61 yX6_back ∈ TBL := tbl_tab 296 (by decide +kernel) rfl
theorem wc_X6_147 : Cond.constant RX6 147 (-100002) ∈ TBL := tbl_tab 300 (by decide +kernel) rfl
theorem wm_L_65 : Cond.methodLink RL 65 yX6_year ∈ TBL := tbl_tab 301 (by decide +kernel) rfl
theorem wm_X6_148 : Cond.methodLinkNest RX6 148 yX5_beginNext "BackYear" ∈ TBL := tbl_tab 305 (by decide +kernel) rfl
theorem wm_X5_55 : Cond.methodLink RX5 55 yX5_standing ∈ TBL := tbl_tab 309 (by decide +kernel) rfl
theorem wm_X6_151 : Cond.methodLink RX6 151 yJ6_bitCount_0f7a4 ∈ TBL := tbl_tab 310 (by decide +kernel) rfl
theorem wc_J6_265 : Cond.constant RJ6 265 (1431655765) ∈ TBL := tbl_tab 313 (by decide +kernel) rfl
theorem wc_J6_266 : Cond.constant RJ6 266 (858993459) ∈ TBL := tbl_tab 314 (by decide +kernel) rfl
theorem wc_J6_267 : Cond.constant RJ6 267 (252645135) ∈ TBL := tbl_tab 315 (by decide +kernel) rfl
theorem wm_L_69 : Cond.methodLink RL 69 yX6_value ∈ TBL := tbl_tab 316 (by decide +kernel) rfl
theorem wm_X6_156 : Cond.methodLinkNest RX6 156 yX5_sumBy "BackYear" ∈ TBL := tbl_tab 320 (by decide +kernel) rfl
theorem wm_X5_74 : Cond.methodLink RX5 74 yX5_valueOf ∈ TBL := tbl_tab 324 (by decide +kernel) rfl
theorem wm_X5_59 : Cond.methodLink RX5 59 yX5_worthTo ∈ TBL := tbl_tab 328 (by decide +kernel) rfl
theorem wm_X5_78 : Cond.methodLink RX5 78 yX5_bearer ∈ TBL := tbl_tab 329 (by decide +kernel) rfl
theorem wm_X6_159 : Cond.methodLinkNest RX6 159 yX5_isPerson "BackYear" ∈ TBL := tbl_tab 333 (by decide +kernel) rfl
theorem wm_X6_162 : Cond.methodLinkNest RX6 162 yX5_valueBy "BackYear" ∈ TBL := tbl_tab 337 (by decide +kernel) rfl
theorem wm_L_73 : Cond.methodLink RL 73 yX6_bears ∈ TBL := tbl_tab 341 (by decide +kernel) rfl
theorem wm_X6_165 : Cond.methodLinkNest RX6 165 yX5_bearer "BackYear" ∈ TBL := tbl_tab 345 (by decide +kernel) rfl
theorem wm_L_77 : Cond.methodLink RL 77 yX6_best ∈ TBL := tbl_tab 346 (by decide +kernel) rfl
theorem wm_X6_168 : Cond.methodLink RX6 168 yX6_isWalkLength ∈ TBL := tbl_tab 350 (by decide +kernel) rfl
theorem wm_X6_171 : Cond.methodLinkNest RX6 171 yX4_most "BackYear" ∈ TBL := tbl_tab 353 (by decide +kernel) rfl
theorem wm_X4_9 : Cond.methodLinkNest RX4 9 yX5_standing "BackYear" ∈ TBL := tbl_tab 356 (by decide +kernel) rfl
theorem wm_X4_15 : Cond.methodLinkNest RX4 15 yX5_sumBy "BackYear" ∈ TBL := tbl_tab 357 (by decide +kernel) rfl
theorem wm_X4_18 : Cond.methodLink RX4 18 yX4_isWalk ∈ TBL := tbl_tab 358 (by decide +kernel) rfl
theorem wm_X4_33 : Cond.methodLinkNest RX4 33 yX6_isWithin "BackYear" ∈ TBL := tbl_tab 361 (by decide +kernel) rfl
theorem wm_X4_24 : Cond.methodLink RX4 24 yJ6_bitCount_0f7a4 ∈ TBL := tbl_tab 362 (by decide +kernel) rfl
theorem wm_X4_41 : Cond.methodLinkNest RX4 41 yX6_isIn "BackYear" ∈ TBL := tbl_tab 363 (by decide +kernel) rfl
theorem wm_X4_29 : Cond.methodLink RX4 29 yX4_isFair ∈ TBL := tbl_tab 364 (by decide +kernel) rfl
theorem wm_X4_51 : Cond.methodLinkNest RX4 51 yX5_valueBy "BackYear" ∈ TBL := tbl_tab 367 (by decide +kernel) rfl
theorem wm_L_81 : Cond.methodLink RL 81 yX6_wanted ∈ TBL := tbl_tab 368 (by decide +kernel) rfl
theorem wm_X6_177 : Cond.methodLinkNest RX6 177 yX4_fewest "BackYear" ∈ TBL := tbl_tab 372 (by decide +kernel) rfl
theorem wm_L_85 : Cond.methodLink RL 85 yX6_self ∈ TBL := tbl_tab 375 (by decide +kernel) rfl
theorem wm_X6_181 : Cond.methodLinkNest RX6 181 yX4_selfish "BackYear" ∈ TBL := tbl_tab 379 (by decide +kernel) rfl
theorem wm_X4_55 : Cond.methodLink RX4 55 yX4_play ∈ TBL := tbl_tab 382 (by decide +kernel) rfl
theorem wm_X4_59 : Cond.methodLink RX4 59 yX4_chooser ∈ TBL := tbl_tab 385 (by decide +kernel) rfl
theorem wm_X4_63 : Cond.methodLinkNest RX4 63 yX5_ofDay "BackYear" ∈ TBL := tbl_tab 388 (by decide +kernel) rfl
theorem wm_L_89 : Cond.methodLink RL 89 yX6_turn ∈ TBL := tbl_tab 389 (by decide +kernel) rfl
theorem wm_L_93 : Cond.methodLink RL 93 yX6_bargain ∈ TBL := tbl_tab 393 (by decide +kernel) rfl
theorem wm_X6_185 : Cond.methodLink RX6 185 yJ9_max_7cf53 ∈ TBL := tbl_tab 397 (by decide +kernel) rfl
theorem wm_L_98 : Cond.methodLink RL 98 yX6_due ∈ TBL := tbl_tab 400 (by decide +kernel) rfl
theorem wm_X6_190 : Cond.methodLinkNest RX6 190 yX0_dueTo "BackYear" ∈ TBL := tbl_tab 404 (by decide +kernel) rfl
theorem wm_X0_18 : Cond.methodLinkNest RX0 18 yX6_isIn "BackYear" ∈ TBL := tbl_tab 407 (by decide +kernel) rfl
theorem wm_X0_22 : Cond.methodLink RX0 22 yX0_dueFor ∈ TBL := tbl_tab 408 (by decide +kernel) rfl
theorem wm_X0_28 : Cond.methodLinkNest RX0 28 yX5_bearer "BackYear" ∈ TBL := tbl_tab 411 (by decide +kernel) rfl
theorem wm_X0_35 : Cond.methodLinkNest RX0 35 yX5_worthTo "BackYear" ∈ TBL := tbl_tab 412 (by decide +kernel) rfl
theorem wm_L_102 : Cond.methodLink RL 102 yX6_payments ∈ TBL := tbl_tab 413 (by decide +kernel) rfl
theorem wm_X6_195 : Cond.methodLinkNest RX6 195 yX0_fewestPayments "BackYear" ∈ TBL := tbl_tab 417 (by decide +kernel) rfl
theorem wm_X0_43 : Cond.methodLink RX0 43 yJ6_bitCount_0f7a4 ∈ TBL := tbl_tab 420 (by decide +kernel) rfl
theorem wm_X0_48 : Cond.methodLink RX0 48 yX0_mostSets ∈ TBL := tbl_tab 421 (by decide +kernel) rfl
theorem wm_X0_52 : Cond.methodLinkNest RX0 52 yX6_isWithin "BackYear" ∈ TBL := tbl_tab 424 (by decide +kernel) rfl
theorem wm_X0_55 : Cond.methodLink RX0 55 yX0_sumOf ∈ TBL := tbl_tab 425 (by decide +kernel) rfl
theorem wm_L_106 : Cond.methodLink RL 106 yX6_forgotten ∈ TBL := tbl_tab 428 (by decide +kernel) rfl
theorem wm_X6_199 : Cond.methodLinkNest RX6 199 yX1_explains "BackYear" ∈ TBL := tbl_tab 432 (by decide +kernel) rfl
theorem wm_X1_19 : Cond.methodLinkNest RX1 19 yX6_isIn "BackYear" ∈ TBL := tbl_tab 435 (by decide +kernel) rfl
theorem wm_X1_23 : Cond.methodLinkNest RX1 23 yX5_wouldStand "BackYear" ∈ TBL := tbl_tab 436 (by decide +kernel) rfl
theorem wm_L_110 : Cond.methodLink RL 110 yX6_upper ∈ TBL := tbl_tab 437 (by decide +kernel) rfl
theorem wm_X6_205 : Cond.methodLinkNest RX6 205 yX1_mean "BackYear" ∈ TBL := tbl_tab 441 (by decide +kernel) rfl
theorem wm_X1_36 : Cond.methodLinkNest RX1 36 yX5_worthToAll "BackYear" ∈ TBL := tbl_tab 444 (by decide +kernel) rfl
theorem wm_X1_40 : Cond.methodLink RX1 40 yX1_mean ∈ TBL := tbl_tab 448 (by decide +kernel) rfl
theorem wm_X6_209 : Cond.methodLinkNest RX6 209 yX1_halvings "BackYear" ∈ TBL := tbl_tab 449 (by decide +kernel) rfl
theorem wm_X1_26 : Cond.methodLink RX1 26 yX1_parts ∈ TBL := tbl_tab 452 (by decide +kernel) rfl
theorem wm_L_115 : Cond.methodLink RL 115 yX6_lower ∈ TBL := tbl_tab 455 (by decide +kernel) rfl
theorem wm_X6_213 : Cond.methodLinkNest RX6 213 yX1_parts "BackYear" ∈ TBL := tbl_tab 459 (by decide +kernel) rfl
theorem wm_L_119 : Cond.methodLink RL 119 yX6_comes ∈ TBL := tbl_tab 460 (by decide +kernel) rfl
theorem wm_L_123 : Cond.methodLink RL 123 yX6_image ∈ TBL := tbl_tab 464 (by decide +kernel) rfl
theorem wm_L_127 : Cond.methodLink RL 127 yX6_restore ∈ TBL := tbl_tab 468 (by decide +kernel) rfl
theorem wm_L_131 : Cond.methodLink RL 131 yX6_judged ∈ TBL := tbl_tab 472 (by decide +kernel) rfl
theorem wm_X6_217 : Cond.methodLinkNest RX6 217 yX2_faultOf "BackYear" ∈ TBL := tbl_tab 476 (by decide +kernel) rfl
theorem wm_X2_22 : Cond.methodLinkNest RX2 22 yX6_isSheet "BackYear" ∈ TBL := tbl_tab 480 (by decide +kernel) rfl
theorem wm_X2_26 : Cond.methodLinkNest RX2 26 yX6_isLane "BackYear" ∈ TBL := tbl_tab 483 (by decide +kernel) rfl
theorem wm_X2_29 : Cond.methodLink RX2 29 yX2_holds ∈ TBL := tbl_tab 486 (by decide +kernel) rfl
theorem wm_X2_32 : Cond.methodLink RX2 32 yX2_reaches ∈ TBL := tbl_tab 490 (by decide +kernel) rfl
theorem wm_X6_221 : Cond.methodLinkNest RX6 221 yX2_at "BackYear" ∈ TBL := tbl_tab 494 (by decide +kernel) rfl
theorem wc_X6_225 : Cond.constantLong RX6 225 (-1) ∈ TBL := tbl_tab 498 (by decide +kernel) rfl
theorem wm_X6_227 : Cond.methodLink RX6 227 yX6_isOneOf ∈ TBL := tbl_tab 499 (by decide +kernel) rfl
theorem wc_X6_268 : Cond.constantLong RX6 268 (12) ∈ TBL := tbl_tab 502 (by decide +kernel) rfl
theorem wm_L_135 : Cond.methodLink RL 135 yX6_net ∈ TBL := tbl_tab 503 (by decide +kernel) rfl
theorem wm_X6_231 : Cond.methodLink RX6 231 yX6_takeToldYears ∈ TBL := tbl_tab 507 (by decide +kernel) rfl
theorem wm_X6_234 : Cond.methodLinkNest RX6 234 yX1_fits "BackYear" ∈ TBL := tbl_tab 511 (by decide +kernel) rfl
theorem wm_X1_9 : Cond.methodLinkNest RX1 9 yX5_isMet "BackYear" ∈ TBL := tbl_tab 514 (by decide +kernel) rfl
theorem wm_L_140 : Cond.methodLink RL 140 yX6_film ∈ TBL := tbl_tab 515 (by decide +kernel) rfl
theorem wm_X6_238 : Cond.methodLinkNest RX6 238 yX2_put "BackYear" ∈ TBL := tbl_tab 519 (by decide +kernel) rfl
theorem wm_X2_36 : Cond.methodLink RX2 36 yX2_lowest ∈ TBL := tbl_tab 523 (by decide +kernel) rfl
theorem wm_L_144 : Cond.methodLink RL 144 yX6_sheet ∈ TBL := tbl_tab 526 (by decide +kernel) rfl
theorem wm_X6_242 : Cond.methodLink RX6 242 yX6_isSheet ∈ TBL := tbl_tab 530 (by decide +kernel) rfl
theorem wm_X6_245 : Cond.methodLink RX6 245 yX6_isLane ∈ TBL := tbl_tab 531 (by decide +kernel) rfl
theorem wm_X6_248 : Cond.methodLinkNest RX6 248 yX2_begin "BackYear" ∈ TBL := tbl_tab 532 (by decide +kernel) rfl
theorem wm_L_148 : Cond.methodLink RL 148 yX6_drop ∈ TBL := tbl_tab 536 (by decide +kernel) rfl
theorem wm_X6_252 : Cond.methodLinkNest RX6 252 yX2_holds "BackYear" ∈ TBL := tbl_tab 540 (by decide +kernel) rfl
theorem wm_L_154 : Cond.methodLink RL 154 yX6_item ∈ TBL := tbl_tab 541 (by decide +kernel) rfl
theorem wm_L_159 : Cond.methodLink RL 159 yX6_copy ∈ TBL := tbl_tab 545 (by decide +kernel) rfl
theorem wm_X6_261 : Cond.methodLinkNest RX6 261 yX2_reaches "BackYear" ∈ TBL := tbl_tab 549 (by decide +kernel) rfl
theorem wm_X6_264 : Cond.methodLinkNest RX6 264 yX2_move "BackYear" ∈ TBL := tbl_tab 550 (by decide +kernel) rfl
theorem wm_L_12 : Cond.methodLink RL 12 yX7_init ∈ TBL := tbl_tab 557 (by decide +kernel) rfl
theorem wf_X7_77 : Cond.fieldLink RX7 77 RX7 "people" "I" ∈ TBL := tbl_tab 561 (by decide +kernel) rfl
theorem wf_X7_84 : Cond.fieldLink RX7 84 RX7 "deeds" "I" ∈ TBL := tbl_tab 562 (by decide +kernel) rfl
theorem wf_X7_7 : Cond.fieldLink RX7 7 RX7 "kinds" "[I" ∈ TBL := tbl_tab 563 (by decide +kernel) rfl
theorem wf_X7_13 : Cond.fieldLink RX7 13 RX7 "days" "[I" ∈ TBL := tbl_tab 564 (by decide +kernel) rfl
theorem wf_X7_16 : Cond.fieldLink RX7 16 RX7 "needs" "[I" ∈ TBL := tbl_tab 565 (by decide +kernel) rfl
theorem wf_X7_19 : Cond.fieldLink RX7 19 RX7 "costs" "[I" ∈ TBL := tbl_tab 566 (by decide +kernel) rfl
theorem wf_X7_22 : Cond.fieldLink RX7 22 RX7 "odds" "[I" ∈ TBL := tbl_tab 567 (by decide +kernel) rfl
theorem wf_X7_25 : Cond.fieldLink RX7 25 RX7 "worths" "[I" ∈ TBL := tbl_tab 568 (by decide +kernel) rfl
theorem wf_X7_116 : Cond.fieldLink RX7 116 RX7 "last" "I" ∈ TBL := tbl_tab 569 (by decide +kernel) rfl
theorem wf_X7_113 : Cond.fieldLink RX7 113 RX7 "righted" "I" ∈ TBL := tbl_tab 570 (by decide +kernel) rfl
theorem wf_X7_81 : Cond.fieldLink RX7 81 RX7 "day" "I" ∈ TBL := tbl_tab 571 (by decide +kernel) rfl
theorem wf_X7_131 : Cond.fieldLink RX7 131 RX7 "years" "I" ∈ TBL := tbl_tab 572 (by decide +kernel) rfl
theorem wf_X7_28 : Cond.fieldLink RX7 28 RX7 "tape" "[I" ∈ TBL := tbl_tab 573 (by decide +kernel) rfl
theorem wf_X7_138 : Cond.fieldLink RX7 138 RX7 "taped" "I" ∈ TBL := tbl_tab 574 (by decide +kernel) rfl
theorem wf_X7_141 : Cond.fieldLink RX7 141 RX7 "at" "I" ∈ TBL := tbl_tab 575 (by decide +kernel) rfl
theorem wf_X7_148 : Cond.fieldLink RX7 148 RX7 "wrong" "Z" ∈ TBL := tbl_tab 576 (by decide +kernel) rfl
theorem wf_X7_156 : Cond.fieldLink RX7 156 RX7 "readDeeds" "I" ∈ TBL := tbl_tab 577 (by decide +kernel) rfl
theorem wf_X7_31 : Cond.fieldLink RX7 31 RX7 "readKinds" "[I" ∈ TBL := tbl_tab 578 (by decide +kernel) rfl
theorem wf_X7_34 : Cond.fieldLink RX7 34 RX7 "readDays" "[I" ∈ TBL := tbl_tab 579 (by decide +kernel) rfl
theorem wf_X7_37 : Cond.fieldLink RX7 37 RX7 "readNeeds" "[I" ∈ TBL := tbl_tab 580 (by decide +kernel) rfl
theorem wf_X7_40 : Cond.fieldLink RX7 40 RX7 "values" "[I" ∈ TBL := tbl_tab 581 (by decide +kernel) rfl
theorem wf_X7_173 : Cond.fieldLink RX7 173 RX7 "sum" "I" ∈ TBL := tbl_tab 582 (by decide +kernel) rfl
theorem wf_X7_43 : Cond.fieldLink RX7 43 RX7 "base" "[I" ∈ TBL := tbl_tab 583 (by decide +kernel) rfl
theorem wf_X7_184 : Cond.fieldLink RX7 184 RX7 "bestSum" "I" ∈ TBL := tbl_tab 584 (by decide +kernel) rfl
theorem wf_X7_46 : Cond.fieldLink RX7 46 RX7 "chosen" "[I" ∈ TBL := tbl_tab 585 (by decide +kernel) rfl
theorem wf_X7_49 : Cond.fieldLink RX7 49 RX7 "tries" "[I" ∈ TBL := tbl_tab 586 (by decide +kernel) rfl
theorem wf_X7_52 : Cond.fieldLink RX7 52 RX7 "ends" "[I" ∈ TBL := tbl_tab 587 (by decide +kernel) rfl
theorem wf_X7_55 : Cond.fieldLink RX7 55 RX7 "dues" "[I" ∈ TBL := tbl_tab 588 (by decide +kernel) rfl
theorem wf_X7_207 : Cond.fieldLink RX7 207 RX7 "upper" "J" ∈ TBL := tbl_tab 589 (by decide +kernel) rfl
theorem wf_X7_211 : Cond.fieldLink RX7 211 RX7 "lower" "J" ∈ TBL := tbl_tab 590 (by decide +kernel) rfl
theorem wf_X7_58 : Cond.fieldLink RX7 58 RX7 "olds" "[I" ∈ TBL := tbl_tab 591 (by decide +kernel) rfl
theorem wf_X7_61 : Cond.fieldLink RX7 61 RX7 "image" "[I" ∈ TBL := tbl_tab 592 (by decide +kernel) rfl
theorem wf_X7_221 : Cond.fieldLink RX7 221 RX7 "isImage" "Z" ∈ TBL := tbl_tab 593 (by decide +kernel) rfl
theorem wf_X7_64 : Cond.fieldLink RX7 64 RX7 "lanes" "[I" ∈ TBL := tbl_tab 594 (by decide +kernel) rfl
theorem wf_X7_67 : Cond.fieldLink RX7 67 RX7 "sizes" "[I" ∈ TBL := tbl_tab 595 (by decide +kernel) rfl
theorem wf_X7_70 : Cond.fieldLink RX7 70 RX7 "items" "[J" ∈ TBL := tbl_tab 596 (by decide +kernel) rfl
theorem wf_X7_74 : Cond.fieldLink RX7 74 RX7 "moved" "[J" ∈ TBL := tbl_tab 597 (by decide +kernel) rfl
theorem wm_L_17 : Cond.methodLink RL 17 yX7_people ∈ TBL := tbl_tab 673 (by decide +kernel) rfl
theorem wc_X7_91 : Cond.constantLong RX7 91 (4) ∈ TBL := tbl_tab 677 (by decide +kernel) rfl
theorem wm_X7_87 : Cond.methodLink RX7 87 yX7_in ∈ TBL := tbl_tab 678 (by decide +kernel) rfl
theorem wm_L_22 : Cond.methodLink RL 22 yX7_deed ∈ TBL := tbl_tab 681 (by decide +kernel) rfl
theorem wc_X7_93 : Cond.constantLong RX7 93 (3) ∈ TBL := tbl_tab 685 (by decide +kernel) rfl
theorem wc_X7_95 : Cond.constantLong RX7 95 (11) ∈ TBL := tbl_tab 686 (by decide +kernel) rfl
theorem wm_X7_97 : Cond.methodLink RX7 97 yX7_ahead ∈ TBL := tbl_tab 687 (by decide +kernel) rfl
theorem wm_X7_101 : Cond.methodLink RX7 101 yX7_adds ∈ TBL := tbl_tab 690 (by decide +kernel) rfl
theorem wm_L_27 : Cond.methodLink RL 27 yX7_told ∈ TBL := tbl_tab 694 (by decide +kernel) rfl
theorem wm_X7_109 : Cond.methodLink RX7 109 yX7_isDeed ∈ TBL := tbl_tab 698 (by decide +kernel) rfl
theorem wm_X7_119 : Cond.methodLink RX7 119 yX7_stands ∈ TBL := tbl_tab 702 (by decide +kernel) rfl
theorem wm_X7_105 : Cond.methodLink RX7 105 yX7_is ∈ TBL := tbl_tab 706 (by decide +kernel) rfl
theorem wm_L_31 : Cond.methodLink RL 31 yX7_set ∈ TBL := tbl_tab 710 (by decide +kernel) rfl
theorem wc_X7_123 : Cond.constantLong RX7 123 (9) ∈ TBL := tbl_tab 714 (by decide +kernel) rfl
theorem wm_L_35 : Cond.methodLink RL 35 yX7_worth ∈ TBL := tbl_tab 715 (by decide +kernel) rfl
theorem wc_X7_125 : Cond.constantLong RX7 125 (-9) ∈ TBL := tbl_tab 719 (by decide +kernel) rfl
theorem wc_X7_127 : Cond.constant RX7 127 (-100001) ∈ TBL := tbl_tab 720 (by decide +kernel) rfl
theorem wm_L_39 : Cond.methodLink RL 39 yX7_worthOf ∈ TBL := tbl_tab 721 (by decide +kernel) rfl
theorem wm_L_43 : Cond.methodLink RL 43 yX7_last ∈ TBL := tbl_tab 725 (by decide +kernel) rfl
theorem wm_X7_128 : Cond.methodLink RX7 128 yX7_areDeeds ∈ TBL := tbl_tab 729 (by decide +kernel) rfl
theorem wm_L_56 : Cond.methodLink RL 56 yX7_count ∈ TBL := tbl_tab 733 (by decide +kernel) rfl
theorem wm_L_47 : Cond.methodLink RL 47 yX7_type ∈ TBL := tbl_tab 737 (by decide +kernel) rfl
theorem wc_X7_134 : Cond.constantLong RX7 134 (32) ∈ TBL := tbl_tab 741 (by decide +kernel) rfl
theorem wc_X7_136 : Cond.constantLong RX7 136 (126) ∈ TBL := tbl_tab 742 (by decide +kernel) rfl
theorem wm_L_52 : Cond.methodLink RL 52 yX7_text ∈ TBL := tbl_tab 743 (by decide +kernel) rfl
theorem wm_X7_159 : Cond.methodLink RX7 159 yX7_readDeed ∈ TBL := tbl_tab 747 (by decide +kernel) rfl
theorem wm_X7_144 : Cond.methodLink RX7 144 yX7_here ∈ TBL := tbl_tab 751 (by decide +kernel) rfl
theorem wc_X7_152 : Cond.constantLong RX7 152 (97) ∈ TBL := tbl_tab 755 (by decide +kernel) rfl
theorem wc_X7_154 : Cond.constantLong RX7 154 (108) ∈ TBL := tbl_tab 756 (by decide +kernel) rfl
theorem wm_L_60 : Cond.methodLink RL 60 yX7_right ∈ TBL := tbl_tab 757 (by decide +kernel) rfl
theorem wm_X7_162 : Cond.methodLink RX7 162 yX7_ofDay ∈ TBL := tbl_tab 761 (by decide +kernel) rfl
theorem wm_L_64 : Cond.methodLink RL 64 yX7_back ∈ TBL := tbl_tab 765 (by decide +kernel) rfl
theorem wc_X7_166 : Cond.constant RX7 166 (-100002) ∈ TBL := tbl_tab 769 (by decide +kernel) rfl
theorem wm_L_68 : Cond.methodLink RL 68 yX7_year ∈ TBL := tbl_tab 770 (by decide +kernel) rfl
theorem wm_X7_167 : Cond.methodLink RX7 167 yX7_size ∈ TBL := tbl_tab 774 (by decide +kernel) rfl
theorem wm_L_76 : Cond.methodLink RL 76 yX7_bears ∈ TBL := tbl_tab 777 (by decide +kernel) rfl
theorem wm_X7_170 : Cond.methodLink RX7 170 yX7_bearer ∈ TBL := tbl_tab 781 (by decide +kernel) rfl
theorem wm_L_72 : Cond.methodLink RL 72 yX7_value ∈ TBL := tbl_tab 785 (by decide +kernel) rfl
theorem wm_X7_176 : Cond.methodLink RX7 176 yX7_isOne ∈ TBL := tbl_tab 789 (by decide +kernel) rfl
theorem wm_X7_180 : Cond.methodLink RX7 180 yX7_counts ∈ TBL := tbl_tab 793 (by decide +kernel) rfl
theorem wm_L_80 : Cond.methodLink RL 80 yX7_best ∈ TBL := tbl_tab 797 (by decide +kernel) rfl
theorem wm_X7_191 : Cond.methodLink RX7 191 yX7_bestOf ∈ TBL := tbl_tab 801 (by decide +kernel) rfl
theorem wm_X7_187 : Cond.methodLink RX7 187 yX7_isWalk ∈ TBL := tbl_tab 805 (by decide +kernel) rfl
theorem wm_L_84 : Cond.methodLink RL 84 yX7_wanted ∈ TBL := tbl_tab 809 (by decide +kernel) rfl
theorem wm_L_88 : Cond.methodLink RL 88 yX7_self ∈ TBL := tbl_tab 813 (by decide +kernel) rfl
theorem wm_X7_198 : Cond.methodLink RX7 198 yX7_plays ∈ TBL := tbl_tab 817 (by decide +kernel) rfl
theorem wm_X7_195 : Cond.methodLink RX7 195 yX7_own ∈ TBL := tbl_tab 821 (by decide +kernel) rfl
theorem wm_L_92 : Cond.methodLink RL 92 yX7_turn ∈ TBL := tbl_tab 825 (by decide +kernel) rfl
theorem wm_L_97 : Cond.methodLink RL 97 yX7_bargain ∈ TBL := tbl_tab 829 (by decide +kernel) rfl
theorem wm_L_101 : Cond.methodLink RL 101 yX7_due ∈ TBL := tbl_tab 833 (by decide +kernel) rfl
theorem wm_X7_201 : Cond.methodLink RX7 201 yX7_owes ∈ TBL := tbl_tab 837 (by decide +kernel) rfl
theorem wm_L_105 : Cond.methodLink RL 105 yX7_payments ∈ TBL := tbl_tab 841 (by decide +kernel) rfl
theorem wm_X7_204 : Cond.methodLink RX7 204 yX7_isZero ∈ TBL := tbl_tab 845 (by decide +kernel) rfl
theorem wm_L_109 : Cond.methodLink RL 109 yX7_forgotten ∈ TBL := tbl_tab 849 (by decide +kernel) rfl
theorem wm_L_114 : Cond.methodLink RL 114 yX7_upper ∈ TBL := tbl_tab 853 (by decide +kernel) rfl
theorem wm_X7_214 : Cond.methodLink RX7 214 yX7_expects ∈ TBL := tbl_tab 857 (by decide +kernel) rfl
theorem wm_L_118 : Cond.methodLink RL 118 yX7_lower ∈ TBL := tbl_tab 861 (by decide +kernel) rfl
theorem wm_L_122 : Cond.methodLink RL 122 yX7_comes ∈ TBL := tbl_tab 865 (by decide +kernel) rfl
theorem wm_L_126 : Cond.methodLink RL 126 yX7_image ∈ TBL := tbl_tab 869 (by decide +kernel) rfl
theorem wm_X7_217 : Cond.methodLink RX7 217 yX7_notes ∈ TBL := tbl_tab 873 (by decide +kernel) rfl
theorem wm_L_130 : Cond.methodLink RL 130 yX7_restore ∈ TBL := tbl_tab 877 (by decide +kernel) rfl
theorem wm_X7_224 : Cond.methodLink RX7 224 yX7_gives ∈ TBL := tbl_tab 881 (by decide +kernel) rfl
theorem wm_L_134 : Cond.methodLink RL 134 yX7_judged ∈ TBL := tbl_tab 885 (by decide +kernel) rfl
theorem wm_X7_228 : Cond.methodLink RX7 228 yX7_isSheet ∈ TBL := tbl_tab 889 (by decide +kernel) rfl
theorem wm_X7_231 : Cond.methodLink RX7 231 yX7_isLane ∈ TBL := tbl_tab 892 (by decide +kernel) rfl
theorem wm_X7_234 : Cond.methodLink RX7 234 yX7_why ∈ TBL := tbl_tab 895 (by decide +kernel) rfl
theorem wc_X7_238 : Cond.constantLong RX7 238 (-1) ∈ TBL := tbl_tab 899 (by decide +kernel) rfl
theorem wm_L_139 : Cond.methodLink RL 139 yX7_net ∈ TBL := tbl_tab 900 (by decide +kernel) rfl
theorem wc_X7_240 : Cond.constantLong RX7 240 (8) ∈ TBL := tbl_tab 904 (by decide +kernel) rfl
theorem wm_L_143 : Cond.methodLink RL 143 yX7_film ∈ TBL := tbl_tab 905 (by decide +kernel) rfl
theorem wm_X7_242 : Cond.methodLink RX7 242 yX7_puts ∈ TBL := tbl_tab 909 (by decide +kernel) rfl
theorem wm_L_147 : Cond.methodLink RL 147 yX7_sheet ∈ TBL := tbl_tab 913 (by decide +kernel) rfl
theorem wm_L_151 : Cond.methodLink RL 151 yX7_drop ∈ TBL := tbl_tab 917 (by decide +kernel) rfl
theorem wm_L_158 : Cond.methodLink RL 158 yX7_item ∈ TBL := tbl_tab 921 (by decide +kernel) rfl
theorem wm_L_163 : Cond.methodLink RL 163 yX7_copy ∈ TBL := tbl_tab 925 (by decide +kernel) rfl
theorem wc_L_152 : Cond.constantLong RL 152 (4294967295) ∈ TBL := tbl_tab 929 (by decide +kernel) rfl
def okM (y : MethodName) (b : ByteArray) (nL : Nat) (ret : Option FieldType) (n : Nat) : Prop := Cond.code y b nL ret ∈ TBL ∧ Cond.initialized y.cls ∈ TBL ∧ (y.cls ≠ "java/lang/invoke/MethodHandle" ∧ y.cls ≠ "java/lang/invoke/VarHandle") ∧ (parseMethodDescriptor y.desc).map (fun d => d.parameters.length) = some n
theorem ok_X6_init : okM yX6_init cX6_init 1 none 0 := ⟨tbl_tab 16 (by decide +kernel) rfl, wi_X6, ⟨by decide +kernel, by decide +kernel⟩, by decide +kernel⟩
theorem wn_X6_init : Cond.instanceMethod yX6_init ∈ TBL := tbl_tab 15 (by decide +kernel) rfl
theorem ok_X5_init : okM yX5_init cX5_init 1 none 0 := ⟨tbl_tab 24 (by decide +kernel) rfl, wi_X5, ⟨by decide +kernel, by decide +kernel⟩, by decide +kernel⟩
theorem wn_X5_init : Cond.instanceMethod yX5_init ∈ TBL := tbl_tab 23 (by decide +kernel) rfl
theorem ok_X3_init : okM yX3_init cX3_init 1 none 0 := ⟨tbl_tab 92 (by decide +kernel) rfl, wi_X3, ⟨by decide +kernel, by decide +kernel⟩, by decide +kernel⟩
theorem wn_X3_init : Cond.instanceMethod yX3_init ∈ TBL := tbl_tab 91 (by decide +kernel) rfl
theorem ok_X2_init : okM yX2_init cX2_init 1 none 0 := ⟨tbl_tab 113 (by decide +kernel) rfl, wi_X2, ⟨by decide +kernel, by decide +kernel⟩, by decide +kernel⟩
theorem wn_X2_init : Cond.instanceMethod yX2_init ∈ TBL := tbl_tab 112 (by decide +kernel) rfl
theorem ok_X6_people : okM yX6_people cX6_people 3 (some .int) 1 := ⟨tbl_tab 159 (by decide +kernel) rfl, wi_X6, ⟨by decide +kernel, by decide +kernel⟩, by decide +kernel⟩
theorem wn_X6_people : Cond.instanceMethod yX6_people ∈ TBL := tbl_tab 157 (by decide +kernel) rfl
theorem wl_X6_people : Cond.selects RX6 yX6_people yX6_people ∈ TBL := tbl_tab 158 (by decide +kernel) rfl
theorem ok_X6_deed : okM yX6_deed cX6_deed 4 (some .int) 3 := ⟨tbl_tab 163 (by decide +kernel) rfl, wi_X6, ⟨by decide +kernel, by decide +kernel⟩, by decide +kernel⟩
theorem wn_X6_deed : Cond.instanceMethod yX6_deed ∈ TBL := tbl_tab 161 (by decide +kernel) rfl
theorem wl_X6_deed : Cond.selects RX6 yX6_deed yX6_deed ∈ TBL := tbl_tab 162 (by decide +kernel) rfl
theorem ok_X6_isDay : okM yX6_isDay cX6_isDay 1 (some .boolean) 1 := ⟨tbl_tab 166 (by decide +kernel) rfl, wi_X6, ⟨by decide +kernel, by decide +kernel⟩, by decide +kernel⟩
theorem ws_X6_isDay : Cond.static yX6_isDay ∈ TBL := tbl_tab 165 (by decide +kernel) rfl
theorem ok_X5_needable : okM yX5_needable cX5_needable 5 (some .int) 2 := ⟨tbl_tab 170 (by decide +kernel) rfl, wi_X5, ⟨by decide +kernel, by decide +kernel⟩, by decide +kernel⟩
theorem wn_X5_needable : Cond.instanceMethod yX5_needable ∈ TBL := tbl_tab 169 (by decide +kernel) rfl
theorem wl_X5_needable : Cond.selects RX5 yX5_needable yX5_needable ∈ TBL := tbl_sel 0 (by decide +kernel) rfl
theorem ok_X6_isWithin : okM yX6_isWithin cX6_isWithin 2 (some .boolean) 2 := ⟨tbl_tab 173 (by decide +kernel) rfl, wi_X6, ⟨by decide +kernel, by decide +kernel⟩, by decide +kernel⟩
theorem ws_X6_isWithin : Cond.static yX6_isWithin ∈ TBL := tbl_tab 172 (by decide +kernel) rfl
theorem ok_X5_add : okM yX5_add cX5_add 5 (some .boolean) 3 := ⟨tbl_tab 177 (by decide +kernel) rfl, wi_X5, ⟨by decide +kernel, by decide +kernel⟩, by decide +kernel⟩
theorem wn_X5_add : Cond.instanceMethod yX5_add ∈ TBL := tbl_tab 176 (by decide +kernel) rfl
theorem wl_X5_add : Cond.selects RX5 yX5_add yX5_add ∈ TBL := tbl_sel 1 (by decide +kernel) rfl
theorem ok_X6_told : okM yX6_told cX6_told 3 (some .int) 2 := ⟨tbl_tab 181 (by decide +kernel) rfl, wi_X6, ⟨by decide +kernel, by decide +kernel⟩, by decide +kernel⟩
theorem wn_X6_told : Cond.instanceMethod yX6_told ∈ TBL := tbl_tab 179 (by decide +kernel) rfl
theorem wl_X6_told : Cond.selects RX6 yX6_told yX6_told ∈ TBL := tbl_tab 180 (by decide +kernel) rfl
theorem ok_X5_has : okM yX5_has cX5_has 2 (some .boolean) 1 := ⟨tbl_tab 185 (by decide +kernel) rfl, wi_X5, ⟨by decide +kernel, by decide +kernel⟩, by decide +kernel⟩
theorem wn_X5_has : Cond.instanceMethod yX5_has ∈ TBL := tbl_tab 184 (by decide +kernel) rfl
theorem wl_X5_has : Cond.selects RX5 yX5_has yX5_has ∈ TBL := tbl_sel 2 (by decide +kernel) rfl
theorem ok_X5_standing : okM yX5_standing cX5_standing 4 (some .int) 1 := ⟨tbl_tab 189 (by decide +kernel) rfl, wi_X5, ⟨by decide +kernel, by decide +kernel⟩, by decide +kernel⟩
theorem wn_X5_standing : Cond.instanceMethod yX5_standing ∈ TBL := tbl_tab 188 (by decide +kernel) rfl
theorem wl_X5_standing : Cond.selects RX5 yX5_standing yX5_standing ∈ TBL := tbl_sel 3 (by decide +kernel) rfl
theorem ok_X6_isIn : okM yX6_isIn cX6_isIn 2 (some .boolean) 2 := ⟨tbl_tab 192 (by decide +kernel) rfl, wi_X6, ⟨by decide +kernel, by decide +kernel⟩, by decide +kernel⟩
theorem ws_X6_isIn : Cond.static yX6_isIn ∈ TBL := tbl_tab 191 (by decide +kernel) rfl
theorem ok_X5_wouldStand : okM yX5_wouldStand cX5_wouldStand 4 (some .boolean) 2 := ⟨tbl_tab 196 (by decide +kernel) rfl, wi_X5, ⟨by decide +kernel, by decide +kernel⟩, by decide +kernel⟩
theorem wn_X5_wouldStand : Cond.instanceMethod yX5_wouldStand ∈ TBL := tbl_tab 195 (by decide +kernel) rfl
theorem wl_X5_wouldStand : Cond.selects RX5 yX5_wouldStand yX5_wouldStand ∈ TBL := tbl_sel 4 (by decide +kernel) rfl
theorem ok_X5_isMet : okM yX5_isMet cX5_isMet 4 (some .boolean) 3 := ⟨tbl_tab 199 (by decide +kernel) rfl, wi_X5, ⟨by decide +kernel, by decide +kernel⟩, by decide +kernel⟩
theorem ws_X5_isMet : Cond.static yX5_isMet ∈ TBL := tbl_tab 198 (by decide +kernel) rfl
theorem ok_X6_set : okM yX6_set cX6_set 7 (some .int) 3 := ⟨tbl_tab 204 (by decide +kernel) rfl, wi_X6, ⟨by decide +kernel, by decide +kernel⟩, by decide +kernel⟩
theorem wn_X6_set : Cond.instanceMethod yX6_set ∈ TBL := tbl_tab 202 (by decide +kernel) rfl
theorem wl_X6_set : Cond.selects RX6 yX6_set yX6_set ∈ TBL := tbl_tab 203 (by decide +kernel) rfl
theorem ok_X6_isChoice : okM yX6_isChoice cX6_isChoice 1 (some .boolean) 1 := ⟨tbl_tab 207 (by decide +kernel) rfl, wi_X6, ⟨by decide +kernel, by decide +kernel⟩, by decide +kernel⟩
theorem ws_X6_isChoice : Cond.static yX6_isChoice ∈ TBL := tbl_tab 206 (by decide +kernel) rfl
theorem ok_X6_worth : okM yX6_worth cX6_worth 5 (some .int) 3 := ⟨tbl_tab 211 (by decide +kernel) rfl, wi_X6, ⟨by decide +kernel, by decide +kernel⟩, by decide +kernel⟩
theorem wn_X6_worth : Cond.instanceMethod yX6_worth ∈ TBL := tbl_tab 209 (by decide +kernel) rfl
theorem wl_X6_worth : Cond.selects RX6 yX6_worth yX6_worth ∈ TBL := tbl_tab 210 (by decide +kernel) rfl
theorem ok_X6_isEverPerson : okM yX6_isEverPerson cX6_isEverPerson 1 (some .boolean) 1 := ⟨tbl_tab 214 (by decide +kernel) rfl, wi_X6, ⟨by decide +kernel, by decide +kernel⟩, by decide +kernel⟩
theorem ws_X6_isEverPerson : Cond.static yX6_isEverPerson ∈ TBL := tbl_tab 213 (by decide +kernel) rfl
theorem ok_X5_worthTo : okM yX5_worthTo cX5_worthTo 3 (some .int) 2 := ⟨tbl_tab 219 (by decide +kernel) rfl, wi_X5, ⟨by decide +kernel, by decide +kernel⟩, by decide +kernel⟩
theorem wn_X5_worthTo : Cond.instanceMethod yX5_worthTo ∈ TBL := tbl_tab 218 (by decide +kernel) rfl
theorem wl_X5_worthTo : Cond.selects RX5 yX5_worthTo yX5_worthTo ∈ TBL := tbl_sel 5 (by decide +kernel) rfl
theorem ok_X6_worthOf : okM yX6_worthOf cX6_worthOf 3 (some .int) 2 := ⟨tbl_tab 223 (by decide +kernel) rfl, wi_X6, ⟨by decide +kernel, by decide +kernel⟩, by decide +kernel⟩
theorem wn_X6_worthOf : Cond.instanceMethod yX6_worthOf ∈ TBL := tbl_tab 221 (by decide +kernel) rfl
theorem wl_X6_worthOf : Cond.selects RX6 yX6_worthOf yX6_worthOf ∈ TBL := tbl_tab 222 (by decide +kernel) rfl
theorem ok_X6_last : okM yX6_last cX6_last 3 (some .int) 1 := ⟨tbl_tab 227 (by decide +kernel) rfl, wi_X6, ⟨by decide +kernel, by decide +kernel⟩, by decide +kernel⟩
theorem wn_X6_last : Cond.instanceMethod yX6_last ∈ TBL := tbl_tab 225 (by decide +kernel) rfl
theorem wl_X6_last : Cond.selects RX6 yX6_last yX6_last ∈ TBL := tbl_tab 226 (by decide +kernel) rfl
theorem ok_X5_all : okM yX5_all cX5_all 1 (some .int) 0 := ⟨tbl_tab 231 (by decide +kernel) rfl, wi_X5, ⟨by decide +kernel, by decide +kernel⟩, by decide +kernel⟩
theorem wn_X5_all : Cond.instanceMethod yX5_all ∈ TBL := tbl_tab 230 (by decide +kernel) rfl
theorem wl_X5_all : Cond.selects RX5 yX5_all yX5_all ∈ TBL := tbl_sel 6 (by decide +kernel) rfl
theorem ok_X6_type : okM yX6_type cX6_type 2 (some .int) 1 := ⟨tbl_tab 235 (by decide +kernel) rfl, wi_X6, ⟨by decide +kernel, by decide +kernel⟩, by decide +kernel⟩
theorem wn_X6_type : Cond.instanceMethod yX6_type ∈ TBL := tbl_tab 233 (by decide +kernel) rfl
theorem wl_X6_type : Cond.selects RX6 yX6_type yX6_type ∈ TBL := tbl_tab 234 (by decide +kernel) rfl
theorem ok_X3_add : okM yX3_add cX3_add 2 (some .boolean) 1 := ⟨tbl_tab 239 (by decide +kernel) rfl, wi_X3, ⟨by decide +kernel, by decide +kernel⟩, by decide +kernel⟩
theorem wn_X3_add : Cond.instanceMethod yX3_add ∈ TBL := tbl_tab 238 (by decide +kernel) rfl
theorem wl_X3_add : Cond.selects RX3 yX3_add yX3_add ∈ TBL := tbl_sel 7 (by decide +kernel) rfl
theorem ok_X6_text : okM yX6_text cX6_text 2 (some .int) 0 := ⟨tbl_tab 243 (by decide +kernel) rfl, wi_X6, ⟨by decide +kernel, by decide +kernel⟩, by decide +kernel⟩
theorem wn_X6_text : Cond.instanceMethod yX6_text ∈ TBL := tbl_tab 241 (by decide +kernel) rfl
theorem wl_X6_text : Cond.selects RX6 yX6_text yX6_text ∈ TBL := tbl_tab 242 (by decide +kernel) rfl
theorem ok_X5_clear : okM yX5_clear cX5_clear 1 none 0 := ⟨tbl_tab 247 (by decide +kernel) rfl, wi_X5, ⟨by decide +kernel, by decide +kernel⟩, by decide +kernel⟩
theorem wn_X5_clear : Cond.instanceMethod yX5_clear ∈ TBL := tbl_tab 246 (by decide +kernel) rfl
theorem wl_X5_clear : Cond.selects RX5 yX5_clear yX5_clear ∈ TBL := tbl_sel 8 (by decide +kernel) rfl
theorem ok_X3_readInto : okM yX3_readInto cX3_readInto 4 (some .int) 1 := ⟨tbl_tab 251 (by decide +kernel) rfl, wi_X3, ⟨by decide +kernel, by decide +kernel⟩, by decide +kernel⟩
theorem wn_X3_readInto : Cond.instanceMethod yX3_readInto ∈ TBL := tbl_tab 250 (by decide +kernel) rfl
theorem wl_X3_readInto : Cond.selects RX3 yX3_readInto yX3_readInto ∈ TBL := tbl_sel 9 (by decide +kernel) rfl
theorem ok_X3_takes : okM yX3_takes cX3_takes 3 (some .boolean) 2 := ⟨tbl_tab 255 (by decide +kernel) rfl, wi_X3, ⟨by decide +kernel, by decide +kernel⟩, by decide +kernel⟩
theorem wn_X3_takes : Cond.instanceMethod yX3_takes ∈ TBL := tbl_tab 254 (by decide +kernel) rfl
theorem wl_X3_takes : Cond.selects RX3 yX3_takes yX3_takes ∈ TBL := tbl_sel 10 (by decide +kernel) rfl
theorem ok_X3_takesKind : okM yX3_takesKind cX3_takesKind 2 (some .boolean) 1 := ⟨tbl_tab 259 (by decide +kernel) rfl, wi_X3, ⟨by decide +kernel, by decide +kernel⟩, by decide +kernel⟩
theorem wn_X3_takesKind : Cond.instanceMethod yX3_takesKind ∈ TBL := tbl_tab 258 (by decide +kernel) rfl
theorem wl_X3_takesKind : Cond.selects RX3 yX3_takesKind yX3_takesKind ∈ TBL := tbl_sel 11 (by decide +kernel) rfl
theorem ok_X3_takesDay : okM yX3_takesDay cX3_takesDay 4 (some .boolean) 2 := ⟨tbl_tab 263 (by decide +kernel) rfl, wi_X3, ⟨by decide +kernel, by decide +kernel⟩, by decide +kernel⟩
theorem wn_X3_takesDay : Cond.instanceMethod yX3_takesDay ∈ TBL := tbl_tab 262 (by decide +kernel) rfl
theorem wl_X3_takesDay : Cond.selects RX3 yX3_takesDay yX3_takesDay ∈ TBL := tbl_sel 12 (by decide +kernel) rfl
theorem ok_X3_takesComma : okM yX3_takesComma cX3_takesComma 2 (some .boolean) 1 := ⟨tbl_tab 269 (by decide +kernel) rfl, wi_X3, ⟨by decide +kernel, by decide +kernel⟩, by decide +kernel⟩
theorem wn_X3_takesComma : Cond.instanceMethod yX3_takesComma ∈ TBL := tbl_tab 268 (by decide +kernel) rfl
theorem wl_X3_takesComma : Cond.selects RX3 yX3_takesComma yX3_takesComma ∈ TBL := tbl_sel 13 (by decide +kernel) rfl
theorem ok_X3_takesNeed : okM yX3_takesNeed cX3_takesNeed 5 (some .boolean) 2 := ⟨tbl_tab 273 (by decide +kernel) rfl, wi_X3, ⟨by decide +kernel, by decide +kernel⟩, by decide +kernel⟩
theorem wn_X3_takesNeed : Cond.instanceMethod yX3_takesNeed ∈ TBL := tbl_tab 272 (by decide +kernel) rfl
theorem wl_X3_takesNeed : Cond.selects RX3 yX3_takesNeed yX3_takesNeed ∈ TBL := tbl_sel 14 (by decide +kernel) rfl
theorem ok_X5_become : okM yX5_become cX5_become 2 none 1 := ⟨tbl_tab 280 (by decide +kernel) rfl, wi_X5, ⟨by decide +kernel, by decide +kernel⟩, by decide +kernel⟩
theorem wn_X5_become : Cond.instanceMethod yX5_become ∈ TBL := tbl_tab 279 (by decide +kernel) rfl
theorem wl_X5_become : Cond.selects RX5 yX5_become yX5_become ∈ TBL := tbl_sel 15 (by decide +kernel) rfl
theorem ok_X6_count : okM yX6_count cX6_count 2 (some .int) 1 := ⟨tbl_tab 287 (by decide +kernel) rfl, wi_X6, ⟨by decide +kernel, by decide +kernel⟩, by decide +kernel⟩
theorem wn_X6_count : Cond.instanceMethod yX6_count ∈ TBL := tbl_tab 285 (by decide +kernel) rfl
theorem wl_X6_count : Cond.selects RX6 yX6_count yX6_count ∈ TBL := tbl_tab 286 (by decide +kernel) rfl
theorem ok_X6_right : okM yX6_right cX6_right 4 (some .int) 1 := ⟨tbl_tab 291 (by decide +kernel) rfl, wi_X6, ⟨by decide +kernel, by decide +kernel⟩, by decide +kernel⟩
theorem wn_X6_right : Cond.instanceMethod yX6_right ∈ TBL := tbl_tab 289 (by decide +kernel) rfl
theorem wl_X6_right : Cond.selects RX6 yX6_right yX6_right ∈ TBL := tbl_tab 290 (by decide +kernel) rfl
theorem ok_X5_ofDay : okM yX5_ofDay cX5_ofDay 4 (some .int) 1 := ⟨tbl_tab 295 (by decide +kernel) rfl, wi_X5, ⟨by decide +kernel, by decide +kernel⟩, by decide +kernel⟩
theorem wn_X5_ofDay : Cond.instanceMethod yX5_ofDay ∈ TBL := tbl_tab 294 (by decide +kernel) rfl
theorem wl_X5_ofDay : Cond.selects RX5 yX5_ofDay yX5_ofDay ∈ TBL := tbl_sel 16 (by decide +kernel) rfl
theorem ok_X6_back : okM yX6_back cX6_back 1 (some .int) 0 := ⟨tbl_tab 299 (by decide +kernel) rfl, wi_X6, ⟨by decide +kernel, by decide +kernel⟩, by decide +kernel⟩
theorem wn_X6_back : Cond.instanceMethod yX6_back ∈ TBL := tbl_tab 297 (by decide +kernel) rfl
theorem wl_X6_back : Cond.selects RX6 yX6_back yX6_back ∈ TBL := tbl_tab 298 (by decide +kernel) rfl
theorem ok_X6_year : okM yX6_year cX6_year 1 (some .int) 0 := ⟨tbl_tab 304 (by decide +kernel) rfl, wi_X6, ⟨by decide +kernel, by decide +kernel⟩, by decide +kernel⟩
theorem wn_X6_year : Cond.instanceMethod yX6_year ∈ TBL := tbl_tab 302 (by decide +kernel) rfl
theorem wl_X6_year : Cond.selects RX6 yX6_year yX6_year ∈ TBL := tbl_tab 303 (by decide +kernel) rfl
theorem ok_X5_beginNext : okM yX5_beginNext cX5_beginNext 1 none 0 := ⟨tbl_tab 308 (by decide +kernel) rfl, wi_X5, ⟨by decide +kernel, by decide +kernel⟩, by decide +kernel⟩
theorem wn_X5_beginNext : Cond.instanceMethod yX5_beginNext ∈ TBL := tbl_tab 307 (by decide +kernel) rfl
theorem wl_X5_beginNext : Cond.selects RX5 yX5_beginNext yX5_beginNext ∈ TBL := tbl_sel 17 (by decide +kernel) rfl
theorem ok_J6_bitCount_0f7a4 : okM yJ6_bitCount_0f7a4 cJ6_bitCount_0f7a4 1 (some .int) 1 := ⟨tbl_tab 312 (by decide +kernel) rfl, wi_J6, ⟨by decide +kernel, by decide +kernel⟩, by decide +kernel⟩
theorem ws_J6_bitCount_0f7a4 : Cond.static yJ6_bitCount_0f7a4 ∈ TBL := tbl_tab 311 (by decide +kernel) rfl
theorem ok_X6_value : okM yX6_value cX6_value 2 (some .int) 1 := ⟨tbl_tab 319 (by decide +kernel) rfl, wi_X6, ⟨by decide +kernel, by decide +kernel⟩, by decide +kernel⟩
theorem wn_X6_value : Cond.instanceMethod yX6_value ∈ TBL := tbl_tab 317 (by decide +kernel) rfl
theorem wl_X6_value : Cond.selects RX6 yX6_value yX6_value ∈ TBL := tbl_tab 318 (by decide +kernel) rfl
theorem ok_X5_sumBy : okM yX5_sumBy cX5_sumBy 5 (some .int) 1 := ⟨tbl_tab 323 (by decide +kernel) rfl, wi_X5, ⟨by decide +kernel, by decide +kernel⟩, by decide +kernel⟩
theorem wn_X5_sumBy : Cond.instanceMethod yX5_sumBy ∈ TBL := tbl_tab 322 (by decide +kernel) rfl
theorem wl_X5_sumBy : Cond.selects RX5 yX5_sumBy yX5_sumBy ∈ TBL := tbl_sel 18 (by decide +kernel) rfl
theorem ok_X5_valueOf : okM yX5_valueOf cX5_valueOf 6 (some .int) 3 := ⟨tbl_tab 327 (by decide +kernel) rfl, wi_X5, ⟨by decide +kernel, by decide +kernel⟩, by decide +kernel⟩
theorem wn_X5_valueOf : Cond.instanceMethod yX5_valueOf ∈ TBL := tbl_tab 326 (by decide +kernel) rfl
theorem wl_X5_valueOf : Cond.selects RX5 yX5_valueOf yX5_valueOf ∈ TBL := tbl_sel 19 (by decide +kernel) rfl
theorem ok_X5_bearer : okM yX5_bearer cX5_bearer 5 (some .int) 1 := ⟨tbl_tab 332 (by decide +kernel) rfl, wi_X5, ⟨by decide +kernel, by decide +kernel⟩, by decide +kernel⟩
theorem wn_X5_bearer : Cond.instanceMethod yX5_bearer ∈ TBL := tbl_tab 331 (by decide +kernel) rfl
theorem wl_X5_bearer : Cond.selects RX5 yX5_bearer yX5_bearer ∈ TBL := tbl_sel 20 (by decide +kernel) rfl
theorem ok_X5_isPerson : okM yX5_isPerson cX5_isPerson 2 (some .boolean) 1 := ⟨tbl_tab 336 (by decide +kernel) rfl, wi_X5, ⟨by decide +kernel, by decide +kernel⟩, by decide +kernel⟩
theorem wn_X5_isPerson : Cond.instanceMethod yX5_isPerson ∈ TBL := tbl_tab 335 (by decide +kernel) rfl
theorem wl_X5_isPerson : Cond.selects RX5 yX5_isPerson yX5_isPerson ∈ TBL := tbl_sel 21 (by decide +kernel) rfl
theorem ok_X5_valueBy : okM yX5_valueBy cX5_valueBy 3 (some .int) 2 := ⟨tbl_tab 340 (by decide +kernel) rfl, wi_X5, ⟨by decide +kernel, by decide +kernel⟩, by decide +kernel⟩
theorem wn_X5_valueBy : Cond.instanceMethod yX5_valueBy ∈ TBL := tbl_tab 339 (by decide +kernel) rfl
theorem wl_X5_valueBy : Cond.selects RX5 yX5_valueBy yX5_valueBy ∈ TBL := tbl_sel 22 (by decide +kernel) rfl
theorem ok_X6_bears : okM yX6_bears cX6_bears 2 (some .int) 1 := ⟨tbl_tab 344 (by decide +kernel) rfl, wi_X6, ⟨by decide +kernel, by decide +kernel⟩, by decide +kernel⟩
theorem wn_X6_bears : Cond.instanceMethod yX6_bears ∈ TBL := tbl_tab 342 (by decide +kernel) rfl
theorem wl_X6_bears : Cond.selects RX6 yX6_bears yX6_bears ∈ TBL := tbl_tab 343 (by decide +kernel) rfl
theorem ok_X6_best : okM yX6_best cX6_best 5 (some .int) 3 := ⟨tbl_tab 349 (by decide +kernel) rfl, wi_X6, ⟨by decide +kernel, by decide +kernel⟩, by decide +kernel⟩
theorem wn_X6_best : Cond.instanceMethod yX6_best ∈ TBL := tbl_tab 347 (by decide +kernel) rfl
theorem wl_X6_best : Cond.selects RX6 yX6_best yX6_best ∈ TBL := tbl_tab 348 (by decide +kernel) rfl
theorem ok_X6_isWalkLength : okM yX6_isWalkLength cX6_isWalkLength 1 (some .boolean) 1 := ⟨tbl_tab 352 (by decide +kernel) rfl, wi_X6, ⟨by decide +kernel, by decide +kernel⟩, by decide +kernel⟩
theorem ws_X6_isWalkLength : Cond.static yX6_isWalkLength ∈ TBL := tbl_tab 351 (by decide +kernel) rfl
theorem ok_X4_most : okM yX4_most cX4_most 9 (some .int) 3 := ⟨tbl_tab 355 (by decide +kernel) rfl, wi_X4, ⟨by decide +kernel, by decide +kernel⟩, by decide +kernel⟩
theorem ws_X4_most : Cond.static yX4_most ∈ TBL := tbl_tab 354 (by decide +kernel) rfl
theorem ok_X4_isWalk : okM yX4_isWalk cX4_isWalk 7 (some .boolean) 4 := ⟨tbl_tab 360 (by decide +kernel) rfl, wi_X4, ⟨by decide +kernel, by decide +kernel⟩, by decide +kernel⟩
theorem ws_X4_isWalk : Cond.static yX4_isWalk ∈ TBL := tbl_tab 359 (by decide +kernel) rfl
theorem ok_X4_isFair : okM yX4_isFair cX4_isFair 3 (some .boolean) 2 := ⟨tbl_tab 366 (by decide +kernel) rfl, wi_X4, ⟨by decide +kernel, by decide +kernel⟩, by decide +kernel⟩
theorem ws_X4_isFair : Cond.static yX4_isFair ∈ TBL := tbl_tab 365 (by decide +kernel) rfl
theorem ok_X6_wanted : okM yX6_wanted cX6_wanted 3 (some .int) 2 := ⟨tbl_tab 371 (by decide +kernel) rfl, wi_X6, ⟨by decide +kernel, by decide +kernel⟩, by decide +kernel⟩
theorem wn_X6_wanted : Cond.instanceMethod yX6_wanted ∈ TBL := tbl_tab 369 (by decide +kernel) rfl
theorem wl_X6_wanted : Cond.selects RX6 yX6_wanted yX6_wanted ∈ TBL := tbl_tab 370 (by decide +kernel) rfl
theorem ok_X4_fewest : okM yX4_fewest cX4_fewest 8 (some .int) 3 := ⟨tbl_tab 374 (by decide +kernel) rfl, wi_X4, ⟨by decide +kernel, by decide +kernel⟩, by decide +kernel⟩
theorem ws_X4_fewest : Cond.static yX4_fewest ∈ TBL := tbl_tab 373 (by decide +kernel) rfl
theorem ok_X6_self : okM yX6_self cX6_self 1 (some .int) 0 := ⟨tbl_tab 378 (by decide +kernel) rfl, wi_X6, ⟨by decide +kernel, by decide +kernel⟩, by decide +kernel⟩
theorem wn_X6_self : Cond.instanceMethod yX6_self ∈ TBL := tbl_tab 376 (by decide +kernel) rfl
theorem wl_X6_self : Cond.selects RX6 yX6_self yX6_self ∈ TBL := tbl_tab 377 (by decide +kernel) rfl
theorem ok_X4_selfish : okM yX4_selfish cX4_selfish 2 (some .int) 2 := ⟨tbl_tab 381 (by decide +kernel) rfl, wi_X4, ⟨by decide +kernel, by decide +kernel⟩, by decide +kernel⟩
theorem ws_X4_selfish : Cond.static yX4_selfish ∈ TBL := tbl_tab 380 (by decide +kernel) rfl
theorem ok_X4_play : okM yX4_play cX4_play 12 (some .int) 5 := ⟨tbl_tab 384 (by decide +kernel) rfl, wi_X4, ⟨by decide +kernel, by decide +kernel⟩, by decide +kernel⟩
theorem ws_X4_play : Cond.static yX4_play ∈ TBL := tbl_tab 383 (by decide +kernel) rfl
theorem ok_X4_chooser : okM yX4_chooser cX4_chooser 2 (some .int) 2 := ⟨tbl_tab 387 (by decide +kernel) rfl, wi_X4, ⟨by decide +kernel, by decide +kernel⟩, by decide +kernel⟩
theorem ws_X4_chooser : Cond.static yX4_chooser ∈ TBL := tbl_tab 386 (by decide +kernel) rfl
theorem ok_X6_turn : okM yX6_turn cX6_turn 3 (some .int) 1 := ⟨tbl_tab 392 (by decide +kernel) rfl, wi_X6, ⟨by decide +kernel, by decide +kernel⟩, by decide +kernel⟩
theorem wn_X6_turn : Cond.instanceMethod yX6_turn ∈ TBL := tbl_tab 390 (by decide +kernel) rfl
theorem wl_X6_turn : Cond.selects RX6 yX6_turn yX6_turn ∈ TBL := tbl_tab 391 (by decide +kernel) rfl
theorem ok_X6_bargain : okM yX6_bargain cX6_bargain 8 (some .int) 4 := ⟨tbl_tab 396 (by decide +kernel) rfl, wi_X6, ⟨by decide +kernel, by decide +kernel⟩, by decide +kernel⟩
theorem wn_X6_bargain : Cond.instanceMethod yX6_bargain ∈ TBL := tbl_tab 394 (by decide +kernel) rfl
theorem wl_X6_bargain : Cond.selects RX6 yX6_bargain yX6_bargain ∈ TBL := tbl_tab 395 (by decide +kernel) rfl
theorem ok_J9_max_7cf53 : okM yJ9_max_7cf53 cJ9_max_7cf53 2 (some .int) 2 := ⟨tbl_tab 399 (by decide +kernel) rfl, wi_J9, ⟨by decide +kernel, by decide +kernel⟩, by decide +kernel⟩
theorem ws_J9_max_7cf53 : Cond.static yJ9_max_7cf53 ∈ TBL := tbl_tab 398 (by decide +kernel) rfl
theorem ok_X6_due : okM yX6_due cX6_due 2 (some .int) 1 := ⟨tbl_tab 403 (by decide +kernel) rfl, wi_X6, ⟨by decide +kernel, by decide +kernel⟩, by decide +kernel⟩
theorem wn_X6_due : Cond.instanceMethod yX6_due ∈ TBL := tbl_tab 401 (by decide +kernel) rfl
theorem wl_X6_due : Cond.selects RX6 yX6_due yX6_due ∈ TBL := tbl_tab 402 (by decide +kernel) rfl
theorem ok_X0_dueTo : okM yX0_dueTo cX0_dueTo 4 (some .int) 2 := ⟨tbl_tab 406 (by decide +kernel) rfl, wi_X0, ⟨by decide +kernel, by decide +kernel⟩, by decide +kernel⟩
theorem ws_X0_dueTo : Cond.static yX0_dueTo ∈ TBL := tbl_tab 405 (by decide +kernel) rfl
theorem ok_X0_dueFor : okM yX0_dueFor cX0_dueFor 7 (some .int) 3 := ⟨tbl_tab 410 (by decide +kernel) rfl, wi_X0, ⟨by decide +kernel, by decide +kernel⟩, by decide +kernel⟩
theorem ws_X0_dueFor : Cond.static yX0_dueFor ∈ TBL := tbl_tab 409 (by decide +kernel) rfl
theorem ok_X6_payments : okM yX6_payments cX6_payments 2 (some .int) 0 := ⟨tbl_tab 416 (by decide +kernel) rfl, wi_X6, ⟨by decide +kernel, by decide +kernel⟩, by decide +kernel⟩
theorem wn_X6_payments : Cond.instanceMethod yX6_payments ∈ TBL := tbl_tab 414 (by decide +kernel) rfl
theorem wl_X6_payments : Cond.selects RX6 yX6_payments yX6_payments ∈ TBL := tbl_tab 415 (by decide +kernel) rfl
theorem ok_X0_fewestPayments : okM yX0_fewestPayments cX0_fewestPayments 3 (some .int) 1 := ⟨tbl_tab 419 (by decide +kernel) rfl, wi_X0, ⟨by decide +kernel, by decide +kernel⟩, by decide +kernel⟩
theorem ws_X0_fewestPayments : Cond.static yX0_fewestPayments ∈ TBL := tbl_tab 418 (by decide +kernel) rfl
theorem ok_X0_mostSets : okM yX0_mostSets cX0_mostSets 3 (some .int) 2 := ⟨tbl_tab 423 (by decide +kernel) rfl, wi_X0, ⟨by decide +kernel, by decide +kernel⟩, by decide +kernel⟩
theorem ws_X0_mostSets : Cond.static yX0_mostSets ∈ TBL := tbl_tab 422 (by decide +kernel) rfl
theorem ok_X0_sumOf : okM yX0_sumOf cX0_sumOf 4 (some .int) 2 := ⟨tbl_tab 427 (by decide +kernel) rfl, wi_X0, ⟨by decide +kernel, by decide +kernel⟩, by decide +kernel⟩
theorem ws_X0_sumOf : Cond.static yX0_sumOf ∈ TBL := tbl_tab 426 (by decide +kernel) rfl
theorem ok_X6_forgotten : okM yX6_forgotten cX6_forgotten 9 (some .int) 3 := ⟨tbl_tab 431 (by decide +kernel) rfl, wi_X6, ⟨by decide +kernel, by decide +kernel⟩, by decide +kernel⟩
theorem wn_X6_forgotten : Cond.instanceMethod yX6_forgotten ∈ TBL := tbl_tab 429 (by decide +kernel) rfl
theorem wl_X6_forgotten : Cond.selects RX6 yX6_forgotten yX6_forgotten ∈ TBL := tbl_tab 430 (by decide +kernel) rfl
theorem ok_X1_explains : okM yX1_explains cX1_explains 4 (some .boolean) 3 := ⟨tbl_tab 434 (by decide +kernel) rfl, wi_X1, ⟨by decide +kernel, by decide +kernel⟩, by decide +kernel⟩
theorem ws_X1_explains : Cond.static yX1_explains ∈ TBL := tbl_tab 433 (by decide +kernel) rfl
theorem ok_X6_upper : okM yX6_upper cX6_upper 3 (some .long) 0 := ⟨tbl_tab 440 (by decide +kernel) rfl, wi_X6, ⟨by decide +kernel, by decide +kernel⟩, by decide +kernel⟩
theorem wn_X6_upper : Cond.instanceMethod yX6_upper ∈ TBL := tbl_tab 438 (by decide +kernel) rfl
theorem wl_X6_upper : Cond.selects RX6 yX6_upper yX6_upper ∈ TBL := tbl_tab 439 (by decide +kernel) rfl
theorem ok_X1_mean : okM yX1_mean cX1_mean 9 (some .long) 4 := ⟨tbl_tab 443 (by decide +kernel) rfl, wi_X1, ⟨by decide +kernel, by decide +kernel⟩, by decide +kernel⟩
theorem ws_X1_mean : Cond.static yX1_mean ∈ TBL := tbl_tab 442 (by decide +kernel) rfl
theorem ok_X5_worthToAll : okM yX5_worthToAll cX5_worthToAll 4 (some .int) 1 := ⟨tbl_tab 447 (by decide +kernel) rfl, wi_X5, ⟨by decide +kernel, by decide +kernel⟩, by decide +kernel⟩
theorem wn_X5_worthToAll : Cond.instanceMethod yX5_worthToAll ∈ TBL := tbl_tab 446 (by decide +kernel) rfl
theorem wl_X5_worthToAll : Cond.selects RX5 yX5_worthToAll yX5_worthToAll ∈ TBL := tbl_sel 23 (by decide +kernel) rfl
theorem ok_X1_halvings : okM yX1_halvings cX1_halvings 6 (some .int) 2 := ⟨tbl_tab 451 (by decide +kernel) rfl, wi_X1, ⟨by decide +kernel, by decide +kernel⟩, by decide +kernel⟩
theorem ws_X1_halvings : Cond.static yX1_halvings ∈ TBL := tbl_tab 450 (by decide +kernel) rfl
theorem ok_X1_parts : okM yX1_parts cX1_parts 1 (some .long) 1 := ⟨tbl_tab 454 (by decide +kernel) rfl, wi_X1, ⟨by decide +kernel, by decide +kernel⟩, by decide +kernel⟩
theorem ws_X1_parts : Cond.static yX1_parts ∈ TBL := tbl_tab 453 (by decide +kernel) rfl
theorem ok_X6_lower : okM yX6_lower cX6_lower 3 (some .long) 0 := ⟨tbl_tab 458 (by decide +kernel) rfl, wi_X6, ⟨by decide +kernel, by decide +kernel⟩, by decide +kernel⟩
theorem wn_X6_lower : Cond.instanceMethod yX6_lower ∈ TBL := tbl_tab 456 (by decide +kernel) rfl
theorem wl_X6_lower : Cond.selects RX6 yX6_lower yX6_lower ∈ TBL := tbl_tab 457 (by decide +kernel) rfl
theorem ok_X6_comes : okM yX6_comes cX6_comes 5 (some .int) 2 := ⟨tbl_tab 463 (by decide +kernel) rfl, wi_X6, ⟨by decide +kernel, by decide +kernel⟩, by decide +kernel⟩
theorem wn_X6_comes : Cond.instanceMethod yX6_comes ∈ TBL := tbl_tab 461 (by decide +kernel) rfl
theorem wl_X6_comes : Cond.selects RX6 yX6_comes yX6_comes ∈ TBL := tbl_tab 462 (by decide +kernel) rfl
theorem ok_X6_image : okM yX6_image cX6_image 1 (some .int) 0 := ⟨tbl_tab 467 (by decide +kernel) rfl, wi_X6, ⟨by decide +kernel, by decide +kernel⟩, by decide +kernel⟩
theorem wn_X6_image : Cond.instanceMethod yX6_image ∈ TBL := tbl_tab 465 (by decide +kernel) rfl
theorem wl_X6_image : Cond.selects RX6 yX6_image yX6_image ∈ TBL := tbl_tab 466 (by decide +kernel) rfl
theorem ok_X6_restore : okM yX6_restore cX6_restore 1 (some .int) 0 := ⟨tbl_tab 471 (by decide +kernel) rfl, wi_X6, ⟨by decide +kernel, by decide +kernel⟩, by decide +kernel⟩
theorem wn_X6_restore : Cond.instanceMethod yX6_restore ∈ TBL := tbl_tab 469 (by decide +kernel) rfl
theorem wl_X6_restore : Cond.selects RX6 yX6_restore yX6_restore ∈ TBL := tbl_tab 470 (by decide +kernel) rfl
theorem ok_X6_judged : okM yX6_judged cX6_judged 9 (some .int) 3 := ⟨tbl_tab 475 (by decide +kernel) rfl, wi_X6, ⟨by decide +kernel, by decide +kernel⟩, by decide +kernel⟩
theorem wn_X6_judged : Cond.instanceMethod yX6_judged ∈ TBL := tbl_tab 473 (by decide +kernel) rfl
theorem wl_X6_judged : Cond.selects RX6 yX6_judged yX6_judged ∈ TBL := tbl_tab 474 (by decide +kernel) rfl
theorem ok_X2_faultOf : okM yX2_faultOf cX2_faultOf 5 (some .int) 4 := ⟨tbl_tab 479 (by decide +kernel) rfl, wi_X2, ⟨by decide +kernel, by decide +kernel⟩, by decide +kernel⟩
theorem wn_X2_faultOf : Cond.instanceMethod yX2_faultOf ∈ TBL := tbl_tab 478 (by decide +kernel) rfl
theorem wl_X2_faultOf : Cond.selects RX2 yX2_faultOf yX2_faultOf ∈ TBL := tbl_sel 24 (by decide +kernel) rfl
theorem ok_X6_isSheet : okM yX6_isSheet cX6_isSheet 1 (some .boolean) 1 := ⟨tbl_tab 482 (by decide +kernel) rfl, wi_X6, ⟨by decide +kernel, by decide +kernel⟩, by decide +kernel⟩
theorem ws_X6_isSheet : Cond.static yX6_isSheet ∈ TBL := tbl_tab 481 (by decide +kernel) rfl
theorem ok_X6_isLane : okM yX6_isLane cX6_isLane 1 (some .boolean) 1 := ⟨tbl_tab 485 (by decide +kernel) rfl, wi_X6, ⟨by decide +kernel, by decide +kernel⟩, by decide +kernel⟩
theorem ws_X6_isLane : Cond.static yX6_isLane ∈ TBL := tbl_tab 484 (by decide +kernel) rfl
theorem ok_X2_holds : okM yX2_holds cX2_holds 2 (some .boolean) 1 := ⟨tbl_tab 489 (by decide +kernel) rfl, wi_X2, ⟨by decide +kernel, by decide +kernel⟩, by decide +kernel⟩
theorem wn_X2_holds : Cond.instanceMethod yX2_holds ∈ TBL := tbl_tab 488 (by decide +kernel) rfl
theorem wl_X2_holds : Cond.selects RX2 yX2_holds yX2_holds ∈ TBL := tbl_sel 25 (by decide +kernel) rfl
theorem ok_X2_reaches : okM yX2_reaches cX2_reaches 4 (some .boolean) 3 := ⟨tbl_tab 493 (by decide +kernel) rfl, wi_X2, ⟨by decide +kernel, by decide +kernel⟩, by decide +kernel⟩
theorem wn_X2_reaches : Cond.instanceMethod yX2_reaches ∈ TBL := tbl_tab 492 (by decide +kernel) rfl
theorem wl_X2_reaches : Cond.selects RX2 yX2_reaches yX2_reaches ∈ TBL := tbl_sel 26 (by decide +kernel) rfl
theorem ok_X2_at : okM yX2_at cX2_at 3 (some .long) 2 := ⟨tbl_tab 497 (by decide +kernel) rfl, wi_X2, ⟨by decide +kernel, by decide +kernel⟩, by decide +kernel⟩
theorem wn_X2_at : Cond.instanceMethod yX2_at ∈ TBL := tbl_tab 496 (by decide +kernel) rfl
theorem wl_X2_at : Cond.selects RX2 yX2_at yX2_at ∈ TBL := tbl_sel 27 (by decide +kernel) rfl
theorem ok_X6_isOneOf : okM yX6_isOneOf cX6_isOneOf 3 (some .boolean) 2 := ⟨tbl_tab 501 (by decide +kernel) rfl, wi_X6, ⟨by decide +kernel, by decide +kernel⟩, by decide +kernel⟩
theorem ws_X6_isOneOf : Cond.static yX6_isOneOf ∈ TBL := tbl_tab 500 (by decide +kernel) rfl
theorem ok_X6_net : okM yX6_net cX6_net 12 (some .int) 6 := ⟨tbl_tab 506 (by decide +kernel) rfl, wi_X6, ⟨by decide +kernel, by decide +kernel⟩, by decide +kernel⟩
theorem wn_X6_net : Cond.instanceMethod yX6_net ∈ TBL := tbl_tab 504 (by decide +kernel) rfl
theorem wl_X6_net : Cond.selects RX6 yX6_net yX6_net ∈ TBL := tbl_tab 505 (by decide +kernel) rfl
theorem ok_X6_takeToldYears : okM yX6_takeToldYears cX6_takeToldYears 7 (some .boolean) 3 := ⟨tbl_tab 510 (by decide +kernel) rfl, wi_X6, ⟨by decide +kernel, by decide +kernel⟩, by decide +kernel⟩
theorem wn_X6_takeToldYears : Cond.instanceMethod yX6_takeToldYears ∈ TBL := tbl_tab 509 (by decide +kernel) rfl
theorem wl_X6_takeToldYears : Cond.selects RX6 yX6_takeToldYears yX6_takeToldYears ∈ TBL := tbl_sel 28 (by decide +kernel) rfl
theorem ok_X1_fits : okM yX1_fits cX1_fits 7 (some .boolean) 5 := ⟨tbl_tab 513 (by decide +kernel) rfl, wi_X1, ⟨by decide +kernel, by decide +kernel⟩, by decide +kernel⟩
theorem ws_X1_fits : Cond.static yX1_fits ∈ TBL := tbl_tab 512 (by decide +kernel) rfl
theorem ok_X6_film : okM yX6_film cX6_film 6 (some .int) 3 := ⟨tbl_tab 518 (by decide +kernel) rfl, wi_X6, ⟨by decide +kernel, by decide +kernel⟩, by decide +kernel⟩
theorem wn_X6_film : Cond.instanceMethod yX6_film ∈ TBL := tbl_tab 516 (by decide +kernel) rfl
theorem wl_X6_film : Cond.selects RX6 yX6_film yX6_film ∈ TBL := tbl_tab 517 (by decide +kernel) rfl
theorem ok_X2_put : okM yX2_put cX2_put 5 none 3 := ⟨tbl_tab 522 (by decide +kernel) rfl, wi_X2, ⟨by decide +kernel, by decide +kernel⟩, by decide +kernel⟩
theorem wn_X2_put : Cond.instanceMethod yX2_put ∈ TBL := tbl_tab 521 (by decide +kernel) rfl
theorem wl_X2_put : Cond.selects RX2 yX2_put yX2_put ∈ TBL := tbl_sel 29 (by decide +kernel) rfl
theorem ok_X2_lowest : okM yX2_lowest cX2_lowest 3 (some .long) 2 := ⟨tbl_tab 525 (by decide +kernel) rfl, wi_X2, ⟨by decide +kernel, by decide +kernel⟩, by decide +kernel⟩
theorem ws_X2_lowest : Cond.static yX2_lowest ∈ TBL := tbl_tab 524 (by decide +kernel) rfl
theorem ok_X6_sheet : okM yX6_sheet cX6_sheet 4 (some .int) 3 := ⟨tbl_tab 529 (by decide +kernel) rfl, wi_X6, ⟨by decide +kernel, by decide +kernel⟩, by decide +kernel⟩
theorem wn_X6_sheet : Cond.instanceMethod yX6_sheet ∈ TBL := tbl_tab 527 (by decide +kernel) rfl
theorem wl_X6_sheet : Cond.selects RX6 yX6_sheet yX6_sheet ∈ TBL := tbl_tab 528 (by decide +kernel) rfl
theorem ok_X2_begin : okM yX2_begin cX2_begin 5 none 3 := ⟨tbl_tab 535 (by decide +kernel) rfl, wi_X2, ⟨by decide +kernel, by decide +kernel⟩, by decide +kernel⟩
theorem wn_X2_begin : Cond.instanceMethod yX2_begin ∈ TBL := tbl_tab 534 (by decide +kernel) rfl
theorem wl_X2_begin : Cond.selects RX2 yX2_begin yX2_begin ∈ TBL := tbl_sel 30 (by decide +kernel) rfl
theorem ok_X6_drop : okM yX6_drop cX6_drop 3 (some .int) 1 := ⟨tbl_tab 539 (by decide +kernel) rfl, wi_X6, ⟨by decide +kernel, by decide +kernel⟩, by decide +kernel⟩
theorem wn_X6_drop : Cond.instanceMethod yX6_drop ∈ TBL := tbl_tab 537 (by decide +kernel) rfl
theorem wl_X6_drop : Cond.selects RX6 yX6_drop yX6_drop ∈ TBL := tbl_tab 538 (by decide +kernel) rfl
theorem ok_X6_item : okM yX6_item cX6_item 7 (some .int) 4 := ⟨tbl_tab 544 (by decide +kernel) rfl, wi_X6, ⟨by decide +kernel, by decide +kernel⟩, by decide +kernel⟩
theorem wn_X6_item : Cond.instanceMethod yX6_item ∈ TBL := tbl_tab 542 (by decide +kernel) rfl
theorem wl_X6_item : Cond.selects RX6 yX6_item yX6_item ∈ TBL := tbl_tab 543 (by decide +kernel) rfl
theorem ok_X6_copy : okM yX6_copy cX6_copy 6 (some .int) 5 := ⟨tbl_tab 548 (by decide +kernel) rfl, wi_X6, ⟨by decide +kernel, by decide +kernel⟩, by decide +kernel⟩
theorem wn_X6_copy : Cond.instanceMethod yX6_copy ∈ TBL := tbl_tab 546 (by decide +kernel) rfl
theorem wl_X6_copy : Cond.selects RX6 yX6_copy yX6_copy ∈ TBL := tbl_tab 547 (by decide +kernel) rfl
theorem ok_X2_move : okM yX2_move cX2_move 6 none 5 := ⟨tbl_tab 553 (by decide +kernel) rfl, wi_X2, ⟨by decide +kernel, by decide +kernel⟩, by decide +kernel⟩
theorem wn_X2_move : Cond.instanceMethod yX2_move ∈ TBL := tbl_tab 552 (by decide +kernel) rfl
theorem wl_X2_move : Cond.selects RX2 yX2_move yX2_move ∈ TBL := tbl_sel 31 (by decide +kernel) rfl
theorem ok_X7_init : okM yX7_init cX7_init 2 none 0 := ⟨tbl_tab 559 (by decide +kernel) rfl, wi_X7, ⟨by decide +kernel, by decide +kernel⟩, by decide +kernel⟩
theorem wn_X7_init : Cond.instanceMethod yX7_init ∈ TBL := tbl_tab 558 (by decide +kernel) rfl
theorem ok_X7_people : okM yX7_people cX7_people 3 (some .int) 1 := ⟨tbl_tab 676 (by decide +kernel) rfl, wi_X7, ⟨by decide +kernel, by decide +kernel⟩, by decide +kernel⟩
theorem wn_X7_people : Cond.instanceMethod yX7_people ∈ TBL := tbl_tab 674 (by decide +kernel) rfl
theorem wl_X7_people : Cond.selects RX7 yX7_people yX7_people ∈ TBL := tbl_tab 675 (by decide +kernel) rfl
theorem ok_X7_in : okM yX7_in cX7_in 6 (some .boolean) 3 := ⟨tbl_tab 680 (by decide +kernel) rfl, wi_X7, ⟨by decide +kernel, by decide +kernel⟩, by decide +kernel⟩
theorem ws_X7_in : Cond.static yX7_in ∈ TBL := tbl_tab 679 (by decide +kernel) rfl
theorem ok_X7_deed : okM yX7_deed cX7_deed 4 (some .int) 3 := ⟨tbl_tab 684 (by decide +kernel) rfl, wi_X7, ⟨by decide +kernel, by decide +kernel⟩, by decide +kernel⟩
theorem wn_X7_deed : Cond.instanceMethod yX7_deed ∈ TBL := tbl_tab 682 (by decide +kernel) rfl
theorem wl_X7_deed : Cond.selects RX7 yX7_deed yX7_deed ∈ TBL := tbl_tab 683 (by decide +kernel) rfl
theorem ok_X7_ahead : okM yX7_ahead cX7_ahead 5 (some .int) 3 := ⟨tbl_tab 689 (by decide +kernel) rfl, wi_X7, ⟨by decide +kernel, by decide +kernel⟩, by decide +kernel⟩
theorem ws_X7_ahead : Cond.static yX7_ahead ∈ TBL := tbl_tab 688 (by decide +kernel) rfl
theorem ok_X7_adds : okM yX7_adds cX7_adds 5 none 3 := ⟨tbl_tab 693 (by decide +kernel) rfl, wi_X7, ⟨by decide +kernel, by decide +kernel⟩, by decide +kernel⟩
theorem wn_X7_adds : Cond.instanceMethod yX7_adds ∈ TBL := tbl_tab 692 (by decide +kernel) rfl
theorem wl_X7_adds : Cond.selects RX7 yX7_adds yX7_adds ∈ TBL := tbl_sel 32 (by decide +kernel) rfl
theorem ok_X7_told : okM yX7_told cX7_told 3 (some .int) 2 := ⟨tbl_tab 697 (by decide +kernel) rfl, wi_X7, ⟨by decide +kernel, by decide +kernel⟩, by decide +kernel⟩
theorem wn_X7_told : Cond.instanceMethod yX7_told ∈ TBL := tbl_tab 695 (by decide +kernel) rfl
theorem wl_X7_told : Cond.selects RX7 yX7_told yX7_told ∈ TBL := tbl_tab 696 (by decide +kernel) rfl
theorem ok_X7_isDeed : okM yX7_isDeed cX7_isDeed 3 (some .boolean) 1 := ⟨tbl_tab 701 (by decide +kernel) rfl, wi_X7, ⟨by decide +kernel, by decide +kernel⟩, by decide +kernel⟩
theorem wn_X7_isDeed : Cond.instanceMethod yX7_isDeed ∈ TBL := tbl_tab 700 (by decide +kernel) rfl
theorem wl_X7_isDeed : Cond.selects RX7 yX7_isDeed yX7_isDeed ∈ TBL := tbl_sel 33 (by decide +kernel) rfl
theorem ok_X7_stands : okM yX7_stands cX7_stands 5 (some .int) 2 := ⟨tbl_tab 705 (by decide +kernel) rfl, wi_X7, ⟨by decide +kernel, by decide +kernel⟩, by decide +kernel⟩
theorem wn_X7_stands : Cond.instanceMethod yX7_stands ∈ TBL := tbl_tab 704 (by decide +kernel) rfl
theorem wl_X7_stands : Cond.selects RX7 yX7_stands yX7_stands ∈ TBL := tbl_sel 34 (by decide +kernel) rfl
theorem ok_X7_is : okM yX7_is cX7_is 5 (some .boolean) 3 := ⟨tbl_tab 709 (by decide +kernel) rfl, wi_X7, ⟨by decide +kernel, by decide +kernel⟩, by decide +kernel⟩
theorem wn_X7_is : Cond.instanceMethod yX7_is ∈ TBL := tbl_tab 708 (by decide +kernel) rfl
theorem wl_X7_is : Cond.selects RX7 yX7_is yX7_is ∈ TBL := tbl_sel 35 (by decide +kernel) rfl
theorem ok_X7_set : okM yX7_set cX7_set 5 (some .int) 3 := ⟨tbl_tab 713 (by decide +kernel) rfl, wi_X7, ⟨by decide +kernel, by decide +kernel⟩, by decide +kernel⟩
theorem wn_X7_set : Cond.instanceMethod yX7_set ∈ TBL := tbl_tab 711 (by decide +kernel) rfl
theorem wl_X7_set : Cond.selects RX7 yX7_set yX7_set ∈ TBL := tbl_tab 712 (by decide +kernel) rfl
theorem ok_X7_worth : okM yX7_worth cX7_worth 5 (some .int) 3 := ⟨tbl_tab 718 (by decide +kernel) rfl, wi_X7, ⟨by decide +kernel, by decide +kernel⟩, by decide +kernel⟩
theorem wn_X7_worth : Cond.instanceMethod yX7_worth ∈ TBL := tbl_tab 716 (by decide +kernel) rfl
theorem wl_X7_worth : Cond.selects RX7 yX7_worth yX7_worth ∈ TBL := tbl_tab 717 (by decide +kernel) rfl
theorem ok_X7_worthOf : okM yX7_worthOf cX7_worthOf 3 (some .int) 2 := ⟨tbl_tab 724 (by decide +kernel) rfl, wi_X7, ⟨by decide +kernel, by decide +kernel⟩, by decide +kernel⟩
theorem wn_X7_worthOf : Cond.instanceMethod yX7_worthOf ∈ TBL := tbl_tab 722 (by decide +kernel) rfl
theorem wl_X7_worthOf : Cond.selects RX7 yX7_worthOf yX7_worthOf ∈ TBL := tbl_tab 723 (by decide +kernel) rfl
theorem ok_X7_last : okM yX7_last cX7_last 3 (some .int) 1 := ⟨tbl_tab 728 (by decide +kernel) rfl, wi_X7, ⟨by decide +kernel, by decide +kernel⟩, by decide +kernel⟩
theorem wn_X7_last : Cond.instanceMethod yX7_last ∈ TBL := tbl_tab 726 (by decide +kernel) rfl
theorem wl_X7_last : Cond.selects RX7 yX7_last yX7_last ∈ TBL := tbl_tab 727 (by decide +kernel) rfl
theorem ok_X7_areDeeds : okM yX7_areDeeds cX7_areDeeds 3 (some .boolean) 1 := ⟨tbl_tab 732 (by decide +kernel) rfl, wi_X7, ⟨by decide +kernel, by decide +kernel⟩, by decide +kernel⟩
theorem wn_X7_areDeeds : Cond.instanceMethod yX7_areDeeds ∈ TBL := tbl_tab 731 (by decide +kernel) rfl
theorem wl_X7_areDeeds : Cond.selects RX7 yX7_areDeeds yX7_areDeeds ∈ TBL := tbl_sel 36 (by decide +kernel) rfl
theorem ok_X7_count : okM yX7_count cX7_count 2 (some .int) 1 := ⟨tbl_tab 736 (by decide +kernel) rfl, wi_X7, ⟨by decide +kernel, by decide +kernel⟩, by decide +kernel⟩
theorem wn_X7_count : Cond.instanceMethod yX7_count ∈ TBL := tbl_tab 734 (by decide +kernel) rfl
theorem wl_X7_count : Cond.selects RX7 yX7_count yX7_count ∈ TBL := tbl_tab 735 (by decide +kernel) rfl
theorem ok_X7_type : okM yX7_type cX7_type 2 (some .int) 1 := ⟨tbl_tab 740 (by decide +kernel) rfl, wi_X7, ⟨by decide +kernel, by decide +kernel⟩, by decide +kernel⟩
theorem wn_X7_type : Cond.instanceMethod yX7_type ∈ TBL := tbl_tab 738 (by decide +kernel) rfl
theorem wl_X7_type : Cond.selects RX7 yX7_type yX7_type ∈ TBL := tbl_tab 739 (by decide +kernel) rfl
theorem ok_X7_text : okM yX7_text cX7_text 3 (some .int) 0 := ⟨tbl_tab 746 (by decide +kernel) rfl, wi_X7, ⟨by decide +kernel, by decide +kernel⟩, by decide +kernel⟩
theorem wn_X7_text : Cond.instanceMethod yX7_text ∈ TBL := tbl_tab 744 (by decide +kernel) rfl
theorem wl_X7_text : Cond.selects RX7 yX7_text yX7_text ∈ TBL := tbl_tab 745 (by decide +kernel) rfl
theorem ok_X7_readDeed : okM yX7_readDeed cX7_readDeed 7 none 0 := ⟨tbl_tab 750 (by decide +kernel) rfl, wi_X7, ⟨by decide +kernel, by decide +kernel⟩, by decide +kernel⟩
theorem wn_X7_readDeed : Cond.instanceMethod yX7_readDeed ∈ TBL := tbl_tab 749 (by decide +kernel) rfl
theorem wl_X7_readDeed : Cond.selects RX7 yX7_readDeed yX7_readDeed ∈ TBL := tbl_sel 37 (by decide +kernel) rfl
theorem ok_X7_here : okM yX7_here cX7_here 1 (some .int) 0 := ⟨tbl_tab 754 (by decide +kernel) rfl, wi_X7, ⟨by decide +kernel, by decide +kernel⟩, by decide +kernel⟩
theorem wn_X7_here : Cond.instanceMethod yX7_here ∈ TBL := tbl_tab 753 (by decide +kernel) rfl
theorem wl_X7_here : Cond.selects RX7 yX7_here yX7_here ∈ TBL := tbl_sel 38 (by decide +kernel) rfl
theorem ok_X7_right : okM yX7_right cX7_right 3 (some .int) 1 := ⟨tbl_tab 760 (by decide +kernel) rfl, wi_X7, ⟨by decide +kernel, by decide +kernel⟩, by decide +kernel⟩
theorem wn_X7_right : Cond.instanceMethod yX7_right ∈ TBL := tbl_tab 758 (by decide +kernel) rfl
theorem wl_X7_right : Cond.selects RX7 yX7_right yX7_right ∈ TBL := tbl_tab 759 (by decide +kernel) rfl
theorem ok_X7_ofDay : okM yX7_ofDay cX7_ofDay 4 (some .int) 1 := ⟨tbl_tab 764 (by decide +kernel) rfl, wi_X7, ⟨by decide +kernel, by decide +kernel⟩, by decide +kernel⟩
theorem wn_X7_ofDay : Cond.instanceMethod yX7_ofDay ∈ TBL := tbl_tab 763 (by decide +kernel) rfl
theorem wl_X7_ofDay : Cond.selects RX7 yX7_ofDay yX7_ofDay ∈ TBL := tbl_sel 39 (by decide +kernel) rfl
theorem ok_X7_back : okM yX7_back cX7_back 1 (some .int) 0 := ⟨tbl_tab 768 (by decide +kernel) rfl, wi_X7, ⟨by decide +kernel, by decide +kernel⟩, by decide +kernel⟩
theorem wn_X7_back : Cond.instanceMethod yX7_back ∈ TBL := tbl_tab 766 (by decide +kernel) rfl
theorem wl_X7_back : Cond.selects RX7 yX7_back yX7_back ∈ TBL := tbl_tab 767 (by decide +kernel) rfl
theorem ok_X7_year : okM yX7_year cX7_year 1 (some .int) 0 := ⟨tbl_tab 773 (by decide +kernel) rfl, wi_X7, ⟨by decide +kernel, by decide +kernel⟩, by decide +kernel⟩
theorem wn_X7_year : Cond.instanceMethod yX7_year ∈ TBL := tbl_tab 771 (by decide +kernel) rfl
theorem wl_X7_year : Cond.selects RX7 yX7_year yX7_year ∈ TBL := tbl_tab 772 (by decide +kernel) rfl
theorem ok_X7_size : okM yX7_size cX7_size 3 (some .int) 1 := ⟨tbl_tab 776 (by decide +kernel) rfl, wi_X7, ⟨by decide +kernel, by decide +kernel⟩, by decide +kernel⟩
theorem ws_X7_size : Cond.static yX7_size ∈ TBL := tbl_tab 775 (by decide +kernel) rfl
theorem ok_X7_bears : okM yX7_bears cX7_bears 2 (some .int) 1 := ⟨tbl_tab 780 (by decide +kernel) rfl, wi_X7, ⟨by decide +kernel, by decide +kernel⟩, by decide +kernel⟩
theorem wn_X7_bears : Cond.instanceMethod yX7_bears ∈ TBL := tbl_tab 778 (by decide +kernel) rfl
theorem wl_X7_bears : Cond.selects RX7 yX7_bears yX7_bears ∈ TBL := tbl_tab 779 (by decide +kernel) rfl
theorem ok_X7_bearer : okM yX7_bearer cX7_bearer 5 (some .int) 1 := ⟨tbl_tab 784 (by decide +kernel) rfl, wi_X7, ⟨by decide +kernel, by decide +kernel⟩, by decide +kernel⟩
theorem wn_X7_bearer : Cond.instanceMethod yX7_bearer ∈ TBL := tbl_tab 783 (by decide +kernel) rfl
theorem wl_X7_bearer : Cond.selects RX7 yX7_bearer yX7_bearer ∈ TBL := tbl_sel 40 (by decide +kernel) rfl
theorem ok_X7_value : okM yX7_value cX7_value 2 (some .int) 1 := ⟨tbl_tab 788 (by decide +kernel) rfl, wi_X7, ⟨by decide +kernel, by decide +kernel⟩, by decide +kernel⟩
theorem wn_X7_value : Cond.instanceMethod yX7_value ∈ TBL := tbl_tab 786 (by decide +kernel) rfl
theorem wl_X7_value : Cond.selects RX7 yX7_value yX7_value ∈ TBL := tbl_tab 787 (by decide +kernel) rfl
theorem ok_X7_isOne : okM yX7_isOne cX7_isOne 2 (some .boolean) 1 := ⟨tbl_tab 792 (by decide +kernel) rfl, wi_X7, ⟨by decide +kernel, by decide +kernel⟩, by decide +kernel⟩
theorem wn_X7_isOne : Cond.instanceMethod yX7_isOne ∈ TBL := tbl_tab 791 (by decide +kernel) rfl
theorem wl_X7_isOne : Cond.selects RX7 yX7_isOne yX7_isOne ∈ TBL := tbl_sel 41 (by decide +kernel) rfl
theorem ok_X7_counts : okM yX7_counts cX7_counts 6 none 2 := ⟨tbl_tab 796 (by decide +kernel) rfl, wi_X7, ⟨by decide +kernel, by decide +kernel⟩, by decide +kernel⟩
theorem wn_X7_counts : Cond.instanceMethod yX7_counts ∈ TBL := tbl_tab 795 (by decide +kernel) rfl
theorem wl_X7_counts : Cond.selects RX7 yX7_counts yX7_counts ∈ TBL := tbl_sel 42 (by decide +kernel) rfl
theorem ok_X7_best : okM yX7_best cX7_best 5 (some .int) 3 := ⟨tbl_tab 800 (by decide +kernel) rfl, wi_X7, ⟨by decide +kernel, by decide +kernel⟩, by decide +kernel⟩
theorem wn_X7_best : Cond.instanceMethod yX7_best ∈ TBL := tbl_tab 798 (by decide +kernel) rfl
theorem wl_X7_best : Cond.selects RX7 yX7_best yX7_best ∈ TBL := tbl_tab 799 (by decide +kernel) rfl
theorem ok_X7_bestOf : okM yX7_bestOf cX7_bestOf 9 (some .int) 3 := ⟨tbl_tab 804 (by decide +kernel) rfl, wi_X7, ⟨by decide +kernel, by decide +kernel⟩, by decide +kernel⟩
theorem wn_X7_bestOf : Cond.instanceMethod yX7_bestOf ∈ TBL := tbl_tab 803 (by decide +kernel) rfl
theorem wl_X7_bestOf : Cond.selects RX7 yX7_bestOf yX7_bestOf ∈ TBL := tbl_sel 43 (by decide +kernel) rfl
theorem ok_X7_isWalk : okM yX7_isWalk cX7_isWalk 6 (some .boolean) 2 := ⟨tbl_tab 808 (by decide +kernel) rfl, wi_X7, ⟨by decide +kernel, by decide +kernel⟩, by decide +kernel⟩
theorem wn_X7_isWalk : Cond.instanceMethod yX7_isWalk ∈ TBL := tbl_tab 807 (by decide +kernel) rfl
theorem wl_X7_isWalk : Cond.selects RX7 yX7_isWalk yX7_isWalk ∈ TBL := tbl_sel 44 (by decide +kernel) rfl
theorem ok_X7_wanted : okM yX7_wanted cX7_wanted 8 (some .int) 2 := ⟨tbl_tab 812 (by decide +kernel) rfl, wi_X7, ⟨by decide +kernel, by decide +kernel⟩, by decide +kernel⟩
theorem wn_X7_wanted : Cond.instanceMethod yX7_wanted ∈ TBL := tbl_tab 810 (by decide +kernel) rfl
theorem wl_X7_wanted : Cond.selects RX7 yX7_wanted yX7_wanted ∈ TBL := tbl_tab 811 (by decide +kernel) rfl
theorem ok_X7_self : okM yX7_self cX7_self 1 (some .int) 0 := ⟨tbl_tab 816 (by decide +kernel) rfl, wi_X7, ⟨by decide +kernel, by decide +kernel⟩, by decide +kernel⟩
theorem wn_X7_self : Cond.instanceMethod yX7_self ∈ TBL := tbl_tab 814 (by decide +kernel) rfl
theorem wl_X7_self : Cond.selects RX7 yX7_self yX7_self ∈ TBL := tbl_tab 815 (by decide +kernel) rfl
theorem ok_X7_plays : okM yX7_plays cX7_plays 9 (some .int) 1 := ⟨tbl_tab 820 (by decide +kernel) rfl, wi_X7, ⟨by decide +kernel, by decide +kernel⟩, by decide +kernel⟩
theorem wn_X7_plays : Cond.instanceMethod yX7_plays ∈ TBL := tbl_tab 819 (by decide +kernel) rfl
theorem wl_X7_plays : Cond.selects RX7 yX7_plays yX7_plays ∈ TBL := tbl_sel 45 (by decide +kernel) rfl
theorem ok_X7_own : okM yX7_own cX7_own 3 (some .int) 2 := ⟨tbl_tab 824 (by decide +kernel) rfl, wi_X7, ⟨by decide +kernel, by decide +kernel⟩, by decide +kernel⟩
theorem wn_X7_own : Cond.instanceMethod yX7_own ∈ TBL := tbl_tab 823 (by decide +kernel) rfl
theorem wl_X7_own : Cond.selects RX7 yX7_own yX7_own ∈ TBL := tbl_sel 46 (by decide +kernel) rfl
theorem ok_X7_turn : okM yX7_turn cX7_turn 3 (some .int) 1 := ⟨tbl_tab 828 (by decide +kernel) rfl, wi_X7, ⟨by decide +kernel, by decide +kernel⟩, by decide +kernel⟩
theorem wn_X7_turn : Cond.instanceMethod yX7_turn ∈ TBL := tbl_tab 826 (by decide +kernel) rfl
theorem wl_X7_turn : Cond.selects RX7 yX7_turn yX7_turn ∈ TBL := tbl_tab 827 (by decide +kernel) rfl
theorem ok_X7_bargain : okM yX7_bargain cX7_bargain 8 (some .int) 4 := ⟨tbl_tab 832 (by decide +kernel) rfl, wi_X7, ⟨by decide +kernel, by decide +kernel⟩, by decide +kernel⟩
theorem wn_X7_bargain : Cond.instanceMethod yX7_bargain ∈ TBL := tbl_tab 830 (by decide +kernel) rfl
theorem wl_X7_bargain : Cond.selects RX7 yX7_bargain yX7_bargain ∈ TBL := tbl_tab 831 (by decide +kernel) rfl
theorem ok_X7_due : okM yX7_due cX7_due 2 (some .int) 1 := ⟨tbl_tab 836 (by decide +kernel) rfl, wi_X7, ⟨by decide +kernel, by decide +kernel⟩, by decide +kernel⟩
theorem wn_X7_due : Cond.instanceMethod yX7_due ∈ TBL := tbl_tab 834 (by decide +kernel) rfl
theorem wl_X7_due : Cond.selects RX7 yX7_due yX7_due ∈ TBL := tbl_tab 835 (by decide +kernel) rfl
theorem ok_X7_owes : okM yX7_owes cX7_owes 7 none 0 := ⟨tbl_tab 840 (by decide +kernel) rfl, wi_X7, ⟨by decide +kernel, by decide +kernel⟩, by decide +kernel⟩
theorem wn_X7_owes : Cond.instanceMethod yX7_owes ∈ TBL := tbl_tab 839 (by decide +kernel) rfl
theorem wl_X7_owes : Cond.selects RX7 yX7_owes yX7_owes ∈ TBL := tbl_sel 47 (by decide +kernel) rfl
theorem ok_X7_payments : okM yX7_payments cX7_payments 3 (some .int) 0 := ⟨tbl_tab 844 (by decide +kernel) rfl, wi_X7, ⟨by decide +kernel, by decide +kernel⟩, by decide +kernel⟩
theorem wn_X7_payments : Cond.instanceMethod yX7_payments ∈ TBL := tbl_tab 842 (by decide +kernel) rfl
theorem wl_X7_payments : Cond.selects RX7 yX7_payments yX7_payments ∈ TBL := tbl_tab 843 (by decide +kernel) rfl
theorem ok_X7_isZero : okM yX7_isZero cX7_isZero 4 (some .boolean) 1 := ⟨tbl_tab 848 (by decide +kernel) rfl, wi_X7, ⟨by decide +kernel, by decide +kernel⟩, by decide +kernel⟩
theorem wn_X7_isZero : Cond.instanceMethod yX7_isZero ∈ TBL := tbl_tab 847 (by decide +kernel) rfl
theorem wl_X7_isZero : Cond.selects RX7 yX7_isZero yX7_isZero ∈ TBL := tbl_sel 48 (by decide +kernel) rfl
theorem ok_X7_forgotten : okM yX7_forgotten cX7_forgotten 11 (some .int) 3 := ⟨tbl_tab 852 (by decide +kernel) rfl, wi_X7, ⟨by decide +kernel, by decide +kernel⟩, by decide +kernel⟩
theorem wn_X7_forgotten : Cond.instanceMethod yX7_forgotten ∈ TBL := tbl_tab 850 (by decide +kernel) rfl
theorem wl_X7_forgotten : Cond.selects RX7 yX7_forgotten yX7_forgotten ∈ TBL := tbl_tab 851 (by decide +kernel) rfl
theorem ok_X7_upper : okM yX7_upper cX7_upper 1 (some .long) 0 := ⟨tbl_tab 856 (by decide +kernel) rfl, wi_X7, ⟨by decide +kernel, by decide +kernel⟩, by decide +kernel⟩
theorem wn_X7_upper : Cond.instanceMethod yX7_upper ∈ TBL := tbl_tab 854 (by decide +kernel) rfl
theorem wl_X7_upper : Cond.selects RX7 yX7_upper yX7_upper ∈ TBL := tbl_tab 855 (by decide +kernel) rfl
theorem ok_X7_expects : okM yX7_expects cX7_expects 12 none 0 := ⟨tbl_tab 860 (by decide +kernel) rfl, wi_X7, ⟨by decide +kernel, by decide +kernel⟩, by decide +kernel⟩
theorem wn_X7_expects : Cond.instanceMethod yX7_expects ∈ TBL := tbl_tab 859 (by decide +kernel) rfl
theorem wl_X7_expects : Cond.selects RX7 yX7_expects yX7_expects ∈ TBL := tbl_sel 49 (by decide +kernel) rfl
theorem ok_X7_lower : okM yX7_lower cX7_lower 1 (some .long) 0 := ⟨tbl_tab 864 (by decide +kernel) rfl, wi_X7, ⟨by decide +kernel, by decide +kernel⟩, by decide +kernel⟩
theorem wn_X7_lower : Cond.instanceMethod yX7_lower ∈ TBL := tbl_tab 862 (by decide +kernel) rfl
theorem wl_X7_lower : Cond.selects RX7 yX7_lower yX7_lower ∈ TBL := tbl_tab 863 (by decide +kernel) rfl
theorem ok_X7_comes : okM yX7_comes cX7_comes 5 (some .int) 2 := ⟨tbl_tab 868 (by decide +kernel) rfl, wi_X7, ⟨by decide +kernel, by decide +kernel⟩, by decide +kernel⟩
theorem wn_X7_comes : Cond.instanceMethod yX7_comes ∈ TBL := tbl_tab 866 (by decide +kernel) rfl
theorem wl_X7_comes : Cond.selects RX7 yX7_comes yX7_comes ∈ TBL := tbl_tab 867 (by decide +kernel) rfl
theorem ok_X7_image : okM yX7_image cX7_image 2 (some .int) 0 := ⟨tbl_tab 872 (by decide +kernel) rfl, wi_X7, ⟨by decide +kernel, by decide +kernel⟩, by decide +kernel⟩
theorem wn_X7_image : Cond.instanceMethod yX7_image ∈ TBL := tbl_tab 870 (by decide +kernel) rfl
theorem wl_X7_image : Cond.selects RX7 yX7_image yX7_image ∈ TBL := tbl_tab 871 (by decide +kernel) rfl
theorem ok_X7_notes : okM yX7_notes cX7_notes 4 (some .int) 2 := ⟨tbl_tab 876 (by decide +kernel) rfl, wi_X7, ⟨by decide +kernel, by decide +kernel⟩, by decide +kernel⟩
theorem wn_X7_notes : Cond.instanceMethod yX7_notes ∈ TBL := tbl_tab 875 (by decide +kernel) rfl
theorem wl_X7_notes : Cond.selects RX7 yX7_notes yX7_notes ∈ TBL := tbl_sel 50 (by decide +kernel) rfl
theorem ok_X7_restore : okM yX7_restore cX7_restore 2 (some .int) 0 := ⟨tbl_tab 880 (by decide +kernel) rfl, wi_X7, ⟨by decide +kernel, by decide +kernel⟩, by decide +kernel⟩
theorem wn_X7_restore : Cond.instanceMethod yX7_restore ∈ TBL := tbl_tab 878 (by decide +kernel) rfl
theorem wl_X7_restore : Cond.selects RX7 yX7_restore yX7_restore ∈ TBL := tbl_tab 879 (by decide +kernel) rfl
theorem ok_X7_gives : okM yX7_gives cX7_gives 4 (some .int) 2 := ⟨tbl_tab 884 (by decide +kernel) rfl, wi_X7, ⟨by decide +kernel, by decide +kernel⟩, by decide +kernel⟩
theorem wn_X7_gives : Cond.instanceMethod yX7_gives ∈ TBL := tbl_tab 883 (by decide +kernel) rfl
theorem wl_X7_gives : Cond.selects RX7 yX7_gives yX7_gives ∈ TBL := tbl_sel 51 (by decide +kernel) rfl
theorem ok_X7_judged : okM yX7_judged cX7_judged 10 (some .int) 3 := ⟨tbl_tab 888 (by decide +kernel) rfl, wi_X7, ⟨by decide +kernel, by decide +kernel⟩, by decide +kernel⟩
theorem wn_X7_judged : Cond.instanceMethod yX7_judged ∈ TBL := tbl_tab 886 (by decide +kernel) rfl
theorem wl_X7_judged : Cond.selects RX7 yX7_judged yX7_judged ∈ TBL := tbl_tab 887 (by decide +kernel) rfl
theorem ok_X7_isSheet : okM yX7_isSheet cX7_isSheet 1 (some .boolean) 1 := ⟨tbl_tab 891 (by decide +kernel) rfl, wi_X7, ⟨by decide +kernel, by decide +kernel⟩, by decide +kernel⟩
theorem ws_X7_isSheet : Cond.static yX7_isSheet ∈ TBL := tbl_tab 890 (by decide +kernel) rfl
theorem ok_X7_isLane : okM yX7_isLane cX7_isLane 1 (some .boolean) 1 := ⟨tbl_tab 894 (by decide +kernel) rfl, wi_X7, ⟨by decide +kernel, by decide +kernel⟩, by decide +kernel⟩
theorem ws_X7_isLane : Cond.static yX7_isLane ∈ TBL := tbl_tab 893 (by decide +kernel) rfl
theorem ok_X7_why : okM yX7_why cX7_why 5 (some .int) 4 := ⟨tbl_tab 898 (by decide +kernel) rfl, wi_X7, ⟨by decide +kernel, by decide +kernel⟩, by decide +kernel⟩
theorem wn_X7_why : Cond.instanceMethod yX7_why ∈ TBL := tbl_tab 897 (by decide +kernel) rfl
theorem wl_X7_why : Cond.selects RX7 yX7_why yX7_why ∈ TBL := tbl_sel 52 (by decide +kernel) rfl
theorem ok_X7_net : okM yX7_net cX7_net 16 (some .int) 6 := ⟨tbl_tab 903 (by decide +kernel) rfl, wi_X7, ⟨by decide +kernel, by decide +kernel⟩, by decide +kernel⟩
theorem wn_X7_net : Cond.instanceMethod yX7_net ∈ TBL := tbl_tab 901 (by decide +kernel) rfl
theorem wl_X7_net : Cond.selects RX7 yX7_net yX7_net ∈ TBL := tbl_tab 902 (by decide +kernel) rfl
theorem ok_X7_film : okM yX7_film cX7_film 6 (some .int) 3 := ⟨tbl_tab 908 (by decide +kernel) rfl, wi_X7, ⟨by decide +kernel, by decide +kernel⟩, by decide +kernel⟩
theorem wn_X7_film : Cond.instanceMethod yX7_film ∈ TBL := tbl_tab 906 (by decide +kernel) rfl
theorem wl_X7_film : Cond.selects RX7 yX7_film yX7_film ∈ TBL := tbl_tab 907 (by decide +kernel) rfl
theorem ok_X7_puts : okM yX7_puts cX7_puts 6 none 3 := ⟨tbl_tab 912 (by decide +kernel) rfl, wi_X7, ⟨by decide +kernel, by decide +kernel⟩, by decide +kernel⟩
theorem wn_X7_puts : Cond.instanceMethod yX7_puts ∈ TBL := tbl_tab 911 (by decide +kernel) rfl
theorem wl_X7_puts : Cond.selects RX7 yX7_puts yX7_puts ∈ TBL := tbl_sel 53 (by decide +kernel) rfl
theorem ok_X7_sheet : okM yX7_sheet cX7_sheet 5 (some .int) 3 := ⟨tbl_tab 916 (by decide +kernel) rfl, wi_X7, ⟨by decide +kernel, by decide +kernel⟩, by decide +kernel⟩
theorem wn_X7_sheet : Cond.instanceMethod yX7_sheet ∈ TBL := tbl_tab 914 (by decide +kernel) rfl
theorem wl_X7_sheet : Cond.selects RX7 yX7_sheet yX7_sheet ∈ TBL := tbl_tab 915 (by decide +kernel) rfl
theorem ok_X7_drop : okM yX7_drop cX7_drop 2 (some .int) 1 := ⟨tbl_tab 920 (by decide +kernel) rfl, wi_X7, ⟨by decide +kernel, by decide +kernel⟩, by decide +kernel⟩
theorem wn_X7_drop : Cond.instanceMethod yX7_drop ∈ TBL := tbl_tab 918 (by decide +kernel) rfl
theorem wl_X7_drop : Cond.selects RX7 yX7_drop yX7_drop ∈ TBL := tbl_tab 919 (by decide +kernel) rfl
theorem ok_X7_item : okM yX7_item cX7_item 7 (some .int) 4 := ⟨tbl_tab 924 (by decide +kernel) rfl, wi_X7, ⟨by decide +kernel, by decide +kernel⟩, by decide +kernel⟩
theorem wn_X7_item : Cond.instanceMethod yX7_item ∈ TBL := tbl_tab 922 (by decide +kernel) rfl
theorem wl_X7_item : Cond.selects RX7 yX7_item yX7_item ∈ TBL := tbl_tab 923 (by decide +kernel) rfl
theorem ok_X7_copy : okM yX7_copy cX7_copy 7 (some .int) 5 := ⟨tbl_tab 928 (by decide +kernel) rfl, wi_X7, ⟨by decide +kernel, by decide +kernel⟩, by decide +kernel⟩
theorem wn_X7_copy : Cond.instanceMethod yX7_copy ∈ TBL := tbl_tab 926 (by decide +kernel) rfl
theorem wl_X7_copy : Cond.selects RX7 yX7_copy yX7_copy ∈ TBL := tbl_tab 927 (by decide +kernel) rfl
end
section
section FR
variable {p : Program} {l : Launch} {e : Env} {R : Room} {s : State} {m : MethodId} {args : Array Value} {below : List Frame} {meth : Method} {c : Code} {D : va_G} {H0 : Heap} {A : Nat → Prop} {nL : Nat} {Q : State → Prop} {ws : va_W} {pc : Nat} {lv : List (Nat × Value)} {st : List Value} {cc : ByteArray} {own : String} {ret : Option FieldType}
theorem gf_X0_9 (C : Cx p s m args meth c cc RX0 nL ret D) (q0 : Nat) {a : Nat} {fs : List Value} {v : Value} (he : ws[q0]? = some (a, .inr (0, fs))) (hv : fs[1]? = some v) (hdg : decode cc pc = .ok (.getfield 9, 3)) (k : G p l e R s m args below meth c D H0 A nL Q ws (pc + 3) lv (v :: st)) : G p l e R s m args below meth c D H0 A nL Q ws pc lv (.ref a :: st) :=
  fun H locs ls hP hS hl => va_getN (D := D) (C := RX5) (T := TX5) (N := 12) C.1 C.2.1 C.2.2.1 iX5 C.2.2.2.1 C.2.2.2.2.2.1 hP q0 he rfl 1 (by decide) (C.2.2.1 _ wf_X0_9) (fun _ h => h) hv hdg (k H locs ls hP hS hl)
theorem gf_X0_15 (C : Cx p s m args meth c cc RX0 nL ret D) (q0 : Nat) {a : Nat} {fs : List Value} {v : Value} (he : ws[q0]? = some (a, .inr (0, fs))) (hv : fs[5]? = some v) (hdg : decode cc pc = .ok (.getfield 15, 3)) (k : G p l e R s m args below meth c D H0 A nL Q ws (pc + 3) lv (v :: st)) : G p l e R s m args below meth c D H0 A nL Q ws pc lv (.ref a :: st) :=
  fun H locs ls hP hS hl => va_getN (D := D) (C := RX5) (T := TX5) (N := 12) C.1 C.2.1 C.2.2.1 iX5 C.2.2.2.1 C.2.2.2.2.2.1 hP q0 he rfl 5 (by decide) (C.2.2.1 _ wf_X0_15) (fun _ h => h) hv hdg (k H locs ls hP hS hl)
theorem gf_X0_32 (C : Cx p s m args meth c cc RX0 nL ret D) (q0 : Nat) {a : Nat} {fs : List Value} {v : Value} (he : ws[q0]? = some (a, .inr (0, fs))) (hv : fs[0]? = some v) (hdg : decode cc pc = .ok (.getfield 32, 3)) (k : G p l e R s m args below meth c D H0 A nL Q ws (pc + 3) lv (v :: st)) : G p l e R s m args below meth c D H0 A nL Q ws pc lv (.ref a :: st) :=
  fun H locs ls hP hS hl => va_getN (D := D) (C := RX5) (T := TX5) (N := 12) C.1 C.2.1 C.2.2.1 iX5 C.2.2.2.1 C.2.2.2.2.2.1 hP q0 he rfl 0 (by decide) (C.2.2.1 _ wf_X0_32) (fun _ h => h) hv hdg (k H locs ls hP hS hl)
theorem gf_X0_39 (C : Cx p s m args meth c cc RX0 nL ret D) (q0 : Nat) {a : Nat} {fs : List Value} {v : Value} (he : ws[q0]? = some (a, .inr (0, fs))) (hv : fs[9]? = some v) (hdg : decode cc pc = .ok (.getfield 39, 3)) (k : G p l e R s m args below meth c D H0 A nL Q ws (pc + 3) lv (v :: st)) : G p l e R s m args below meth c D H0 A nL Q ws pc lv (.ref a :: st) :=
  fun H locs ls hP hS hl => va_getN (D := D) (C := RX5) (T := TX5) (N := 12) C.1 C.2.1 C.2.2.1 iX5 C.2.2.2.1 C.2.2.2.2.2.1 hP q0 he rfl 9 (by decide) (C.2.2.1 _ wf_X0_39) (fun _ h => h) hv hdg (k H locs ls hP hS hl)
theorem gf_X1_15 (C : Cx p s m args meth c cc RX1 nL ret D) (q0 : Nat) {a : Nat} {fs : List Value} {v : Value} (he : ws[q0]? = some (a, .inr (0, fs))) (hv : fs[1]? = some v) (hdg : decode cc pc = .ok (.getfield 15, 3)) (k : G p l e R s m args below meth c D H0 A nL Q ws (pc + 3) lv (v :: st)) : G p l e R s m args below meth c D H0 A nL Q ws pc lv (.ref a :: st) :=
  fun H locs ls hP hS hl => va_getN (D := D) (C := RX5) (T := TX5) (N := 12) C.1 C.2.1 C.2.2.1 iX5 C.2.2.2.1 C.2.2.2.2.2.1 hP q0 he rfl 1 (by decide) (C.2.2.1 _ wf_X1_15) (fun _ h => h) hv hdg (k H locs ls hP hS hl)
theorem gf_X1_32 (C : Cx p s m args meth c cc RX1 nL ret D) (q0 : Nat) {a : Nat} {fs : List Value} {v : Value} (he : ws[q0]? = some (a, .inr (0, fs))) (hv : fs[10]? = some v) (hdg : decode cc pc = .ok (.getfield 32, 3)) (k : G p l e R s m args below meth c D H0 A nL Q ws (pc + 3) lv (v :: st)) : G p l e R s m args below meth c D H0 A nL Q ws pc lv (.ref a :: st) :=
  fun H locs ls hP hS hl => va_getN (D := D) (C := RX5) (T := TX5) (N := 12) C.1 C.2.1 C.2.2.1 iX5 C.2.2.2.1 C.2.2.2.2.2.1 hP q0 he rfl 10 (by decide) (C.2.2.1 _ wf_X1_32) (fun _ h => h) hv hdg (k H locs ls hP hS hl)
theorem gf_X2_9 (C : Cx p s m args meth c cc RX2 nL ret D) (q0 : Nat) {a : Nat} {fs : List Value} {v : Value} (he : ws[q0]? = some (a, .inr (2, fs))) (hv : fs[0]? = some v) (hdg : decode cc pc = .ok (.getfield 9, 3)) (k : G p l e R s m args below meth c D H0 A nL Q ws (pc + 3) lv (v :: st)) : G p l e R s m args below meth c D H0 A nL Q ws pc lv (.ref a :: st) :=
  fun H locs ls hP hS hl => va_get (D := D) (C := RX2) (T := TX2) (N := 3) C.1 C.2.1 C.2.2.1 iX2 C.2.2.2.1 C.2.2.2.2.2.1 hP q0 he rfl 0 (by decide) (C.2.2.1 _ wf_X2_9) (fun _ h => h) hv hdg (k H locs ls hP hS hl)
theorem gf_X2_15 (C : Cx p s m args meth c cc RX2 nL ret D) (q0 : Nat) {a : Nat} {fs : List Value} {v : Value} (he : ws[q0]? = some (a, .inr (2, fs))) (hv : fs[1]? = some v) (hdg : decode cc pc = .ok (.getfield 15, 3)) (k : G p l e R s m args below meth c D H0 A nL Q ws (pc + 3) lv (v :: st)) : G p l e R s m args below meth c D H0 A nL Q ws pc lv (.ref a :: st) :=
  fun H locs ls hP hS hl => va_get (D := D) (C := RX2) (T := TX2) (N := 3) C.1 C.2.1 C.2.2.1 iX2 C.2.2.2.1 C.2.2.2.2.2.1 hP q0 he rfl 1 (by decide) (C.2.2.1 _ wf_X2_15) (fun _ h => h) hv hdg (k H locs ls hP hS hl)
theorem gf_X2_18 (C : Cx p s m args meth c cc RX2 nL ret D) (q0 : Nat) {a : Nat} {fs : List Value} {v : Value} (he : ws[q0]? = some (a, .inr (2, fs))) (hv : fs[2]? = some v) (hdg : decode cc pc = .ok (.getfield 18, 3)) (k : G p l e R s m args below meth c D H0 A nL Q ws (pc + 3) lv (v :: st)) : G p l e R s m args below meth c D H0 A nL Q ws pc lv (.ref a :: st) :=
  fun H locs ls hP hS hl => va_get (D := D) (C := RX2) (T := TX2) (N := 3) C.1 C.2.1 C.2.2.1 iX2 C.2.2.2.1 C.2.2.2.2.2.1 hP q0 he rfl 2 (by decide) (C.2.2.1 _ wf_X2_18) (fun _ h => h) hv hdg (k H locs ls hP hS hl)
theorem gf_X3_9 (C : Cx p s m args meth c cc RX3 nL ret D) (q0 : Nat) {a : Nat} {fs : List Value} {v : Value} (he : ws[q0]? = some (a, .inr (1, fs))) (hv : fs[0]? = some v) (hdg : decode cc pc = .ok (.getfield 9, 3)) (k : G p l e R s m args below meth c D H0 A nL Q ws (pc + 3) lv (v :: st)) : G p l e R s m args below meth c D H0 A nL Q ws pc lv (.ref a :: st) :=
  fun H locs ls hP hS hl => va_get (D := D) (C := RX3) (T := TX3) (N := 4) C.1 C.2.1 C.2.2.1 iX3 C.2.2.2.1 C.2.2.2.2.2.1 hP q0 he rfl 0 (by decide) (C.2.2.1 _ wf_X3_9) (fun _ h => h) hv hdg (k H locs ls hP hS hl)
theorem gf_X3_15 (C : Cx p s m args meth c cc RX3 nL ret D) (q0 : Nat) {a : Nat} {fs : List Value} {v : Value} (he : ws[q0]? = some (a, .inr (1, fs))) (hv : fs[1]? = some v) (hdg : decode cc pc = .ok (.getfield 15, 3)) (k : G p l e R s m args below meth c D H0 A nL Q ws (pc + 3) lv (v :: st)) : G p l e R s m args below meth c D H0 A nL Q ws pc lv (.ref a :: st) :=
  fun H locs ls hP hS hl => va_get (D := D) (C := RX3) (T := TX3) (N := 4) C.1 C.2.1 C.2.2.1 iX3 C.2.2.2.1 C.2.2.2.2.2.1 hP q0 he rfl 1 (by decide) (C.2.2.1 _ wf_X3_15) (fun _ h => h) hv hdg (k H locs ls hP hS hl)
theorem gf_X3_19 (C : Cx p s m args meth c cc RX3 nL ret D) (q0 : Nat) {a : Nat} {fs : List Value} {v : Value} (he : ws[q0]? = some (a, .inr (1, fs))) (hv : fs[2]? = some v) (hdg : decode cc pc = .ok (.getfield 19, 3)) (k : G p l e R s m args below meth c D H0 A nL Q ws (pc + 3) lv (v :: st)) : G p l e R s m args below meth c D H0 A nL Q ws pc lv (.ref a :: st) :=
  fun H locs ls hP hS hl => va_get (D := D) (C := RX3) (T := TX3) (N := 4) C.1 C.2.1 C.2.2.1 iX3 C.2.2.2.1 C.2.2.2.2.2.1 hP q0 he rfl 2 (by decide) (C.2.2.1 _ wf_X3_19) (fun _ h => h) hv hdg (k H locs ls hP hS hl)
theorem gf_X3_22 (C : Cx p s m args meth c cc RX3 nL ret D) (q0 : Nat) {a : Nat} {fs : List Value} {v : Value} (he : ws[q0]? = some (a, .inr (1, fs))) (hv : fs[3]? = some v) (hdg : decode cc pc = .ok (.getfield 22, 3)) (k : G p l e R s m args below meth c D H0 A nL Q ws (pc + 3) lv (v :: st)) : G p l e R s m args below meth c D H0 A nL Q ws pc lv (.ref a :: st) :=
  fun H locs ls hP hS hl => va_get (D := D) (C := RX3) (T := TX3) (N := 4) C.1 C.2.1 C.2.2.1 iX3 C.2.2.2.1 C.2.2.2.2.2.1 hP q0 he rfl 3 (by decide) (C.2.2.1 _ wf_X3_22) (fun _ h => h) hv hdg (k H locs ls hP hS hl)
theorem gf_X3_29 (C : Cx p s m args meth c cc RX3 nL ret D) (q0 : Nat) {a : Nat} {fs : List Value} {v : Value} (he : ws[q0]? = some (a, .inr (0, fs))) (hv : fs[1]? = some v) (hdg : decode cc pc = .ok (.getfield 29, 3)) (k : G p l e R s m args below meth c D H0 A nL Q ws (pc + 3) lv (v :: st)) : G p l e R s m args below meth c D H0 A nL Q ws pc lv (.ref a :: st) :=
  fun H locs ls hP hS hl => va_getN (D := D) (C := RX5) (T := TX5) (N := 12) C.1 C.2.1 C.2.2.1 iX5 C.2.2.2.1 C.2.2.2.2.2.1 hP q0 he rfl 1 (by decide) (C.2.2.1 _ wf_X3_29) (fun _ h => h) hv hdg (k H locs ls hP hS hl)
theorem gf_X3_59 (C : Cx p s m args meth c cc RX3 nL ret D) (q0 : Nat) {a : Nat} {fs : List Value} {v : Value} (he : ws[q0]? = some (a, .inr (0, fs))) (hv : fs[7]? = some v) (hdg : decode cc pc = .ok (.getfield 59, 3)) (k : G p l e R s m args below meth c D H0 A nL Q ws (pc + 3) lv (v :: st)) : G p l e R s m args below meth c D H0 A nL Q ws pc lv (.ref a :: st) :=
  fun H locs ls hP hS hl => va_getN (D := D) (C := RX5) (T := TX5) (N := 12) C.1 C.2.1 C.2.2.1 iX5 C.2.2.2.1 C.2.2.2.2.2.1 hP q0 he rfl 7 (by decide) (C.2.2.1 _ wf_X3_59) (fun _ h => h) hv hdg (k H locs ls hP hS hl)
theorem gf_X3_67 (C : Cx p s m args meth c cc RX3 nL ret D) (q0 : Nat) {a : Nat} {fs : List Value} {v : Value} (he : ws[q0]? = some (a, .inr (0, fs))) (hv : fs[8]? = some v) (hdg : decode cc pc = .ok (.getfield 67, 3)) (k : G p l e R s m args below meth c D H0 A nL Q ws (pc + 3) lv (v :: st)) : G p l e R s m args below meth c D H0 A nL Q ws pc lv (.ref a :: st) :=
  fun H locs ls hP hS hl => va_getN (D := D) (C := RX5) (T := TX5) (N := 12) C.1 C.2.1 C.2.2.1 iX5 C.2.2.2.1 C.2.2.2.2.2.1 hP q0 he rfl 8 (by decide) (C.2.2.1 _ wf_X3_67) (fun _ h => h) hv hdg (k H locs ls hP hS hl)
theorem gf_X4_37 (C : Cx p s m args meth c cc RX4 nL ret D) (q0 : Nat) {a : Nat} {fs : List Value} {v : Value} (he : ws[q0]? = some (a, .inr (0, fs))) (hv : fs[1]? = some v) (hdg : decode cc pc = .ok (.getfield 37, 3)) (k : G p l e R s m args below meth c D H0 A nL Q ws (pc + 3) lv (v :: st)) : G p l e R s m args below meth c D H0 A nL Q ws pc lv (.ref a :: st) :=
  fun H locs ls hP hS hl => va_getN (D := D) (C := RX5) (T := TX5) (N := 12) C.1 C.2.1 C.2.2.1 iX5 C.2.2.2.1 C.2.2.2.2.2.1 hP q0 he rfl 1 (by decide) (C.2.2.1 _ wf_X4_37) (fun _ h => h) hv hdg (k H locs ls hP hS hl)
theorem gf_X4_44 (C : Cx p s m args meth c cc RX4 nL ret D) (q0 : Nat) {a : Nat} {fs : List Value} {v : Value} (he : ws[q0]? = some (a, .inr (0, fs))) (hv : fs[7]? = some v) (hdg : decode cc pc = .ok (.getfield 44, 3)) (k : G p l e R s m args below meth c D H0 A nL Q ws (pc + 3) lv (v :: st)) : G p l e R s m args below meth c D H0 A nL Q ws pc lv (.ref a :: st) :=
  fun H locs ls hP hS hl => va_getN (D := D) (C := RX5) (T := TX5) (N := 12) C.1 C.2.1 C.2.2.1 iX5 C.2.2.2.1 C.2.2.2.2.2.1 hP q0 he rfl 7 (by decide) (C.2.2.1 _ wf_X4_44) (fun _ h => h) hv hdg (k H locs ls hP hS hl)
theorem gf_X4_48 (C : Cx p s m args meth c cc RX4 nL ret D) (q0 : Nat) {a : Nat} {fs : List Value} {v : Value} (he : ws[q0]? = some (a, .inr (0, fs))) (hv : fs[0]? = some v) (hdg : decode cc pc = .ok (.getfield 48, 3)) (k : G p l e R s m args below meth c D H0 A nL Q ws (pc + 3) lv (v :: st)) : G p l e R s m args below meth c D H0 A nL Q ws pc lv (.ref a :: st) :=
  fun H locs ls hP hS hl => va_getN (D := D) (C := RX5) (T := TX5) (N := 12) C.1 C.2.1 C.2.2.1 iX5 C.2.2.2.1 C.2.2.2.2.2.1 hP q0 he rfl 0 (by decide) (C.2.2.1 _ wf_X4_48) (fun _ h => h) hv hdg (k H locs ls hP hS hl)
theorem gf_X5_9 (C : Cx p s m args meth c cc RX5 nL ret D) (q0 : Nat) {a : Nat} {fs : List Value} {v : Value} (he : ws[q0]? = some (a, .inr (0, fs))) (hv : fs[0]? = some v) (hdg : decode cc pc = .ok (.getfield 9, 3)) (k : G p l e R s m args below meth c D H0 A nL Q ws (pc + 3) lv (v :: st)) : G p l e R s m args below meth c D H0 A nL Q ws pc lv (.ref a :: st) :=
  fun H locs ls hP hS hl => va_get (D := D) (C := RX5) (T := TX5) (N := 12) C.1 C.2.1 C.2.2.1 iX5 C.2.2.2.1 C.2.2.2.2.2.1 hP q0 he rfl 0 (by decide) (C.2.2.1 _ wf_X5_9) (fun _ h => h) hv hdg (k H locs ls hP hS hl)
theorem gf_X5_15 (C : Cx p s m args meth c cc RX5 nL ret D) (q0 : Nat) {a : Nat} {fs : List Value} {v : Value} (he : ws[q0]? = some (a, .inr (0, fs))) (hv : fs[1]? = some v) (hdg : decode cc pc = .ok (.getfield 15, 3)) (k : G p l e R s m args below meth c D H0 A nL Q ws (pc + 3) lv (v :: st)) : G p l e R s m args below meth c D H0 A nL Q ws pc lv (.ref a :: st) :=
  fun H locs ls hP hS hl => va_get (D := D) (C := RX5) (T := TX5) (N := 12) C.1 C.2.1 C.2.2.1 iX5 C.2.2.2.1 C.2.2.2.2.2.1 hP q0 he rfl 1 (by decide) (C.2.2.1 _ wf_X5_15) (fun _ h => h) hv hdg (k H locs ls hP hS hl)
theorem gf_X5_18 (C : Cx p s m args meth c cc RX5 nL ret D) (q0 : Nat) {a : Nat} {fs : List Value} {v : Value} (he : ws[q0]? = some (a, .inr (0, fs))) (hv : fs[2]? = some v) (hdg : decode cc pc = .ok (.getfield 18, 3)) (k : G p l e R s m args below meth c D H0 A nL Q ws (pc + 3) lv (v :: st)) : G p l e R s m args below meth c D H0 A nL Q ws pc lv (.ref a :: st) :=
  fun H locs ls hP hS hl => va_get (D := D) (C := RX5) (T := TX5) (N := 12) C.1 C.2.1 C.2.2.1 iX5 C.2.2.2.1 C.2.2.2.2.2.1 hP q0 he rfl 2 (by decide) (C.2.2.1 _ wf_X5_18) (fun _ h => h) hv hdg (k H locs ls hP hS hl)
theorem gf_X5_21 (C : Cx p s m args meth c cc RX5 nL ret D) (q0 : Nat) {a : Nat} {fs : List Value} {v : Value} (he : ws[q0]? = some (a, .inr (0, fs))) (hv : fs[3]? = some v) (hdg : decode cc pc = .ok (.getfield 21, 3)) (k : G p l e R s m args below meth c D H0 A nL Q ws (pc + 3) lv (v :: st)) : G p l e R s m args below meth c D H0 A nL Q ws pc lv (.ref a :: st) :=
  fun H locs ls hP hS hl => va_get (D := D) (C := RX5) (T := TX5) (N := 12) C.1 C.2.1 C.2.2.1 iX5 C.2.2.2.1 C.2.2.2.2.2.1 hP q0 he rfl 3 (by decide) (C.2.2.1 _ wf_X5_21) (fun _ h => h) hv hdg (k H locs ls hP hS hl)
theorem gf_X5_24 (C : Cx p s m args meth c cc RX5 nL ret D) (q0 : Nat) {a : Nat} {fs : List Value} {v : Value} (he : ws[q0]? = some (a, .inr (0, fs))) (hv : fs[4]? = some v) (hdg : decode cc pc = .ok (.getfield 24, 3)) (k : G p l e R s m args below meth c D H0 A nL Q ws (pc + 3) lv (v :: st)) : G p l e R s m args below meth c D H0 A nL Q ws pc lv (.ref a :: st) :=
  fun H locs ls hP hS hl => va_get (D := D) (C := RX5) (T := TX5) (N := 12) C.1 C.2.1 C.2.2.1 iX5 C.2.2.2.1 C.2.2.2.2.2.1 hP q0 he rfl 4 (by decide) (C.2.2.1 _ wf_X5_24) (fun _ h => h) hv hdg (k H locs ls hP hS hl)
theorem gf_X5_27 (C : Cx p s m args meth c cc RX5 nL ret D) (q0 : Nat) {a : Nat} {fs : List Value} {v : Value} (he : ws[q0]? = some (a, .inr (0, fs))) (hv : fs[5]? = some v) (hdg : decode cc pc = .ok (.getfield 27, 3)) (k : G p l e R s m args below meth c D H0 A nL Q ws (pc + 3) lv (v :: st)) : G p l e R s m args below meth c D H0 A nL Q ws pc lv (.ref a :: st) :=
  fun H locs ls hP hS hl => va_get (D := D) (C := RX5) (T := TX5) (N := 12) C.1 C.2.1 C.2.2.1 iX5 C.2.2.2.1 C.2.2.2.2.2.1 hP q0 he rfl 5 (by decide) (C.2.2.1 _ wf_X5_27) (fun _ h => h) hv hdg (k H locs ls hP hS hl)
theorem gf_X5_30 (C : Cx p s m args meth c cc RX5 nL ret D) (q0 : Nat) {a : Nat} {fs : List Value} {v : Value} (he : ws[q0]? = some (a, .inr (0, fs))) (hv : fs[6]? = some v) (hdg : decode cc pc = .ok (.getfield 30, 3)) (k : G p l e R s m args below meth c D H0 A nL Q ws (pc + 3) lv (v :: st)) : G p l e R s m args below meth c D H0 A nL Q ws pc lv (.ref a :: st) :=
  fun H locs ls hP hS hl => va_get (D := D) (C := RX5) (T := TX5) (N := 12) C.1 C.2.1 C.2.2.1 iX5 C.2.2.2.1 C.2.2.2.2.2.1 hP q0 he rfl 6 (by decide) (C.2.2.1 _ wf_X5_30) (fun _ h => h) hv hdg (k H locs ls hP hS hl)
theorem gf_X5_34 (C : Cx p s m args meth c cc RX5 nL ret D) (q0 : Nat) {a : Nat} {fs : List Value} {v : Value} (he : ws[q0]? = some (a, .inr (0, fs))) (hv : fs[7]? = some v) (hdg : decode cc pc = .ok (.getfield 34, 3)) (k : G p l e R s m args below meth c D H0 A nL Q ws (pc + 3) lv (v :: st)) : G p l e R s m args below meth c D H0 A nL Q ws pc lv (.ref a :: st) :=
  fun H locs ls hP hS hl => va_get (D := D) (C := RX5) (T := TX5) (N := 12) C.1 C.2.1 C.2.2.1 iX5 C.2.2.2.1 C.2.2.2.2.2.1 hP q0 he rfl 7 (by decide) (C.2.2.1 _ wf_X5_34) (fun _ h => h) hv hdg (k H locs ls hP hS hl)
theorem gf_X5_37 (C : Cx p s m args meth c cc RX5 nL ret D) (q0 : Nat) {a : Nat} {fs : List Value} {v : Value} (he : ws[q0]? = some (a, .inr (0, fs))) (hv : fs[8]? = some v) (hdg : decode cc pc = .ok (.getfield 37, 3)) (k : G p l e R s m args below meth c D H0 A nL Q ws (pc + 3) lv (v :: st)) : G p l e R s m args below meth c D H0 A nL Q ws pc lv (.ref a :: st) :=
  fun H locs ls hP hS hl => va_get (D := D) (C := RX5) (T := TX5) (N := 12) C.1 C.2.1 C.2.2.1 iX5 C.2.2.2.1 C.2.2.2.2.2.1 hP q0 he rfl 8 (by decide) (C.2.2.1 _ wf_X5_37) (fun _ h => h) hv hdg (k H locs ls hP hS hl)
theorem gf_X5_40 (C : Cx p s m args meth c cc RX5 nL ret D) (q0 : Nat) {a : Nat} {fs : List Value} {v : Value} (he : ws[q0]? = some (a, .inr (0, fs))) (hv : fs[9]? = some v) (hdg : decode cc pc = .ok (.getfield 40, 3)) (k : G p l e R s m args below meth c D H0 A nL Q ws (pc + 3) lv (v :: st)) : G p l e R s m args below meth c D H0 A nL Q ws pc lv (.ref a :: st) :=
  fun H locs ls hP hS hl => va_get (D := D) (C := RX5) (T := TX5) (N := 12) C.1 C.2.1 C.2.2.1 iX5 C.2.2.2.1 C.2.2.2.2.2.1 hP q0 he rfl 9 (by decide) (C.2.2.1 _ wf_X5_40) (fun _ h => h) hv hdg (k H locs ls hP hS hl)
theorem gf_X5_43 (C : Cx p s m args meth c cc RX5 nL ret D) (q0 : Nat) {a : Nat} {fs : List Value} {v : Value} (he : ws[q0]? = some (a, .inr (0, fs))) (hv : fs[10]? = some v) (hdg : decode cc pc = .ok (.getfield 43, 3)) (k : G p l e R s m args below meth c D H0 A nL Q ws (pc + 3) lv (v :: st)) : G p l e R s m args below meth c D H0 A nL Q ws pc lv (.ref a :: st) :=
  fun H locs ls hP hS hl => va_get (D := D) (C := RX5) (T := TX5) (N := 12) C.1 C.2.1 C.2.2.1 iX5 C.2.2.2.1 C.2.2.2.2.2.1 hP q0 he rfl 10 (by decide) (C.2.2.1 _ wf_X5_43) (fun _ h => h) hv hdg (k H locs ls hP hS hl)
theorem gf_X5_46 (C : Cx p s m args meth c cc RX5 nL ret D) (q0 : Nat) {a : Nat} {fs : List Value} {v : Value} (he : ws[q0]? = some (a, .inr (0, fs))) (hv : fs[11]? = some v) (hdg : decode cc pc = .ok (.getfield 46, 3)) (k : G p l e R s m args below meth c D H0 A nL Q ws (pc + 3) lv (v :: st)) : G p l e R s m args below meth c D H0 A nL Q ws pc lv (.ref a :: st) :=
  fun H locs ls hP hS hl => va_get (D := D) (C := RX5) (T := TX5) (N := 12) C.1 C.2.1 C.2.2.1 iX5 C.2.2.2.1 C.2.2.2.2.2.1 hP q0 he rfl 11 (by decide) (C.2.2.1 _ wf_X5_46) (fun _ h => h) hv hdg (k H locs ls hP hS hl)
theorem gf_X6_10 (C : Cx p s m args meth c cc RX6 nL ret D) (q0 : Nat) {a : Nat} {fs : List Value} {v : Value} (he : ws[q0]? = some (a, .inr (3, fs))) (hv : fs[0]? = some v) (hdg : decode cc pc = .ok (.getfield 10, 3)) (k : G p l e R s m args below meth c D H0 A nL Q ws (pc + 3) lv (v :: st)) : G p l e R s m args below meth c D H0 A nL Q ws pc lv (.ref a :: st) :=
  fun H locs ls hP hS hl => va_get (D := D) (C := RX6) (T := TX6) (N := 9) C.1 C.2.1 C.2.2.1 iX6 C.2.2.2.1 C.2.2.2.2.2.1 hP q0 he rfl 0 (by decide) (C.2.2.1 _ wf_X6_10) (fun _ h => h) hv hdg (k H locs ls hP hS hl)
theorem gf_X6_16 (C : Cx p s m args meth c cc RX6 nL ret D) (q0 : Nat) {a : Nat} {fs : List Value} {v : Value} (he : ws[q0]? = some (a, .inr (3, fs))) (hv : fs[1]? = some v) (hdg : decode cc pc = .ok (.getfield 16, 3)) (k : G p l e R s m args below meth c D H0 A nL Q ws (pc + 3) lv (v :: st)) : G p l e R s m args below meth c D H0 A nL Q ws pc lv (.ref a :: st) :=
  fun H locs ls hP hS hl => va_get (D := D) (C := RX6) (T := TX6) (N := 9) C.1 C.2.1 C.2.2.1 iX6 C.2.2.2.1 C.2.2.2.2.2.1 hP q0 he rfl 1 (by decide) (C.2.2.1 _ wf_X6_16) (fun _ h => h) hv hdg (k H locs ls hP hS hl)
theorem gf_X6_19 (C : Cx p s m args meth c cc RX6 nL ret D) (q0 : Nat) {a : Nat} {fs : List Value} {v : Value} (he : ws[q0]? = some (a, .inr (3, fs))) (hv : fs[2]? = some v) (hdg : decode cc pc = .ok (.getfield 19, 3)) (k : G p l e R s m args below meth c D H0 A nL Q ws (pc + 3) lv (v :: st)) : G p l e R s m args below meth c D H0 A nL Q ws pc lv (.ref a :: st) :=
  fun H locs ls hP hS hl => va_get (D := D) (C := RX6) (T := TX6) (N := 9) C.1 C.2.1 C.2.2.1 iX6 C.2.2.2.1 C.2.2.2.2.2.1 hP q0 he rfl 2 (by decide) (C.2.2.1 _ wf_X6_19) (fun _ h => h) hv hdg (k H locs ls hP hS hl)
theorem gf_X6_25 (C : Cx p s m args meth c cc RX6 nL ret D) (q0 : Nat) {a : Nat} {fs : List Value} {v : Value} (he : ws[q0]? = some (a, .inr (3, fs))) (hv : fs[3]? = some v) (hdg : decode cc pc = .ok (.getfield 25, 3)) (k : G p l e R s m args below meth c D H0 A nL Q ws (pc + 3) lv (v :: st)) : G p l e R s m args below meth c D H0 A nL Q ws pc lv (.ref a :: st) :=
  fun H locs ls hP hS hl => va_get (D := D) (C := RX6) (T := TX6) (N := 9) C.1 C.2.1 C.2.2.1 iX6 C.2.2.2.1 C.2.2.2.2.2.1 hP q0 he rfl 3 (by decide) (C.2.2.1 _ wf_X6_25) (fun _ h => h) hv hdg (k H locs ls hP hS hl)
theorem gf_X6_32 (C : Cx p s m args meth c cc RX6 nL ret D) (q0 : Nat) {a : Nat} {fs : List Value} {v : Value} (he : ws[q0]? = some (a, .inr (3, fs))) (hv : fs[4]? = some v) (hdg : decode cc pc = .ok (.getfield 32, 3)) (k : G p l e R s m args below meth c D H0 A nL Q ws (pc + 3) lv (v :: st)) : G p l e R s m args below meth c D H0 A nL Q ws pc lv (.ref a :: st) :=
  fun H locs ls hP hS hl => va_get (D := D) (C := RX6) (T := TX6) (N := 9) C.1 C.2.1 C.2.2.1 iX6 C.2.2.2.1 C.2.2.2.2.2.1 hP q0 he rfl 4 (by decide) (C.2.2.1 _ wf_X6_32) (fun _ h => h) hv hdg (k H locs ls hP hS hl)
theorem gf_X6_36 (C : Cx p s m args meth c cc RX6 nL ret D) (q0 : Nat) {a : Nat} {fs : List Value} {v : Value} (he : ws[q0]? = some (a, .inr (3, fs))) (hv : fs[5]? = some v) (hdg : decode cc pc = .ok (.getfield 36, 3)) (k : G p l e R s m args below meth c D H0 A nL Q ws (pc + 3) lv (v :: st)) : G p l e R s m args below meth c D H0 A nL Q ws pc lv (.ref a :: st) :=
  fun H locs ls hP hS hl => va_get (D := D) (C := RX6) (T := TX6) (N := 9) C.1 C.2.1 C.2.2.1 iX6 C.2.2.2.1 C.2.2.2.2.2.1 hP q0 he rfl 5 (by decide) (C.2.2.1 _ wf_X6_36) (fun _ h => h) hv hdg (k H locs ls hP hS hl)
theorem gf_X6_40 (C : Cx p s m args meth c cc RX6 nL ret D) (q0 : Nat) {a : Nat} {fs : List Value} {v : Value} (he : ws[q0]? = some (a, .inr (3, fs))) (hv : fs[6]? = some v) (hdg : decode cc pc = .ok (.getfield 40, 3)) (k : G p l e R s m args below meth c D H0 A nL Q ws (pc + 3) lv (v :: st)) : G p l e R s m args below meth c D H0 A nL Q ws pc lv (.ref a :: st) :=
  fun H locs ls hP hS hl => va_get (D := D) (C := RX6) (T := TX6) (N := 9) C.1 C.2.1 C.2.2.1 iX6 C.2.2.2.1 C.2.2.2.2.2.1 hP q0 he rfl 6 (by decide) (C.2.2.1 _ wf_X6_40) (fun _ h => h) hv hdg (k H locs ls hP hS hl)
theorem gf_X6_43 (C : Cx p s m args meth c cc RX6 nL ret D) (q0 : Nat) {a : Nat} {fs : List Value} {v : Value} (he : ws[q0]? = some (a, .inr (3, fs))) (hv : fs[7]? = some v) (hdg : decode cc pc = .ok (.getfield 43, 3)) (k : G p l e R s m args below meth c D H0 A nL Q ws (pc + 3) lv (v :: st)) : G p l e R s m args below meth c D H0 A nL Q ws pc lv (.ref a :: st) :=
  fun H locs ls hP hS hl => va_get (D := D) (C := RX6) (T := TX6) (N := 9) C.1 C.2.1 C.2.2.1 iX6 C.2.2.2.1 C.2.2.2.2.2.1 hP q0 he rfl 7 (by decide) (C.2.2.1 _ wf_X6_43) (fun _ h => h) hv hdg (k H locs ls hP hS hl)
theorem gf_X6_46 (C : Cx p s m args meth c cc RX6 nL ret D) (q0 : Nat) {a : Nat} {fs : List Value} {v : Value} (he : ws[q0]? = some (a, .inr (3, fs))) (hv : fs[8]? = some v) (hdg : decode cc pc = .ok (.getfield 46, 3)) (k : G p l e R s m args below meth c D H0 A nL Q ws (pc + 3) lv (v :: st)) : G p l e R s m args below meth c D H0 A nL Q ws pc lv (.ref a :: st) :=
  fun H locs ls hP hS hl => va_get (D := D) (C := RX6) (T := TX6) (N := 9) C.1 C.2.1 C.2.2.1 iX6 C.2.2.2.1 C.2.2.2.2.2.1 hP q0 he rfl 8 (by decide) (C.2.2.1 _ wf_X6_46) (fun _ h => h) hv hdg (k H locs ls hP hS hl)
theorem gf_X6_50 (C : Cx p s m args meth c cc RX6 nL ret D) (q0 : Nat) {a : Nat} {fs : List Value} {v : Value} (he : ws[q0]? = some (a, .inr (0, fs))) (hv : fs[0]? = some v) (hdg : decode cc pc = .ok (.getfield 50, 3)) (k : G p l e R s m args below meth c D H0 A nL Q ws (pc + 3) lv (v :: st)) : G p l e R s m args below meth c D H0 A nL Q ws pc lv (.ref a :: st) :=
  fun H locs ls hP hS hl => va_getN (D := D) (C := RX5) (T := TX5) (N := 12) C.1 C.2.1 C.2.2.1 iX5 C.2.2.2.1 C.2.2.2.2.2.1 hP q0 he rfl 0 (by decide) (C.2.2.1 _ wf_X6_50) (fun _ h => h) hv hdg (k H locs ls hP hS hl)
theorem gf_X6_58 (C : Cx p s m args meth c cc RX6 nL ret D) (q0 : Nat) {a : Nat} {fs : List Value} {v : Value} (he : ws[q0]? = some (a, .inr (0, fs))) (hv : fs[1]? = some v) (hdg : decode cc pc = .ok (.getfield 58, 3)) (k : G p l e R s m args below meth c D H0 A nL Q ws (pc + 3) lv (v :: st)) : G p l e R s m args below meth c D H0 A nL Q ws pc lv (.ref a :: st) :=
  fun H locs ls hP hS hl => va_getN (D := D) (C := RX5) (T := TX5) (N := 12) C.1 C.2.1 C.2.2.1 iX5 C.2.2.2.1 C.2.2.2.2.2.1 hP q0 he rfl 1 (by decide) (C.2.2.1 _ wf_X6_58) (fun _ h => h) hv hdg (k H locs ls hP hS hl)
theorem gf_X6_76 (C : Cx p s m args meth c cc RX6 nL ret D) (q0 : Nat) {a : Nat} {fs : List Value} {v : Value} (he : ws[q0]? = some (a, .inr (0, fs))) (hv : fs[6]? = some v) (hdg : decode cc pc = .ok (.getfield 76, 3)) (k : G p l e R s m args below meth c D H0 A nL Q ws (pc + 3) lv (v :: st)) : G p l e R s m args below meth c D H0 A nL Q ws pc lv (.ref a :: st) :=
  fun H locs ls hP hS hl => va_getN (D := D) (C := RX5) (T := TX5) (N := 12) C.1 C.2.1 C.2.2.1 iX5 C.2.2.2.1 C.2.2.2.2.2.1 hP q0 he rfl 6 (by decide) (C.2.2.1 _ wf_X6_76) (fun _ h => h) hv hdg (k H locs ls hP hS hl)
theorem gf_X6_79 (C : Cx p s m args meth c cc RX6 nL ret D) (q0 : Nat) {a : Nat} {fs : List Value} {v : Value} (he : ws[q0]? = some (a, .inr (0, fs))) (hv : fs[7]? = some v) (hdg : decode cc pc = .ok (.getfield 79, 3)) (k : G p l e R s m args below meth c D H0 A nL Q ws (pc + 3) lv (v :: st)) : G p l e R s m args below meth c D H0 A nL Q ws pc lv (.ref a :: st) :=
  fun H locs ls hP hS hl => va_getN (D := D) (C := RX5) (T := TX5) (N := 12) C.1 C.2.1 C.2.2.1 iX5 C.2.2.2.1 C.2.2.2.2.2.1 hP q0 he rfl 7 (by decide) (C.2.2.1 _ wf_X6_79) (fun _ h => h) hv hdg (k H locs ls hP hS hl)
theorem gf_X6_82 (C : Cx p s m args meth c cc RX6 nL ret D) (q0 : Nat) {a : Nat} {fs : List Value} {v : Value} (he : ws[q0]? = some (a, .inr (0, fs))) (hv : fs[8]? = some v) (hdg : decode cc pc = .ok (.getfield 82, 3)) (k : G p l e R s m args below meth c D H0 A nL Q ws (pc + 3) lv (v :: st)) : G p l e R s m args below meth c D H0 A nL Q ws pc lv (.ref a :: st) :=
  fun H locs ls hP hS hl => va_getN (D := D) (C := RX5) (T := TX5) (N := 12) C.1 C.2.1 C.2.2.1 iX5 C.2.2.2.1 C.2.2.2.2.2.1 hP q0 he rfl 8 (by decide) (C.2.2.1 _ wf_X6_82) (fun _ h => h) hv hdg (k H locs ls hP hS hl)
theorem gf_X6_85 (C : Cx p s m args meth c cc RX6 nL ret D) (q0 : Nat) {a : Nat} {fs : List Value} {v : Value} (he : ws[q0]? = some (a, .inr (0, fs))) (hv : fs[9]? = some v) (hdg : decode cc pc = .ok (.getfield 85, 3)) (k : G p l e R s m args below meth c D H0 A nL Q ws (pc + 3) lv (v :: st)) : G p l e R s m args below meth c D H0 A nL Q ws pc lv (.ref a :: st) :=
  fun H locs ls hP hS hl => va_getN (D := D) (C := RX5) (T := TX5) (N := 12) C.1 C.2.1 C.2.2.1 iX5 C.2.2.2.1 C.2.2.2.2.2.1 hP q0 he rfl 9 (by decide) (C.2.2.1 _ wf_X6_85) (fun _ h => h) hv hdg (k H locs ls hP hS hl)
theorem gf_X6_88 (C : Cx p s m args meth c cc RX6 nL ret D) (q0 : Nat) {a : Nat} {fs : List Value} {v : Value} (he : ws[q0]? = some (a, .inr (0, fs))) (hv : fs[10]? = some v) (hdg : decode cc pc = .ok (.getfield 88, 3)) (k : G p l e R s m args below meth c D H0 A nL Q ws (pc + 3) lv (v :: st)) : G p l e R s m args below meth c D H0 A nL Q ws pc lv (.ref a :: st) :=
  fun H locs ls hP hS hl => va_getN (D := D) (C := RX5) (T := TX5) (N := 12) C.1 C.2.1 C.2.2.1 iX5 C.2.2.2.1 C.2.2.2.2.2.1 hP q0 he rfl 10 (by decide) (C.2.2.1 _ wf_X6_88) (fun _ h => h) hv hdg (k H locs ls hP hS hl)
theorem gf_X6_91 (C : Cx p s m args meth c cc RX6 nL ret D) (q0 : Nat) {a : Nat} {fs : List Value} {v : Value} (he : ws[q0]? = some (a, .inr (0, fs))) (hv : fs[5]? = some v) (hdg : decode cc pc = .ok (.getfield 91, 3)) (k : G p l e R s m args below meth c D H0 A nL Q ws (pc + 3) lv (v :: st)) : G p l e R s m args below meth c D H0 A nL Q ws pc lv (.ref a :: st) :=
  fun H locs ls hP hS hl => va_getN (D := D) (C := RX5) (T := TX5) (N := 12) C.1 C.2.1 C.2.2.1 iX5 C.2.2.2.1 C.2.2.2.2.2.1 hP q0 he rfl 5 (by decide) (C.2.2.1 _ wf_X6_91) (fun _ h => h) hv hdg (k H locs ls hP hS hl)
theorem gf_X6_111 (C : Cx p s m args meth c cc RX6 nL ret D) (q0 : Nat) {a : Nat} {fs : List Value} {v : Value} (he : ws[q0]? = some (a, .inr (0, fs))) (hv : fs[11]? = some v) (hdg : decode cc pc = .ok (.getfield 111, 3)) (k : G p l e R s m args below meth c D H0 A nL Q ws (pc + 3) lv (v :: st)) : G p l e R s m args below meth c D H0 A nL Q ws pc lv (.ref a :: st) :=
  fun H locs ls hP hS hl => va_getN (D := D) (C := RX5) (T := TX5) (N := 12) C.1 C.2.1 C.2.2.1 iX5 C.2.2.2.1 C.2.2.2.2.2.1 hP q0 he rfl 11 (by decide) (C.2.2.1 _ wf_X6_111) (fun _ h => h) hv hdg (k H locs ls hP hS hl)
theorem gf_X6_118 (C : Cx p s m args meth c cc RX6 nL ret D) (q0 : Nat) {a : Nat} {fs : List Value} {v : Value} (he : ws[q0]? = some (a, .inr (0, fs))) (hv : fs[4]? = some v) (hdg : decode cc pc = .ok (.getfield 118, 3)) (k : G p l e R s m args below meth c D H0 A nL Q ws (pc + 3) lv (v :: st)) : G p l e R s m args below meth c D H0 A nL Q ws pc lv (.ref a :: st) :=
  fun H locs ls hP hS hl => va_getN (D := D) (C := RX5) (T := TX5) (N := 12) C.1 C.2.1 C.2.2.1 iX5 C.2.2.2.1 C.2.2.2.2.2.1 hP q0 he rfl 4 (by decide) (C.2.2.1 _ wf_X6_118) (fun _ h => h) hv hdg (k H locs ls hP hS hl)
theorem gf_X6_124 (C : Cx p s m args meth c cc RX6 nL ret D) (q0 : Nat) {a : Nat} {fs : List Value} {v : Value} (he : ws[q0]? = some (a, .inr (1, fs))) (hv : fs[1]? = some v) (hdg : decode cc pc = .ok (.getfield 124, 3)) (k : G p l e R s m args below meth c D H0 A nL Q ws (pc + 3) lv (v :: st)) : G p l e R s m args below meth c D H0 A nL Q ws pc lv (.ref a :: st) :=
  fun H locs ls hP hS hl => va_getN (D := D) (C := RX3) (T := TX3) (N := 4) C.1 C.2.1 C.2.2.1 iX3 C.2.2.2.1 C.2.2.2.2.2.1 hP q0 he rfl 1 (by decide) (C.2.2.1 _ wf_X6_124) (fun _ h => h) hv hdg (k H locs ls hP hS hl)
theorem gf_X6_134 (C : Cx p s m args meth c cc RX6 nL ret D) (q0 : Nat) {a : Nat} {fs : List Value} {v : Value} (he : ws[q0]? = some (a, .inr (0, fs))) (hv : fs[3]? = some v) (hdg : decode cc pc = .ok (.getfield 134, 3)) (k : G p l e R s m args below meth c D H0 A nL Q ws (pc + 3) lv (v :: st)) : G p l e R s m args below meth c D H0 A nL Q ws pc lv (.ref a :: st) :=
  fun H locs ls hP hS hl => va_getN (D := D) (C := RX5) (T := TX5) (N := 12) C.1 C.2.1 C.2.2.1 iX5 C.2.2.2.1 C.2.2.2.2.2.1 hP q0 he rfl 3 (by decide) (C.2.2.1 _ wf_X6_134) (fun _ h => h) hv hdg (k H locs ls hP hS hl)
theorem gf_X6_141 (C : Cx p s m args meth c cc RX6 nL ret D) (q0 : Nat) {a : Nat} {fs : List Value} {v : Value} (he : ws[q0]? = some (a, .inr (0, fs))) (hv : fs[2]? = some v) (hdg : decode cc pc = .ok (.getfield 141, 3)) (k : G p l e R s m args below meth c D H0 A nL Q ws (pc + 3) lv (v :: st)) : G p l e R s m args below meth c D H0 A nL Q ws pc lv (.ref a :: st) :=
  fun H locs ls hP hS hl => va_getN (D := D) (C := RX5) (T := TX5) (N := 12) C.1 C.2.1 C.2.2.1 iX5 C.2.2.2.1 C.2.2.2.2.2.1 hP q0 he rfl 2 (by decide) (C.2.2.1 _ wf_X6_141) (fun _ h => h) hv hdg (k H locs ls hP hS hl)
theorem gf_X6_255 (C : Cx p s m args meth c cc RX6 nL ret D) (q0 : Nat) {a : Nat} {fs : List Value} {v : Value} (he : ws[q0]? = some (a, .inr (2, fs))) (hv : fs[1]? = some v) (hdg : decode cc pc = .ok (.getfield 255, 3)) (k : G p l e R s m args below meth c D H0 A nL Q ws (pc + 3) lv (v :: st)) : G p l e R s m args below meth c D H0 A nL Q ws pc lv (.ref a :: st) :=
  fun H locs ls hP hS hl => va_getN (D := D) (C := RX2) (T := TX2) (N := 3) C.1 C.2.1 C.2.2.1 iX2 C.2.2.2.1 C.2.2.2.2.2.1 hP q0 he rfl 1 (by decide) (C.2.2.1 _ wf_X6_255) (fun _ h => h) hv hdg (k H locs ls hP hS hl)
theorem gf_X6_258 (C : Cx p s m args meth c cc RX6 nL ret D) (q0 : Nat) {a : Nat} {fs : List Value} {v : Value} (he : ws[q0]? = some (a, .inr (2, fs))) (hv : fs[0]? = some v) (hdg : decode cc pc = .ok (.getfield 258, 3)) (k : G p l e R s m args below meth c D H0 A nL Q ws (pc + 3) lv (v :: st)) : G p l e R s m args below meth c D H0 A nL Q ws pc lv (.ref a :: st) :=
  fun H locs ls hP hS hl => va_getN (D := D) (C := RX2) (T := TX2) (N := 3) C.1 C.2.1 C.2.2.1 iX2 C.2.2.2.1 C.2.2.2.2.2.1 hP q0 he rfl 0 (by decide) (C.2.2.1 _ wf_X6_258) (fun _ h => h) hv hdg (k H locs ls hP hS hl)
theorem gf_X7_7 (C : Cx p s m args meth c cc RX7 nL ret D) (q0 : Nat) {a : Nat} {fs : List Value} {v : Value} (he : ws[q0]? = some (a, .inr (4, fs))) (hv : fs[2]? = some v) (hdg : decode cc pc = .ok (.getfield 7, 3)) (k : G p l e R s m args below meth c D H0 A nL Q ws (pc + 3) lv (v :: st)) : G p l e R s m args below meth c D H0 A nL Q ws pc lv (.ref a :: st) :=
  fun H locs ls hP hS hl => va_get (D := D) (C := RX7) (T := TX7) (N := 37) C.1 C.2.1 C.2.2.1 iX7 C.2.2.2.1 C.2.2.2.2.2.1 hP q0 he rfl 2 (by decide) (C.2.2.1 _ wf_X7_7) (fun _ h => h) hv hdg (k H locs ls hP hS hl)
theorem gf_X7_13 (C : Cx p s m args meth c cc RX7 nL ret D) (q0 : Nat) {a : Nat} {fs : List Value} {v : Value} (he : ws[q0]? = some (a, .inr (4, fs))) (hv : fs[3]? = some v) (hdg : decode cc pc = .ok (.getfield 13, 3)) (k : G p l e R s m args below meth c D H0 A nL Q ws (pc + 3) lv (v :: st)) : G p l e R s m args below meth c D H0 A nL Q ws pc lv (.ref a :: st) :=
  fun H locs ls hP hS hl => va_get (D := D) (C := RX7) (T := TX7) (N := 37) C.1 C.2.1 C.2.2.1 iX7 C.2.2.2.1 C.2.2.2.2.2.1 hP q0 he rfl 3 (by decide) (C.2.2.1 _ wf_X7_13) (fun _ h => h) hv hdg (k H locs ls hP hS hl)
theorem gf_X7_16 (C : Cx p s m args meth c cc RX7 nL ret D) (q0 : Nat) {a : Nat} {fs : List Value} {v : Value} (he : ws[q0]? = some (a, .inr (4, fs))) (hv : fs[4]? = some v) (hdg : decode cc pc = .ok (.getfield 16, 3)) (k : G p l e R s m args below meth c D H0 A nL Q ws (pc + 3) lv (v :: st)) : G p l e R s m args below meth c D H0 A nL Q ws pc lv (.ref a :: st) :=
  fun H locs ls hP hS hl => va_get (D := D) (C := RX7) (T := TX7) (N := 37) C.1 C.2.1 C.2.2.1 iX7 C.2.2.2.1 C.2.2.2.2.2.1 hP q0 he rfl 4 (by decide) (C.2.2.1 _ wf_X7_16) (fun _ h => h) hv hdg (k H locs ls hP hS hl)
theorem gf_X7_19 (C : Cx p s m args meth c cc RX7 nL ret D) (q0 : Nat) {a : Nat} {fs : List Value} {v : Value} (he : ws[q0]? = some (a, .inr (4, fs))) (hv : fs[5]? = some v) (hdg : decode cc pc = .ok (.getfield 19, 3)) (k : G p l e R s m args below meth c D H0 A nL Q ws (pc + 3) lv (v :: st)) : G p l e R s m args below meth c D H0 A nL Q ws pc lv (.ref a :: st) :=
  fun H locs ls hP hS hl => va_get (D := D) (C := RX7) (T := TX7) (N := 37) C.1 C.2.1 C.2.2.1 iX7 C.2.2.2.1 C.2.2.2.2.2.1 hP q0 he rfl 5 (by decide) (C.2.2.1 _ wf_X7_19) (fun _ h => h) hv hdg (k H locs ls hP hS hl)
theorem gf_X7_22 (C : Cx p s m args meth c cc RX7 nL ret D) (q0 : Nat) {a : Nat} {fs : List Value} {v : Value} (he : ws[q0]? = some (a, .inr (4, fs))) (hv : fs[6]? = some v) (hdg : decode cc pc = .ok (.getfield 22, 3)) (k : G p l e R s m args below meth c D H0 A nL Q ws (pc + 3) lv (v :: st)) : G p l e R s m args below meth c D H0 A nL Q ws pc lv (.ref a :: st) :=
  fun H locs ls hP hS hl => va_get (D := D) (C := RX7) (T := TX7) (N := 37) C.1 C.2.1 C.2.2.1 iX7 C.2.2.2.1 C.2.2.2.2.2.1 hP q0 he rfl 6 (by decide) (C.2.2.1 _ wf_X7_22) (fun _ h => h) hv hdg (k H locs ls hP hS hl)
theorem gf_X7_25 (C : Cx p s m args meth c cc RX7 nL ret D) (q0 : Nat) {a : Nat} {fs : List Value} {v : Value} (he : ws[q0]? = some (a, .inr (4, fs))) (hv : fs[7]? = some v) (hdg : decode cc pc = .ok (.getfield 25, 3)) (k : G p l e R s m args below meth c D H0 A nL Q ws (pc + 3) lv (v :: st)) : G p l e R s m args below meth c D H0 A nL Q ws pc lv (.ref a :: st) :=
  fun H locs ls hP hS hl => va_get (D := D) (C := RX7) (T := TX7) (N := 37) C.1 C.2.1 C.2.2.1 iX7 C.2.2.2.1 C.2.2.2.2.2.1 hP q0 he rfl 7 (by decide) (C.2.2.1 _ wf_X7_25) (fun _ h => h) hv hdg (k H locs ls hP hS hl)
theorem gf_X7_28 (C : Cx p s m args meth c cc RX7 nL ret D) (q0 : Nat) {a : Nat} {fs : List Value} {v : Value} (he : ws[q0]? = some (a, .inr (4, fs))) (hv : fs[12]? = some v) (hdg : decode cc pc = .ok (.getfield 28, 3)) (k : G p l e R s m args below meth c D H0 A nL Q ws (pc + 3) lv (v :: st)) : G p l e R s m args below meth c D H0 A nL Q ws pc lv (.ref a :: st) :=
  fun H locs ls hP hS hl => va_get (D := D) (C := RX7) (T := TX7) (N := 37) C.1 C.2.1 C.2.2.1 iX7 C.2.2.2.1 C.2.2.2.2.2.1 hP q0 he rfl 12 (by decide) (C.2.2.1 _ wf_X7_28) (fun _ h => h) hv hdg (k H locs ls hP hS hl)
theorem gf_X7_31 (C : Cx p s m args meth c cc RX7 nL ret D) (q0 : Nat) {a : Nat} {fs : List Value} {v : Value} (he : ws[q0]? = some (a, .inr (4, fs))) (hv : fs[17]? = some v) (hdg : decode cc pc = .ok (.getfield 31, 3)) (k : G p l e R s m args below meth c D H0 A nL Q ws (pc + 3) lv (v :: st)) : G p l e R s m args below meth c D H0 A nL Q ws pc lv (.ref a :: st) :=
  fun H locs ls hP hS hl => va_get (D := D) (C := RX7) (T := TX7) (N := 37) C.1 C.2.1 C.2.2.1 iX7 C.2.2.2.1 C.2.2.2.2.2.1 hP q0 he rfl 17 (by decide) (C.2.2.1 _ wf_X7_31) (fun _ h => h) hv hdg (k H locs ls hP hS hl)
theorem gf_X7_34 (C : Cx p s m args meth c cc RX7 nL ret D) (q0 : Nat) {a : Nat} {fs : List Value} {v : Value} (he : ws[q0]? = some (a, .inr (4, fs))) (hv : fs[18]? = some v) (hdg : decode cc pc = .ok (.getfield 34, 3)) (k : G p l e R s m args below meth c D H0 A nL Q ws (pc + 3) lv (v :: st)) : G p l e R s m args below meth c D H0 A nL Q ws pc lv (.ref a :: st) :=
  fun H locs ls hP hS hl => va_get (D := D) (C := RX7) (T := TX7) (N := 37) C.1 C.2.1 C.2.2.1 iX7 C.2.2.2.1 C.2.2.2.2.2.1 hP q0 he rfl 18 (by decide) (C.2.2.1 _ wf_X7_34) (fun _ h => h) hv hdg (k H locs ls hP hS hl)
theorem gf_X7_37 (C : Cx p s m args meth c cc RX7 nL ret D) (q0 : Nat) {a : Nat} {fs : List Value} {v : Value} (he : ws[q0]? = some (a, .inr (4, fs))) (hv : fs[19]? = some v) (hdg : decode cc pc = .ok (.getfield 37, 3)) (k : G p l e R s m args below meth c D H0 A nL Q ws (pc + 3) lv (v :: st)) : G p l e R s m args below meth c D H0 A nL Q ws pc lv (.ref a :: st) :=
  fun H locs ls hP hS hl => va_get (D := D) (C := RX7) (T := TX7) (N := 37) C.1 C.2.1 C.2.2.1 iX7 C.2.2.2.1 C.2.2.2.2.2.1 hP q0 he rfl 19 (by decide) (C.2.2.1 _ wf_X7_37) (fun _ h => h) hv hdg (k H locs ls hP hS hl)
theorem gf_X7_40 (C : Cx p s m args meth c cc RX7 nL ret D) (q0 : Nat) {a : Nat} {fs : List Value} {v : Value} (he : ws[q0]? = some (a, .inr (4, fs))) (hv : fs[20]? = some v) (hdg : decode cc pc = .ok (.getfield 40, 3)) (k : G p l e R s m args below meth c D H0 A nL Q ws (pc + 3) lv (v :: st)) : G p l e R s m args below meth c D H0 A nL Q ws pc lv (.ref a :: st) :=
  fun H locs ls hP hS hl => va_get (D := D) (C := RX7) (T := TX7) (N := 37) C.1 C.2.1 C.2.2.1 iX7 C.2.2.2.1 C.2.2.2.2.2.1 hP q0 he rfl 20 (by decide) (C.2.2.1 _ wf_X7_40) (fun _ h => h) hv hdg (k H locs ls hP hS hl)
theorem gf_X7_43 (C : Cx p s m args meth c cc RX7 nL ret D) (q0 : Nat) {a : Nat} {fs : List Value} {v : Value} (he : ws[q0]? = some (a, .inr (4, fs))) (hv : fs[22]? = some v) (hdg : decode cc pc = .ok (.getfield 43, 3)) (k : G p l e R s m args below meth c D H0 A nL Q ws (pc + 3) lv (v :: st)) : G p l e R s m args below meth c D H0 A nL Q ws pc lv (.ref a :: st) :=
  fun H locs ls hP hS hl => va_get (D := D) (C := RX7) (T := TX7) (N := 37) C.1 C.2.1 C.2.2.1 iX7 C.2.2.2.1 C.2.2.2.2.2.1 hP q0 he rfl 22 (by decide) (C.2.2.1 _ wf_X7_43) (fun _ h => h) hv hdg (k H locs ls hP hS hl)
theorem gf_X7_46 (C : Cx p s m args meth c cc RX7 nL ret D) (q0 : Nat) {a : Nat} {fs : List Value} {v : Value} (he : ws[q0]? = some (a, .inr (4, fs))) (hv : fs[24]? = some v) (hdg : decode cc pc = .ok (.getfield 46, 3)) (k : G p l e R s m args below meth c D H0 A nL Q ws (pc + 3) lv (v :: st)) : G p l e R s m args below meth c D H0 A nL Q ws pc lv (.ref a :: st) :=
  fun H locs ls hP hS hl => va_get (D := D) (C := RX7) (T := TX7) (N := 37) C.1 C.2.1 C.2.2.1 iX7 C.2.2.2.1 C.2.2.2.2.2.1 hP q0 he rfl 24 (by decide) (C.2.2.1 _ wf_X7_46) (fun _ h => h) hv hdg (k H locs ls hP hS hl)
theorem gf_X7_49 (C : Cx p s m args meth c cc RX7 nL ret D) (q0 : Nat) {a : Nat} {fs : List Value} {v : Value} (he : ws[q0]? = some (a, .inr (4, fs))) (hv : fs[25]? = some v) (hdg : decode cc pc = .ok (.getfield 49, 3)) (k : G p l e R s m args below meth c D H0 A nL Q ws (pc + 3) lv (v :: st)) : G p l e R s m args below meth c D H0 A nL Q ws pc lv (.ref a :: st) :=
  fun H locs ls hP hS hl => va_get (D := D) (C := RX7) (T := TX7) (N := 37) C.1 C.2.1 C.2.2.1 iX7 C.2.2.2.1 C.2.2.2.2.2.1 hP q0 he rfl 25 (by decide) (C.2.2.1 _ wf_X7_49) (fun _ h => h) hv hdg (k H locs ls hP hS hl)
theorem gf_X7_52 (C : Cx p s m args meth c cc RX7 nL ret D) (q0 : Nat) {a : Nat} {fs : List Value} {v : Value} (he : ws[q0]? = some (a, .inr (4, fs))) (hv : fs[26]? = some v) (hdg : decode cc pc = .ok (.getfield 52, 3)) (k : G p l e R s m args below meth c D H0 A nL Q ws (pc + 3) lv (v :: st)) : G p l e R s m args below meth c D H0 A nL Q ws pc lv (.ref a :: st) :=
  fun H locs ls hP hS hl => va_get (D := D) (C := RX7) (T := TX7) (N := 37) C.1 C.2.1 C.2.2.1 iX7 C.2.2.2.1 C.2.2.2.2.2.1 hP q0 he rfl 26 (by decide) (C.2.2.1 _ wf_X7_52) (fun _ h => h) hv hdg (k H locs ls hP hS hl)
theorem gf_X7_55 (C : Cx p s m args meth c cc RX7 nL ret D) (q0 : Nat) {a : Nat} {fs : List Value} {v : Value} (he : ws[q0]? = some (a, .inr (4, fs))) (hv : fs[27]? = some v) (hdg : decode cc pc = .ok (.getfield 55, 3)) (k : G p l e R s m args below meth c D H0 A nL Q ws (pc + 3) lv (v :: st)) : G p l e R s m args below meth c D H0 A nL Q ws pc lv (.ref a :: st) :=
  fun H locs ls hP hS hl => va_get (D := D) (C := RX7) (T := TX7) (N := 37) C.1 C.2.1 C.2.2.1 iX7 C.2.2.2.1 C.2.2.2.2.2.1 hP q0 he rfl 27 (by decide) (C.2.2.1 _ wf_X7_55) (fun _ h => h) hv hdg (k H locs ls hP hS hl)
theorem gf_X7_58 (C : Cx p s m args meth c cc RX7 nL ret D) (q0 : Nat) {a : Nat} {fs : List Value} {v : Value} (he : ws[q0]? = some (a, .inr (4, fs))) (hv : fs[30]? = some v) (hdg : decode cc pc = .ok (.getfield 58, 3)) (k : G p l e R s m args below meth c D H0 A nL Q ws (pc + 3) lv (v :: st)) : G p l e R s m args below meth c D H0 A nL Q ws pc lv (.ref a :: st) :=
  fun H locs ls hP hS hl => va_get (D := D) (C := RX7) (T := TX7) (N := 37) C.1 C.2.1 C.2.2.1 iX7 C.2.2.2.1 C.2.2.2.2.2.1 hP q0 he rfl 30 (by decide) (C.2.2.1 _ wf_X7_58) (fun _ h => h) hv hdg (k H locs ls hP hS hl)
theorem gf_X7_61 (C : Cx p s m args meth c cc RX7 nL ret D) (q0 : Nat) {a : Nat} {fs : List Value} {v : Value} (he : ws[q0]? = some (a, .inr (4, fs))) (hv : fs[31]? = some v) (hdg : decode cc pc = .ok (.getfield 61, 3)) (k : G p l e R s m args below meth c D H0 A nL Q ws (pc + 3) lv (v :: st)) : G p l e R s m args below meth c D H0 A nL Q ws pc lv (.ref a :: st) :=
  fun H locs ls hP hS hl => va_get (D := D) (C := RX7) (T := TX7) (N := 37) C.1 C.2.1 C.2.2.1 iX7 C.2.2.2.1 C.2.2.2.2.2.1 hP q0 he rfl 31 (by decide) (C.2.2.1 _ wf_X7_61) (fun _ h => h) hv hdg (k H locs ls hP hS hl)
theorem gf_X7_64 (C : Cx p s m args meth c cc RX7 nL ret D) (q0 : Nat) {a : Nat} {fs : List Value} {v : Value} (he : ws[q0]? = some (a, .inr (4, fs))) (hv : fs[33]? = some v) (hdg : decode cc pc = .ok (.getfield 64, 3)) (k : G p l e R s m args below meth c D H0 A nL Q ws (pc + 3) lv (v :: st)) : G p l e R s m args below meth c D H0 A nL Q ws pc lv (.ref a :: st) :=
  fun H locs ls hP hS hl => va_get (D := D) (C := RX7) (T := TX7) (N := 37) C.1 C.2.1 C.2.2.1 iX7 C.2.2.2.1 C.2.2.2.2.2.1 hP q0 he rfl 33 (by decide) (C.2.2.1 _ wf_X7_64) (fun _ h => h) hv hdg (k H locs ls hP hS hl)
theorem gf_X7_67 (C : Cx p s m args meth c cc RX7 nL ret D) (q0 : Nat) {a : Nat} {fs : List Value} {v : Value} (he : ws[q0]? = some (a, .inr (4, fs))) (hv : fs[34]? = some v) (hdg : decode cc pc = .ok (.getfield 67, 3)) (k : G p l e R s m args below meth c D H0 A nL Q ws (pc + 3) lv (v :: st)) : G p l e R s m args below meth c D H0 A nL Q ws pc lv (.ref a :: st) :=
  fun H locs ls hP hS hl => va_get (D := D) (C := RX7) (T := TX7) (N := 37) C.1 C.2.1 C.2.2.1 iX7 C.2.2.2.1 C.2.2.2.2.2.1 hP q0 he rfl 34 (by decide) (C.2.2.1 _ wf_X7_67) (fun _ h => h) hv hdg (k H locs ls hP hS hl)
theorem gf_X7_70 (C : Cx p s m args meth c cc RX7 nL ret D) (q0 : Nat) {a : Nat} {fs : List Value} {v : Value} (he : ws[q0]? = some (a, .inr (4, fs))) (hv : fs[35]? = some v) (hdg : decode cc pc = .ok (.getfield 70, 3)) (k : G p l e R s m args below meth c D H0 A nL Q ws (pc + 3) lv (v :: st)) : G p l e R s m args below meth c D H0 A nL Q ws pc lv (.ref a :: st) :=
  fun H locs ls hP hS hl => va_get (D := D) (C := RX7) (T := TX7) (N := 37) C.1 C.2.1 C.2.2.1 iX7 C.2.2.2.1 C.2.2.2.2.2.1 hP q0 he rfl 35 (by decide) (C.2.2.1 _ wf_X7_70) (fun _ h => h) hv hdg (k H locs ls hP hS hl)
theorem gf_X7_74 (C : Cx p s m args meth c cc RX7 nL ret D) (q0 : Nat) {a : Nat} {fs : List Value} {v : Value} (he : ws[q0]? = some (a, .inr (4, fs))) (hv : fs[36]? = some v) (hdg : decode cc pc = .ok (.getfield 74, 3)) (k : G p l e R s m args below meth c D H0 A nL Q ws (pc + 3) lv (v :: st)) : G p l e R s m args below meth c D H0 A nL Q ws pc lv (.ref a :: st) :=
  fun H locs ls hP hS hl => va_get (D := D) (C := RX7) (T := TX7) (N := 37) C.1 C.2.1 C.2.2.1 iX7 C.2.2.2.1 C.2.2.2.2.2.1 hP q0 he rfl 36 (by decide) (C.2.2.1 _ wf_X7_74) (fun _ h => h) hv hdg (k H locs ls hP hS hl)
theorem gf_X7_77 (C : Cx p s m args meth c cc RX7 nL ret D) (q0 : Nat) {a : Nat} {fs : List Value} {v : Value} (he : ws[q0]? = some (a, .inr (4, fs))) (hv : fs[0]? = some v) (hdg : decode cc pc = .ok (.getfield 77, 3)) (k : G p l e R s m args below meth c D H0 A nL Q ws (pc + 3) lv (v :: st)) : G p l e R s m args below meth c D H0 A nL Q ws pc lv (.ref a :: st) :=
  fun H locs ls hP hS hl => va_get (D := D) (C := RX7) (T := TX7) (N := 37) C.1 C.2.1 C.2.2.1 iX7 C.2.2.2.1 C.2.2.2.2.2.1 hP q0 he rfl 0 (by decide) (C.2.2.1 _ wf_X7_77) (fun _ h => h) hv hdg (k H locs ls hP hS hl)
theorem gf_X7_81 (C : Cx p s m args meth c cc RX7 nL ret D) (q0 : Nat) {a : Nat} {fs : List Value} {v : Value} (he : ws[q0]? = some (a, .inr (4, fs))) (hv : fs[10]? = some v) (hdg : decode cc pc = .ok (.getfield 81, 3)) (k : G p l e R s m args below meth c D H0 A nL Q ws (pc + 3) lv (v :: st)) : G p l e R s m args below meth c D H0 A nL Q ws pc lv (.ref a :: st) :=
  fun H locs ls hP hS hl => va_get (D := D) (C := RX7) (T := TX7) (N := 37) C.1 C.2.1 C.2.2.1 iX7 C.2.2.2.1 C.2.2.2.2.2.1 hP q0 he rfl 10 (by decide) (C.2.2.1 _ wf_X7_81) (fun _ h => h) hv hdg (k H locs ls hP hS hl)
theorem gf_X7_84 (C : Cx p s m args meth c cc RX7 nL ret D) (q0 : Nat) {a : Nat} {fs : List Value} {v : Value} (he : ws[q0]? = some (a, .inr (4, fs))) (hv : fs[1]? = some v) (hdg : decode cc pc = .ok (.getfield 84, 3)) (k : G p l e R s m args below meth c D H0 A nL Q ws (pc + 3) lv (v :: st)) : G p l e R s m args below meth c D H0 A nL Q ws pc lv (.ref a :: st) :=
  fun H locs ls hP hS hl => va_get (D := D) (C := RX7) (T := TX7) (N := 37) C.1 C.2.1 C.2.2.1 iX7 C.2.2.2.1 C.2.2.2.2.2.1 hP q0 he rfl 1 (by decide) (C.2.2.1 _ wf_X7_84) (fun _ h => h) hv hdg (k H locs ls hP hS hl)
theorem gf_X7_113 (C : Cx p s m args meth c cc RX7 nL ret D) (q0 : Nat) {a : Nat} {fs : List Value} {v : Value} (he : ws[q0]? = some (a, .inr (4, fs))) (hv : fs[9]? = some v) (hdg : decode cc pc = .ok (.getfield 113, 3)) (k : G p l e R s m args below meth c D H0 A nL Q ws (pc + 3) lv (v :: st)) : G p l e R s m args below meth c D H0 A nL Q ws pc lv (.ref a :: st) :=
  fun H locs ls hP hS hl => va_get (D := D) (C := RX7) (T := TX7) (N := 37) C.1 C.2.1 C.2.2.1 iX7 C.2.2.2.1 C.2.2.2.2.2.1 hP q0 he rfl 9 (by decide) (C.2.2.1 _ wf_X7_113) (fun _ h => h) hv hdg (k H locs ls hP hS hl)
theorem gf_X7_116 (C : Cx p s m args meth c cc RX7 nL ret D) (q0 : Nat) {a : Nat} {fs : List Value} {v : Value} (he : ws[q0]? = some (a, .inr (4, fs))) (hv : fs[8]? = some v) (hdg : decode cc pc = .ok (.getfield 116, 3)) (k : G p l e R s m args below meth c D H0 A nL Q ws (pc + 3) lv (v :: st)) : G p l e R s m args below meth c D H0 A nL Q ws pc lv (.ref a :: st) :=
  fun H locs ls hP hS hl => va_get (D := D) (C := RX7) (T := TX7) (N := 37) C.1 C.2.1 C.2.2.1 iX7 C.2.2.2.1 C.2.2.2.2.2.1 hP q0 he rfl 8 (by decide) (C.2.2.1 _ wf_X7_116) (fun _ h => h) hv hdg (k H locs ls hP hS hl)
theorem gf_X7_131 (C : Cx p s m args meth c cc RX7 nL ret D) (q0 : Nat) {a : Nat} {fs : List Value} {v : Value} (he : ws[q0]? = some (a, .inr (4, fs))) (hv : fs[11]? = some v) (hdg : decode cc pc = .ok (.getfield 131, 3)) (k : G p l e R s m args below meth c D H0 A nL Q ws (pc + 3) lv (v :: st)) : G p l e R s m args below meth c D H0 A nL Q ws pc lv (.ref a :: st) :=
  fun H locs ls hP hS hl => va_get (D := D) (C := RX7) (T := TX7) (N := 37) C.1 C.2.1 C.2.2.1 iX7 C.2.2.2.1 C.2.2.2.2.2.1 hP q0 he rfl 11 (by decide) (C.2.2.1 _ wf_X7_131) (fun _ h => h) hv hdg (k H locs ls hP hS hl)
theorem gf_X7_138 (C : Cx p s m args meth c cc RX7 nL ret D) (q0 : Nat) {a : Nat} {fs : List Value} {v : Value} (he : ws[q0]? = some (a, .inr (4, fs))) (hv : fs[13]? = some v) (hdg : decode cc pc = .ok (.getfield 138, 3)) (k : G p l e R s m args below meth c D H0 A nL Q ws (pc + 3) lv (v :: st)) : G p l e R s m args below meth c D H0 A nL Q ws pc lv (.ref a :: st) :=
  fun H locs ls hP hS hl => va_get (D := D) (C := RX7) (T := TX7) (N := 37) C.1 C.2.1 C.2.2.1 iX7 C.2.2.2.1 C.2.2.2.2.2.1 hP q0 he rfl 13 (by decide) (C.2.2.1 _ wf_X7_138) (fun _ h => h) hv hdg (k H locs ls hP hS hl)
theorem gf_X7_141 (C : Cx p s m args meth c cc RX7 nL ret D) (q0 : Nat) {a : Nat} {fs : List Value} {v : Value} (he : ws[q0]? = some (a, .inr (4, fs))) (hv : fs[14]? = some v) (hdg : decode cc pc = .ok (.getfield 141, 3)) (k : G p l e R s m args below meth c D H0 A nL Q ws (pc + 3) lv (v :: st)) : G p l e R s m args below meth c D H0 A nL Q ws pc lv (.ref a :: st) :=
  fun H locs ls hP hS hl => va_get (D := D) (C := RX7) (T := TX7) (N := 37) C.1 C.2.1 C.2.2.1 iX7 C.2.2.2.1 C.2.2.2.2.2.1 hP q0 he rfl 14 (by decide) (C.2.2.1 _ wf_X7_141) (fun _ h => h) hv hdg (k H locs ls hP hS hl)
theorem gf_X7_148 (C : Cx p s m args meth c cc RX7 nL ret D) (q0 : Nat) {a : Nat} {fs : List Value} {v : Value} (he : ws[q0]? = some (a, .inr (4, fs))) (hv : fs[15]? = some v) (hdg : decode cc pc = .ok (.getfield 148, 3)) (k : G p l e R s m args below meth c D H0 A nL Q ws (pc + 3) lv (v :: st)) : G p l e R s m args below meth c D H0 A nL Q ws pc lv (.ref a :: st) :=
  fun H locs ls hP hS hl => va_get (D := D) (C := RX7) (T := TX7) (N := 37) C.1 C.2.1 C.2.2.1 iX7 C.2.2.2.1 C.2.2.2.2.2.1 hP q0 he rfl 15 (by decide) (C.2.2.1 _ wf_X7_148) (fun _ h => h) hv hdg (k H locs ls hP hS hl)
theorem gf_X7_156 (C : Cx p s m args meth c cc RX7 nL ret D) (q0 : Nat) {a : Nat} {fs : List Value} {v : Value} (he : ws[q0]? = some (a, .inr (4, fs))) (hv : fs[16]? = some v) (hdg : decode cc pc = .ok (.getfield 156, 3)) (k : G p l e R s m args below meth c D H0 A nL Q ws (pc + 3) lv (v :: st)) : G p l e R s m args below meth c D H0 A nL Q ws pc lv (.ref a :: st) :=
  fun H locs ls hP hS hl => va_get (D := D) (C := RX7) (T := TX7) (N := 37) C.1 C.2.1 C.2.2.1 iX7 C.2.2.2.1 C.2.2.2.2.2.1 hP q0 he rfl 16 (by decide) (C.2.2.1 _ wf_X7_156) (fun _ h => h) hv hdg (k H locs ls hP hS hl)
theorem gf_X7_173 (C : Cx p s m args meth c cc RX7 nL ret D) (q0 : Nat) {a : Nat} {fs : List Value} {v : Value} (he : ws[q0]? = some (a, .inr (4, fs))) (hv : fs[21]? = some v) (hdg : decode cc pc = .ok (.getfield 173, 3)) (k : G p l e R s m args below meth c D H0 A nL Q ws (pc + 3) lv (v :: st)) : G p l e R s m args below meth c D H0 A nL Q ws pc lv (.ref a :: st) :=
  fun H locs ls hP hS hl => va_get (D := D) (C := RX7) (T := TX7) (N := 37) C.1 C.2.1 C.2.2.1 iX7 C.2.2.2.1 C.2.2.2.2.2.1 hP q0 he rfl 21 (by decide) (C.2.2.1 _ wf_X7_173) (fun _ h => h) hv hdg (k H locs ls hP hS hl)
theorem gf_X7_184 (C : Cx p s m args meth c cc RX7 nL ret D) (q0 : Nat) {a : Nat} {fs : List Value} {v : Value} (he : ws[q0]? = some (a, .inr (4, fs))) (hv : fs[23]? = some v) (hdg : decode cc pc = .ok (.getfield 184, 3)) (k : G p l e R s m args below meth c D H0 A nL Q ws (pc + 3) lv (v :: st)) : G p l e R s m args below meth c D H0 A nL Q ws pc lv (.ref a :: st) :=
  fun H locs ls hP hS hl => va_get (D := D) (C := RX7) (T := TX7) (N := 37) C.1 C.2.1 C.2.2.1 iX7 C.2.2.2.1 C.2.2.2.2.2.1 hP q0 he rfl 23 (by decide) (C.2.2.1 _ wf_X7_184) (fun _ h => h) hv hdg (k H locs ls hP hS hl)
theorem gf_X7_207 (C : Cx p s m args meth c cc RX7 nL ret D) (q0 : Nat) {a : Nat} {fs : List Value} {v : Value} (he : ws[q0]? = some (a, .inr (4, fs))) (hv : fs[28]? = some v) (hdg : decode cc pc = .ok (.getfield 207, 3)) (k : G p l e R s m args below meth c D H0 A nL Q ws (pc + 3) lv (v :: st)) : G p l e R s m args below meth c D H0 A nL Q ws pc lv (.ref a :: st) :=
  fun H locs ls hP hS hl => va_get (D := D) (C := RX7) (T := TX7) (N := 37) C.1 C.2.1 C.2.2.1 iX7 C.2.2.2.1 C.2.2.2.2.2.1 hP q0 he rfl 28 (by decide) (C.2.2.1 _ wf_X7_207) (fun _ h => h) hv hdg (k H locs ls hP hS hl)
theorem gf_X7_211 (C : Cx p s m args meth c cc RX7 nL ret D) (q0 : Nat) {a : Nat} {fs : List Value} {v : Value} (he : ws[q0]? = some (a, .inr (4, fs))) (hv : fs[29]? = some v) (hdg : decode cc pc = .ok (.getfield 211, 3)) (k : G p l e R s m args below meth c D H0 A nL Q ws (pc + 3) lv (v :: st)) : G p l e R s m args below meth c D H0 A nL Q ws pc lv (.ref a :: st) :=
  fun H locs ls hP hS hl => va_get (D := D) (C := RX7) (T := TX7) (N := 37) C.1 C.2.1 C.2.2.1 iX7 C.2.2.2.1 C.2.2.2.2.2.1 hP q0 he rfl 29 (by decide) (C.2.2.1 _ wf_X7_211) (fun _ h => h) hv hdg (k H locs ls hP hS hl)
theorem gf_X7_221 (C : Cx p s m args meth c cc RX7 nL ret D) (q0 : Nat) {a : Nat} {fs : List Value} {v : Value} (he : ws[q0]? = some (a, .inr (4, fs))) (hv : fs[32]? = some v) (hdg : decode cc pc = .ok (.getfield 221, 3)) (k : G p l e R s m args below meth c D H0 A nL Q ws (pc + 3) lv (v :: st)) : G p l e R s m args below meth c D H0 A nL Q ws pc lv (.ref a :: st) :=
  fun H locs ls hP hS hl => va_get (D := D) (C := RX7) (T := TX7) (N := 37) C.1 C.2.1 C.2.2.1 iX7 C.2.2.2.1 C.2.2.2.2.2.1 hP q0 he rfl 32 (by decide) (C.2.2.1 _ wf_X7_221) (fun _ h => h) hv hdg (k H locs ls hP hS hl)
theorem pf_X3_15 (C : Cx p s m args meth c cc RX3 nL ret D) {w0 ws2 : va_W} {B : Nat → Prop} (h0 : va_D B w0) (hA : Ad w0 = A) (q0 : Nat) {a : Nat} {fs : List Value} {x : Int32} (he : ws[q0]? = some (a, .inr (1, fs))) (hl0 : 1 < fs.length) (hdg : decode cc pc = .ok (.putfield 15, 3)) (hw : ws.map (·.1) = w0.map (·.1)) (h2 : ws.set q0 (a, .inr (1, fs.set 1 (.int x))) = ws2) (k : G p l e R s m args below meth c D H0 A nL Q ws2 (pc + 3) lv st) : G p l e R s m args below meth c D H0 A nL Q ws pc lv (.int x :: .ref a :: st) := by
  intro H locs ls hP hS hl
  subst hA
  refine va_put (D := D) (ci := 1) (v := .int x) (ty := .int) (C := RX3) (T := TX3) (N := 4) C.1 C.2.1 C.2.2.1 iX3 tyX3 tyX3_ok nmX3 C.2.2.2.1 C.2.2.2.2.2.1 hP (dis_of h0 hw) hS q0 he rfl 1 (by decide) (C.2.2.1 _ wf_X3_15) (fun _ h => h) rfl (by decide +kernel) rfl rfl hl0 hdg (fun H1 l1 hP1 _ hS1 => ?_)
  rw [h2] at hP1
  exact k H1 l1 ls hP1 hS1 hl
theorem pf_X3_19 (C : Cx p s m args meth c cc RX3 nL ret D) {w0 ws2 : va_W} {B : Nat → Prop} (h0 : va_D B w0) (hA : Ad w0 = A) (q0 : Nat) {a : Nat} {fs : List Value} {x : Int32} (he : ws[q0]? = some (a, .inr (1, fs))) (hl0 : 2 < fs.length) (hdg : decode cc pc = .ok (.putfield 19, 3)) (hw : ws.map (·.1) = w0.map (·.1)) (h2 : ws.set q0 (a, .inr (1, fs.set 2 (.int x))) = ws2) (k : G p l e R s m args below meth c D H0 A nL Q ws2 (pc + 3) lv st) : G p l e R s m args below meth c D H0 A nL Q ws pc lv (.int x :: .ref a :: st) := by
  intro H locs ls hP hS hl
  subst hA
  refine va_put (D := D) (ci := 1) (v := .int x) (ty := .int) (C := RX3) (T := TX3) (N := 4) C.1 C.2.1 C.2.2.1 iX3 tyX3 tyX3_ok nmX3 C.2.2.2.1 C.2.2.2.2.2.1 hP (dis_of h0 hw) hS q0 he rfl 2 (by decide) (C.2.2.1 _ wf_X3_19) (fun _ h => h) rfl (by decide +kernel) rfl rfl hl0 hdg (fun H1 l1 hP1 _ hS1 => ?_)
  rw [h2] at hP1
  exact k H1 l1 ls hP1 hS1 hl
theorem pf_X3_22 (C : Cx p s m args meth c cc RX3 nL ret D) {w0 ws2 : va_W} {B : Nat → Prop} (h0 : va_D B w0) (hA : Ad w0 = A) (q0 : Nat) {a : Nat} {fs : List Value} {x : Int32} (he : ws[q0]? = some (a, .inr (1, fs))) (hl0 : 3 < fs.length) (hdg : decode cc pc = .ok (.putfield 22, 3)) (hw : ws.map (·.1) = w0.map (·.1)) (h2 : ws.set q0 (a, .inr (1, fs.set 3 (.int x))) = ws2) (k : G p l e R s m args below meth c D H0 A nL Q ws2 (pc + 3) lv st) : G p l e R s m args below meth c D H0 A nL Q ws pc lv (.int x :: .ref a :: st) := by
  intro H locs ls hP hS hl
  subst hA
  refine va_put (D := D) (ci := 1) (v := .int x) (ty := .int) (C := RX3) (T := TX3) (N := 4) C.1 C.2.1 C.2.2.1 iX3 tyX3 tyX3_ok nmX3 C.2.2.2.1 C.2.2.2.2.2.1 hP (dis_of h0 hw) hS q0 he rfl 3 (by decide) (C.2.2.1 _ wf_X3_22) (fun _ h => h) rfl (by decide +kernel) rfl rfl hl0 hdg (fun H1 l1 hP1 _ hS1 => ?_)
  rw [h2] at hP1
  exact k H1 l1 ls hP1 hS1 hl
theorem pf_X5_9 (C : Cx p s m args meth c cc RX5 nL ret D) {w0 ws2 : va_W} {B : Nat → Prop} (h0 : va_D B w0) (hA : Ad w0 = A) (q0 : Nat) {a : Nat} {fs : List Value} {x : Int32} (he : ws[q0]? = some (a, .inr (0, fs))) (hl0 : 0 < fs.length) (hdg : decode cc pc = .ok (.putfield 9, 3)) (hw : ws.map (·.1) = w0.map (·.1)) (h2 : ws.set q0 (a, .inr (0, fs.set 0 (.int x))) = ws2) (k : G p l e R s m args below meth c D H0 A nL Q ws2 (pc + 3) lv st) : G p l e R s m args below meth c D H0 A nL Q ws pc lv (.int x :: .ref a :: st) := by
  intro H locs ls hP hS hl
  subst hA
  refine va_put (D := D) (ci := 0) (v := .int x) (ty := .int) (C := RX5) (T := TX5) (N := 12) C.1 C.2.1 C.2.2.1 iX5 tyX5 tyX5_ok nmX5 C.2.2.2.1 C.2.2.2.2.2.1 hP (dis_of h0 hw) hS q0 he rfl 0 (by decide) (C.2.2.1 _ wf_X5_9) (fun _ h => h) rfl (by decide +kernel) rfl rfl hl0 hdg (fun H1 l1 hP1 _ hS1 => ?_)
  rw [h2] at hP1
  exact k H1 l1 ls hP1 hS1 hl
theorem pf_X5_15 (C : Cx p s m args meth c cc RX5 nL ret D) {w0 ws2 : va_W} {B : Nat → Prop} (h0 : va_D B w0) (hA : Ad w0 = A) (q0 : Nat) {a : Nat} {fs : List Value} {x : Int32} (he : ws[q0]? = some (a, .inr (0, fs))) (hl0 : 1 < fs.length) (hdg : decode cc pc = .ok (.putfield 15, 3)) (hw : ws.map (·.1) = w0.map (·.1)) (h2 : ws.set q0 (a, .inr (0, fs.set 1 (.int x))) = ws2) (k : G p l e R s m args below meth c D H0 A nL Q ws2 (pc + 3) lv st) : G p l e R s m args below meth c D H0 A nL Q ws pc lv (.int x :: .ref a :: st) := by
  intro H locs ls hP hS hl
  subst hA
  refine va_put (D := D) (ci := 0) (v := .int x) (ty := .int) (C := RX5) (T := TX5) (N := 12) C.1 C.2.1 C.2.2.1 iX5 tyX5 tyX5_ok nmX5 C.2.2.2.1 C.2.2.2.2.2.1 hP (dis_of h0 hw) hS q0 he rfl 1 (by decide) (C.2.2.1 _ wf_X5_15) (fun _ h => h) rfl (by decide +kernel) rfl rfl hl0 hdg (fun H1 l1 hP1 _ hS1 => ?_)
  rw [h2] at hP1
  exact k H1 l1 ls hP1 hS1 hl
theorem pf_X5_18 (C : Cx p s m args meth c cc RX5 nL ret D) {w0 ws2 : va_W} {B : Nat → Prop} (h0 : va_D B w0) (hA : Ad w0 = A) (q0 : Nat) {a : Nat} {fs : List Value} {x : Int32} (he : ws[q0]? = some (a, .inr (0, fs))) (hl0 : 2 < fs.length) (hdg : decode cc pc = .ok (.putfield 18, 3)) (hw : ws.map (·.1) = w0.map (·.1)) (h2 : ws.set q0 (a, .inr (0, fs.set 2 (.int x))) = ws2) (k : G p l e R s m args below meth c D H0 A nL Q ws2 (pc + 3) lv st) : G p l e R s m args below meth c D H0 A nL Q ws pc lv (.int x :: .ref a :: st) := by
  intro H locs ls hP hS hl
  subst hA
  refine va_put (D := D) (ci := 0) (v := .int x) (ty := .int) (C := RX5) (T := TX5) (N := 12) C.1 C.2.1 C.2.2.1 iX5 tyX5 tyX5_ok nmX5 C.2.2.2.1 C.2.2.2.2.2.1 hP (dis_of h0 hw) hS q0 he rfl 2 (by decide) (C.2.2.1 _ wf_X5_18) (fun _ h => h) rfl (by decide +kernel) rfl rfl hl0 hdg (fun H1 l1 hP1 _ hS1 => ?_)
  rw [h2] at hP1
  exact k H1 l1 ls hP1 hS1 hl
theorem pf_X5_21 (C : Cx p s m args meth c cc RX5 nL ret D) {w0 ws2 : va_W} {B : Nat → Prop} (h0 : va_D B w0) (hA : Ad w0 = A) (q0 : Nat) {a : Nat} {fs : List Value} {x : Int32} (he : ws[q0]? = some (a, .inr (0, fs))) (hl0 : 3 < fs.length) (hdg : decode cc pc = .ok (.putfield 21, 3)) (hw : ws.map (·.1) = w0.map (·.1)) (h2 : ws.set q0 (a, .inr (0, fs.set 3 (.int x))) = ws2) (k : G p l e R s m args below meth c D H0 A nL Q ws2 (pc + 3) lv st) : G p l e R s m args below meth c D H0 A nL Q ws pc lv (.int x :: .ref a :: st) := by
  intro H locs ls hP hS hl
  subst hA
  refine va_put (D := D) (ci := 0) (v := .int x) (ty := .int) (C := RX5) (T := TX5) (N := 12) C.1 C.2.1 C.2.2.1 iX5 tyX5 tyX5_ok nmX5 C.2.2.2.1 C.2.2.2.2.2.1 hP (dis_of h0 hw) hS q0 he rfl 3 (by decide) (C.2.2.1 _ wf_X5_21) (fun _ h => h) rfl (by decide +kernel) rfl rfl hl0 hdg (fun H1 l1 hP1 _ hS1 => ?_)
  rw [h2] at hP1
  exact k H1 l1 ls hP1 hS1 hl
theorem pf_X5_24 (C : Cx p s m args meth c cc RX5 nL ret D) {w0 ws2 : va_W} {B : Nat → Prop} (h0 : va_D B w0) (hA : Ad w0 = A) (q0 : Nat) {a : Nat} {fs : List Value} {x : Int32} (he : ws[q0]? = some (a, .inr (0, fs))) (hl0 : 4 < fs.length) (hdg : decode cc pc = .ok (.putfield 24, 3)) (hw : ws.map (·.1) = w0.map (·.1)) (h2 : ws.set q0 (a, .inr (0, fs.set 4 (.int x))) = ws2) (k : G p l e R s m args below meth c D H0 A nL Q ws2 (pc + 3) lv st) : G p l e R s m args below meth c D H0 A nL Q ws pc lv (.int x :: .ref a :: st) := by
  intro H locs ls hP hS hl
  subst hA
  refine va_put (D := D) (ci := 0) (v := .int x) (ty := .int) (C := RX5) (T := TX5) (N := 12) C.1 C.2.1 C.2.2.1 iX5 tyX5 tyX5_ok nmX5 C.2.2.2.1 C.2.2.2.2.2.1 hP (dis_of h0 hw) hS q0 he rfl 4 (by decide) (C.2.2.1 _ wf_X5_24) (fun _ h => h) rfl (by decide +kernel) rfl rfl hl0 hdg (fun H1 l1 hP1 _ hS1 => ?_)
  rw [h2] at hP1
  exact k H1 l1 ls hP1 hS1 hl
theorem pf_X5_27 (C : Cx p s m args meth c cc RX5 nL ret D) {w0 ws2 : va_W} {B : Nat → Prop} (h0 : va_D B w0) (hA : Ad w0 = A) (q0 : Nat) {a : Nat} {fs : List Value} {x : Int32} (he : ws[q0]? = some (a, .inr (0, fs))) (hl0 : 5 < fs.length) (hdg : decode cc pc = .ok (.putfield 27, 3)) (hw : ws.map (·.1) = w0.map (·.1)) (h2 : ws.set q0 (a, .inr (0, fs.set 5 (.int x))) = ws2) (k : G p l e R s m args below meth c D H0 A nL Q ws2 (pc + 3) lv st) : G p l e R s m args below meth c D H0 A nL Q ws pc lv (.int x :: .ref a :: st) := by
  intro H locs ls hP hS hl
  subst hA
  refine va_put (D := D) (ci := 0) (v := .int x) (ty := .int) (C := RX5) (T := TX5) (N := 12) C.1 C.2.1 C.2.2.1 iX5 tyX5 tyX5_ok nmX5 C.2.2.2.1 C.2.2.2.2.2.1 hP (dis_of h0 hw) hS q0 he rfl 5 (by decide) (C.2.2.1 _ wf_X5_27) (fun _ h => h) rfl (by decide +kernel) rfl rfl hl0 hdg (fun H1 l1 hP1 _ hS1 => ?_)
  rw [h2] at hP1
  exact k H1 l1 ls hP1 hS1 hl
theorem pf_X6_46 (C : Cx p s m args meth c cc RX6 nL ret D) {w0 ws2 : va_W} {B : Nat → Prop} (h0 : va_D B w0) (hA : Ad w0 = A) (q0 : Nat) {a : Nat} {fs : List Value} {x : Int32} (he : ws[q0]? = some (a, .inr (3, fs))) (hl0 : 8 < fs.length) (hz : narrow .boolean (.int x) = .int x) (hf : fits .boolean (.int x) = true) (hdg : decode cc pc = .ok (.putfield 46, 3)) (hw : ws.map (·.1) = w0.map (·.1)) (h2 : ws.set q0 (a, .inr (3, fs.set 8 (.int x))) = ws2) (k : G p l e R s m args below meth c D H0 A nL Q ws2 (pc + 3) lv st) : G p l e R s m args below meth c D H0 A nL Q ws pc lv (.int x :: .ref a :: st) := by
  intro H locs ls hP hS hl
  subst hA
  refine va_put (D := D) (ci := 3) (v := .int x) (ty := .boolean) (C := RX6) (T := TX6) (N := 9) C.1 C.2.1 C.2.2.1 iX6 tyX6 tyX6_ok nmX6 C.2.2.2.1 C.2.2.2.2.2.1 hP (dis_of h0 hw) hS q0 he rfl 8 (by decide) (C.2.2.1 _ wf_X6_46) (fun _ h => h) rfl (by decide +kernel) hz hf hl0 hdg (fun H1 l1 hP1 _ hS1 => ?_)
  rw [h2] at hP1
  exact k H1 l1 ls hP1 hS1 hl
theorem pf_X6_50 (C : Cx p s m args meth c cc RX6 nL ret D) {w0 ws2 : va_W} {B : Nat → Prop} (h0 : va_D B w0) (hA : Ad w0 = A) (q0 : Nat) {a : Nat} {fs : List Value} {x : Int32} (he : ws[q0]? = some (a, .inr (0, fs))) (hl0 : 0 < fs.length) (hdg : decode cc pc = .ok (.putfield 50, 3)) (hw : ws.map (·.1) = w0.map (·.1)) (h2 : ws.set q0 (a, .inr (0, fs.set 0 (.int x))) = ws2) (k : G p l e R s m args below meth c D H0 A nL Q ws2 (pc + 3) lv st) : G p l e R s m args below meth c D H0 A nL Q ws pc lv (.int x :: .ref a :: st) := by
  intro H locs ls hP hS hl
  subst hA
  refine va_putN (D := D) (ci := 0) (v := .int x) (ty := .int) (C := RX5) (T := TX5) (N := 12) C.1 C.2.1 C.2.2.1 iX5 tyX5 tyX5_ok nmX5 C.2.2.2.1 C.2.2.2.2.2.1 hP (dis_of h0 hw) hS q0 he rfl 0 (by decide) (C.2.2.1 _ wf_X6_50) (fun _ h => h) rfl (by decide +kernel) rfl rfl hl0 hdg (fun H1 l1 hP1 _ hS1 => ?_)
  rw [h2] at hP1
  exact k H1 l1 ls hP1 hS1 hl
theorem pf_X6_91 (C : Cx p s m args meth c cc RX6 nL ret D) {w0 ws2 : va_W} {B : Nat → Prop} (h0 : va_D B w0) (hA : Ad w0 = A) (q0 : Nat) {a : Nat} {fs : List Value} {x : Int32} (he : ws[q0]? = some (a, .inr (0, fs))) (hl0 : 5 < fs.length) (hdg : decode cc pc = .ok (.putfield 91, 3)) (hw : ws.map (·.1) = w0.map (·.1)) (h2 : ws.set q0 (a, .inr (0, fs.set 5 (.int x))) = ws2) (k : G p l e R s m args below meth c D H0 A nL Q ws2 (pc + 3) lv st) : G p l e R s m args below meth c D H0 A nL Q ws pc lv (.int x :: .ref a :: st) := by
  intro H locs ls hP hS hl
  subst hA
  refine va_putN (D := D) (ci := 0) (v := .int x) (ty := .int) (C := RX5) (T := TX5) (N := 12) C.1 C.2.1 C.2.2.1 iX5 tyX5 tyX5_ok nmX5 C.2.2.2.1 C.2.2.2.2.2.1 hP (dis_of h0 hw) hS q0 he rfl 5 (by decide) (C.2.2.1 _ wf_X6_91) (fun _ h => h) rfl (by decide +kernel) rfl rfl hl0 hdg (fun H1 l1 hP1 _ hS1 => ?_)
  rw [h2] at hP1
  exact k H1 l1 ls hP1 hS1 hl
theorem pf_X6_118 (C : Cx p s m args meth c cc RX6 nL ret D) {w0 ws2 : va_W} {B : Nat → Prop} (h0 : va_D B w0) (hA : Ad w0 = A) (q0 : Nat) {a : Nat} {fs : List Value} {x : Int32} (he : ws[q0]? = some (a, .inr (0, fs))) (hl0 : 4 < fs.length) (hdg : decode cc pc = .ok (.putfield 118, 3)) (hw : ws.map (·.1) = w0.map (·.1)) (h2 : ws.set q0 (a, .inr (0, fs.set 4 (.int x))) = ws2) (k : G p l e R s m args below meth c D H0 A nL Q ws2 (pc + 3) lv st) : G p l e R s m args below meth c D H0 A nL Q ws pc lv (.int x :: .ref a :: st) := by
  intro H locs ls hP hS hl
  subst hA
  refine va_putN (D := D) (ci := 0) (v := .int x) (ty := .int) (C := RX5) (T := TX5) (N := 12) C.1 C.2.1 C.2.2.1 iX5 tyX5 tyX5_ok nmX5 C.2.2.2.1 C.2.2.2.2.2.1 hP (dis_of h0 hw) hS q0 he rfl 4 (by decide) (C.2.2.1 _ wf_X6_118) (fun _ h => h) rfl (by decide +kernel) rfl rfl hl0 hdg (fun H1 l1 hP1 _ hS1 => ?_)
  rw [h2] at hP1
  exact k H1 l1 ls hP1 hS1 hl
theorem pf_X6_124 (C : Cx p s m args meth c cc RX6 nL ret D) {w0 ws2 : va_W} {B : Nat → Prop} (h0 : va_D B w0) (hA : Ad w0 = A) (q0 : Nat) {a : Nat} {fs : List Value} {x : Int32} (he : ws[q0]? = some (a, .inr (1, fs))) (hl0 : 1 < fs.length) (hdg : decode cc pc = .ok (.putfield 124, 3)) (hw : ws.map (·.1) = w0.map (·.1)) (h2 : ws.set q0 (a, .inr (1, fs.set 1 (.int x))) = ws2) (k : G p l e R s m args below meth c D H0 A nL Q ws2 (pc + 3) lv st) : G p l e R s m args below meth c D H0 A nL Q ws pc lv (.int x :: .ref a :: st) := by
  intro H locs ls hP hS hl
  subst hA
  refine va_putN (D := D) (ci := 1) (v := .int x) (ty := .int) (C := RX3) (T := TX3) (N := 4) C.1 C.2.1 C.2.2.1 iX3 tyX3 tyX3_ok nmX3 C.2.2.2.1 C.2.2.2.2.2.1 hP (dis_of h0 hw) hS q0 he rfl 1 (by decide) (C.2.2.1 _ wf_X6_124) (fun _ h => h) rfl (by decide +kernel) rfl rfl hl0 hdg (fun H1 l1 hP1 _ hS1 => ?_)
  rw [h2] at hP1
  exact k H1 l1 ls hP1 hS1 hl
theorem pf_X6_134 (C : Cx p s m args meth c cc RX6 nL ret D) {w0 ws2 : va_W} {B : Nat → Prop} (h0 : va_D B w0) (hA : Ad w0 = A) (q0 : Nat) {a : Nat} {fs : List Value} {x : Int32} (he : ws[q0]? = some (a, .inr (0, fs))) (hl0 : 3 < fs.length) (hdg : decode cc pc = .ok (.putfield 134, 3)) (hw : ws.map (·.1) = w0.map (·.1)) (h2 : ws.set q0 (a, .inr (0, fs.set 3 (.int x))) = ws2) (k : G p l e R s m args below meth c D H0 A nL Q ws2 (pc + 3) lv st) : G p l e R s m args below meth c D H0 A nL Q ws pc lv (.int x :: .ref a :: st) := by
  intro H locs ls hP hS hl
  subst hA
  refine va_putN (D := D) (ci := 0) (v := .int x) (ty := .int) (C := RX5) (T := TX5) (N := 12) C.1 C.2.1 C.2.2.1 iX5 tyX5 tyX5_ok nmX5 C.2.2.2.1 C.2.2.2.2.2.1 hP (dis_of h0 hw) hS q0 he rfl 3 (by decide) (C.2.2.1 _ wf_X6_134) (fun _ h => h) rfl (by decide +kernel) rfl rfl hl0 hdg (fun H1 l1 hP1 _ hS1 => ?_)
  rw [h2] at hP1
  exact k H1 l1 ls hP1 hS1 hl
theorem pf_X6_141 (C : Cx p s m args meth c cc RX6 nL ret D) {w0 ws2 : va_W} {B : Nat → Prop} (h0 : va_D B w0) (hA : Ad w0 = A) (q0 : Nat) {a : Nat} {fs : List Value} {x : Int32} (he : ws[q0]? = some (a, .inr (0, fs))) (hl0 : 2 < fs.length) (hdg : decode cc pc = .ok (.putfield 141, 3)) (hw : ws.map (·.1) = w0.map (·.1)) (h2 : ws.set q0 (a, .inr (0, fs.set 2 (.int x))) = ws2) (k : G p l e R s m args below meth c D H0 A nL Q ws2 (pc + 3) lv st) : G p l e R s m args below meth c D H0 A nL Q ws pc lv (.int x :: .ref a :: st) := by
  intro H locs ls hP hS hl
  subst hA
  refine va_putN (D := D) (ci := 0) (v := .int x) (ty := .int) (C := RX5) (T := TX5) (N := 12) C.1 C.2.1 C.2.2.1 iX5 tyX5 tyX5_ok nmX5 C.2.2.2.1 C.2.2.2.2.2.1 hP (dis_of h0 hw) hS q0 he rfl 2 (by decide) (C.2.2.1 _ wf_X6_141) (fun _ h => h) rfl (by decide +kernel) rfl rfl hl0 hdg (fun H1 l1 hP1 _ hS1 => ?_)
  rw [h2] at hP1
  exact k H1 l1 ls hP1 hS1 hl
theorem pf_X7_77 (C : Cx p s m args meth c cc RX7 nL ret D) {w0 ws2 : va_W} {B : Nat → Prop} (h0 : va_D B w0) (hA : Ad w0 = A) (q0 : Nat) {a : Nat} {fs : List Value} {x : Int32} (he : ws[q0]? = some (a, .inr (4, fs))) (hl0 : 0 < fs.length) (hdg : decode cc pc = .ok (.putfield 77, 3)) (hw : ws.map (·.1) = w0.map (·.1)) (h2 : ws.set q0 (a, .inr (4, fs.set 0 (.int x))) = ws2) (k : G p l e R s m args below meth c D H0 A nL Q ws2 (pc + 3) lv st) : G p l e R s m args below meth c D H0 A nL Q ws pc lv (.int x :: .ref a :: st) := by
  intro H locs ls hP hS hl
  subst hA
  refine va_put (D := D) (ci := 4) (v := .int x) (ty := .int) (C := RX7) (T := TX7) (N := 37) C.1 C.2.1 C.2.2.1 iX7 tyX7 tyX7_ok nmX7 C.2.2.2.1 C.2.2.2.2.2.1 hP (dis_of h0 hw) hS q0 he rfl 0 (by decide) (C.2.2.1 _ wf_X7_77) (fun _ h => h) rfl (by decide +kernel) rfl rfl hl0 hdg (fun H1 l1 hP1 _ hS1 => ?_)
  rw [h2] at hP1
  exact k H1 l1 ls hP1 hS1 hl
theorem pf_X7_81 (C : Cx p s m args meth c cc RX7 nL ret D) {w0 ws2 : va_W} {B : Nat → Prop} (h0 : va_D B w0) (hA : Ad w0 = A) (q0 : Nat) {a : Nat} {fs : List Value} {x : Int32} (he : ws[q0]? = some (a, .inr (4, fs))) (hl0 : 10 < fs.length) (hdg : decode cc pc = .ok (.putfield 81, 3)) (hw : ws.map (·.1) = w0.map (·.1)) (h2 : ws.set q0 (a, .inr (4, fs.set 10 (.int x))) = ws2) (k : G p l e R s m args below meth c D H0 A nL Q ws2 (pc + 3) lv st) : G p l e R s m args below meth c D H0 A nL Q ws pc lv (.int x :: .ref a :: st) := by
  intro H locs ls hP hS hl
  subst hA
  refine va_put (D := D) (ci := 4) (v := .int x) (ty := .int) (C := RX7) (T := TX7) (N := 37) C.1 C.2.1 C.2.2.1 iX7 tyX7 tyX7_ok nmX7 C.2.2.2.1 C.2.2.2.2.2.1 hP (dis_of h0 hw) hS q0 he rfl 10 (by decide) (C.2.2.1 _ wf_X7_81) (fun _ h => h) rfl (by decide +kernel) rfl rfl hl0 hdg (fun H1 l1 hP1 _ hS1 => ?_)
  rw [h2] at hP1
  exact k H1 l1 ls hP1 hS1 hl
theorem pf_X7_84 (C : Cx p s m args meth c cc RX7 nL ret D) {w0 ws2 : va_W} {B : Nat → Prop} (h0 : va_D B w0) (hA : Ad w0 = A) (q0 : Nat) {a : Nat} {fs : List Value} {x : Int32} (he : ws[q0]? = some (a, .inr (4, fs))) (hl0 : 1 < fs.length) (hdg : decode cc pc = .ok (.putfield 84, 3)) (hw : ws.map (·.1) = w0.map (·.1)) (h2 : ws.set q0 (a, .inr (4, fs.set 1 (.int x))) = ws2) (k : G p l e R s m args below meth c D H0 A nL Q ws2 (pc + 3) lv st) : G p l e R s m args below meth c D H0 A nL Q ws pc lv (.int x :: .ref a :: st) := by
  intro H locs ls hP hS hl
  subst hA
  refine va_put (D := D) (ci := 4) (v := .int x) (ty := .int) (C := RX7) (T := TX7) (N := 37) C.1 C.2.1 C.2.2.1 iX7 tyX7 tyX7_ok nmX7 C.2.2.2.1 C.2.2.2.2.2.1 hP (dis_of h0 hw) hS q0 he rfl 1 (by decide) (C.2.2.1 _ wf_X7_84) (fun _ h => h) rfl (by decide +kernel) rfl rfl hl0 hdg (fun H1 l1 hP1 _ hS1 => ?_)
  rw [h2] at hP1
  exact k H1 l1 ls hP1 hS1 hl
theorem pf_X7_113 (C : Cx p s m args meth c cc RX7 nL ret D) {w0 ws2 : va_W} {B : Nat → Prop} (h0 : va_D B w0) (hA : Ad w0 = A) (q0 : Nat) {a : Nat} {fs : List Value} {x : Int32} (he : ws[q0]? = some (a, .inr (4, fs))) (hl0 : 9 < fs.length) (hdg : decode cc pc = .ok (.putfield 113, 3)) (hw : ws.map (·.1) = w0.map (·.1)) (h2 : ws.set q0 (a, .inr (4, fs.set 9 (.int x))) = ws2) (k : G p l e R s m args below meth c D H0 A nL Q ws2 (pc + 3) lv st) : G p l e R s m args below meth c D H0 A nL Q ws pc lv (.int x :: .ref a :: st) := by
  intro H locs ls hP hS hl
  subst hA
  refine va_put (D := D) (ci := 4) (v := .int x) (ty := .int) (C := RX7) (T := TX7) (N := 37) C.1 C.2.1 C.2.2.1 iX7 tyX7 tyX7_ok nmX7 C.2.2.2.1 C.2.2.2.2.2.1 hP (dis_of h0 hw) hS q0 he rfl 9 (by decide) (C.2.2.1 _ wf_X7_113) (fun _ h => h) rfl (by decide +kernel) rfl rfl hl0 hdg (fun H1 l1 hP1 _ hS1 => ?_)
  rw [h2] at hP1
  exact k H1 l1 ls hP1 hS1 hl
theorem pf_X7_116 (C : Cx p s m args meth c cc RX7 nL ret D) {w0 ws2 : va_W} {B : Nat → Prop} (h0 : va_D B w0) (hA : Ad w0 = A) (q0 : Nat) {a : Nat} {fs : List Value} {x : Int32} (he : ws[q0]? = some (a, .inr (4, fs))) (hl0 : 8 < fs.length) (hdg : decode cc pc = .ok (.putfield 116, 3)) (hw : ws.map (·.1) = w0.map (·.1)) (h2 : ws.set q0 (a, .inr (4, fs.set 8 (.int x))) = ws2) (k : G p l e R s m args below meth c D H0 A nL Q ws2 (pc + 3) lv st) : G p l e R s m args below meth c D H0 A nL Q ws pc lv (.int x :: .ref a :: st) := by
  intro H locs ls hP hS hl
  subst hA
  refine va_put (D := D) (ci := 4) (v := .int x) (ty := .int) (C := RX7) (T := TX7) (N := 37) C.1 C.2.1 C.2.2.1 iX7 tyX7 tyX7_ok nmX7 C.2.2.2.1 C.2.2.2.2.2.1 hP (dis_of h0 hw) hS q0 he rfl 8 (by decide) (C.2.2.1 _ wf_X7_116) (fun _ h => h) rfl (by decide +kernel) rfl rfl hl0 hdg (fun H1 l1 hP1 _ hS1 => ?_)
  rw [h2] at hP1
  exact k H1 l1 ls hP1 hS1 hl
theorem pf_X7_131 (C : Cx p s m args meth c cc RX7 nL ret D) {w0 ws2 : va_W} {B : Nat → Prop} (h0 : va_D B w0) (hA : Ad w0 = A) (q0 : Nat) {a : Nat} {fs : List Value} {x : Int32} (he : ws[q0]? = some (a, .inr (4, fs))) (hl0 : 11 < fs.length) (hdg : decode cc pc = .ok (.putfield 131, 3)) (hw : ws.map (·.1) = w0.map (·.1)) (h2 : ws.set q0 (a, .inr (4, fs.set 11 (.int x))) = ws2) (k : G p l e R s m args below meth c D H0 A nL Q ws2 (pc + 3) lv st) : G p l e R s m args below meth c D H0 A nL Q ws pc lv (.int x :: .ref a :: st) := by
  intro H locs ls hP hS hl
  subst hA
  refine va_put (D := D) (ci := 4) (v := .int x) (ty := .int) (C := RX7) (T := TX7) (N := 37) C.1 C.2.1 C.2.2.1 iX7 tyX7 tyX7_ok nmX7 C.2.2.2.1 C.2.2.2.2.2.1 hP (dis_of h0 hw) hS q0 he rfl 11 (by decide) (C.2.2.1 _ wf_X7_131) (fun _ h => h) rfl (by decide +kernel) rfl rfl hl0 hdg (fun H1 l1 hP1 _ hS1 => ?_)
  rw [h2] at hP1
  exact k H1 l1 ls hP1 hS1 hl
theorem pf_X7_138 (C : Cx p s m args meth c cc RX7 nL ret D) {w0 ws2 : va_W} {B : Nat → Prop} (h0 : va_D B w0) (hA : Ad w0 = A) (q0 : Nat) {a : Nat} {fs : List Value} {x : Int32} (he : ws[q0]? = some (a, .inr (4, fs))) (hl0 : 13 < fs.length) (hdg : decode cc pc = .ok (.putfield 138, 3)) (hw : ws.map (·.1) = w0.map (·.1)) (h2 : ws.set q0 (a, .inr (4, fs.set 13 (.int x))) = ws2) (k : G p l e R s m args below meth c D H0 A nL Q ws2 (pc + 3) lv st) : G p l e R s m args below meth c D H0 A nL Q ws pc lv (.int x :: .ref a :: st) := by
  intro H locs ls hP hS hl
  subst hA
  refine va_put (D := D) (ci := 4) (v := .int x) (ty := .int) (C := RX7) (T := TX7) (N := 37) C.1 C.2.1 C.2.2.1 iX7 tyX7 tyX7_ok nmX7 C.2.2.2.1 C.2.2.2.2.2.1 hP (dis_of h0 hw) hS q0 he rfl 13 (by decide) (C.2.2.1 _ wf_X7_138) (fun _ h => h) rfl (by decide +kernel) rfl rfl hl0 hdg (fun H1 l1 hP1 _ hS1 => ?_)
  rw [h2] at hP1
  exact k H1 l1 ls hP1 hS1 hl
theorem pf_X7_141 (C : Cx p s m args meth c cc RX7 nL ret D) {w0 ws2 : va_W} {B : Nat → Prop} (h0 : va_D B w0) (hA : Ad w0 = A) (q0 : Nat) {a : Nat} {fs : List Value} {x : Int32} (he : ws[q0]? = some (a, .inr (4, fs))) (hl0 : 14 < fs.length) (hdg : decode cc pc = .ok (.putfield 141, 3)) (hw : ws.map (·.1) = w0.map (·.1)) (h2 : ws.set q0 (a, .inr (4, fs.set 14 (.int x))) = ws2) (k : G p l e R s m args below meth c D H0 A nL Q ws2 (pc + 3) lv st) : G p l e R s m args below meth c D H0 A nL Q ws pc lv (.int x :: .ref a :: st) := by
  intro H locs ls hP hS hl
  subst hA
  refine va_put (D := D) (ci := 4) (v := .int x) (ty := .int) (C := RX7) (T := TX7) (N := 37) C.1 C.2.1 C.2.2.1 iX7 tyX7 tyX7_ok nmX7 C.2.2.2.1 C.2.2.2.2.2.1 hP (dis_of h0 hw) hS q0 he rfl 14 (by decide) (C.2.2.1 _ wf_X7_141) (fun _ h => h) rfl (by decide +kernel) rfl rfl hl0 hdg (fun H1 l1 hP1 _ hS1 => ?_)
  rw [h2] at hP1
  exact k H1 l1 ls hP1 hS1 hl
theorem pf_X7_148 (C : Cx p s m args meth c cc RX7 nL ret D) {w0 ws2 : va_W} {B : Nat → Prop} (h0 : va_D B w0) (hA : Ad w0 = A) (q0 : Nat) {a : Nat} {fs : List Value} {x : Int32} (he : ws[q0]? = some (a, .inr (4, fs))) (hl0 : 15 < fs.length) (hz : narrow .boolean (.int x) = .int x) (hf : fits .boolean (.int x) = true) (hdg : decode cc pc = .ok (.putfield 148, 3)) (hw : ws.map (·.1) = w0.map (·.1)) (h2 : ws.set q0 (a, .inr (4, fs.set 15 (.int x))) = ws2) (k : G p l e R s m args below meth c D H0 A nL Q ws2 (pc + 3) lv st) : G p l e R s m args below meth c D H0 A nL Q ws pc lv (.int x :: .ref a :: st) := by
  intro H locs ls hP hS hl
  subst hA
  refine va_put (D := D) (ci := 4) (v := .int x) (ty := .boolean) (C := RX7) (T := TX7) (N := 37) C.1 C.2.1 C.2.2.1 iX7 tyX7 tyX7_ok nmX7 C.2.2.2.1 C.2.2.2.2.2.1 hP (dis_of h0 hw) hS q0 he rfl 15 (by decide) (C.2.2.1 _ wf_X7_148) (fun _ h => h) rfl (by decide +kernel) hz hf hl0 hdg (fun H1 l1 hP1 _ hS1 => ?_)
  rw [h2] at hP1
  exact k H1 l1 ls hP1 hS1 hl
theorem pf_X7_156 (C : Cx p s m args meth c cc RX7 nL ret D) {w0 ws2 : va_W} {B : Nat → Prop} (h0 : va_D B w0) (hA : Ad w0 = A) (q0 : Nat) {a : Nat} {fs : List Value} {x : Int32} (he : ws[q0]? = some (a, .inr (4, fs))) (hl0 : 16 < fs.length) (hdg : decode cc pc = .ok (.putfield 156, 3)) (hw : ws.map (·.1) = w0.map (·.1)) (h2 : ws.set q0 (a, .inr (4, fs.set 16 (.int x))) = ws2) (k : G p l e R s m args below meth c D H0 A nL Q ws2 (pc + 3) lv st) : G p l e R s m args below meth c D H0 A nL Q ws pc lv (.int x :: .ref a :: st) := by
  intro H locs ls hP hS hl
  subst hA
  refine va_put (D := D) (ci := 4) (v := .int x) (ty := .int) (C := RX7) (T := TX7) (N := 37) C.1 C.2.1 C.2.2.1 iX7 tyX7 tyX7_ok nmX7 C.2.2.2.1 C.2.2.2.2.2.1 hP (dis_of h0 hw) hS q0 he rfl 16 (by decide) (C.2.2.1 _ wf_X7_156) (fun _ h => h) rfl (by decide +kernel) rfl rfl hl0 hdg (fun H1 l1 hP1 _ hS1 => ?_)
  rw [h2] at hP1
  exact k H1 l1 ls hP1 hS1 hl
theorem pf_X7_173 (C : Cx p s m args meth c cc RX7 nL ret D) {w0 ws2 : va_W} {B : Nat → Prop} (h0 : va_D B w0) (hA : Ad w0 = A) (q0 : Nat) {a : Nat} {fs : List Value} {x : Int32} (he : ws[q0]? = some (a, .inr (4, fs))) (hl0 : 21 < fs.length) (hdg : decode cc pc = .ok (.putfield 173, 3)) (hw : ws.map (·.1) = w0.map (·.1)) (h2 : ws.set q0 (a, .inr (4, fs.set 21 (.int x))) = ws2) (k : G p l e R s m args below meth c D H0 A nL Q ws2 (pc + 3) lv st) : G p l e R s m args below meth c D H0 A nL Q ws pc lv (.int x :: .ref a :: st) := by
  intro H locs ls hP hS hl
  subst hA
  refine va_put (D := D) (ci := 4) (v := .int x) (ty := .int) (C := RX7) (T := TX7) (N := 37) C.1 C.2.1 C.2.2.1 iX7 tyX7 tyX7_ok nmX7 C.2.2.2.1 C.2.2.2.2.2.1 hP (dis_of h0 hw) hS q0 he rfl 21 (by decide) (C.2.2.1 _ wf_X7_173) (fun _ h => h) rfl (by decide +kernel) rfl rfl hl0 hdg (fun H1 l1 hP1 _ hS1 => ?_)
  rw [h2] at hP1
  exact k H1 l1 ls hP1 hS1 hl
theorem pf_X7_184 (C : Cx p s m args meth c cc RX7 nL ret D) {w0 ws2 : va_W} {B : Nat → Prop} (h0 : va_D B w0) (hA : Ad w0 = A) (q0 : Nat) {a : Nat} {fs : List Value} {x : Int32} (he : ws[q0]? = some (a, .inr (4, fs))) (hl0 : 23 < fs.length) (hdg : decode cc pc = .ok (.putfield 184, 3)) (hw : ws.map (·.1) = w0.map (·.1)) (h2 : ws.set q0 (a, .inr (4, fs.set 23 (.int x))) = ws2) (k : G p l e R s m args below meth c D H0 A nL Q ws2 (pc + 3) lv st) : G p l e R s m args below meth c D H0 A nL Q ws pc lv (.int x :: .ref a :: st) := by
  intro H locs ls hP hS hl
  subst hA
  refine va_put (D := D) (ci := 4) (v := .int x) (ty := .int) (C := RX7) (T := TX7) (N := 37) C.1 C.2.1 C.2.2.1 iX7 tyX7 tyX7_ok nmX7 C.2.2.2.1 C.2.2.2.2.2.1 hP (dis_of h0 hw) hS q0 he rfl 23 (by decide) (C.2.2.1 _ wf_X7_184) (fun _ h => h) rfl (by decide +kernel) rfl rfl hl0 hdg (fun H1 l1 hP1 _ hS1 => ?_)
  rw [h2] at hP1
  exact k H1 l1 ls hP1 hS1 hl
theorem pf_X7_207 (C : Cx p s m args meth c cc RX7 nL ret D) {w0 ws2 : va_W} {B : Nat → Prop} (h0 : va_D B w0) (hA : Ad w0 = A) (q0 : Nat) {a : Nat} {fs : List Value} {x : Int64} (he : ws[q0]? = some (a, .inr (4, fs))) (hl0 : 28 < fs.length) (hdg : decode cc pc = .ok (.putfield 207, 3)) (hw : ws.map (·.1) = w0.map (·.1)) (h2 : ws.set q0 (a, .inr (4, fs.set 28 (.long x))) = ws2) (k : G p l e R s m args below meth c D H0 A nL Q ws2 (pc + 3) lv st) : G p l e R s m args below meth c D H0 A nL Q ws pc lv (.long x :: .ref a :: st) := by
  intro H locs ls hP hS hl
  subst hA
  refine va_put (D := D) (ci := 4) (v := .long x) (ty := .long) (C := RX7) (T := TX7) (N := 37) C.1 C.2.1 C.2.2.1 iX7 tyX7 tyX7_ok nmX7 C.2.2.2.1 C.2.2.2.2.2.1 hP (dis_of h0 hw) hS q0 he rfl 28 (by decide) (C.2.2.1 _ wf_X7_207) (fun _ h => h) rfl (by decide +kernel) rfl rfl hl0 hdg (fun H1 l1 hP1 _ hS1 => ?_)
  rw [h2] at hP1
  exact k H1 l1 ls hP1 hS1 hl
theorem pf_X7_211 (C : Cx p s m args meth c cc RX7 nL ret D) {w0 ws2 : va_W} {B : Nat → Prop} (h0 : va_D B w0) (hA : Ad w0 = A) (q0 : Nat) {a : Nat} {fs : List Value} {x : Int64} (he : ws[q0]? = some (a, .inr (4, fs))) (hl0 : 29 < fs.length) (hdg : decode cc pc = .ok (.putfield 211, 3)) (hw : ws.map (·.1) = w0.map (·.1)) (h2 : ws.set q0 (a, .inr (4, fs.set 29 (.long x))) = ws2) (k : G p l e R s m args below meth c D H0 A nL Q ws2 (pc + 3) lv st) : G p l e R s m args below meth c D H0 A nL Q ws pc lv (.long x :: .ref a :: st) := by
  intro H locs ls hP hS hl
  subst hA
  refine va_put (D := D) (ci := 4) (v := .long x) (ty := .long) (C := RX7) (T := TX7) (N := 37) C.1 C.2.1 C.2.2.1 iX7 tyX7 tyX7_ok nmX7 C.2.2.2.1 C.2.2.2.2.2.1 hP (dis_of h0 hw) hS q0 he rfl 29 (by decide) (C.2.2.1 _ wf_X7_211) (fun _ h => h) rfl (by decide +kernel) rfl rfl hl0 hdg (fun H1 l1 hP1 _ hS1 => ?_)
  rw [h2] at hP1
  exact k H1 l1 ls hP1 hS1 hl
theorem pf_X7_221 (C : Cx p s m args meth c cc RX7 nL ret D) {w0 ws2 : va_W} {B : Nat → Prop} (h0 : va_D B w0) (hA : Ad w0 = A) (q0 : Nat) {a : Nat} {fs : List Value} {x : Int32} (he : ws[q0]? = some (a, .inr (4, fs))) (hl0 : 32 < fs.length) (hz : narrow .boolean (.int x) = .int x) (hf : fits .boolean (.int x) = true) (hdg : decode cc pc = .ok (.putfield 221, 3)) (hw : ws.map (·.1) = w0.map (·.1)) (h2 : ws.set q0 (a, .inr (4, fs.set 32 (.int x))) = ws2) (k : G p l e R s m args below meth c D H0 A nL Q ws2 (pc + 3) lv st) : G p l e R s m args below meth c D H0 A nL Q ws pc lv (.int x :: .ref a :: st) := by
  intro H locs ls hP hS hl
  subst hA
  refine va_put (D := D) (ci := 4) (v := .int x) (ty := .boolean) (C := RX7) (T := TX7) (N := 37) C.1 C.2.1 C.2.2.1 iX7 tyX7 tyX7_ok nmX7 C.2.2.2.1 C.2.2.2.2.2.1 hP (dis_of h0 hw) hS q0 he rfl 32 (by decide) (C.2.2.1 _ wf_X7_221) (fun _ h => h) rfl (by decide +kernel) hz hf hl0 hdg (fun H1 l1 hP1 _ hS1 => ?_)
  rw [h2] at hP1
  exact k H1 l1 ls hP1 hS1 hl
end FR
section CR
variable {p : Program} {l : Launch} {e : Env} {R : Room} {s : State} {m : MethodId} {args : Array Value} {below : List Frame} {meth : Method} {c : Code} {D : va_G} {H0 : Heap} {A : Nat → Prop} {nL : Nat} {Q : State → Prop} {ws : va_W} {pc : Nat} {lv : List (Nat × Value)} {st : List Value} {cc : ByteArray} {own : String} {ret : Option FieldType}
def wput : va_W → List Nat → va_W → va_W
  | ws, i :: is, x :: xs => wput (ws.set i x) is xs
  | ws, _, _ => ws
theorem wput_P {cl : List vw_C} {H : Heap} : ∀ (is : List Nat) (ws xs : va_W), is.length = xs.length → (∀ (i : Nat) (q : Nat × va_E), ws[i]? = some q → i ∉ is → va_at D cl q H) → va_P D cl xs H → va_P D cl (wput ws is xs) H
  | [], ws, xs, _, h, _ => by
    unfold wput
    exact fun k q hk => h k q hk List.not_mem_nil
  | i :: is, ws, [], hn, _, _ => by cases hn
  | i :: is, ws, x :: xs, hn, h, hx => by
    unfold wput
    refine wput_P is (ws.set i x) xs (Nat.succ.inj hn) (fun j q hj hm => ?_) (fun k q hk => hx (k + 1) q hk)
    rw [List.getElem?_set] at hj
    by_cases hij : i = j
    · subst hij
      rw [if_pos rfl] at hj
      by_cases hl : i < ws.length
      · rw [if_pos hl] at hj
        have e := Option.some.inj hj
        subst e
        exact hx 0 x rfl
      · rw [if_neg hl] at hj
        cases hj
    · rw [if_neg hij] at hj
      exact h j q hj (fun z => (List.mem_cons.mp z).elim (fun e => hij e.symm) hm)
theorem aft_rd {rest st' : List Value} {rv : Option Value} {ws1 : va_W} (h : ∀ (H : Heap) (locs : List Loc) (ls : Array Slot), va_P D classes ws H → va_S A H0 H locs → lv_has ls nL lv → va_Run p l e R s m args below meth c H locs 0 0 0 0 (F0 m pc ls st) rest (fun st o t => o = .returned rv ∧ va_P D classes ws1 t.heap ∧ va_F (fun _ => False) st t) (fun _ => False)) (hst : rv.toList ++ rest = st') (k : G p l e R s m args below meth c D H0 A nL Q ws (pc + 3) lv st') : G p l e R s m args below meth c D H0 A nL Q ws pc lv st := by
  intro H locs ls hP hS hl T hT X
  obtain ⟨v, st₀, t, T', L, h0, X', hL, e1, e2, ⟨hv, -, hz, hk⟩, stp⟩ := h H locs ls hP hS hl T hT X
  cases hv
  subst hst
  rw [h0] at hz hk
  have hP2 : va_P D classes ws T'.heap := by rw [e1]; exact hP.kept (fun k q hq => hk q.1 ((hP k q hq).lt) (fun z => z))
  obtain ⟨t2, a1, b1⟩ := k T'.heap (locs ++ L) ls hP2 ⟨Nat.le_trans hS.1 (by rw [e1]; exact hz), fun q h1 h2 => by rw [e1, hk q (Nat.lt_of_lt_of_le h1 hS.1) (fun z => z)]; exact hS.2.1 q h1 h2, fun q hq => (List.mem_append.mp hq).elim (hS.2.2 q) (fun h => (hL q h).elim)⟩ hl T' rfl X'
  exact ⟨t2, stp t2 a1, b1⟩
theorem aft_wr {rest st' : List Value} {rv : Option Value} {w0 wsC ws1 ws2 : va_W} {B : Nat → Prop} (h0 : va_D B w0) (hA : Ad w0 = A) (is : List Nat) (h : ∀ (H : Heap) (locs : List Loc) (ls : Array Slot), va_P D classes ws H → va_S A H0 H locs → lv_has ls nL lv → va_Run p l e R s m args below meth c H locs 0 0 0 0 (F0 m pc ls st) rest (fun st o t => o = .returned rv ∧ va_P D classes ws1 t.heap ∧ va_F (Ad wsC) st t) (Ad wsC)) (hw : ws.map (·.1) = w0.map (·.1)) (hC : is.map (fun i => ws[i]?) = wsC.map some) (hlen : is.length = ws1.length) (h2 : wput ws is ws1 = ws2) (hst : rv.toList ++ rest = st') (k : G p l e R s m args below meth c D H0 A nL Q ws2 (pc + 3) lv st') : G p l e R s m args below meth c D H0 A nL Q ws pc lv st := by
  intro H locs ls hP hS hl T hT X
  obtain ⟨v, st₀, t, T', L, hh, X', hL, e1, e2, ⟨hv, hP1, hz, hk⟩, stp⟩ := h H locs ls hP hS hl T hT X
  cases hv
  subst hst; subst hA; subst h2
  rw [hh] at hz hk
  have hD := dis_of h0 hw
  have hAd : ∀ q : Nat, Ad wsC q → ∃ (i : Nat) (e : va_E), i ∈ is ∧ ws[i]? = some (q, e) := by
    intro q hq
    obtain ⟨k2, e2, hk2⟩ := hq
    have h3 : (is.map (fun i => ws[i]?))[k2]? = some (some (q, e2)) := by rw [hC, List.getElem?_map, hk2]; rfl
    rw [List.getElem?_map] at h3
    cases hi : is[k2]? with
    | none => rw [hi] at h3; cases h3
    | some i => rw [hi] at h3; exact ⟨i, e2, List.mem_of_getElem? hi, Option.some.inj h3⟩
  have hsub : ∀ q : Nat, Ad wsC q → Ad w0 q := fun q hq => by
    obtain ⟨i, e, -, hi⟩ := hAd q hq
    exact hD.2 i _ hi
  have hP2 : va_P D classes (wput ws is ws1) T'.heap := by
    refine wput_P is ws ws1 hlen (fun i q hi hm => ?_) (by rw [e1]; exact hP1)
    rw [e1]
    refine (hP i q hi).kept (hk q.1 ((hP i q hi).lt) (fun z => ?_))
    obtain ⟨j, e, hj, hj2⟩ := hAd q.1 z
    exact hm (hD.1 i j q _ hi hj2 rfl ▸ hj)
  obtain ⟨t2, a1, b1⟩ := k T'.heap (locs ++ L) ls hP2 ⟨Nat.le_trans hS.1 (by rw [e1]; exact hz), fun q h1 h2 => by rw [e1, hk q (Nat.lt_of_lt_of_le h1 hS.1) (fun z => h2 (hsub q z))]; exact hS.2.1 q h1 h2, fun q hq => (List.mem_append.mp hq).elim (hS.2.2 q) (fun h => hsub _ (hL q h))⟩ hl T' rfl X'
  exact ⟨t2, stp t2 a1, b1⟩
section RUN
variable {y : MethodName} {b : ByteArray} {nl : Nat} {rt : Option FieldType} {fr lo n idx : Nat} {av As rest : List Value} {wsC ws1 : va_W} {A1 : Nat → Prop} {rv : Option Value}
theorem ct_blind : FrameBlind (va_Pc av (fun U => va_P D classes wsC U.heap ∧ va_K D classes (tysD D) U)) := fun a U g mk q => by
  obtain ⟨q0, qP, qK⟩ := q
  exact ⟨q0, qP, va_K.moved (u := U) (U := U.calling g mk a) (Vm.Alike.refl U.vm) qK⟩
theorem ct_len (h : (parseMethodDescriptor y.desc).map (fun d => d.parameters.length) = some n) : ∀ sig, parseMethodDescriptor y.desc = some sig → n = sig.parameters.length := fun sig hs => by
  rw [hs] at h
  exact (Option.some.inj h).symm
theorem ct_ws (C : Cx p s m args meth c cc own nL ret D) (ok : okM y b nl rt n) : ∀ w ∈ Cond.code y b nl rt :: TBL, ∀ (a' : Array Value) (U : State), s.WarmedH U.vm → w.before a' U = true := fun w hw => (List.mem_cons.mp hw).elim (fun e => e ▸ warm_of C.2.2.1 _ ok.1) (fun h => warm_of C.2.2.1 _ h)
theorem ct_pre (C : Cx p s m args meth c cc own nL ret D) {H : Heap} (hP : va_P D classes wsC H) : ∀ U : State, U.heap = H → s.WarmedH U.vm → va_Pc av (fun U => va_P D classes wsC U.heap ∧ va_K D classes (tysD D) U) av.toArray U := fun U hU hW => ⟨rfl, by rw [hU]; exact hP, va_K.moved hW.alike C.2.2.2.2.2.1⟩
theorem run_S (C : Cx p s m args meth c cc own nL ret D) (hM : ct l y b nl rt fr lo D av wsC ws1 A1 rv) (ok : okM y b nl rt n) (hs : Cond.static y ∈ TBL) (hlk : Cond.methodLink own idx y ∈ TBL) (is : List Nat) (hn : av.length = n) (hR : fr + 1 ≤ R.frames ∧ 8 + (nl + 11) + lo ≤ R.locals) (hsub : is.filterMap (fun i => ws[i]?) = wsC) (hstk : st = av.reverse ++ rest) (hrest : (rest.map fun v => v.category).sum ≤ 8) (hdg : decode cc pc = .ok (.invokestatic idx, 3)) : ∀ (H : Heap) (locs : List Loc) (ls : Array Slot), va_P D classes ws H → va_S A H0 H locs → lv_has ls nL lv → va_Run p l e R s m args below meth c H locs 0 0 0 0 (F0 m pc ls st) rest (fun st o t => o = .returned rv ∧ va_P D classes ws1 t.heap ∧ va_F A1 st t) A1 := by
  intro H locs ls hP hS hl
  exact va_runS (Ts := TBL) ⟨C.1, C.2.1, C.2.2.2.2.1, C.2.2.2.1, C.2.2.1⟩ hM ⟨⟨rfl, rfl, hR.1, hR.2, ct_ws C ok, List.mem_cons_self, C.2.2.1 _ ok.1, C.2.2.1 _ ok.2.1, ok.2.2.1, ct_len ok.2.2.2, C.2.2.1 _ hlk⟩, C.2.2.1 _ hs⟩ ⟨ct_blind, ct_pre C (hP.sub is hsub)⟩ rfl hn hl.1 hstk (lv_room hrest) hdg ⟨Nat.zero_le _, Nat.zero_le _⟩
theorem run_SN {host : String} (C : Cx p s m args meth c cc own nL ret D) (hM : ct l y b nl rt fr lo D av wsC ws1 A1 rv) (ok : okM y b nl rt n) (hs : Cond.static y ∈ TBL) (hlk : Cond.methodLinkNest own idx y host ∈ TBL) (is : List Nat) (hn : av.length = n) (hR : fr + 1 ≤ R.frames ∧ 8 + (nl + 11) + lo ≤ R.locals) (hsub : is.filterMap (fun i => ws[i]?) = wsC) (hstk : st = av.reverse ++ rest) (hrest : (rest.map fun v => v.category).sum ≤ 8) (hdg : decode cc pc = .ok (.invokestatic idx, 3)) : ∀ (H : Heap) (locs : List Loc) (ls : Array Slot), va_P D classes ws H → va_S A H0 H locs → lv_has ls nL lv → va_Run p l e R s m args below meth c H locs 0 0 0 0 (F0 m pc ls st) rest (fun st o t => o = .returned rv ∧ va_P D classes ws1 t.heap ∧ va_F A1 st t) A1 := by
  intro H locs ls hP hS hl
  exact va_runSN (Ts := TBL) ⟨C.1, C.2.1, C.2.2.2.2.1, C.2.2.2.1, C.2.2.1⟩ hM ⟨⟨⟨rfl, rfl, hR.1, hR.2, ct_ws C ok, List.mem_cons_self⟩, C.2.2.1 _ ok.1, C.2.2.1 _ ok.2.1, ok.2.2.1, ct_len ok.2.2.2, C.2.2.1 _ hlk⟩, C.2.2.1 _ hs, trivial⟩ ⟨ct_blind, ct_pre C (hP.sub is hsub)⟩ rfl hn hl.1 hstk (lv_room hrest) hdg ⟨Nat.zero_le _, Nat.zero_le _⟩
theorem run_V {bb ci : Nat} {fs : List Value} {K : String} {T : u_T} {N : Nat} (C : Cx p s m args meth c cc own nL ret D) (hM : ct l y b nl rt fr lo D (.ref bb :: As) wsC ws1 A1 rv) (ok : okM y b nl rt n) (hi : Cond.instanceMethod y ∈ TBL) (hse : Cond.selects K y y ∈ TBL) (hlk : Cond.methodLink own idx y ∈ TBL) (is : List Nat) (q0 : Nat) (he : wsC[q0]? = some (bb, .inr (ci, fs))) (hc : classes[ci]? = some (K, T, N)) (hn : As.length = n) (hR : fr + 1 ≤ R.frames ∧ 8 + (nl + 11) + lo ≤ R.locals) (hsub : is.filterMap (fun i => ws[i]?) = wsC) (hstk : st = As.reverse ++ .ref bb :: rest) (hrest : (rest.map fun v => v.category).sum ≤ 8) (hdg : decode cc pc = .ok (.invokevirtual idx, 3)) : ∀ (H : Heap) (locs : List Loc) (ls : Array Slot), va_P D classes ws H → va_S A H0 H locs → lv_has ls nL lv → va_Run p l e R s m args below meth c H locs 0 0 0 0 (F0 m pc ls st) rest (fun st o t => o = .returned rv ∧ va_P D classes ws1 t.heap ∧ va_F A1 st t) A1 := by
  intro H locs ls hP hS hl
  have hPC := hP.sub is hsub
  exact va_runV (Ts := TBL) (C := K) ⟨C.1, C.2.1, C.2.2.2.2.1, C.2.2.2.1, C.2.2.1⟩ hM ⟨⟨rfl, rfl, hR.1, hR.2, ct_ws C ok, List.mem_cons_self, C.2.2.1 _ ok.1, C.2.2.1 _ ok.2.1, ok.2.2.1, ct_len ok.2.2.2, C.2.2.1 _ hlk⟩, C.2.2.1 _ hi, C.2.2.1 _ hse⟩ ⟨ct_blind, va_recv C.2.2.2.2.2.1 hPC hc he, ct_pre C hPC⟩ rfl hn hl.1 hstk (lv_room hrest) hdg ⟨Nat.zero_le _, Nat.zero_le _⟩
theorem run_VN {host : String} {bb ci : Nat} {fs : List Value} {K : String} {T : u_T} {N : Nat} (C : Cx p s m args meth c cc own nL ret D) (hM : ct l y b nl rt fr lo D (.ref bb :: As) wsC ws1 A1 rv) (ok : okM y b nl rt n) (hi : Cond.instanceMethod y ∈ TBL) (hse : Cond.selects K y y ∈ TBL) (hlk : Cond.methodLinkNest own idx y host ∈ TBL) (is : List Nat) (q0 : Nat) (he : wsC[q0]? = some (bb, .inr (ci, fs))) (hc : classes[ci]? = some (K, T, N)) (hn : As.length = n) (hR : fr + 1 ≤ R.frames ∧ 8 + (nl + 11) + lo ≤ R.locals) (hsub : is.filterMap (fun i => ws[i]?) = wsC) (hstk : st = As.reverse ++ .ref bb :: rest) (hrest : (rest.map fun v => v.category).sum ≤ 8) (hdg : decode cc pc = .ok (.invokevirtual idx, 3)) : ∀ (H : Heap) (locs : List Loc) (ls : Array Slot), va_P D classes ws H → va_S A H0 H locs → lv_has ls nL lv → va_Run p l e R s m args below meth c H locs 0 0 0 0 (F0 m pc ls st) rest (fun st o t => o = .returned rv ∧ va_P D classes ws1 t.heap ∧ va_F A1 st t) A1 := by
  intro H locs ls hP hS hl
  have hPC := hP.sub is hsub
  exact va_runVN (Ts := TBL) (C := K) ⟨C.1, C.2.1, C.2.2.2.2.1, C.2.2.2.1, C.2.2.1⟩ hM ⟨⟨⟨rfl, rfl, hR.1, hR.2, ct_ws C ok, List.mem_cons_self⟩, C.2.2.1 _ ok.1, C.2.2.1 _ ok.2.1, ok.2.2.1, ct_len ok.2.2.2, C.2.2.1 _ hlk⟩, C.2.2.1 _ hi, C.2.2.1 _ hse⟩ ⟨ct_blind, va_recv C.2.2.2.2.2.1 hPC hc he, ct_pre C hPC⟩ rfl hn hl.1 hstk (lv_room hrest) hdg ⟨Nat.zero_le _, Nat.zero_le _⟩
end RUN
end CR
end
section
abbrev GM (p : Program) (l : Launch) (e : Env) (s : State) (m : MethodId) (below : List Frame) (meth : Method) (c : Code) (D : va_G) (fr lo nL : Nat) (av : List Value) (ws1 : va_W) (A : Nat → Prop) (rv : Option Value) (ws : va_W) (pc : Nat) (lv : List (Nat × Value)) (st : List Value) : Prop :=
  G p l e { frames := fr, cells := 0, slots := 0, locals := lo } s m av.toArray below meth c D s.heap A nL (MQ below (fun _ st o t => o = .returned rv ∧ va_P D classes ws1 t.heap ∧ va_F A st t) av.toArray s 0 0 A) ws pc lv st
theorem nv_add {x y : Int32} {a b : Nat} (h1 : x = nI a) (h2 : y = nI b) : x + y = nI (a + b) := by rw [h1, h2, nI_add]
theorem nv_mul {x y : Int32} {a b : Nat} (h1 : x = nI a) (h2 : y = nI b) : x * y = nI (a * b) := by rw [h1, h2, pk_mul]
theorem nv_sub {x y : Int32} {a b : Nat} (h : b ≤ a) (h1 : x = nI a) (h2 : y = nI b) : x - y = nI (a - b) := by rw [h1, h2, pk_sub h]
theorem nv_lt {x y : Int32} {a b : Nat} (h1 : x = nI a) (h2 : y = nI b) (ha : a < 2 ^ 31) (hb : b < 2 ^ 31) : x < y ↔ a < b := by rw [h1, h2]; exact nI_ltI ha hb
theorem nv_eq {x y : Int32} {a b : Nat} (h1 : x = nI a) (h2 : y = nI b) (ha : a < 2 ^ 31) (hb : b < 2 ^ 31) : x = y ↔ a = b := by rw [h1, h2]; exact nI_eq ha hb
theorem inc_nI (d : Nat) : nI d + Int32.ofInt 1 = nI (d + 1) := nI_1 d
theorem i32_eq (x y : Int32) (v : Int) (hy : y.toInt = v) (h : x.toInt = v) : x = y := Int32.toInt_inj.mp (h.trans hy.symm)
/-- an int that isn't below 0, as a number -/
theorem nn_nI {x : Int32} (h : ¬ x < 0) : x = nI x.toNatClampNeg := by
  obtain ⟨j, hj, rfl⟩ := nI_of h
  rw [nI_clamp hj]
theorem nn_lt {x : Int32} {n : Nat} (hn : n < 2 ^ 31) (h : ¬ x < 0) (h2 : x < nI n) : x.toNatClampNeg < n := by
  obtain ⟨j, hj, rfl⟩ := nI_of h
  rw [nI_clamp hj]
  exact (nI_ltI hj hn).mp h2
theorem nn_le {x : Int32} {n : Nat} (hn : n < 2 ^ 31) (h : ¬ x < 0) (h2 : ¬ nI n < x) : x.toNatClampNeg ≤ n := by
  obtain ⟨j, hj, rfl⟩ := nI_of h
  rw [nI_clamp hj]
  exact Nat.not_lt.mp (fun z => h2 ((nI_ltI hn hj).mpr z))
section HR
variable {p : Program} {l : Launch} {e : Env} {R : Room} {s : State} {m : MethodId} {args : Array Value} {below : List Frame} {meth : Method} {c : Code} {D : va_G} {H0 : Heap} {A : Nat → Prop} {nL : Nat} {Q : State → Prop} {ws : va_W} {pc : Nat} {lv : List (Nat × Value)} {st : List Value} {cc : ByteArray} {own : String} {ret : Option FieldType}
theorem r_top {x y : Int32} (h : x = y) (k : G p l e R s m args below meth c D H0 A nL Q ws pc lv (.int y :: st)) : G p l e R s m args below meth c D H0 A nL Q ws pc lv (.int x :: st) := by rw [h]; exact k
theorem r_stk {st2 : List Value} (h : st = st2) (k : G p l e R s m args below meth c D H0 A nL Q ws pc lv st2) : G p l e R s m args below meth c D H0 A nL Q ws pc lv st := by rw [h]; exact k
theorem dis_sub {w0 wsC : va_W} {B : Nat → Prop} (h0 : va_D B w0) (is : List Nat) (hn : va_nd is = true) (h : is.map (fun i => (w0[i]?).map (·.1)) = wsC.map (fun q => some q.1)) : va_D (fun _ => True) wsC := by
  have at' : ∀ (k : Nat) (q : Nat × va_E), wsC[k]? = some q → ∃ (i : Nat) (e : va_E), is[k]? = some i ∧ w0[i]? = some (q.1, e) := by
    intro k q hq
    have h1 : (is.map (fun i => (w0[i]?).map (·.1)))[k]? = some (some q.1) := by rw [h, List.getElem?_map, hq]; rfl
    rw [List.getElem?_map] at h1
    cases hi : is[k]? with
    | none => rw [hi] at h1; cases h1
    | some i =>
      rw [hi] at h1
      have h2 := Option.some.inj h1
      cases hw : w0[i]? with
      | none => simp only [hw] at h2; cases h2
      | some z => simp only [hw] at h2; exact ⟨i, z.2, rfl, by rw [hw, ← Option.some.inj h2]⟩
  refine ⟨fun i j p q hi hj hpq => ?_, fun _ _ _ => trivial⟩
  obtain ⟨i1, e1, a1, b1⟩ := at' i p hi
  obtain ⟨j1, e2, a2, b2⟩ := at' j q hj
  have e := h0.1 i1 j1 _ _ b1 b2 hpq
  subst e
  exact va_nd_inj is hn i j i1 a1 a2
end HR
end
section
theorem dX5_init_0 : decode cX5_init 0 = .ok (.aload_n 0, 1) := by decide +kernel
theorem dX5_init_1 : decode cX5_init 1 = .ok (.invokespecial 3, 3) := by decide +kernel
theorem dX5_init_4 : decode cX5_init 4 = .ok (.aload_n 0, 1) := by decide +kernel
theorem dX5_init_5 : decode cX5_init 5 = .ok (.iconst 2, 1) := by decide +kernel
theorem dX5_init_6 : decode cX5_init 6 = .ok (.putfield 9, 3) := by decide +kernel
theorem dX5_init_9 : decode cX5_init 9 = .ok (.aload_n 0, 1) := by decide +kernel
theorem dX5_init_10 : decode cX5_init 10 = .ok (.iconst 0, 1) := by decide +kernel
theorem dX5_init_11 : decode cX5_init 11 = .ok (.putfield 15, 3) := by decide +kernel
theorem dX5_init_14 : decode cX5_init 14 = .ok (.aload_n 0, 1) := by decide +kernel
theorem dX5_init_15 : decode cX5_init 15 = .ok (.bipush 11, 2) := by decide +kernel
theorem dX5_init_17 : decode cX5_init 17 = .ok (.putfield 18, 3) := by decide +kernel
theorem dX5_init_20 : decode cX5_init 20 = .ok (.aload_n 0, 1) := by decide +kernel
theorem dX5_init_21 : decode cX5_init 21 = .ok (.iconst 0, 1) := by decide +kernel
theorem dX5_init_22 : decode cX5_init 22 = .ok (.putfield 21, 3) := by decide +kernel
theorem dX5_init_25 : decode cX5_init 25 = .ok (.aload_n 0, 1) := by decide +kernel
theorem dX5_init_26 : decode cX5_init 26 = .ok (.iconst 0, 1) := by decide +kernel
theorem dX5_init_27 : decode cX5_init 27 = .ok (.putfield 24, 3) := by decide +kernel
theorem dX5_init_30 : decode cX5_init 30 = .ok (.aload_n 0, 1) := by decide +kernel
theorem dX5_init_31 : decode cX5_init 31 = .ok (.iconst 0, 1) := by decide +kernel
theorem dX5_init_32 : decode cX5_init 32 = .ok (.putfield 27, 3) := by decide +kernel
theorem dX5_init_35 : decode cX5_init 35 = .ok (.aload_n 0, 1) := by decide +kernel
theorem dX5_init_36 : decode cX5_init 36 = .ok (.bipush 12, 2) := by decide +kernel
theorem dX5_init_38 : decode cX5_init 38 = .ok (.newarray .int, 2) := by decide +kernel
theorem dX5_init_40 : decode cX5_init 40 = .ok (.putfield 30, 3) := by decide +kernel
theorem dX5_init_43 : decode cX5_init 43 = .ok (.aload_n 0, 1) := by decide +kernel
theorem dX5_init_44 : decode cX5_init 44 = .ok (.bipush 12, 2) := by decide +kernel
theorem dX5_init_46 : decode cX5_init 46 = .ok (.newarray .int, 2) := by decide +kernel
theorem dX5_init_48 : decode cX5_init 48 = .ok (.putfield 34, 3) := by decide +kernel
theorem dX5_init_51 : decode cX5_init 51 = .ok (.aload_n 0, 1) := by decide +kernel
theorem dX5_init_52 : decode cX5_init 52 = .ok (.bipush 12, 2) := by decide +kernel
theorem dX5_init_54 : decode cX5_init 54 = .ok (.newarray .int, 2) := by decide +kernel
theorem dX5_init_56 : decode cX5_init 56 = .ok (.putfield 37, 3) := by decide +kernel
theorem dX5_init_59 : decode cX5_init 59 = .ok (.aload_n 0, 1) := by decide +kernel
theorem dX5_init_60 : decode cX5_init 60 = .ok (.bipush 12, 2) := by decide +kernel
theorem dX5_init_62 : decode cX5_init 62 = .ok (.newarray .int, 2) := by decide +kernel
theorem dX5_init_64 : decode cX5_init 64 = .ok (.putfield 40, 3) := by decide +kernel
theorem dX5_init_67 : decode cX5_init 67 = .ok (.aload_n 0, 1) := by decide +kernel
theorem dX5_init_68 : decode cX5_init 68 = .ok (.bipush 12, 2) := by decide +kernel
theorem dX5_init_70 : decode cX5_init 70 = .ok (.newarray .int, 2) := by decide +kernel
theorem dX5_init_72 : decode cX5_init 72 = .ok (.putfield 43, 3) := by decide +kernel
theorem dX5_init_75 : decode cX5_init 75 = .ok (.aload_n 0, 1) := by decide +kernel
theorem dX5_init_76 : decode cX5_init 76 = .ok (.bipush 48, 2) := by decide +kernel
theorem dX5_init_78 : decode cX5_init 78 = .ok (.newarray .int, 2) := by decide +kernel
theorem dX5_init_80 : decode cX5_init 80 = .ok (.putfield 46, 3) := by decide +kernel
theorem dX5_init_83 : decode cX5_init 83 = .ok (.return_, 1) := by decide +kernel
theorem dX5_become_0 : decode cX5_become 0 = .ok (.aload_n 0, 1) := by decide +kernel
theorem dX5_become_1 : decode cX5_become 1 = .ok (.aload_n 1, 1) := by decide +kernel
theorem dX5_become_2 : decode cX5_become 2 = .ok (.getfield 9, 3) := by decide +kernel
theorem dX5_become_5 : decode cX5_become 5 = .ok (.putfield 9, 3) := by decide +kernel
theorem dX5_become_8 : decode cX5_become 8 = .ok (.aload_n 0, 1) := by decide +kernel
theorem dX5_become_9 : decode cX5_become 9 = .ok (.aload_n 1, 1) := by decide +kernel
theorem dX5_become_10 : decode cX5_become 10 = .ok (.getfield 15, 3) := by decide +kernel
theorem dX5_become_13 : decode cX5_become 13 = .ok (.putfield 15, 3) := by decide +kernel
theorem dX5_become_16 : decode cX5_become 16 = .ok (.aload_n 0, 1) := by decide +kernel
theorem dX5_become_17 : decode cX5_become 17 = .ok (.aload_n 1, 1) := by decide +kernel
theorem dX5_become_18 : decode cX5_become 18 = .ok (.getfield 18, 3) := by decide +kernel
theorem dX5_become_21 : decode cX5_become 21 = .ok (.putfield 18, 3) := by decide +kernel
theorem dX5_become_24 : decode cX5_become 24 = .ok (.aload_n 0, 1) := by decide +kernel
theorem dX5_become_25 : decode cX5_become 25 = .ok (.aload_n 1, 1) := by decide +kernel
theorem dX5_become_26 : decode cX5_become 26 = .ok (.getfield 21, 3) := by decide +kernel
theorem dX5_become_29 : decode cX5_become 29 = .ok (.putfield 21, 3) := by decide +kernel
theorem dX5_become_32 : decode cX5_become 32 = .ok (.aload_n 0, 1) := by decide +kernel
theorem dX5_become_33 : decode cX5_become 33 = .ok (.aload_n 1, 1) := by decide +kernel
theorem dX5_become_34 : decode cX5_become 34 = .ok (.getfield 24, 3) := by decide +kernel
theorem dX5_become_37 : decode cX5_become 37 = .ok (.putfield 24, 3) := by decide +kernel
theorem dX5_become_40 : decode cX5_become 40 = .ok (.aload_n 0, 1) := by decide +kernel
theorem dX5_become_41 : decode cX5_become 41 = .ok (.aload_n 1, 1) := by decide +kernel
theorem dX5_become_42 : decode cX5_become 42 = .ok (.getfield 27, 3) := by decide +kernel
theorem dX5_become_45 : decode cX5_become 45 = .ok (.putfield 27, 3) := by decide +kernel
theorem dX5_become_48 : decode cX5_become 48 = .ok (.aload_n 1, 1) := by decide +kernel
theorem dX5_become_49 : decode cX5_become 49 = .ok (.getfield 30, 3) := by decide +kernel
theorem dX5_become_52 : decode cX5_become 52 = .ok (.iconst 0, 1) := by decide +kernel
theorem dX5_become_53 : decode cX5_become 53 = .ok (.aload_n 0, 1) := by decide +kernel
theorem dX5_become_54 : decode cX5_become 54 = .ok (.getfield 30, 3) := by decide +kernel
theorem dX5_become_57 : decode cX5_become 57 = .ok (.iconst 0, 1) := by decide +kernel
theorem dX5_become_58 : decode cX5_become 58 = .ok (.bipush 12, 2) := by decide +kernel
theorem dX5_become_60 : decode cX5_become 60 = .ok (.invokestatic 49, 3) := by decide +kernel
theorem dX5_become_63 : decode cX5_become 63 = .ok (.aload_n 1, 1) := by decide +kernel
theorem dX5_become_64 : decode cX5_become 64 = .ok (.getfield 34, 3) := by decide +kernel
theorem dX5_become_67 : decode cX5_become 67 = .ok (.iconst 0, 1) := by decide +kernel
theorem dX5_become_68 : decode cX5_become 68 = .ok (.aload_n 0, 1) := by decide +kernel
theorem dX5_become_69 : decode cX5_become 69 = .ok (.getfield 34, 3) := by decide +kernel
theorem dX5_become_72 : decode cX5_become 72 = .ok (.iconst 0, 1) := by decide +kernel
theorem dX5_become_73 : decode cX5_become 73 = .ok (.bipush 12, 2) := by decide +kernel
theorem dX5_become_75 : decode cX5_become 75 = .ok (.invokestatic 49, 3) := by decide +kernel
theorem dX5_become_78 : decode cX5_become 78 = .ok (.aload_n 1, 1) := by decide +kernel
theorem dX5_become_79 : decode cX5_become 79 = .ok (.getfield 37, 3) := by decide +kernel
theorem dX5_become_82 : decode cX5_become 82 = .ok (.iconst 0, 1) := by decide +kernel
theorem dX5_become_83 : decode cX5_become 83 = .ok (.aload_n 0, 1) := by decide +kernel
theorem dX5_become_84 : decode cX5_become 84 = .ok (.getfield 37, 3) := by decide +kernel
theorem dX5_become_87 : decode cX5_become 87 = .ok (.iconst 0, 1) := by decide +kernel
theorem dX5_become_88 : decode cX5_become 88 = .ok (.bipush 12, 2) := by decide +kernel
theorem dX5_become_90 : decode cX5_become 90 = .ok (.invokestatic 49, 3) := by decide +kernel
theorem dX5_become_93 : decode cX5_become 93 = .ok (.aload_n 1, 1) := by decide +kernel
theorem dX5_become_94 : decode cX5_become 94 = .ok (.getfield 40, 3) := by decide +kernel
theorem dX5_become_97 : decode cX5_become 97 = .ok (.iconst 0, 1) := by decide +kernel
theorem dX5_become_98 : decode cX5_become 98 = .ok (.aload_n 0, 1) := by decide +kernel
theorem dX5_become_99 : decode cX5_become 99 = .ok (.getfield 40, 3) := by decide +kernel
theorem dX5_become_102 : decode cX5_become 102 = .ok (.iconst 0, 1) := by decide +kernel
theorem dX5_become_103 : decode cX5_become 103 = .ok (.bipush 12, 2) := by decide +kernel
theorem dX5_become_105 : decode cX5_become 105 = .ok (.invokestatic 49, 3) := by decide +kernel
theorem dX5_become_108 : decode cX5_become 108 = .ok (.aload_n 1, 1) := by decide +kernel
theorem dX5_become_109 : decode cX5_become 109 = .ok (.getfield 43, 3) := by decide +kernel
theorem dX5_become_112 : decode cX5_become 112 = .ok (.iconst 0, 1) := by decide +kernel
theorem dX5_become_113 : decode cX5_become 113 = .ok (.aload_n 0, 1) := by decide +kernel
theorem dX5_become_114 : decode cX5_become 114 = .ok (.getfield 43, 3) := by decide +kernel
theorem dX5_become_117 : decode cX5_become 117 = .ok (.iconst 0, 1) := by decide +kernel
theorem dX5_become_118 : decode cX5_become 118 = .ok (.bipush 12, 2) := by decide +kernel
theorem dX5_become_120 : decode cX5_become 120 = .ok (.invokestatic 49, 3) := by decide +kernel
theorem dX5_become_123 : decode cX5_become 123 = .ok (.aload_n 1, 1) := by decide +kernel
theorem dX5_become_124 : decode cX5_become 124 = .ok (.getfield 46, 3) := by decide +kernel
theorem dX5_become_127 : decode cX5_become 127 = .ok (.iconst 0, 1) := by decide +kernel
theorem dX5_become_128 : decode cX5_become 128 = .ok (.aload_n 0, 1) := by decide +kernel
theorem dX5_become_129 : decode cX5_become 129 = .ok (.getfield 46, 3) := by decide +kernel
theorem dX5_become_132 : decode cX5_become 132 = .ok (.iconst 0, 1) := by decide +kernel
theorem dX5_become_133 : decode cX5_become 133 = .ok (.bipush 48, 2) := by decide +kernel
theorem dX5_become_135 : decode cX5_become 135 = .ok (.invokestatic 49, 3) := by decide +kernel
theorem dX5_become_138 : decode cX5_become 138 = .ok (.return_, 1) := by decide +kernel
theorem dX5_clear_0 : decode cX5_clear 0 = .ok (.aload_n 0, 1) := by decide +kernel
theorem dX5_clear_1 : decode cX5_clear 1 = .ok (.iconst 0, 1) := by decide +kernel
theorem dX5_clear_2 : decode cX5_clear 2 = .ok (.putfield 15, 3) := by decide +kernel
theorem dX5_clear_5 : decode cX5_clear 5 = .ok (.aload_n 0, 1) := by decide +kernel
theorem dX5_clear_6 : decode cX5_clear 6 = .ok (.bipush 11, 2) := by decide +kernel
theorem dX5_clear_8 : decode cX5_clear 8 = .ok (.putfield 18, 3) := by decide +kernel
theorem dX5_clear_11 : decode cX5_clear 11 = .ok (.aload_n 0, 1) := by decide +kernel
theorem dX5_clear_12 : decode cX5_clear 12 = .ok (.iconst 0, 1) := by decide +kernel
theorem dX5_clear_13 : decode cX5_clear 13 = .ok (.putfield 24, 3) := by decide +kernel
theorem dX5_clear_16 : decode cX5_clear 16 = .ok (.aload_n 0, 1) := by decide +kernel
theorem dX5_clear_17 : decode cX5_clear 17 = .ok (.iconst 0, 1) := by decide +kernel
theorem dX5_clear_18 : decode cX5_clear 18 = .ok (.putfield 27, 3) := by decide +kernel
theorem dX5_clear_21 : decode cX5_clear 21 = .ok (.return_, 1) := by decide +kernel
theorem dX5_add_0 : decode cX5_add 0 = .ok (.aload_n 0, 1) := by decide +kernel
theorem dX5_add_1 : decode cX5_add 1 = .ok (.getfield 15, 3) := by decide +kernel
theorem dX5_add_4 : decode cX5_add 4 = .ok (.bipush 12, 2) := by decide +kernel
theorem dX5_add_6 : decode cX5_add 6 = .ok (.if_icmp .lt 5, 3) := by decide +kernel
theorem dX5_add_9 : decode cX5_add 9 = .ok (.iconst 0, 1) := by decide +kernel
theorem dX5_add_10 : decode cX5_add 10 = .ok (.ireturn, 1) := by decide +kernel
theorem dX5_add_11 : decode cX5_add 11 = .ok (.aload_n 0, 1) := by decide +kernel
theorem dX5_add_12 : decode cX5_add 12 = .ok (.getfield 30, 3) := by decide +kernel
theorem dX5_add_15 : decode cX5_add 15 = .ok (.aload_n 0, 1) := by decide +kernel
theorem dX5_add_16 : decode cX5_add 16 = .ok (.getfield 15, 3) := by decide +kernel
theorem dX5_add_19 : decode cX5_add 19 = .ok (.iload_n 1, 1) := by decide +kernel
theorem dX5_add_20 : decode cX5_add 20 = .ok (.iastore, 1) := by decide +kernel
theorem dX5_add_21 : decode cX5_add 21 = .ok (.aload_n 0, 1) := by decide +kernel
theorem dX5_add_22 : decode cX5_add 22 = .ok (.getfield 34, 3) := by decide +kernel
theorem dX5_add_25 : decode cX5_add 25 = .ok (.aload_n 0, 1) := by decide +kernel
theorem dX5_add_26 : decode cX5_add 26 = .ok (.getfield 15, 3) := by decide +kernel
theorem dX5_add_29 : decode cX5_add 29 = .ok (.iload_n 2, 1) := by decide +kernel
theorem dX5_add_30 : decode cX5_add 30 = .ok (.iastore, 1) := by decide +kernel
theorem dX5_add_31 : decode cX5_add 31 = .ok (.aload_n 0, 1) := by decide +kernel
theorem dX5_add_32 : decode cX5_add 32 = .ok (.getfield 37, 3) := by decide +kernel
theorem dX5_add_35 : decode cX5_add 35 = .ok (.aload_n 0, 1) := by decide +kernel
theorem dX5_add_36 : decode cX5_add 36 = .ok (.getfield 15, 3) := by decide +kernel
theorem dX5_add_39 : decode cX5_add 39 = .ok (.iload_n 3, 1) := by decide +kernel
theorem dX5_add_40 : decode cX5_add 40 = .ok (.iastore, 1) := by decide +kernel
theorem dX5_add_41 : decode cX5_add 41 = .ok (.aload_n 0, 1) := by decide +kernel
theorem dX5_add_42 : decode cX5_add 42 = .ok (.getfield 40, 3) := by decide +kernel
theorem dX5_add_45 : decode cX5_add 45 = .ok (.aload_n 0, 1) := by decide +kernel
theorem dX5_add_46 : decode cX5_add 46 = .ok (.getfield 15, 3) := by decide +kernel
theorem dX5_add_49 : decode cX5_add 49 = .ok (.iconst 1, 1) := by decide +kernel
theorem dX5_add_50 : decode cX5_add 50 = .ok (.iastore, 1) := by decide +kernel
theorem dX5_add_51 : decode cX5_add 51 = .ok (.aload_n 0, 1) := by decide +kernel
theorem dX5_add_52 : decode cX5_add 52 = .ok (.getfield 43, 3) := by decide +kernel
theorem dX5_add_55 : decode cX5_add 55 = .ok (.aload_n 0, 1) := by decide +kernel
theorem dX5_add_56 : decode cX5_add 56 = .ok (.getfield 15, 3) := by decide +kernel
theorem dX5_add_59 : decode cX5_add 59 = .ok (.iconst 4, 1) := by decide +kernel
theorem dX5_add_60 : decode cX5_add 60 = .ok (.iastore, 1) := by decide +kernel
theorem dX5_add_61 : decode cX5_add 61 = .ok (.iconst 0, 1) := by decide +kernel
theorem dX5_add_62 : decode cX5_add 62 = .ok (.istore 4, 2) := by decide +kernel
theorem dX5_add_64 : decode cX5_add 64 = .ok (.iload 4, 2) := by decide +kernel
theorem dX5_add_66 : decode cX5_add 66 = .ok (.iconst 4, 1) := by decide +kernel
theorem dX5_add_67 : decode cX5_add 67 = .ok (.if_icmp .ge 24, 3) := by decide +kernel
theorem dX5_add_70 : decode cX5_add 70 = .ok (.aload_n 0, 1) := by decide +kernel
theorem dX5_add_71 : decode cX5_add 71 = .ok (.getfield 46, 3) := by decide +kernel
theorem dX5_add_74 : decode cX5_add 74 = .ok (.aload_n 0, 1) := by decide +kernel
theorem dX5_add_75 : decode cX5_add 75 = .ok (.getfield 15, 3) := by decide +kernel
theorem dX5_add_78 : decode cX5_add 78 = .ok (.iconst 4, 1) := by decide +kernel
theorem dX5_add_79 : decode cX5_add 79 = .ok (.imul, 1) := by decide +kernel
theorem dX5_add_80 : decode cX5_add 80 = .ok (.iload 4, 2) := by decide +kernel
theorem dX5_add_82 : decode cX5_add 82 = .ok (.iadd, 1) := by decide +kernel
theorem dX5_add_83 : decode cX5_add 83 = .ok (.iconst 0, 1) := by decide +kernel
theorem dX5_add_84 : decode cX5_add 84 = .ok (.iastore, 1) := by decide +kernel
theorem dX5_add_85 : decode cX5_add 85 = .ok (.iinc 4 1, 3) := by decide +kernel
theorem dX5_add_88 : decode cX5_add 88 = .ok (.goto (-24), 3) := by decide +kernel
theorem dX5_add_91 : decode cX5_add 91 = .ok (.aload_n 0, 1) := by decide +kernel
theorem dX5_add_92 : decode cX5_add 92 = .ok (.dup, 1) := by decide +kernel
theorem dX5_add_93 : decode cX5_add 93 = .ok (.getfield 15, 3) := by decide +kernel
theorem dX5_add_96 : decode cX5_add 96 = .ok (.iconst 1, 1) := by decide +kernel
theorem dX5_add_97 : decode cX5_add 97 = .ok (.iadd, 1) := by decide +kernel
theorem dX5_add_98 : decode cX5_add 98 = .ok (.putfield 15, 3) := by decide +kernel
theorem dX5_add_101 : decode cX5_add 101 = .ok (.iconst 1, 1) := by decide +kernel
theorem dX5_add_102 : decode cX5_add 102 = .ok (.ireturn, 1) := by decide +kernel
theorem dX5_beginNext_0 : decode cX5_beginNext 0 = .ok (.aload_n 0, 1) := by decide +kernel
theorem dX5_beginNext_1 : decode cX5_beginNext 1 = .ok (.aload_n 0, 1) := by decide +kernel
theorem dX5_beginNext_2 : decode cX5_beginNext 2 = .ok (.aload_n 0, 1) := by decide +kernel
theorem dX5_beginNext_3 : decode cX5_beginNext 3 = .ok (.getfield 27, 3) := by decide +kernel
theorem dX5_beginNext_6 : decode cX5_beginNext 6 = .ok (.invokevirtual 55, 3) := by decide +kernel
theorem dX5_beginNext_9 : decode cX5_beginNext 9 = .ok (.putfield 24, 3) := by decide +kernel
theorem dX5_beginNext_12 : decode cX5_beginNext 12 = .ok (.aload_n 0, 1) := by decide +kernel
theorem dX5_beginNext_13 : decode cX5_beginNext 13 = .ok (.iconst 0, 1) := by decide +kernel
theorem dX5_beginNext_14 : decode cX5_beginNext 14 = .ok (.putfield 27, 3) := by decide +kernel
theorem dX5_beginNext_17 : decode cX5_beginNext 17 = .ok (.aload_n 0, 1) := by decide +kernel
theorem dX5_beginNext_18 : decode cX5_beginNext 18 = .ok (.bipush 11, 2) := by decide +kernel
theorem dX5_beginNext_20 : decode cX5_beginNext 20 = .ok (.putfield 18, 3) := by decide +kernel
theorem dX5_beginNext_23 : decode cX5_beginNext 23 = .ok (.aload_n 0, 1) := by decide +kernel
theorem dX5_beginNext_24 : decode cX5_beginNext 24 = .ok (.dup, 1) := by decide +kernel
theorem dX5_beginNext_25 : decode cX5_beginNext 25 = .ok (.getfield 21, 3) := by decide +kernel
theorem dX5_beginNext_28 : decode cX5_beginNext 28 = .ok (.iconst 1, 1) := by decide +kernel
theorem dX5_beginNext_29 : decode cX5_beginNext 29 = .ok (.iadd, 1) := by decide +kernel
theorem dX5_beginNext_30 : decode cX5_beginNext 30 = .ok (.putfield 21, 3) := by decide +kernel
theorem dX5_beginNext_33 : decode cX5_beginNext 33 = .ok (.return_, 1) := by decide +kernel
theorem dX5_has_0 : decode cX5_has 0 = .ok (.iload_n 1, 1) := by decide +kernel
theorem dX5_has_1 : decode cX5_has 1 = .ok (.ifCond .lt 15, 3) := by decide +kernel
theorem dX5_has_4 : decode cX5_has 4 = .ok (.iload_n 1, 1) := by decide +kernel
theorem dX5_has_5 : decode cX5_has 5 = .ok (.aload_n 0, 1) := by decide +kernel
theorem dX5_has_6 : decode cX5_has 6 = .ok (.getfield 15, 3) := by decide +kernel
theorem dX5_has_9 : decode cX5_has 9 = .ok (.if_icmp .ge 7, 3) := by decide +kernel
theorem dX5_has_12 : decode cX5_has 12 = .ok (.iconst 1, 1) := by decide +kernel
theorem dX5_has_13 : decode cX5_has 13 = .ok (.goto 4, 3) := by decide +kernel
theorem dX5_has_16 : decode cX5_has 16 = .ok (.iconst 0, 1) := by decide +kernel
theorem dX5_has_17 : decode cX5_has 17 = .ok (.ireturn, 1) := by decide +kernel
theorem dX5_isPerson_0 : decode cX5_isPerson 0 = .ok (.iload_n 1, 1) := by decide +kernel
theorem dX5_isPerson_1 : decode cX5_isPerson 1 = .ok (.ifCond .lt 15, 3) := by decide +kernel
theorem dX5_isPerson_4 : decode cX5_isPerson 4 = .ok (.iload_n 1, 1) := by decide +kernel
theorem dX5_isPerson_5 : decode cX5_isPerson 5 = .ok (.aload_n 0, 1) := by decide +kernel
theorem dX5_isPerson_6 : decode cX5_isPerson 6 = .ok (.getfield 9, 3) := by decide +kernel
theorem dX5_isPerson_9 : decode cX5_isPerson 9 = .ok (.if_icmp .ge 7, 3) := by decide +kernel
theorem dX5_isPerson_12 : decode cX5_isPerson 12 = .ok (.iconst 1, 1) := by decide +kernel
theorem dX5_isPerson_13 : decode cX5_isPerson 13 = .ok (.goto 4, 3) := by decide +kernel
theorem dX5_isPerson_16 : decode cX5_isPerson 16 = .ok (.iconst 0, 1) := by decide +kernel
theorem dX5_isPerson_17 : decode cX5_isPerson 17 = .ok (.ireturn, 1) := by decide +kernel
theorem dX5_all_0 : decode cX5_all 0 = .ok (.iconst 1, 1) := by decide +kernel
theorem dX5_all_1 : decode cX5_all 1 = .ok (.aload_n 0, 1) := by decide +kernel
theorem dX5_all_2 : decode cX5_all 2 = .ok (.getfield 15, 3) := by decide +kernel
theorem dX5_all_5 : decode cX5_all 5 = .ok (.ishl, 1) := by decide +kernel
theorem dX5_all_6 : decode cX5_all 6 = .ok (.iconst 1, 1) := by decide +kernel
theorem dX5_all_7 : decode cX5_all 7 = .ok (.isub, 1) := by decide +kernel
theorem dX5_all_8 : decode cX5_all 8 = .ok (.ireturn, 1) := by decide +kernel
theorem dX5_ofDay_0 : decode cX5_ofDay 0 = .ok (.iconst 0, 1) := by decide +kernel
theorem dX5_ofDay_1 : decode cX5_ofDay 1 = .ok (.istore_n 2, 1) := by decide +kernel
theorem dX5_ofDay_2 : decode cX5_ofDay 2 = .ok (.iconst 0, 1) := by decide +kernel
theorem dX5_ofDay_3 : decode cX5_ofDay 3 = .ok (.istore_n 3, 1) := by decide +kernel
theorem dX5_ofDay_4 : decode cX5_ofDay 4 = .ok (.iload_n 3, 1) := by decide +kernel
theorem dX5_ofDay_5 : decode cX5_ofDay 5 = .ok (.aload_n 0, 1) := by decide +kernel
theorem dX5_ofDay_6 : decode cX5_ofDay 6 = .ok (.getfield 15, 3) := by decide +kernel
theorem dX5_ofDay_9 : decode cX5_ofDay 9 = .ok (.if_icmp .ge 25, 3) := by decide +kernel
theorem dX5_ofDay_12 : decode cX5_ofDay 12 = .ok (.aload_n 0, 1) := by decide +kernel
theorem dX5_ofDay_13 : decode cX5_ofDay 13 = .ok (.getfield 34, 3) := by decide +kernel
theorem dX5_ofDay_16 : decode cX5_ofDay 16 = .ok (.iload_n 3, 1) := by decide +kernel
theorem dX5_ofDay_17 : decode cX5_ofDay 17 = .ok (.iaload, 1) := by decide +kernel
theorem dX5_ofDay_18 : decode cX5_ofDay 18 = .ok (.iload_n 1, 1) := by decide +kernel
theorem dX5_ofDay_19 : decode cX5_ofDay 19 = .ok (.if_icmp .ne 9, 3) := by decide +kernel
theorem dX5_ofDay_22 : decode cX5_ofDay 22 = .ok (.iload_n 2, 1) := by decide +kernel
theorem dX5_ofDay_23 : decode cX5_ofDay 23 = .ok (.iconst 1, 1) := by decide +kernel
theorem dX5_ofDay_24 : decode cX5_ofDay 24 = .ok (.iload_n 3, 1) := by decide +kernel
theorem dX5_ofDay_25 : decode cX5_ofDay 25 = .ok (.ishl, 1) := by decide +kernel
theorem dX5_ofDay_26 : decode cX5_ofDay 26 = .ok (.ior, 1) := by decide +kernel
theorem dX5_ofDay_27 : decode cX5_ofDay 27 = .ok (.istore_n 2, 1) := by decide +kernel
theorem dX5_ofDay_28 : decode cX5_ofDay 28 = .ok (.iinc 3 1, 3) := by decide +kernel
theorem dX5_ofDay_31 : decode cX5_ofDay 31 = .ok (.goto (-27), 3) := by decide +kernel
theorem dX5_ofDay_34 : decode cX5_ofDay 34 = .ok (.iload_n 2, 1) := by decide +kernel
theorem dX5_ofDay_35 : decode cX5_ofDay 35 = .ok (.ireturn, 1) := by decide +kernel
theorem dX5_needable_0 : decode cX5_needable 0 = .ok (.iconst 0, 1) := by decide +kernel
theorem dX5_needable_1 : decode cX5_needable 1 = .ok (.istore_n 3, 1) := by decide +kernel
theorem dX5_needable_2 : decode cX5_needable 2 = .ok (.iconst 0, 1) := by decide +kernel
theorem dX5_needable_3 : decode cX5_needable 3 = .ok (.istore 4, 2) := by decide +kernel
theorem dX5_needable_5 : decode cX5_needable 5 = .ok (.iload 4, 2) := by decide +kernel
theorem dX5_needable_7 : decode cX5_needable 7 = .ok (.iload_n 1, 1) := by decide +kernel
theorem dX5_needable_8 : decode cX5_needable 8 = .ok (.if_icmp .ge 36, 3) := by decide +kernel
theorem dX5_needable_11 : decode cX5_needable 11 = .ok (.iload 4, 2) := by decide +kernel
theorem dX5_needable_13 : decode cX5_needable 13 = .ok (.aload_n 0, 1) := by decide +kernel
theorem dX5_needable_14 : decode cX5_needable 14 = .ok (.getfield 15, 3) := by decide +kernel
theorem dX5_needable_17 : decode cX5_needable 17 = .ok (.if_icmp .ge 27, 3) := by decide +kernel
theorem dX5_needable_20 : decode cX5_needable 20 = .ok (.aload_n 0, 1) := by decide +kernel
theorem dX5_needable_21 : decode cX5_needable 21 = .ok (.getfield 34, 3) := by decide +kernel
theorem dX5_needable_24 : decode cX5_needable 24 = .ok (.iload 4, 2) := by decide +kernel
theorem dX5_needable_26 : decode cX5_needable 26 = .ok (.iaload, 1) := by decide +kernel
theorem dX5_needable_27 : decode cX5_needable 27 = .ok (.iload_n 2, 1) := by decide +kernel
theorem dX5_needable_28 : decode cX5_needable 28 = .ok (.if_icmp .gt 10, 3) := by decide +kernel
theorem dX5_needable_31 : decode cX5_needable 31 = .ok (.iload_n 3, 1) := by decide +kernel
theorem dX5_needable_32 : decode cX5_needable 32 = .ok (.iconst 1, 1) := by decide +kernel
theorem dX5_needable_33 : decode cX5_needable 33 = .ok (.iload 4, 2) := by decide +kernel
theorem dX5_needable_35 : decode cX5_needable 35 = .ok (.ishl, 1) := by decide +kernel
theorem dX5_needable_36 : decode cX5_needable 36 = .ok (.ior, 1) := by decide +kernel
theorem dX5_needable_37 : decode cX5_needable 37 = .ok (.istore_n 3, 1) := by decide +kernel
theorem dX5_needable_38 : decode cX5_needable 38 = .ok (.iinc 4 1, 3) := by decide +kernel
theorem dX5_needable_41 : decode cX5_needable 41 = .ok (.goto (-36), 3) := by decide +kernel
theorem dX5_needable_44 : decode cX5_needable 44 = .ok (.iload_n 3, 1) := by decide +kernel
theorem dX5_needable_45 : decode cX5_needable 45 = .ok (.ireturn, 1) := by decide +kernel
theorem dX5_worthTo_0 : decode cX5_worthTo 0 = .ok (.aload_n 0, 1) := by decide +kernel
theorem dX5_worthTo_1 : decode cX5_worthTo 1 = .ok (.getfield 46, 3) := by decide +kernel
theorem dX5_worthTo_4 : decode cX5_worthTo 4 = .ok (.iload_n 1, 1) := by decide +kernel
theorem dX5_worthTo_5 : decode cX5_worthTo 5 = .ok (.iconst 4, 1) := by decide +kernel
theorem dX5_worthTo_6 : decode cX5_worthTo 6 = .ok (.imul, 1) := by decide +kernel
theorem dX5_worthTo_7 : decode cX5_worthTo 7 = .ok (.iload_n 2, 1) := by decide +kernel
theorem dX5_worthTo_8 : decode cX5_worthTo 8 = .ok (.iadd, 1) := by decide +kernel
theorem dX5_worthTo_9 : decode cX5_worthTo 9 = .ok (.iaload, 1) := by decide +kernel
theorem dX5_worthTo_10 : decode cX5_worthTo 10 = .ok (.ireturn, 1) := by decide +kernel
theorem dX5_worthToAll_0 : decode cX5_worthToAll 0 = .ok (.iconst 0, 1) := by decide +kernel
theorem dX5_worthToAll_1 : decode cX5_worthToAll 1 = .ok (.istore_n 2, 1) := by decide +kernel
theorem dX5_worthToAll_2 : decode cX5_worthToAll 2 = .ok (.iconst 0, 1) := by decide +kernel
theorem dX5_worthToAll_3 : decode cX5_worthToAll 3 = .ok (.istore_n 3, 1) := by decide +kernel
theorem dX5_worthToAll_4 : decode cX5_worthToAll 4 = .ok (.iload_n 3, 1) := by decide +kernel
theorem dX5_worthToAll_5 : decode cX5_worthToAll 5 = .ok (.aload_n 0, 1) := by decide +kernel
theorem dX5_worthToAll_6 : decode cX5_worthToAll 6 = .ok (.getfield 9, 3) := by decide +kernel
theorem dX5_worthToAll_9 : decode cX5_worthToAll 9 = .ok (.if_icmp .ge 18, 3) := by decide +kernel
theorem dX5_worthToAll_12 : decode cX5_worthToAll 12 = .ok (.iload_n 2, 1) := by decide +kernel
theorem dX5_worthToAll_13 : decode cX5_worthToAll 13 = .ok (.aload_n 0, 1) := by decide +kernel
theorem dX5_worthToAll_14 : decode cX5_worthToAll 14 = .ok (.iload_n 1, 1) := by decide +kernel
theorem dX5_worthToAll_15 : decode cX5_worthToAll 15 = .ok (.iload_n 3, 1) := by decide +kernel
theorem dX5_worthToAll_16 : decode cX5_worthToAll 16 = .ok (.invokevirtual 59, 3) := by decide +kernel
theorem dX5_worthToAll_19 : decode cX5_worthToAll 19 = .ok (.iadd, 1) := by decide +kernel
theorem dX5_worthToAll_20 : decode cX5_worthToAll 20 = .ok (.istore_n 2, 1) := by decide +kernel
theorem dX5_worthToAll_21 : decode cX5_worthToAll 21 = .ok (.iinc 3 1, 3) := by decide +kernel
theorem dX5_worthToAll_24 : decode cX5_worthToAll 24 = .ok (.goto (-20), 3) := by decide +kernel
theorem dX5_worthToAll_27 : decode cX5_worthToAll 27 = .ok (.iload_n 2, 1) := by decide +kernel
theorem dX5_worthToAll_28 : decode cX5_worthToAll 28 = .ok (.ireturn, 1) := by decide +kernel
theorem dX5_wouldStand_0 : decode cX5_wouldStand 0 = .ok (.aload_n 0, 1) := by decide +kernel
theorem dX5_wouldStand_1 : decode cX5_wouldStand 1 = .ok (.getfield 30, 3) := by decide +kernel
theorem dX5_wouldStand_4 : decode cX5_wouldStand 4 = .ok (.iload_n 1, 1) := by decide +kernel
theorem dX5_wouldStand_5 : decode cX5_wouldStand 5 = .ok (.iaload, 1) := by decide +kernel
theorem dX5_wouldStand_6 : decode cX5_wouldStand 6 = .ok (.iconst 3, 1) := by decide +kernel
theorem dX5_wouldStand_7 : decode cX5_wouldStand 7 = .ok (.if_icmp .ne 18, 3) := by decide +kernel
theorem dX5_wouldStand_10 : decode cX5_wouldStand 10 = .ok (.aload_n 0, 1) := by decide +kernel
theorem dX5_wouldStand_11 : decode cX5_wouldStand 11 = .ok (.getfield 24, 3) := by decide +kernel
theorem dX5_wouldStand_14 : decode cX5_wouldStand 14 = .ok (.iload_n 1, 1) := by decide +kernel
theorem dX5_wouldStand_15 : decode cX5_wouldStand 15 = .ok (.invokestatic 63, 3) := by decide +kernel
theorem dX5_wouldStand_18 : decode cX5_wouldStand 18 = .ok (.ifCond .eq 7, 3) := by decide +kernel
theorem dX5_wouldStand_21 : decode cX5_wouldStand 21 = .ok (.iconst 1, 1) := by decide +kernel
theorem dX5_wouldStand_22 : decode cX5_wouldStand 22 = .ok (.goto 4, 3) := by decide +kernel
theorem dX5_wouldStand_25 : decode cX5_wouldStand 25 = .ok (.iconst 0, 1) := by decide +kernel
theorem dX5_wouldStand_26 : decode cX5_wouldStand 26 = .ok (.istore_n 3, 1) := by decide +kernel
theorem dX5_wouldStand_27 : decode cX5_wouldStand 27 = .ok (.iload_n 3, 1) := by decide +kernel
theorem dX5_wouldStand_28 : decode cX5_wouldStand 28 = .ok (.ifCond .ne 22, 3) := by decide +kernel
theorem dX5_wouldStand_31 : decode cX5_wouldStand 31 = .ok (.aload_n 0, 1) := by decide +kernel
theorem dX5_wouldStand_32 : decode cX5_wouldStand 32 = .ok (.getfield 30, 3) := by decide +kernel
theorem dX5_wouldStand_35 : decode cX5_wouldStand 35 = .ok (.iload_n 1, 1) := by decide +kernel
theorem dX5_wouldStand_36 : decode cX5_wouldStand 36 = .ok (.iaload, 1) := by decide +kernel
theorem dX5_wouldStand_37 : decode cX5_wouldStand 37 = .ok (.aload_n 0, 1) := by decide +kernel
theorem dX5_wouldStand_38 : decode cX5_wouldStand 38 = .ok (.getfield 37, 3) := by decide +kernel
theorem dX5_wouldStand_41 : decode cX5_wouldStand 41 = .ok (.iload_n 1, 1) := by decide +kernel
theorem dX5_wouldStand_42 : decode cX5_wouldStand 42 = .ok (.iaload, 1) := by decide +kernel
theorem dX5_wouldStand_43 : decode cX5_wouldStand 43 = .ok (.iload_n 2, 1) := by decide +kernel
theorem dX5_wouldStand_44 : decode cX5_wouldStand 44 = .ok (.invokestatic 67, 3) := by decide +kernel
theorem dX5_wouldStand_47 : decode cX5_wouldStand 47 = .ok (.ifCond .eq 7, 3) := by decide +kernel
theorem dX5_wouldStand_50 : decode cX5_wouldStand 50 = .ok (.iconst 1, 1) := by decide +kernel
theorem dX5_wouldStand_51 : decode cX5_wouldStand 51 = .ok (.goto 4, 3) := by decide +kernel
theorem dX5_wouldStand_54 : decode cX5_wouldStand 54 = .ok (.iconst 0, 1) := by decide +kernel
theorem dX5_wouldStand_55 : decode cX5_wouldStand 55 = .ok (.ireturn, 1) := by decide +kernel
theorem dX5_isMet_0 : decode cX5_isMet 0 = .ok (.iload_n 1, 1) := by decide +kernel
theorem dX5_isMet_1 : decode cX5_isMet 1 = .ok (.iload_n 2, 1) := by decide +kernel
theorem dX5_isMet_2 : decode cX5_isMet 2 = .ok (.iand, 1) := by decide +kernel
theorem dX5_isMet_3 : decode cX5_isMet 3 = .ok (.istore_n 3, 1) := by decide +kernel
theorem dX5_isMet_4 : decode cX5_isMet 4 = .ok (.iload_n 0, 1) := by decide +kernel
theorem dX5_isMet_5 : decode cX5_isMet 5 = .ok (.lookupswitch 48 #[(0, 27), (2, 38)], 27) := by decide +kernel
theorem dX5_isMet_32 : decode cX5_isMet 32 = .ok (.iload_n 3, 1) := by decide +kernel
theorem dX5_isMet_33 : decode cX5_isMet 33 = .ok (.iload_n 1, 1) := by decide +kernel
theorem dX5_isMet_34 : decode cX5_isMet 34 = .ok (.if_icmp .ne 7, 3) := by decide +kernel
theorem dX5_isMet_37 : decode cX5_isMet 37 = .ok (.iconst 1, 1) := by decide +kernel
theorem dX5_isMet_38 : decode cX5_isMet 38 = .ok (.goto 4, 3) := by decide +kernel
theorem dX5_isMet_41 : decode cX5_isMet 41 = .ok (.iconst 0, 1) := by decide +kernel
theorem dX5_isMet_42 : decode cX5_isMet 42 = .ok (.ireturn, 1) := by decide +kernel
theorem dX5_isMet_43 : decode cX5_isMet 43 = .ok (.iload_n 3, 1) := by decide +kernel
theorem dX5_isMet_44 : decode cX5_isMet 44 = .ok (.ifCond .ne 7, 3) := by decide +kernel
theorem dX5_isMet_47 : decode cX5_isMet 47 = .ok (.iconst 1, 1) := by decide +kernel
theorem dX5_isMet_48 : decode cX5_isMet 48 = .ok (.goto 4, 3) := by decide +kernel
theorem dX5_isMet_51 : decode cX5_isMet 51 = .ok (.iconst 0, 1) := by decide +kernel
theorem dX5_isMet_52 : decode cX5_isMet 52 = .ok (.ireturn, 1) := by decide +kernel
theorem dX5_isMet_53 : decode cX5_isMet 53 = .ok (.iload_n 3, 1) := by decide +kernel
theorem dX5_isMet_54 : decode cX5_isMet 54 = .ok (.ifCond .ne 7, 3) := by decide +kernel
theorem dX5_isMet_57 : decode cX5_isMet 57 = .ok (.iload_n 1, 1) := by decide +kernel
theorem dX5_isMet_58 : decode cX5_isMet 58 = .ok (.ifCond .ne 7, 3) := by decide +kernel
theorem dX5_isMet_61 : decode cX5_isMet 61 = .ok (.iconst 1, 1) := by decide +kernel
theorem dX5_isMet_62 : decode cX5_isMet 62 = .ok (.goto 4, 3) := by decide +kernel
theorem dX5_isMet_65 : decode cX5_isMet 65 = .ok (.iconst 0, 1) := by decide +kernel
theorem dX5_isMet_66 : decode cX5_isMet 66 = .ok (.ireturn, 1) := by decide +kernel
theorem dX5_standing_0 : decode cX5_standing 0 = .ok (.iconst 0, 1) := by decide +kernel
theorem dX5_standing_1 : decode cX5_standing 1 = .ok (.istore_n 2, 1) := by decide +kernel
theorem dX5_standing_2 : decode cX5_standing 2 = .ok (.iconst 0, 1) := by decide +kernel
theorem dX5_standing_3 : decode cX5_standing 3 = .ok (.istore_n 3, 1) := by decide +kernel
theorem dX5_standing_4 : decode cX5_standing 4 = .ok (.iload_n 3, 1) := by decide +kernel
theorem dX5_standing_5 : decode cX5_standing 5 = .ok (.aload_n 0, 1) := by decide +kernel
theorem dX5_standing_6 : decode cX5_standing 6 = .ok (.getfield 15, 3) := by decide +kernel
theorem dX5_standing_9 : decode cX5_standing 9 = .ok (.if_icmp .ge 32, 3) := by decide +kernel
theorem dX5_standing_12 : decode cX5_standing 12 = .ok (.iload_n 1, 1) := by decide +kernel
theorem dX5_standing_13 : decode cX5_standing 13 = .ok (.iload_n 3, 1) := by decide +kernel
theorem dX5_standing_14 : decode cX5_standing 14 = .ok (.invokestatic 63, 3) := by decide +kernel
theorem dX5_standing_17 : decode cX5_standing 17 = .ok (.ifCond .ne 18, 3) := by decide +kernel
theorem dX5_standing_20 : decode cX5_standing 20 = .ok (.aload_n 0, 1) := by decide +kernel
theorem dX5_standing_21 : decode cX5_standing 21 = .ok (.iload_n 3, 1) := by decide +kernel
theorem dX5_standing_22 : decode cX5_standing 22 = .ok (.iload_n 2, 1) := by decide +kernel
theorem dX5_standing_23 : decode cX5_standing 23 = .ok (.invokevirtual 71, 3) := by decide +kernel
theorem dX5_standing_26 : decode cX5_standing 26 = .ok (.ifCond .eq 9, 3) := by decide +kernel
theorem dX5_standing_29 : decode cX5_standing 29 = .ok (.iload_n 2, 1) := by decide +kernel
theorem dX5_standing_30 : decode cX5_standing 30 = .ok (.iconst 1, 1) := by decide +kernel
theorem dX5_standing_31 : decode cX5_standing 31 = .ok (.iload_n 3, 1) := by decide +kernel
theorem dX5_standing_32 : decode cX5_standing 32 = .ok (.ishl, 1) := by decide +kernel
theorem dX5_standing_33 : decode cX5_standing 33 = .ok (.ior, 1) := by decide +kernel
theorem dX5_standing_34 : decode cX5_standing 34 = .ok (.istore_n 2, 1) := by decide +kernel
theorem dX5_standing_35 : decode cX5_standing 35 = .ok (.iinc 3 1, 3) := by decide +kernel
theorem dX5_standing_38 : decode cX5_standing 38 = .ok (.goto (-34), 3) := by decide +kernel
theorem dX5_standing_41 : decode cX5_standing 41 = .ok (.iload_n 2, 1) := by decide +kernel
theorem dX5_standing_42 : decode cX5_standing 42 = .ok (.ireturn, 1) := by decide +kernel
theorem dX5_bearer_0 : decode cX5_bearer 0 = .ok (.iconst 0, 1) := by decide +kernel
theorem dX5_bearer_1 : decode cX5_bearer 1 = .ok (.istore_n 2, 1) := by decide +kernel
theorem dX5_bearer_2 : decode cX5_bearer 2 = .ok (.iconst 0, 1) := by decide +kernel
theorem dX5_bearer_3 : decode cX5_bearer 3 = .ok (.istore_n 3, 1) := by decide +kernel
theorem dX5_bearer_4 : decode cX5_bearer 4 = .ok (.iconst 1, 1) := by decide +kernel
theorem dX5_bearer_5 : decode cX5_bearer 5 = .ok (.istore 4, 2) := by decide +kernel
theorem dX5_bearer_7 : decode cX5_bearer 7 = .ok (.iload 4, 2) := by decide +kernel
theorem dX5_bearer_9 : decode cX5_bearer 9 = .ok (.aload_n 0, 1) := by decide +kernel
theorem dX5_bearer_10 : decode cX5_bearer 10 = .ok (.getfield 9, 3) := by decide +kernel
theorem dX5_bearer_13 : decode cX5_bearer 13 = .ok (.if_icmp .ge 47, 3) := by decide +kernel
theorem dX5_bearer_16 : decode cX5_bearer 16 = .ok (.aload_n 0, 1) := by decide +kernel
theorem dX5_bearer_17 : decode cX5_bearer 17 = .ok (.iload_n 1, 1) := by decide +kernel
theorem dX5_bearer_18 : decode cX5_bearer 18 = .ok (.iload 4, 2) := by decide +kernel
theorem dX5_bearer_20 : decode cX5_bearer 20 = .ok (.invokevirtual 59, 3) := by decide +kernel
theorem dX5_bearer_23 : decode cX5_bearer 23 = .ok (.aload_n 0, 1) := by decide +kernel
theorem dX5_bearer_24 : decode cX5_bearer 24 = .ok (.iload_n 1, 1) := by decide +kernel
theorem dX5_bearer_25 : decode cX5_bearer 25 = .ok (.iload_n 2, 1) := by decide +kernel
theorem dX5_bearer_26 : decode cX5_bearer 26 = .ok (.invokevirtual 59, 3) := by decide +kernel
theorem dX5_bearer_29 : decode cX5_bearer 29 = .ok (.if_icmp .le 6, 3) := by decide +kernel
theorem dX5_bearer_32 : decode cX5_bearer 32 = .ok (.iload 4, 2) := by decide +kernel
theorem dX5_bearer_34 : decode cX5_bearer 34 = .ok (.istore_n 2, 1) := by decide +kernel
theorem dX5_bearer_35 : decode cX5_bearer 35 = .ok (.aload_n 0, 1) := by decide +kernel
theorem dX5_bearer_36 : decode cX5_bearer 36 = .ok (.iload_n 1, 1) := by decide +kernel
theorem dX5_bearer_37 : decode cX5_bearer 37 = .ok (.iload 4, 2) := by decide +kernel
theorem dX5_bearer_39 : decode cX5_bearer 39 = .ok (.invokevirtual 59, 3) := by decide +kernel
theorem dX5_bearer_42 : decode cX5_bearer 42 = .ok (.aload_n 0, 1) := by decide +kernel
theorem dX5_bearer_43 : decode cX5_bearer 43 = .ok (.iload_n 1, 1) := by decide +kernel
theorem dX5_bearer_44 : decode cX5_bearer 44 = .ok (.iload_n 3, 1) := by decide +kernel
theorem dX5_bearer_45 : decode cX5_bearer 45 = .ok (.invokevirtual 59, 3) := by decide +kernel
theorem dX5_bearer_48 : decode cX5_bearer 48 = .ok (.if_icmp .ge 6, 3) := by decide +kernel
theorem dX5_bearer_51 : decode cX5_bearer 51 = .ok (.iload 4, 2) := by decide +kernel
theorem dX5_bearer_53 : decode cX5_bearer 53 = .ok (.istore_n 3, 1) := by decide +kernel
theorem dX5_bearer_54 : decode cX5_bearer 54 = .ok (.iinc 4 1, 3) := by decide +kernel
theorem dX5_bearer_57 : decode cX5_bearer 57 = .ok (.goto (-50), 3) := by decide +kernel
theorem dX5_bearer_60 : decode cX5_bearer 60 = .ok (.aload_n 0, 1) := by decide +kernel
theorem dX5_bearer_61 : decode cX5_bearer 61 = .ok (.iload_n 1, 1) := by decide +kernel
theorem dX5_bearer_62 : decode cX5_bearer 62 = .ok (.iload_n 2, 1) := by decide +kernel
theorem dX5_bearer_63 : decode cX5_bearer 63 = .ok (.invokevirtual 59, 3) := by decide +kernel
theorem dX5_bearer_66 : decode cX5_bearer 66 = .ok (.ifCond .le 7, 3) := by decide +kernel
theorem dX5_bearer_69 : decode cX5_bearer 69 = .ok (.iload_n 2, 1) := by decide +kernel
theorem dX5_bearer_70 : decode cX5_bearer 70 = .ok (.goto 4, 3) := by decide +kernel
theorem dX5_bearer_73 : decode cX5_bearer 73 = .ok (.iload_n 3, 1) := by decide +kernel
theorem dX5_bearer_74 : decode cX5_bearer 74 = .ok (.ireturn, 1) := by decide +kernel
theorem dX5_valueBy_0 : decode cX5_valueBy 0 = .ok (.aload_n 0, 1) := by decide +kernel
theorem dX5_valueBy_1 : decode cX5_valueBy 1 = .ok (.iload_n 1, 1) := by decide +kernel
theorem dX5_valueBy_2 : decode cX5_valueBy 2 = .ok (.iload_n 2, 1) := by decide +kernel
theorem dX5_valueBy_3 : decode cX5_valueBy 3 = .ok (.aload_n 0, 1) := by decide +kernel
theorem dX5_valueBy_4 : decode cX5_valueBy 4 = .ok (.iload_n 2, 1) := by decide +kernel
theorem dX5_valueBy_5 : decode cX5_valueBy 5 = .ok (.invokevirtual 55, 3) := by decide +kernel
theorem dX5_valueBy_8 : decode cX5_valueBy 8 = .ok (.invokevirtual 74, 3) := by decide +kernel
theorem dX5_valueBy_11 : decode cX5_valueBy 11 = .ok (.ireturn, 1) := by decide +kernel
theorem dX5_sumBy_0 : decode cX5_sumBy 0 = .ok (.aload_n 0, 1) := by decide +kernel
theorem dX5_sumBy_1 : decode cX5_sumBy 1 = .ok (.iload_n 1, 1) := by decide +kernel
theorem dX5_sumBy_2 : decode cX5_sumBy 2 = .ok (.invokevirtual 55, 3) := by decide +kernel
theorem dX5_sumBy_5 : decode cX5_sumBy 5 = .ok (.istore_n 2, 1) := by decide +kernel
theorem dX5_sumBy_6 : decode cX5_sumBy 6 = .ok (.iconst 0, 1) := by decide +kernel
theorem dX5_sumBy_7 : decode cX5_sumBy 7 = .ok (.istore_n 3, 1) := by decide +kernel
theorem dX5_sumBy_8 : decode cX5_sumBy 8 = .ok (.iconst 0, 1) := by decide +kernel
theorem dX5_sumBy_9 : decode cX5_sumBy 9 = .ok (.istore 4, 2) := by decide +kernel
theorem dX5_sumBy_11 : decode cX5_sumBy 11 = .ok (.iload 4, 2) := by decide +kernel
theorem dX5_sumBy_13 : decode cX5_sumBy 13 = .ok (.aload_n 0, 1) := by decide +kernel
theorem dX5_sumBy_14 : decode cX5_sumBy 14 = .ok (.getfield 9, 3) := by decide +kernel
theorem dX5_sumBy_17 : decode cX5_sumBy 17 = .ok (.if_icmp .ge 20, 3) := by decide +kernel
theorem dX5_sumBy_20 : decode cX5_sumBy 20 = .ok (.iload_n 3, 1) := by decide +kernel
theorem dX5_sumBy_21 : decode cX5_sumBy 21 = .ok (.aload_n 0, 1) := by decide +kernel
theorem dX5_sumBy_22 : decode cX5_sumBy 22 = .ok (.iload 4, 2) := by decide +kernel
theorem dX5_sumBy_24 : decode cX5_sumBy 24 = .ok (.iload_n 1, 1) := by decide +kernel
theorem dX5_sumBy_25 : decode cX5_sumBy 25 = .ok (.iload_n 2, 1) := by decide +kernel
theorem dX5_sumBy_26 : decode cX5_sumBy 26 = .ok (.invokevirtual 74, 3) := by decide +kernel
theorem dX5_sumBy_29 : decode cX5_sumBy 29 = .ok (.iadd, 1) := by decide +kernel
theorem dX5_sumBy_30 : decode cX5_sumBy 30 = .ok (.istore_n 3, 1) := by decide +kernel
theorem dX5_sumBy_31 : decode cX5_sumBy 31 = .ok (.iinc 4 1, 3) := by decide +kernel
theorem dX5_sumBy_34 : decode cX5_sumBy 34 = .ok (.goto (-23), 3) := by decide +kernel
theorem dX5_sumBy_37 : decode cX5_sumBy 37 = .ok (.iload_n 3, 1) := by decide +kernel
theorem dX5_sumBy_38 : decode cX5_sumBy 38 = .ok (.ireturn, 1) := by decide +kernel
theorem dX5_valueOf_0 : decode cX5_valueOf 0 = .ok (.iconst 0, 1) := by decide +kernel
theorem dX5_valueOf_1 : decode cX5_valueOf 1 = .ok (.istore 4, 2) := by decide +kernel
theorem dX5_valueOf_3 : decode cX5_valueOf 3 = .ok (.iconst 0, 1) := by decide +kernel
theorem dX5_valueOf_4 : decode cX5_valueOf 4 = .ok (.istore 5, 2) := by decide +kernel
theorem dX5_valueOf_6 : decode cX5_valueOf 6 = .ok (.iload 5, 2) := by decide +kernel
theorem dX5_valueOf_8 : decode cX5_valueOf 8 = .ok (.aload_n 0, 1) := by decide +kernel
theorem dX5_valueOf_9 : decode cX5_valueOf 9 = .ok (.getfield 15, 3) := by decide +kernel
theorem dX5_valueOf_12 : decode cX5_valueOf 12 = .ok (.if_icmp .ge 61, 3) := by decide +kernel
theorem dX5_valueOf_15 : decode cX5_valueOf 15 = .ok (.iload_n 3, 1) := by decide +kernel
theorem dX5_valueOf_16 : decode cX5_valueOf 16 = .ok (.iload 5, 2) := by decide +kernel
theorem dX5_valueOf_18 : decode cX5_valueOf 18 = .ok (.invokestatic 63, 3) := by decide +kernel
theorem dX5_valueOf_21 : decode cX5_valueOf 21 = .ok (.ifCond .eq 15, 3) := by decide +kernel
theorem dX5_valueOf_24 : decode cX5_valueOf 24 = .ok (.iload 4, 2) := by decide +kernel
theorem dX5_valueOf_26 : decode cX5_valueOf 26 = .ok (.aload_n 0, 1) := by decide +kernel
theorem dX5_valueOf_27 : decode cX5_valueOf 27 = .ok (.iload 5, 2) := by decide +kernel
theorem dX5_valueOf_29 : decode cX5_valueOf 29 = .ok (.iload_n 1, 1) := by decide +kernel
theorem dX5_valueOf_30 : decode cX5_valueOf 30 = .ok (.invokevirtual 59, 3) := by decide +kernel
theorem dX5_valueOf_33 : decode cX5_valueOf 33 = .ok (.iadd, 1) := by decide +kernel
theorem dX5_valueOf_34 : decode cX5_valueOf 34 = .ok (.istore 4, 2) := by decide +kernel
theorem dX5_valueOf_36 : decode cX5_valueOf 36 = .ok (.iload_n 2, 1) := by decide +kernel
theorem dX5_valueOf_37 : decode cX5_valueOf 37 = .ok (.iload 5, 2) := by decide +kernel
theorem dX5_valueOf_39 : decode cX5_valueOf 39 = .ok (.invokestatic 63, 3) := by decide +kernel
theorem dX5_valueOf_42 : decode cX5_valueOf 42 = .ok (.ifCond .eq 25, 3) := by decide +kernel
theorem dX5_valueOf_45 : decode cX5_valueOf 45 = .ok (.aload_n 0, 1) := by decide +kernel
theorem dX5_valueOf_46 : decode cX5_valueOf 46 = .ok (.iload 5, 2) := by decide +kernel
theorem dX5_valueOf_48 : decode cX5_valueOf 48 = .ok (.invokevirtual 78, 3) := by decide +kernel
theorem dX5_valueOf_51 : decode cX5_valueOf 51 = .ok (.iload_n 1, 1) := by decide +kernel
theorem dX5_valueOf_52 : decode cX5_valueOf 52 = .ok (.if_icmp .ne 15, 3) := by decide +kernel
theorem dX5_valueOf_55 : decode cX5_valueOf 55 = .ok (.iload 4, 2) := by decide +kernel
theorem dX5_valueOf_57 : decode cX5_valueOf 57 = .ok (.aload_n 0, 1) := by decide +kernel
theorem dX5_valueOf_58 : decode cX5_valueOf 58 = .ok (.getfield 40, 3) := by decide +kernel
theorem dX5_valueOf_61 : decode cX5_valueOf 61 = .ok (.iload 5, 2) := by decide +kernel
theorem dX5_valueOf_63 : decode cX5_valueOf 63 = .ok (.iaload, 1) := by decide +kernel
theorem dX5_valueOf_64 : decode cX5_valueOf 64 = .ok (.isub, 1) := by decide +kernel
theorem dX5_valueOf_65 : decode cX5_valueOf 65 = .ok (.istore 4, 2) := by decide +kernel
theorem dX5_valueOf_67 : decode cX5_valueOf 67 = .ok (.iinc 5 1, 3) := by decide +kernel
theorem dX5_valueOf_70 : decode cX5_valueOf 70 = .ok (.goto (-64), 3) := by decide +kernel
theorem dX5_valueOf_73 : decode cX5_valueOf 73 = .ok (.iload 4, 2) := by decide +kernel
theorem dX5_valueOf_75 : decode cX5_valueOf 75 = .ok (.ireturn, 1) := by decide +kernel
theorem dJ6_bitCount_0f7a4_0 : decode cJ6_bitCount_0f7a4 0 = .ok (.iload_n 0, 1) := by decide +kernel
theorem dJ6_bitCount_0f7a4_1 : decode cJ6_bitCount_0f7a4 1 = .ok (.iload_n 0, 1) := by decide +kernel
theorem dJ6_bitCount_0f7a4_2 : decode cJ6_bitCount_0f7a4 2 = .ok (.iconst 1, 1) := by decide +kernel
theorem dJ6_bitCount_0f7a4_3 : decode cJ6_bitCount_0f7a4 3 = .ok (.iushr, 1) := by decide +kernel
theorem dJ6_bitCount_0f7a4_4 : decode cJ6_bitCount_0f7a4 4 = .ok (.ldc_w 265, 3) := by decide +kernel
theorem dJ6_bitCount_0f7a4_7 : decode cJ6_bitCount_0f7a4 7 = .ok (.iand, 1) := by decide +kernel
theorem dJ6_bitCount_0f7a4_8 : decode cJ6_bitCount_0f7a4 8 = .ok (.isub, 1) := by decide +kernel
theorem dJ6_bitCount_0f7a4_9 : decode cJ6_bitCount_0f7a4 9 = .ok (.istore_n 0, 1) := by decide +kernel
theorem dJ6_bitCount_0f7a4_10 : decode cJ6_bitCount_0f7a4 10 = .ok (.iload_n 0, 1) := by decide +kernel
theorem dJ6_bitCount_0f7a4_11 : decode cJ6_bitCount_0f7a4 11 = .ok (.ldc_w 266, 3) := by decide +kernel
theorem dJ6_bitCount_0f7a4_14 : decode cJ6_bitCount_0f7a4 14 = .ok (.iand, 1) := by decide +kernel
theorem dJ6_bitCount_0f7a4_15 : decode cJ6_bitCount_0f7a4 15 = .ok (.iload_n 0, 1) := by decide +kernel
theorem dJ6_bitCount_0f7a4_16 : decode cJ6_bitCount_0f7a4 16 = .ok (.iconst 2, 1) := by decide +kernel
theorem dJ6_bitCount_0f7a4_17 : decode cJ6_bitCount_0f7a4 17 = .ok (.iushr, 1) := by decide +kernel
theorem dJ6_bitCount_0f7a4_18 : decode cJ6_bitCount_0f7a4 18 = .ok (.ldc_w 266, 3) := by decide +kernel
theorem dJ6_bitCount_0f7a4_21 : decode cJ6_bitCount_0f7a4 21 = .ok (.iand, 1) := by decide +kernel
theorem dJ6_bitCount_0f7a4_22 : decode cJ6_bitCount_0f7a4 22 = .ok (.iadd, 1) := by decide +kernel
theorem dJ6_bitCount_0f7a4_23 : decode cJ6_bitCount_0f7a4 23 = .ok (.istore_n 0, 1) := by decide +kernel
theorem dJ6_bitCount_0f7a4_24 : decode cJ6_bitCount_0f7a4 24 = .ok (.iload_n 0, 1) := by decide +kernel
theorem dJ6_bitCount_0f7a4_25 : decode cJ6_bitCount_0f7a4 25 = .ok (.iload_n 0, 1) := by decide +kernel
theorem dJ6_bitCount_0f7a4_26 : decode cJ6_bitCount_0f7a4 26 = .ok (.iconst 4, 1) := by decide +kernel
theorem dJ6_bitCount_0f7a4_27 : decode cJ6_bitCount_0f7a4 27 = .ok (.iushr, 1) := by decide +kernel
theorem dJ6_bitCount_0f7a4_28 : decode cJ6_bitCount_0f7a4 28 = .ok (.iadd, 1) := by decide +kernel
theorem dJ6_bitCount_0f7a4_29 : decode cJ6_bitCount_0f7a4 29 = .ok (.ldc_w 267, 3) := by decide +kernel
theorem dJ6_bitCount_0f7a4_32 : decode cJ6_bitCount_0f7a4 32 = .ok (.iand, 1) := by decide +kernel
theorem dJ6_bitCount_0f7a4_33 : decode cJ6_bitCount_0f7a4 33 = .ok (.istore_n 0, 1) := by decide +kernel
theorem dJ6_bitCount_0f7a4_34 : decode cJ6_bitCount_0f7a4 34 = .ok (.iload_n 0, 1) := by decide +kernel
theorem dJ6_bitCount_0f7a4_35 : decode cJ6_bitCount_0f7a4 35 = .ok (.iload_n 0, 1) := by decide +kernel
theorem dJ6_bitCount_0f7a4_36 : decode cJ6_bitCount_0f7a4 36 = .ok (.bipush 8, 2) := by decide +kernel
theorem dJ6_bitCount_0f7a4_38 : decode cJ6_bitCount_0f7a4 38 = .ok (.iushr, 1) := by decide +kernel
theorem dJ6_bitCount_0f7a4_39 : decode cJ6_bitCount_0f7a4 39 = .ok (.iadd, 1) := by decide +kernel
theorem dJ6_bitCount_0f7a4_40 : decode cJ6_bitCount_0f7a4 40 = .ok (.istore_n 0, 1) := by decide +kernel
theorem dJ6_bitCount_0f7a4_41 : decode cJ6_bitCount_0f7a4 41 = .ok (.iload_n 0, 1) := by decide +kernel
theorem dJ6_bitCount_0f7a4_42 : decode cJ6_bitCount_0f7a4 42 = .ok (.iload_n 0, 1) := by decide +kernel
theorem dJ6_bitCount_0f7a4_43 : decode cJ6_bitCount_0f7a4 43 = .ok (.bipush 16, 2) := by decide +kernel
theorem dJ6_bitCount_0f7a4_45 : decode cJ6_bitCount_0f7a4 45 = .ok (.iushr, 1) := by decide +kernel
theorem dJ6_bitCount_0f7a4_46 : decode cJ6_bitCount_0f7a4 46 = .ok (.iadd, 1) := by decide +kernel
theorem dJ6_bitCount_0f7a4_47 : decode cJ6_bitCount_0f7a4 47 = .ok (.istore_n 0, 1) := by decide +kernel
theorem dJ6_bitCount_0f7a4_48 : decode cJ6_bitCount_0f7a4 48 = .ok (.iload_n 0, 1) := by decide +kernel
theorem dJ6_bitCount_0f7a4_49 : decode cJ6_bitCount_0f7a4 49 = .ok (.bipush 63, 2) := by decide +kernel
theorem dJ6_bitCount_0f7a4_51 : decode cJ6_bitCount_0f7a4 51 = .ok (.iand, 1) := by decide +kernel
theorem dJ6_bitCount_0f7a4_52 : decode cJ6_bitCount_0f7a4 52 = .ok (.ireturn, 1) := by decide +kernel
theorem dJ9_max_7cf53_0 : decode cJ9_max_7cf53 0 = .ok (.iload_n 0, 1) := by decide +kernel
theorem dJ9_max_7cf53_1 : decode cJ9_max_7cf53 1 = .ok (.iload_n 1, 1) := by decide +kernel
theorem dJ9_max_7cf53_2 : decode cJ9_max_7cf53 2 = .ok (.if_icmp .lt 7, 3) := by decide +kernel
theorem dJ9_max_7cf53_5 : decode cJ9_max_7cf53 5 = .ok (.iload_n 0, 1) := by decide +kernel
theorem dJ9_max_7cf53_6 : decode cJ9_max_7cf53 6 = .ok (.goto 4, 3) := by decide +kernel
theorem dJ9_max_7cf53_9 : decode cJ9_max_7cf53 9 = .ok (.iload_n 1, 1) := by decide +kernel
theorem dJ9_max_7cf53_10 : decode cJ9_max_7cf53 10 = .ok (.ireturn, 1) := by decide +kernel
theorem dX0_dueTo_0 : decode cX0_dueTo 0 = .ok (.iconst 0, 1) := by decide +kernel
theorem dX0_dueTo_1 : decode cX0_dueTo 1 = .ok (.istore_n 2, 1) := by decide +kernel
theorem dX0_dueTo_2 : decode cX0_dueTo 2 = .ok (.iconst 0, 1) := by decide +kernel
theorem dX0_dueTo_3 : decode cX0_dueTo 3 = .ok (.istore_n 3, 1) := by decide +kernel
theorem dX0_dueTo_4 : decode cX0_dueTo 4 = .ok (.iload_n 3, 1) := by decide +kernel
theorem dX0_dueTo_5 : decode cX0_dueTo 5 = .ok (.aload_n 0, 1) := by decide +kernel
theorem dX0_dueTo_6 : decode cX0_dueTo 6 = .ok (.getfield 9, 3) := by decide +kernel
theorem dX0_dueTo_9 : decode cX0_dueTo 9 = .ok (.if_icmp .ge 29, 3) := by decide +kernel
theorem dX0_dueTo_12 : decode cX0_dueTo 12 = .ok (.aload_n 0, 1) := by decide +kernel
theorem dX0_dueTo_13 : decode cX0_dueTo 13 = .ok (.getfield 15, 3) := by decide +kernel
theorem dX0_dueTo_16 : decode cX0_dueTo 16 = .ok (.iload_n 3, 1) := by decide +kernel
theorem dX0_dueTo_17 : decode cX0_dueTo 17 = .ok (.invokestatic 18, 3) := by decide +kernel
theorem dX0_dueTo_20 : decode cX0_dueTo 20 = .ok (.ifCond .eq 12, 3) := by decide +kernel
theorem dX0_dueTo_23 : decode cX0_dueTo 23 = .ok (.iload_n 2, 1) := by decide +kernel
theorem dX0_dueTo_24 : decode cX0_dueTo 24 = .ok (.aload_n 0, 1) := by decide +kernel
theorem dX0_dueTo_25 : decode cX0_dueTo 25 = .ok (.iload_n 3, 1) := by decide +kernel
theorem dX0_dueTo_26 : decode cX0_dueTo 26 = .ok (.iload_n 1, 1) := by decide +kernel
theorem dX0_dueTo_27 : decode cX0_dueTo 27 = .ok (.invokestatic 22, 3) := by decide +kernel
theorem dX0_dueTo_30 : decode cX0_dueTo 30 = .ok (.iadd, 1) := by decide +kernel
theorem dX0_dueTo_31 : decode cX0_dueTo 31 = .ok (.istore_n 2, 1) := by decide +kernel
theorem dX0_dueTo_32 : decode cX0_dueTo 32 = .ok (.iinc 3 1, 3) := by decide +kernel
theorem dX0_dueTo_35 : decode cX0_dueTo 35 = .ok (.goto (-31), 3) := by decide +kernel
theorem dX0_dueTo_38 : decode cX0_dueTo 38 = .ok (.iload_n 2, 1) := by decide +kernel
theorem dX0_dueTo_39 : decode cX0_dueTo 39 = .ok (.ireturn, 1) := by decide +kernel
theorem dX0_dueFor_0 : decode cX0_dueFor 0 = .ok (.aload_n 0, 1) := by decide +kernel
theorem dX0_dueFor_1 : decode cX0_dueFor 1 = .ok (.iload_n 1, 1) := by decide +kernel
theorem dX0_dueFor_2 : decode cX0_dueFor 2 = .ok (.invokevirtual 28, 3) := by decide +kernel
theorem dX0_dueFor_5 : decode cX0_dueFor 5 = .ok (.istore_n 3, 1) := by decide +kernel
theorem dX0_dueFor_6 : decode cX0_dueFor 6 = .ok (.iconst (-1), 1) := by decide +kernel
theorem dX0_dueFor_7 : decode cX0_dueFor 7 = .ok (.istore 4, 2) := by decide +kernel
theorem dX0_dueFor_9 : decode cX0_dueFor 9 = .ok (.iconst 0, 1) := by decide +kernel
theorem dX0_dueFor_10 : decode cX0_dueFor 10 = .ok (.istore 5, 2) := by decide +kernel
theorem dX0_dueFor_12 : decode cX0_dueFor 12 = .ok (.iconst 0, 1) := by decide +kernel
theorem dX0_dueFor_13 : decode cX0_dueFor 13 = .ok (.istore 6, 2) := by decide +kernel
theorem dX0_dueFor_15 : decode cX0_dueFor 15 = .ok (.iload 6, 2) := by decide +kernel
theorem dX0_dueFor_17 : decode cX0_dueFor 17 = .ok (.aload_n 0, 1) := by decide +kernel
theorem dX0_dueFor_18 : decode cX0_dueFor 18 = .ok (.getfield 32, 3) := by decide +kernel
theorem dX0_dueFor_21 : decode cX0_dueFor 21 = .ok (.if_icmp .ge 42, 3) := by decide +kernel
theorem dX0_dueFor_24 : decode cX0_dueFor 24 = .ok (.iload 6, 2) := by decide +kernel
theorem dX0_dueFor_26 : decode cX0_dueFor 26 = .ok (.iload_n 3, 1) := by decide +kernel
theorem dX0_dueFor_27 : decode cX0_dueFor 27 = .ok (.if_icmp .eq 30, 3) := by decide +kernel
theorem dX0_dueFor_30 : decode cX0_dueFor 30 = .ok (.aload_n 0, 1) := by decide +kernel
theorem dX0_dueFor_31 : decode cX0_dueFor 31 = .ok (.iload_n 1, 1) := by decide +kernel
theorem dX0_dueFor_32 : decode cX0_dueFor 32 = .ok (.iload 6, 2) := by decide +kernel
theorem dX0_dueFor_34 : decode cX0_dueFor 34 = .ok (.invokevirtual 35, 3) := by decide +kernel
theorem dX0_dueFor_37 : decode cX0_dueFor 37 = .ok (.ifCond .ge 20, 3) := by decide +kernel
theorem dX0_dueFor_40 : decode cX0_dueFor 40 = .ok (.iload 5, 2) := by decide +kernel
theorem dX0_dueFor_42 : decode cX0_dueFor 42 = .ok (.ifCond .ne 8, 3) := by decide +kernel
theorem dX0_dueFor_45 : decode cX0_dueFor 45 = .ok (.iload 6, 2) := by decide +kernel
theorem dX0_dueFor_47 : decode cX0_dueFor 47 = .ok (.goto 5, 3) := by decide +kernel
theorem dX0_dueFor_50 : decode cX0_dueFor 50 = .ok (.iload 4, 2) := by decide +kernel
theorem dX0_dueFor_52 : decode cX0_dueFor 52 = .ok (.istore 4, 2) := by decide +kernel
theorem dX0_dueFor_54 : decode cX0_dueFor 54 = .ok (.iinc 5 1, 3) := by decide +kernel
theorem dX0_dueFor_57 : decode cX0_dueFor 57 = .ok (.iinc 6 1, 3) := by decide +kernel
theorem dX0_dueFor_60 : decode cX0_dueFor 60 = .ok (.goto (-45), 3) := by decide +kernel
theorem dX0_dueFor_63 : decode cX0_dueFor 63 = .ok (.iload 5, 2) := by decide +kernel
theorem dX0_dueFor_65 : decode cX0_dueFor 65 = .ok (.ifCond .ne 5, 3) := by decide +kernel
theorem dX0_dueFor_68 : decode cX0_dueFor 68 = .ok (.iconst 0, 1) := by decide +kernel
theorem dX0_dueFor_69 : decode cX0_dueFor 69 = .ok (.ireturn, 1) := by decide +kernel
theorem dX0_dueFor_70 : decode cX0_dueFor 70 = .ok (.iload_n 2, 1) := by decide +kernel
theorem dX0_dueFor_71 : decode cX0_dueFor 71 = .ok (.iload_n 3, 1) := by decide +kernel
theorem dX0_dueFor_72 : decode cX0_dueFor 72 = .ok (.if_icmp .ne 11, 3) := by decide +kernel
theorem dX0_dueFor_75 : decode cX0_dueFor 75 = .ok (.aload_n 0, 1) := by decide +kernel
theorem dX0_dueFor_76 : decode cX0_dueFor 76 = .ok (.getfield 39, 3) := by decide +kernel
theorem dX0_dueFor_79 : decode cX0_dueFor 79 = .ok (.iload_n 1, 1) := by decide +kernel
theorem dX0_dueFor_80 : decode cX0_dueFor 80 = .ok (.iaload, 1) := by decide +kernel
theorem dX0_dueFor_81 : decode cX0_dueFor 81 = .ok (.ineg, 1) := by decide +kernel
theorem dX0_dueFor_82 : decode cX0_dueFor 82 = .ok (.ireturn, 1) := by decide +kernel
theorem dX0_dueFor_83 : decode cX0_dueFor 83 = .ok (.aload_n 0, 1) := by decide +kernel
theorem dX0_dueFor_84 : decode cX0_dueFor 84 = .ok (.iload_n 1, 1) := by decide +kernel
theorem dX0_dueFor_85 : decode cX0_dueFor 85 = .ok (.iload_n 2, 1) := by decide +kernel
theorem dX0_dueFor_86 : decode cX0_dueFor 86 = .ok (.invokevirtual 35, 3) := by decide +kernel
theorem dX0_dueFor_89 : decode cX0_dueFor 89 = .ok (.ifCond .lt 5, 3) := by decide +kernel
theorem dX0_dueFor_92 : decode cX0_dueFor 92 = .ok (.iconst 0, 1) := by decide +kernel
theorem dX0_dueFor_93 : decode cX0_dueFor 93 = .ok (.ireturn, 1) := by decide +kernel
theorem dX0_dueFor_94 : decode cX0_dueFor 94 = .ok (.iload_n 2, 1) := by decide +kernel
theorem dX0_dueFor_95 : decode cX0_dueFor 95 = .ok (.iload 4, 2) := by decide +kernel
theorem dX0_dueFor_97 : decode cX0_dueFor 97 = .ok (.if_icmp .ne 15, 3) := by decide +kernel
theorem dX0_dueFor_100 : decode cX0_dueFor 100 = .ok (.aload_n 0, 1) := by decide +kernel
theorem dX0_dueFor_101 : decode cX0_dueFor 101 = .ok (.getfield 39, 3) := by decide +kernel
theorem dX0_dueFor_104 : decode cX0_dueFor 104 = .ok (.iload_n 1, 1) := by decide +kernel
theorem dX0_dueFor_105 : decode cX0_dueFor 105 = .ok (.iaload, 1) := by decide +kernel
theorem dX0_dueFor_106 : decode cX0_dueFor 106 = .ok (.iload 5, 2) := by decide +kernel
theorem dX0_dueFor_108 : decode cX0_dueFor 108 = .ok (.irem, 1) := by decide +kernel
theorem dX0_dueFor_109 : decode cX0_dueFor 109 = .ok (.goto 4, 3) := by decide +kernel
theorem dX0_dueFor_112 : decode cX0_dueFor 112 = .ok (.iconst 0, 1) := by decide +kernel
theorem dX0_dueFor_113 : decode cX0_dueFor 113 = .ok (.istore 6, 2) := by decide +kernel
theorem dX0_dueFor_115 : decode cX0_dueFor 115 = .ok (.aload_n 0, 1) := by decide +kernel
theorem dX0_dueFor_116 : decode cX0_dueFor 116 = .ok (.getfield 39, 3) := by decide +kernel
theorem dX0_dueFor_119 : decode cX0_dueFor 119 = .ok (.iload_n 1, 1) := by decide +kernel
theorem dX0_dueFor_120 : decode cX0_dueFor 120 = .ok (.iaload, 1) := by decide +kernel
theorem dX0_dueFor_121 : decode cX0_dueFor 121 = .ok (.iload 5, 2) := by decide +kernel
theorem dX0_dueFor_123 : decode cX0_dueFor 123 = .ok (.idiv, 1) := by decide +kernel
theorem dX0_dueFor_124 : decode cX0_dueFor 124 = .ok (.iload 6, 2) := by decide +kernel
theorem dX0_dueFor_126 : decode cX0_dueFor 126 = .ok (.iadd, 1) := by decide +kernel
theorem dX0_dueFor_127 : decode cX0_dueFor 127 = .ok (.ireturn, 1) := by decide +kernel
theorem dX0_fewestPayments_0 : decode cX0_fewestPayments 0 = .ok (.iconst 0, 1) := by decide +kernel
theorem dX0_fewestPayments_1 : decode cX0_fewestPayments 1 = .ok (.istore_n 1, 1) := by decide +kernel
theorem dX0_fewestPayments_2 : decode cX0_fewestPayments 2 = .ok (.iconst 0, 1) := by decide +kernel
theorem dX0_fewestPayments_3 : decode cX0_fewestPayments 3 = .ok (.istore_n 2, 1) := by decide +kernel
theorem dX0_fewestPayments_4 : decode cX0_fewestPayments 4 = .ok (.iload_n 2, 1) := by decide +kernel
theorem dX0_fewestPayments_5 : decode cX0_fewestPayments 5 = .ok (.aload_n 0, 1) := by decide +kernel
theorem dX0_fewestPayments_6 : decode cX0_fewestPayments 6 = .ok (.arraylength, 1) := by decide +kernel
theorem dX0_fewestPayments_7 : decode cX0_fewestPayments 7 = .ok (.if_icmp .ge 21, 3) := by decide +kernel
theorem dX0_fewestPayments_10 : decode cX0_fewestPayments 10 = .ok (.aload_n 0, 1) := by decide +kernel
theorem dX0_fewestPayments_11 : decode cX0_fewestPayments 11 = .ok (.iload_n 2, 1) := by decide +kernel
theorem dX0_fewestPayments_12 : decode cX0_fewestPayments 12 = .ok (.iaload, 1) := by decide +kernel
theorem dX0_fewestPayments_13 : decode cX0_fewestPayments 13 = .ok (.ifCond .eq 9, 3) := by decide +kernel
theorem dX0_fewestPayments_16 : decode cX0_fewestPayments 16 = .ok (.iload_n 1, 1) := by decide +kernel
theorem dX0_fewestPayments_17 : decode cX0_fewestPayments 17 = .ok (.iconst 1, 1) := by decide +kernel
theorem dX0_fewestPayments_18 : decode cX0_fewestPayments 18 = .ok (.iload_n 2, 1) := by decide +kernel
theorem dX0_fewestPayments_19 : decode cX0_fewestPayments 19 = .ok (.ishl, 1) := by decide +kernel
theorem dX0_fewestPayments_20 : decode cX0_fewestPayments 20 = .ok (.ior, 1) := by decide +kernel
theorem dX0_fewestPayments_21 : decode cX0_fewestPayments 21 = .ok (.istore_n 1, 1) := by decide +kernel
theorem dX0_fewestPayments_22 : decode cX0_fewestPayments 22 = .ok (.iinc 2 1, 3) := by decide +kernel
theorem dX0_fewestPayments_25 : decode cX0_fewestPayments 25 = .ok (.goto (-21), 3) := by decide +kernel
theorem dX0_fewestPayments_28 : decode cX0_fewestPayments 28 = .ok (.iload_n 1, 1) := by decide +kernel
theorem dX0_fewestPayments_29 : decode cX0_fewestPayments 29 = .ok (.invokestatic 43, 3) := by decide +kernel
theorem dX0_fewestPayments_32 : decode cX0_fewestPayments 32 = .ok (.aload_n 0, 1) := by decide +kernel
theorem dX0_fewestPayments_33 : decode cX0_fewestPayments 33 = .ok (.iload_n 1, 1) := by decide +kernel
theorem dX0_fewestPayments_34 : decode cX0_fewestPayments 34 = .ok (.invokestatic 48, 3) := by decide +kernel
theorem dX0_fewestPayments_37 : decode cX0_fewestPayments 37 = .ok (.isub, 1) := by decide +kernel
theorem dX0_fewestPayments_38 : decode cX0_fewestPayments 38 = .ok (.ireturn, 1) := by decide +kernel
theorem dX0_mostSets_0 : decode cX0_mostSets 0 = .ok (.iload_n 1, 1) := by decide +kernel
theorem dX0_mostSets_1 : decode cX0_mostSets 1 = .ok (.ifCond .ne 5, 3) := by decide +kernel
theorem dX0_mostSets_4 : decode cX0_mostSets 4 = .ok (.iconst 0, 1) := by decide +kernel
theorem dX0_mostSets_5 : decode cX0_mostSets 5 = .ok (.ireturn, 1) := by decide +kernel
theorem dX0_mostSets_6 : decode cX0_mostSets 6 = .ok (.iconst 1, 1) := by decide +kernel
theorem dX0_mostSets_7 : decode cX0_mostSets 7 = .ok (.istore_n 2, 1) := by decide +kernel
theorem dX0_mostSets_8 : decode cX0_mostSets 8 = .ok (.iload_n 2, 1) := by decide +kernel
theorem dX0_mostSets_9 : decode cX0_mostSets 9 = .ok (.iload_n 1, 1) := by decide +kernel
theorem dX0_mostSets_10 : decode cX0_mostSets 10 = .ok (.if_icmp .ge 27, 3) := by decide +kernel
theorem dX0_mostSets_13 : decode cX0_mostSets 13 = .ok (.iload_n 2, 1) := by decide +kernel
theorem dX0_mostSets_14 : decode cX0_mostSets 14 = .ok (.iload_n 1, 1) := by decide +kernel
theorem dX0_mostSets_15 : decode cX0_mostSets 15 = .ok (.invokestatic 52, 3) := by decide +kernel
theorem dX0_mostSets_18 : decode cX0_mostSets 18 = .ok (.ifCond .eq 13, 3) := by decide +kernel
theorem dX0_mostSets_21 : decode cX0_mostSets 21 = .ok (.aload_n 0, 1) := by decide +kernel
theorem dX0_mostSets_22 : decode cX0_mostSets 22 = .ok (.iload_n 2, 1) := by decide +kernel
theorem dX0_mostSets_23 : decode cX0_mostSets 23 = .ok (.invokestatic 55, 3) := by decide +kernel
theorem dX0_mostSets_26 : decode cX0_mostSets 26 = .ok (.ifCond .ne 5, 3) := by decide +kernel
theorem dX0_mostSets_29 : decode cX0_mostSets 29 = .ok (.iconst 2, 1) := by decide +kernel
theorem dX0_mostSets_30 : decode cX0_mostSets 30 = .ok (.ireturn, 1) := by decide +kernel
theorem dX0_mostSets_31 : decode cX0_mostSets 31 = .ok (.iinc 2 1, 3) := by decide +kernel
theorem dX0_mostSets_34 : decode cX0_mostSets 34 = .ok (.goto (-26), 3) := by decide +kernel
theorem dX0_mostSets_37 : decode cX0_mostSets 37 = .ok (.iconst 1, 1) := by decide +kernel
theorem dX0_mostSets_38 : decode cX0_mostSets 38 = .ok (.ireturn, 1) := by decide +kernel
theorem dX0_sumOf_0 : decode cX0_sumOf 0 = .ok (.iconst 0, 1) := by decide +kernel
theorem dX0_sumOf_1 : decode cX0_sumOf 1 = .ok (.istore_n 2, 1) := by decide +kernel
theorem dX0_sumOf_2 : decode cX0_sumOf 2 = .ok (.iconst 0, 1) := by decide +kernel
theorem dX0_sumOf_3 : decode cX0_sumOf 3 = .ok (.istore_n 3, 1) := by decide +kernel
theorem dX0_sumOf_4 : decode cX0_sumOf 4 = .ok (.iload_n 3, 1) := by decide +kernel
theorem dX0_sumOf_5 : decode cX0_sumOf 5 = .ok (.aload_n 0, 1) := by decide +kernel
theorem dX0_sumOf_6 : decode cX0_sumOf 6 = .ok (.arraylength, 1) := by decide +kernel
theorem dX0_sumOf_7 : decode cX0_sumOf 7 = .ok (.if_icmp .ge 23, 3) := by decide +kernel
theorem dX0_sumOf_10 : decode cX0_sumOf 10 = .ok (.iload_n 1, 1) := by decide +kernel
theorem dX0_sumOf_11 : decode cX0_sumOf 11 = .ok (.iload_n 3, 1) := by decide +kernel
theorem dX0_sumOf_12 : decode cX0_sumOf 12 = .ok (.invokestatic 18, 3) := by decide +kernel
theorem dX0_sumOf_15 : decode cX0_sumOf 15 = .ok (.ifCond .eq 9, 3) := by decide +kernel
theorem dX0_sumOf_18 : decode cX0_sumOf 18 = .ok (.iload_n 2, 1) := by decide +kernel
theorem dX0_sumOf_19 : decode cX0_sumOf 19 = .ok (.aload_n 0, 1) := by decide +kernel
theorem dX0_sumOf_20 : decode cX0_sumOf 20 = .ok (.iload_n 3, 1) := by decide +kernel
theorem dX0_sumOf_21 : decode cX0_sumOf 21 = .ok (.iaload, 1) := by decide +kernel
theorem dX0_sumOf_22 : decode cX0_sumOf 22 = .ok (.iadd, 1) := by decide +kernel
theorem dX0_sumOf_23 : decode cX0_sumOf 23 = .ok (.istore_n 2, 1) := by decide +kernel
theorem dX0_sumOf_24 : decode cX0_sumOf 24 = .ok (.iinc 3 1, 3) := by decide +kernel
theorem dX0_sumOf_27 : decode cX0_sumOf 27 = .ok (.goto (-23), 3) := by decide +kernel
theorem dX0_sumOf_30 : decode cX0_sumOf 30 = .ok (.iload_n 2, 1) := by decide +kernel
theorem dX0_sumOf_31 : decode cX0_sumOf 31 = .ok (.ireturn, 1) := by decide +kernel
theorem dX1_fits_0 : decode cX1_fits 0 = .ok (.iconst 0, 1) := by decide +kernel
theorem dX1_fits_1 : decode cX1_fits 1 = .ok (.istore 5, 2) := by decide +kernel
theorem dX1_fits_3 : decode cX1_fits 3 = .ok (.iload 5, 2) := by decide +kernel
theorem dX1_fits_5 : decode cX1_fits 5 = .ok (.iload 4, 2) := by decide +kernel
theorem dX1_fits_7 : decode cX1_fits 7 = .ok (.if_icmp .ge 48, 3) := by decide +kernel
theorem dX1_fits_10 : decode cX1_fits 10 = .ok (.iload 5, 2) := by decide +kernel
theorem dX1_fits_12 : decode cX1_fits 12 = .ok (.aload_n 3, 1) := by decide +kernel
theorem dX1_fits_13 : decode cX1_fits 13 = .ok (.arraylength, 1) := by decide +kernel
theorem dX1_fits_14 : decode cX1_fits 14 = .ok (.if_icmp .ge 41, 3) := by decide +kernel
theorem dX1_fits_17 : decode cX1_fits 17 = .ok (.aload_n 3, 1) := by decide +kernel
theorem dX1_fits_18 : decode cX1_fits 18 = .ok (.iload 5, 2) := by decide +kernel
theorem dX1_fits_20 : decode cX1_fits 20 = .ok (.iaload, 1) := by decide +kernel
theorem dX1_fits_21 : decode cX1_fits 21 = .ok (.iload_n 2, 1) := by decide +kernel
theorem dX1_fits_22 : decode cX1_fits 22 = .ok (.iand, 1) := by decide +kernel
theorem dX1_fits_23 : decode cX1_fits 23 = .ok (.ifCond .eq 7, 3) := by decide +kernel
theorem dX1_fits_26 : decode cX1_fits 26 = .ok (.iconst 1, 1) := by decide +kernel
theorem dX1_fits_27 : decode cX1_fits 27 = .ok (.goto 4, 3) := by decide +kernel
theorem dX1_fits_30 : decode cX1_fits 30 = .ok (.iconst 0, 1) := by decide +kernel
theorem dX1_fits_31 : decode cX1_fits 31 = .ok (.istore 6, 2) := by decide +kernel
theorem dX1_fits_33 : decode cX1_fits 33 = .ok (.iload_n 0, 1) := by decide +kernel
theorem dX1_fits_34 : decode cX1_fits 34 = .ok (.iload_n 1, 1) := by decide +kernel
theorem dX1_fits_35 : decode cX1_fits 35 = .ok (.aload_n 3, 1) := by decide +kernel
theorem dX1_fits_36 : decode cX1_fits 36 = .ok (.iload 5, 2) := by decide +kernel
theorem dX1_fits_38 : decode cX1_fits 38 = .ok (.iaload, 1) := by decide +kernel
theorem dX1_fits_39 : decode cX1_fits 39 = .ok (.invokestatic 9, 3) := by decide +kernel
theorem dX1_fits_42 : decode cX1_fits 42 = .ok (.iload 6, 2) := by decide +kernel
theorem dX1_fits_44 : decode cX1_fits 44 = .ok (.if_icmp .eq 5, 3) := by decide +kernel
theorem dX1_fits_47 : decode cX1_fits 47 = .ok (.iconst 0, 1) := by decide +kernel
theorem dX1_fits_48 : decode cX1_fits 48 = .ok (.ireturn, 1) := by decide +kernel
theorem dX1_fits_49 : decode cX1_fits 49 = .ok (.iinc 5 1, 3) := by decide +kernel
theorem dX1_fits_52 : decode cX1_fits 52 = .ok (.goto (-49), 3) := by decide +kernel
theorem dX1_fits_55 : decode cX1_fits 55 = .ok (.iconst 1, 1) := by decide +kernel
theorem dX1_fits_56 : decode cX1_fits 56 = .ok (.ireturn, 1) := by decide +kernel
theorem dX1_explains_0 : decode cX1_explains 0 = .ok (.iconst 0, 1) := by decide +kernel
theorem dX1_explains_1 : decode cX1_explains 1 = .ok (.istore_n 3, 1) := by decide +kernel
theorem dX1_explains_2 : decode cX1_explains 2 = .ok (.iload_n 3, 1) := by decide +kernel
theorem dX1_explains_3 : decode cX1_explains 3 = .ok (.aload_n 0, 1) := by decide +kernel
theorem dX1_explains_4 : decode cX1_explains 4 = .ok (.getfield 15, 3) := by decide +kernel
theorem dX1_explains_7 : decode cX1_explains 7 = .ok (.if_icmp .ge 33, 3) := by decide +kernel
theorem dX1_explains_10 : decode cX1_explains 10 = .ok (.iload_n 2, 1) := by decide +kernel
theorem dX1_explains_11 : decode cX1_explains 11 = .ok (.iload_n 3, 1) := by decide +kernel
theorem dX1_explains_12 : decode cX1_explains 12 = .ok (.invokestatic 19, 3) := by decide +kernel
theorem dX1_explains_15 : decode cX1_explains 15 = .ok (.ifCond .eq 19, 3) := by decide +kernel
theorem dX1_explains_18 : decode cX1_explains 18 = .ok (.aload_n 0, 1) := by decide +kernel
theorem dX1_explains_19 : decode cX1_explains 19 = .ok (.iload_n 3, 1) := by decide +kernel
theorem dX1_explains_20 : decode cX1_explains 20 = .ok (.iload_n 1, 1) := by decide +kernel
theorem dX1_explains_21 : decode cX1_explains 21 = .ok (.invokevirtual 23, 3) := by decide +kernel
theorem dX1_explains_24 : decode cX1_explains 24 = .ok (.iload_n 1, 1) := by decide +kernel
theorem dX1_explains_25 : decode cX1_explains 25 = .ok (.iload_n 3, 1) := by decide +kernel
theorem dX1_explains_26 : decode cX1_explains 26 = .ok (.invokestatic 19, 3) := by decide +kernel
theorem dX1_explains_29 : decode cX1_explains 29 = .ok (.if_icmp .eq 5, 3) := by decide +kernel
theorem dX1_explains_32 : decode cX1_explains 32 = .ok (.iconst 0, 1) := by decide +kernel
theorem dX1_explains_33 : decode cX1_explains 33 = .ok (.ireturn, 1) := by decide +kernel
theorem dX1_explains_34 : decode cX1_explains 34 = .ok (.iinc 3 1, 3) := by decide +kernel
theorem dX1_explains_37 : decode cX1_explains 37 = .ok (.goto (-35), 3) := by decide +kernel
theorem dX1_explains_40 : decode cX1_explains 40 = .ok (.iconst 1, 1) := by decide +kernel
theorem dX1_explains_41 : decode cX1_explains 41 = .ok (.ireturn, 1) := by decide +kernel
theorem dX1_parts_0 : decode cX1_parts 0 = .ok (.lconst 1, 1) := by decide +kernel
theorem dX1_parts_1 : decode cX1_parts 1 = .ok (.iconst 2, 1) := by decide +kernel
theorem dX1_parts_2 : decode cX1_parts 2 = .ok (.iload_n 0, 1) := by decide +kernel
theorem dX1_parts_3 : decode cX1_parts 3 = .ok (.imul, 1) := by decide +kernel
theorem dX1_parts_4 : decode cX1_parts 4 = .ok (.lshl, 1) := by decide +kernel
theorem dX1_parts_5 : decode cX1_parts 5 = .ok (.lreturn, 1) := by decide +kernel
theorem dX1_halvings_0 : decode cX1_halvings 0 = .ok (.lload_n 0, 1) := by decide +kernel
theorem dX1_halvings_1 : decode cX1_halvings 1 = .ok (.iload_n 2, 1) := by decide +kernel
theorem dX1_halvings_2 : decode cX1_halvings 2 = .ok (.invokestatic 26, 3) := by decide +kernel
theorem dX1_halvings_5 : decode cX1_halvings 5 = .ok (.lor, 1) := by decide +kernel
theorem dX1_halvings_6 : decode cX1_halvings 6 = .ok (.lstore_n 3, 1) := by decide +kernel
theorem dX1_halvings_7 : decode cX1_halvings 7 = .ok (.iconst 0, 1) := by decide +kernel
theorem dX1_halvings_8 : decode cX1_halvings 8 = .ok (.istore 5, 2) := by decide +kernel
theorem dX1_halvings_10 : decode cX1_halvings 10 = .ok (.iload 5, 2) := by decide +kernel
theorem dX1_halvings_12 : decode cX1_halvings 12 = .ok (.bipush 24, 2) := by decide +kernel
theorem dX1_halvings_14 : decode cX1_halvings 14 = .ok (.if_icmp .ge 20, 3) := by decide +kernel
theorem dX1_halvings_17 : decode cX1_halvings 17 = .ok (.lload_n 3, 1) := by decide +kernel
theorem dX1_halvings_18 : decode cX1_halvings 18 = .ok (.iload 5, 2) := by decide +kernel
theorem dX1_halvings_20 : decode cX1_halvings 20 = .ok (.lshr, 1) := by decide +kernel
theorem dX1_halvings_21 : decode cX1_halvings 21 = .ok (.lconst 1, 1) := by decide +kernel
theorem dX1_halvings_22 : decode cX1_halvings 22 = .ok (.land, 1) := by decide +kernel
theorem dX1_halvings_23 : decode cX1_halvings 23 = .ok (.lconst 0, 1) := by decide +kernel
theorem dX1_halvings_24 : decode cX1_halvings 24 = .ok (.lcmp, 1) := by decide +kernel
theorem dX1_halvings_25 : decode cX1_halvings 25 = .ok (.ifCond .ne 9, 3) := by decide +kernel
theorem dX1_halvings_28 : decode cX1_halvings 28 = .ok (.iinc 5 1, 3) := by decide +kernel
theorem dX1_halvings_31 : decode cX1_halvings 31 = .ok (.goto (-21), 3) := by decide +kernel
theorem dX1_halvings_34 : decode cX1_halvings 34 = .ok (.iload 5, 2) := by decide +kernel
theorem dX1_halvings_36 : decode cX1_halvings 36 = .ok (.ireturn, 1) := by decide +kernel
theorem dX1_mean_0 : decode cX1_mean 0 = .ok (.iload_n 1, 1) := by decide +kernel
theorem dX1_mean_1 : decode cX1_mean 1 = .ok (.aload_n 0, 1) := by decide +kernel
theorem dX1_mean_2 : decode cX1_mean 2 = .ok (.getfield 15, 3) := by decide +kernel
theorem dX1_mean_5 : decode cX1_mean 5 = .ok (.if_icmp .lt 6, 3) := by decide +kernel
theorem dX1_mean_8 : decode cX1_mean 8 = .ok (.iload_n 3, 1) := by decide +kernel
theorem dX1_mean_9 : decode cX1_mean 9 = .ok (.i2l, 1) := by decide +kernel
theorem dX1_mean_10 : decode cX1_mean 10 = .ok (.lreturn, 1) := by decide +kernel
theorem dX1_mean_11 : decode cX1_mean 11 = .ok (.aload_n 0, 1) := by decide +kernel
theorem dX1_mean_12 : decode cX1_mean 12 = .ok (.iload_n 1, 1) := by decide +kernel
theorem dX1_mean_13 : decode cX1_mean 13 = .ok (.iload_n 2, 1) := by decide +kernel
theorem dX1_mean_14 : decode cX1_mean 14 = .ok (.invokevirtual 23, 3) := by decide +kernel
theorem dX1_mean_17 : decode cX1_mean 17 = .ok (.ifCond .eq 12, 3) := by decide +kernel
theorem dX1_mean_20 : decode cX1_mean 20 = .ok (.aload_n 0, 1) := by decide +kernel
theorem dX1_mean_21 : decode cX1_mean 21 = .ok (.getfield 32, 3) := by decide +kernel
theorem dX1_mean_24 : decode cX1_mean 24 = .ok (.iload_n 1, 1) := by decide +kernel
theorem dX1_mean_25 : decode cX1_mean 25 = .ok (.iaload, 1) := by decide +kernel
theorem dX1_mean_26 : decode cX1_mean 26 = .ok (.goto 4, 3) := by decide +kernel
theorem dX1_mean_29 : decode cX1_mean 29 = .ok (.iconst 0, 1) := by decide +kernel
theorem dX1_mean_30 : decode cX1_mean 30 = .ok (.istore 4, 2) := by decide +kernel
theorem dX1_mean_32 : decode cX1_mean 32 = .ok (.lconst 0, 1) := by decide +kernel
theorem dX1_mean_33 : decode cX1_mean 33 = .ok (.lstore 5, 2) := by decide +kernel
theorem dX1_mean_35 : decode cX1_mean 35 = .ok (.iload 4, 2) := by decide +kernel
theorem dX1_mean_37 : decode cX1_mean 37 = .ok (.ifCond .le 24, 3) := by decide +kernel
theorem dX1_mean_40 : decode cX1_mean 40 = .ok (.aload_n 0, 1) := by decide +kernel
theorem dX1_mean_41 : decode cX1_mean 41 = .ok (.iload_n 1, 1) := by decide +kernel
theorem dX1_mean_42 : decode cX1_mean 42 = .ok (.iconst 1, 1) := by decide +kernel
theorem dX1_mean_43 : decode cX1_mean 43 = .ok (.iadd, 1) := by decide +kernel
theorem dX1_mean_44 : decode cX1_mean 44 = .ok (.iload_n 2, 1) := by decide +kernel
theorem dX1_mean_45 : decode cX1_mean 45 = .ok (.iconst 1, 1) := by decide +kernel
theorem dX1_mean_46 : decode cX1_mean 46 = .ok (.iload_n 1, 1) := by decide +kernel
theorem dX1_mean_47 : decode cX1_mean 47 = .ok (.ishl, 1) := by decide +kernel
theorem dX1_mean_48 : decode cX1_mean 48 = .ok (.ior, 1) := by decide +kernel
theorem dX1_mean_49 : decode cX1_mean 49 = .ok (.iload_n 3, 1) := by decide +kernel
theorem dX1_mean_50 : decode cX1_mean 50 = .ok (.aload_n 0, 1) := by decide +kernel
theorem dX1_mean_51 : decode cX1_mean 51 = .ok (.iload_n 1, 1) := by decide +kernel
theorem dX1_mean_52 : decode cX1_mean 52 = .ok (.invokevirtual 36, 3) := by decide +kernel
theorem dX1_mean_55 : decode cX1_mean 55 = .ok (.iadd, 1) := by decide +kernel
theorem dX1_mean_56 : decode cX1_mean 56 = .ok (.invokestatic 40, 3) := by decide +kernel
theorem dX1_mean_59 : decode cX1_mean 59 = .ok (.lstore 5, 2) := by decide +kernel
theorem dX1_mean_61 : decode cX1_mean 61 = .ok (.lconst 0, 1) := by decide +kernel
theorem dX1_mean_62 : decode cX1_mean 62 = .ok (.lstore 7, 2) := by decide +kernel
theorem dX1_mean_64 : decode cX1_mean 64 = .ok (.iload 4, 2) := by decide +kernel
theorem dX1_mean_66 : decode cX1_mean 66 = .ok (.iconst 4, 1) := by decide +kernel
theorem dX1_mean_67 : decode cX1_mean 67 = .ok (.if_icmp .ge 14, 3) := by decide +kernel
theorem dX1_mean_70 : decode cX1_mean 70 = .ok (.aload_n 0, 1) := by decide +kernel
theorem dX1_mean_71 : decode cX1_mean 71 = .ok (.iload_n 1, 1) := by decide +kernel
theorem dX1_mean_72 : decode cX1_mean 72 = .ok (.iconst 1, 1) := by decide +kernel
theorem dX1_mean_73 : decode cX1_mean 73 = .ok (.iadd, 1) := by decide +kernel
theorem dX1_mean_74 : decode cX1_mean 74 = .ok (.iload_n 2, 1) := by decide +kernel
theorem dX1_mean_75 : decode cX1_mean 75 = .ok (.iload_n 3, 1) := by decide +kernel
theorem dX1_mean_76 : decode cX1_mean 76 = .ok (.invokestatic 40, 3) := by decide +kernel
theorem dX1_mean_79 : decode cX1_mean 79 = .ok (.lstore 7, 2) := by decide +kernel
theorem dX1_mean_81 : decode cX1_mean 81 = .ok (.iload 4, 2) := by decide +kernel
theorem dX1_mean_83 : decode cX1_mean 83 = .ok (.i2l, 1) := by decide +kernel
theorem dX1_mean_84 : decode cX1_mean 84 = .ok (.lload 5, 2) := by decide +kernel
theorem dX1_mean_86 : decode cX1_mean 86 = .ok (.lmul, 1) := by decide +kernel
theorem dX1_mean_87 : decode cX1_mean 87 = .ok (.iconst 4, 1) := by decide +kernel
theorem dX1_mean_88 : decode cX1_mean 88 = .ok (.iload 4, 2) := by decide +kernel
theorem dX1_mean_90 : decode cX1_mean 90 = .ok (.isub, 1) := by decide +kernel
theorem dX1_mean_91 : decode cX1_mean 91 = .ok (.i2l, 1) := by decide +kernel
theorem dX1_mean_92 : decode cX1_mean 92 = .ok (.lload 7, 2) := by decide +kernel
theorem dX1_mean_94 : decode cX1_mean 94 = .ok (.lmul, 1) := by decide +kernel
theorem dX1_mean_95 : decode cX1_mean 95 = .ok (.ladd, 1) := by decide +kernel
theorem dX1_mean_96 : decode cX1_mean 96 = .ok (.lreturn, 1) := by decide +kernel
theorem dX4_most_0 : decode cX4_most 0 = .ok (.aload_n 0, 1) := by decide +kernel
theorem dX4_most_1 : decode cX4_most 1 = .ok (.iconst 0, 1) := by decide +kernel
theorem dX4_most_2 : decode cX4_most 2 = .ok (.invokevirtual 9, 3) := by decide +kernel
theorem dX4_most_5 : decode cX4_most 5 = .ok (.istore_n 3, 1) := by decide +kernel
theorem dX4_most_6 : decode cX4_most 6 = .ok (.iconst 0, 1) := by decide +kernel
theorem dX4_most_7 : decode cX4_most 7 = .ok (.istore 4, 2) := by decide +kernel
theorem dX4_most_9 : decode cX4_most 9 = .ok (.aload_n 0, 1) := by decide +kernel
theorem dX4_most_10 : decode cX4_most 10 = .ok (.iconst 0, 1) := by decide +kernel
theorem dX4_most_11 : decode cX4_most 11 = .ok (.invokevirtual 15, 3) := by decide +kernel
theorem dX4_most_14 : decode cX4_most 14 = .ok (.istore 5, 2) := by decide +kernel
theorem dX4_most_16 : decode cX4_most 16 = .ok (.iconst 1, 1) := by decide +kernel
theorem dX4_most_17 : decode cX4_most 17 = .ok (.istore 6, 2) := by decide +kernel
theorem dX4_most_19 : decode cX4_most 19 = .ok (.iload 6, 2) := by decide +kernel
theorem dX4_most_21 : decode cX4_most 21 = .ok (.iload_n 3, 1) := by decide +kernel
theorem dX4_most_22 : decode cX4_most 22 = .ok (.if_icmp .gt 91, 3) := by decide +kernel
theorem dX4_most_25 : decode cX4_most 25 = .ok (.aload_n 0, 1) := by decide +kernel
theorem dX4_most_26 : decode cX4_most 26 = .ok (.iload 6, 2) := by decide +kernel
theorem dX4_most_28 : decode cX4_most 28 = .ok (.iload_n 3, 1) := by decide +kernel
theorem dX4_most_29 : decode cX4_most 29 = .ok (.iload_n 1, 1) := by decide +kernel
theorem dX4_most_30 : decode cX4_most 30 = .ok (.invokestatic 18, 3) := by decide +kernel
theorem dX4_most_33 : decode cX4_most 33 = .ok (.ifCond .ne 6, 3) := by decide +kernel
theorem dX4_most_36 : decode cX4_most 36 = .ok (.goto 71, 3) := by decide +kernel
theorem dX4_most_39 : decode cX4_most 39 = .ok (.aload_n 0, 1) := by decide +kernel
theorem dX4_most_40 : decode cX4_most 40 = .ok (.iload 6, 2) := by decide +kernel
theorem dX4_most_42 : decode cX4_most 42 = .ok (.invokevirtual 15, 3) := by decide +kernel
theorem dX4_most_45 : decode cX4_most 45 = .ok (.istore 7, 2) := by decide +kernel
theorem dX4_most_47 : decode cX4_most 47 = .ok (.iload 6, 2) := by decide +kernel
theorem dX4_most_49 : decode cX4_most 49 = .ok (.invokestatic 24, 3) := by decide +kernel
theorem dX4_most_52 : decode cX4_most 52 = .ok (.iload 4, 2) := by decide +kernel
theorem dX4_most_54 : decode cX4_most 54 = .ok (.invokestatic 24, 3) := by decide +kernel
theorem dX4_most_57 : decode cX4_most 57 = .ok (.if_icmp .ge 7, 3) := by decide +kernel
theorem dX4_most_60 : decode cX4_most 60 = .ok (.iconst 1, 1) := by decide +kernel
theorem dX4_most_61 : decode cX4_most 61 = .ok (.goto 4, 3) := by decide +kernel
theorem dX4_most_64 : decode cX4_most 64 = .ok (.iconst 0, 1) := by decide +kernel
theorem dX4_most_65 : decode cX4_most 65 = .ok (.istore 8, 2) := by decide +kernel
theorem dX4_most_67 : decode cX4_most 67 = .ok (.iload 7, 2) := by decide +kernel
theorem dX4_most_69 : decode cX4_most 69 = .ok (.iload 5, 2) := by decide +kernel
theorem dX4_most_71 : decode cX4_most 71 = .ok (.if_icmp .gt 15, 3) := by decide +kernel
theorem dX4_most_74 : decode cX4_most 74 = .ok (.iload 7, 2) := by decide +kernel
theorem dX4_most_76 : decode cX4_most 76 = .ok (.iload 5, 2) := by decide +kernel
theorem dX4_most_78 : decode cX4_most 78 = .ok (.if_icmp .ne 29, 3) := by decide +kernel
theorem dX4_most_81 : decode cX4_most 81 = .ok (.iload 8, 2) := by decide +kernel
theorem dX4_most_83 : decode cX4_most 83 = .ok (.ifCond .eq 24, 3) := by decide +kernel
theorem dX4_most_86 : decode cX4_most 86 = .ok (.iload_n 2, 1) := by decide +kernel
theorem dX4_most_87 : decode cX4_most 87 = .ok (.ifCond .eq 12, 3) := by decide +kernel
theorem dX4_most_90 : decode cX4_most 90 = .ok (.aload_n 0, 1) := by decide +kernel
theorem dX4_most_91 : decode cX4_most 91 = .ok (.iload 6, 2) := by decide +kernel
theorem dX4_most_93 : decode cX4_most 93 = .ok (.invokestatic 29, 3) := by decide +kernel
theorem dX4_most_96 : decode cX4_most 96 = .ok (.ifCond .eq 11, 3) := by decide +kernel
theorem dX4_most_99 : decode cX4_most 99 = .ok (.iload 6, 2) := by decide +kernel
theorem dX4_most_101 : decode cX4_most 101 = .ok (.istore 4, 2) := by decide +kernel
theorem dX4_most_103 : decode cX4_most 103 = .ok (.iload 7, 2) := by decide +kernel
theorem dX4_most_105 : decode cX4_most 105 = .ok (.istore 5, 2) := by decide +kernel
theorem dX4_most_107 : decode cX4_most 107 = .ok (.iinc 6 1, 3) := by decide +kernel
theorem dX4_most_110 : decode cX4_most 110 = .ok (.goto (-91), 3) := by decide +kernel
theorem dX4_most_113 : decode cX4_most 113 = .ok (.iload 4, 2) := by decide +kernel
theorem dX4_most_115 : decode cX4_most 115 = .ok (.ireturn, 1) := by decide +kernel
theorem dX4_fewest_0 : decode cX4_fewest 0 = .ok (.aload_n 0, 1) := by decide +kernel
theorem dX4_fewest_1 : decode cX4_fewest 1 = .ok (.iconst 0, 1) := by decide +kernel
theorem dX4_fewest_2 : decode cX4_fewest 2 = .ok (.invokevirtual 9, 3) := by decide +kernel
theorem dX4_fewest_5 : decode cX4_fewest 5 = .ok (.istore_n 3, 1) := by decide +kernel
theorem dX4_fewest_6 : decode cX4_fewest 6 = .ok (.bipush (-4), 2) := by decide +kernel
theorem dX4_fewest_8 : decode cX4_fewest 8 = .ok (.istore 4, 2) := by decide +kernel
theorem dX4_fewest_10 : decode cX4_fewest 10 = .ok (.iconst 5, 1) := by decide +kernel
theorem dX4_fewest_11 : decode cX4_fewest 11 = .ok (.istore 5, 2) := by decide +kernel
theorem dX4_fewest_13 : decode cX4_fewest 13 = .ok (.iconst 0, 1) := by decide +kernel
theorem dX4_fewest_14 : decode cX4_fewest 14 = .ok (.istore 6, 2) := by decide +kernel
theorem dX4_fewest_16 : decode cX4_fewest 16 = .ok (.iload 6, 2) := by decide +kernel
theorem dX4_fewest_18 : decode cX4_fewest 18 = .ok (.iload_n 3, 1) := by decide +kernel
theorem dX4_fewest_19 : decode cX4_fewest 19 = .ok (.if_icmp .gt 68, 3) := by decide +kernel
theorem dX4_fewest_22 : decode cX4_fewest 22 = .ok (.iload 6, 2) := by decide +kernel
theorem dX4_fewest_24 : decode cX4_fewest 24 = .ok (.invokestatic 24, 3) := by decide +kernel
theorem dX4_fewest_27 : decode cX4_fewest 27 = .ok (.iload 5, 2) := by decide +kernel
theorem dX4_fewest_29 : decode cX4_fewest 29 = .ok (.if_icmp .ge 52, 3) := by decide +kernel
theorem dX4_fewest_32 : decode cX4_fewest 32 = .ok (.aload_n 0, 1) := by decide +kernel
theorem dX4_fewest_33 : decode cX4_fewest 33 = .ok (.iload 6, 2) := by decide +kernel
theorem dX4_fewest_35 : decode cX4_fewest 35 = .ok (.iload_n 3, 1) := by decide +kernel
theorem dX4_fewest_36 : decode cX4_fewest 36 = .ok (.iconst 4, 1) := by decide +kernel
theorem dX4_fewest_37 : decode cX4_fewest 37 = .ok (.invokestatic 18, 3) := by decide +kernel
theorem dX4_fewest_40 : decode cX4_fewest 40 = .ok (.ifCond .ne 6, 3) := by decide +kernel
theorem dX4_fewest_43 : decode cX4_fewest 43 = .ok (.goto 38, 3) := by decide +kernel
theorem dX4_fewest_46 : decode cX4_fewest 46 = .ok (.aload_n 0, 1) := by decide +kernel
theorem dX4_fewest_47 : decode cX4_fewest 47 = .ok (.iload 6, 2) := by decide +kernel
theorem dX4_fewest_49 : decode cX4_fewest 49 = .ok (.invokevirtual 9, 3) := by decide +kernel
theorem dX4_fewest_52 : decode cX4_fewest 52 = .ok (.istore 7, 2) := by decide +kernel
theorem dX4_fewest_54 : decode cX4_fewest 54 = .ok (.iload_n 1, 1) := by decide +kernel
theorem dX4_fewest_55 : decode cX4_fewest 55 = .ok (.iload 7, 2) := by decide +kernel
theorem dX4_fewest_57 : decode cX4_fewest 57 = .ok (.invokestatic 33, 3) := by decide +kernel
theorem dX4_fewest_60 : decode cX4_fewest 60 = .ok (.ifCond .eq 21, 3) := by decide +kernel
theorem dX4_fewest_63 : decode cX4_fewest 63 = .ok (.iload_n 2, 1) := by decide +kernel
theorem dX4_fewest_64 : decode cX4_fewest 64 = .ok (.iload 7, 2) := by decide +kernel
theorem dX4_fewest_66 : decode cX4_fewest 66 = .ok (.iand, 1) := by decide +kernel
theorem dX4_fewest_67 : decode cX4_fewest 67 = .ok (.ifCond .ne 14, 3) := by decide +kernel
theorem dX4_fewest_70 : decode cX4_fewest 70 = .ok (.iload 6, 2) := by decide +kernel
theorem dX4_fewest_72 : decode cX4_fewest 72 = .ok (.istore 4, 2) := by decide +kernel
theorem dX4_fewest_74 : decode cX4_fewest 74 = .ok (.iload 6, 2) := by decide +kernel
theorem dX4_fewest_76 : decode cX4_fewest 76 = .ok (.invokestatic 24, 3) := by decide +kernel
theorem dX4_fewest_79 : decode cX4_fewest 79 = .ok (.istore 5, 2) := by decide +kernel
theorem dX4_fewest_81 : decode cX4_fewest 81 = .ok (.iinc 6 1, 3) := by decide +kernel
theorem dX4_fewest_84 : decode cX4_fewest 84 = .ok (.goto (-68), 3) := by decide +kernel
theorem dX4_fewest_87 : decode cX4_fewest 87 = .ok (.iload 4, 2) := by decide +kernel
theorem dX4_fewest_89 : decode cX4_fewest 89 = .ok (.ireturn, 1) := by decide +kernel
theorem dX4_isWalk_0 : decode cX4_isWalk 0 = .ok (.iload_n 1, 1) := by decide +kernel
theorem dX4_isWalk_1 : decode cX4_isWalk 1 = .ok (.iload_n 2, 1) := by decide +kernel
theorem dX4_isWalk_2 : decode cX4_isWalk 2 = .ok (.invokestatic 33, 3) := by decide +kernel
theorem dX4_isWalk_5 : decode cX4_isWalk 5 = .ok (.ifCond .eq 11, 3) := by decide +kernel
theorem dX4_isWalk_8 : decode cX4_isWalk 8 = .ok (.iload_n 1, 1) := by decide +kernel
theorem dX4_isWalk_9 : decode cX4_isWalk 9 = .ok (.invokestatic 24, 3) := by decide +kernel
theorem dX4_isWalk_12 : decode cX4_isWalk 12 = .ok (.iload_n 3, 1) := by decide +kernel
theorem dX4_isWalk_13 : decode cX4_isWalk 13 = .ok (.if_icmp .le 5, 3) := by decide +kernel
theorem dX4_isWalk_16 : decode cX4_isWalk 16 = .ok (.iconst 0, 1) := by decide +kernel
theorem dX4_isWalk_17 : decode cX4_isWalk 17 = .ok (.ireturn, 1) := by decide +kernel
theorem dX4_isWalk_18 : decode cX4_isWalk 18 = .ok (.iconst 0, 1) := by decide +kernel
theorem dX4_isWalk_19 : decode cX4_isWalk 19 = .ok (.istore 4, 2) := by decide +kernel
theorem dX4_isWalk_21 : decode cX4_isWalk 21 = .ok (.iconst 0, 1) := by decide +kernel
theorem dX4_isWalk_22 : decode cX4_isWalk 22 = .ok (.istore 5, 2) := by decide +kernel
theorem dX4_isWalk_24 : decode cX4_isWalk 24 = .ok (.iload 5, 2) := by decide +kernel
theorem dX4_isWalk_26 : decode cX4_isWalk 26 = .ok (.aload_n 0, 1) := by decide +kernel
theorem dX4_isWalk_27 : decode cX4_isWalk 27 = .ok (.getfield 37, 3) := by decide +kernel
theorem dX4_isWalk_30 : decode cX4_isWalk 30 = .ok (.if_icmp .ge 46, 3) := by decide +kernel
theorem dX4_isWalk_33 : decode cX4_isWalk 33 = .ok (.iload_n 1, 1) := by decide +kernel
theorem dX4_isWalk_34 : decode cX4_isWalk 34 = .ok (.iload 5, 2) := by decide +kernel
theorem dX4_isWalk_36 : decode cX4_isWalk 36 = .ok (.invokestatic 41, 3) := by decide +kernel
theorem dX4_isWalk_39 : decode cX4_isWalk 39 = .ok (.ifCond .eq 31, 3) := by decide +kernel
theorem dX4_isWalk_42 : decode cX4_isWalk 42 = .ok (.iconst 1, 1) := by decide +kernel
theorem dX4_isWalk_43 : decode cX4_isWalk 43 = .ok (.aload_n 0, 1) := by decide +kernel
theorem dX4_isWalk_44 : decode cX4_isWalk 44 = .ok (.getfield 44, 3) := by decide +kernel
theorem dX4_isWalk_47 : decode cX4_isWalk 47 = .ok (.iload 5, 2) := by decide +kernel
theorem dX4_isWalk_49 : decode cX4_isWalk 49 = .ok (.iaload, 1) := by decide +kernel
theorem dX4_isWalk_50 : decode cX4_isWalk 50 = .ok (.ishl, 1) := by decide +kernel
theorem dX4_isWalk_51 : decode cX4_isWalk 51 = .ok (.istore 6, 2) := by decide +kernel
theorem dX4_isWalk_53 : decode cX4_isWalk 53 = .ok (.iload 4, 2) := by decide +kernel
theorem dX4_isWalk_55 : decode cX4_isWalk 55 = .ok (.iload 6, 2) := by decide +kernel
theorem dX4_isWalk_57 : decode cX4_isWalk 57 = .ok (.iand, 1) := by decide +kernel
theorem dX4_isWalk_58 : decode cX4_isWalk 58 = .ok (.ifCond .eq 5, 3) := by decide +kernel
theorem dX4_isWalk_61 : decode cX4_isWalk 61 = .ok (.iconst 0, 1) := by decide +kernel
theorem dX4_isWalk_62 : decode cX4_isWalk 62 = .ok (.ireturn, 1) := by decide +kernel
theorem dX4_isWalk_63 : decode cX4_isWalk 63 = .ok (.iload 4, 2) := by decide +kernel
theorem dX4_isWalk_65 : decode cX4_isWalk 65 = .ok (.iload 6, 2) := by decide +kernel
theorem dX4_isWalk_67 : decode cX4_isWalk 67 = .ok (.ior, 1) := by decide +kernel
theorem dX4_isWalk_68 : decode cX4_isWalk 68 = .ok (.istore 4, 2) := by decide +kernel
theorem dX4_isWalk_70 : decode cX4_isWalk 70 = .ok (.iinc 5 1, 3) := by decide +kernel
theorem dX4_isWalk_73 : decode cX4_isWalk 73 = .ok (.goto (-49), 3) := by decide +kernel
theorem dX4_isWalk_76 : decode cX4_isWalk 76 = .ok (.iconst 1, 1) := by decide +kernel
theorem dX4_isWalk_77 : decode cX4_isWalk 77 = .ok (.ireturn, 1) := by decide +kernel
theorem dX4_isFair_0 : decode cX4_isFair 0 = .ok (.iconst 0, 1) := by decide +kernel
theorem dX4_isFair_1 : decode cX4_isFair 1 = .ok (.istore_n 2, 1) := by decide +kernel
theorem dX4_isFair_2 : decode cX4_isFair 2 = .ok (.iload_n 2, 1) := by decide +kernel
theorem dX4_isFair_3 : decode cX4_isFair 3 = .ok (.aload_n 0, 1) := by decide +kernel
theorem dX4_isFair_4 : decode cX4_isFair 4 = .ok (.getfield 48, 3) := by decide +kernel
theorem dX4_isFair_7 : decode cX4_isFair 7 = .ok (.if_icmp .ge 26, 3) := by decide +kernel
theorem dX4_isFair_10 : decode cX4_isFair 10 = .ok (.aload_n 0, 1) := by decide +kernel
theorem dX4_isFair_11 : decode cX4_isFair 11 = .ok (.iload_n 2, 1) := by decide +kernel
theorem dX4_isFair_12 : decode cX4_isFair 12 = .ok (.iload_n 1, 1) := by decide +kernel
theorem dX4_isFair_13 : decode cX4_isFair 13 = .ok (.invokevirtual 51, 3) := by decide +kernel
theorem dX4_isFair_16 : decode cX4_isFair 16 = .ok (.aload_n 0, 1) := by decide +kernel
theorem dX4_isFair_17 : decode cX4_isFair 17 = .ok (.iload_n 2, 1) := by decide +kernel
theorem dX4_isFair_18 : decode cX4_isFair 18 = .ok (.iconst 0, 1) := by decide +kernel
theorem dX4_isFair_19 : decode cX4_isFair 19 = .ok (.invokevirtual 51, 3) := by decide +kernel
theorem dX4_isFair_22 : decode cX4_isFair 22 = .ok (.if_icmp .ge 5, 3) := by decide +kernel
theorem dX4_isFair_25 : decode cX4_isFair 25 = .ok (.iconst 0, 1) := by decide +kernel
theorem dX4_isFair_26 : decode cX4_isFair 26 = .ok (.ireturn, 1) := by decide +kernel
theorem dX4_isFair_27 : decode cX4_isFair 27 = .ok (.iinc 2 1, 3) := by decide +kernel
theorem dX4_isFair_30 : decode cX4_isFair 30 = .ok (.goto (-28), 3) := by decide +kernel
theorem dX4_isFair_33 : decode cX4_isFair 33 = .ok (.iconst 1, 1) := by decide +kernel
theorem dX4_isFair_34 : decode cX4_isFair 34 = .ok (.ireturn, 1) := by decide +kernel
theorem dX4_selfish_0 : decode cX4_selfish 0 = .ok (.aload_n 0, 1) := by decide +kernel
theorem dX4_selfish_1 : decode cX4_selfish 1 = .ok (.bipush 11, 2) := by decide +kernel
theorem dX4_selfish_3 : decode cX4_selfish 3 = .ok (.iconst 0, 1) := by decide +kernel
theorem dX4_selfish_4 : decode cX4_selfish 4 = .ok (.aload_n 0, 1) := by decide +kernel
theorem dX4_selfish_5 : decode cX4_selfish 5 = .ok (.iconst 0, 1) := by decide +kernel
theorem dX4_selfish_6 : decode cX4_selfish 6 = .ok (.invokevirtual 9, 3) := by decide +kernel
theorem dX4_selfish_9 : decode cX4_selfish 9 = .ok (.iload_n 1, 1) := by decide +kernel
theorem dX4_selfish_10 : decode cX4_selfish 10 = .ok (.invokestatic 55, 3) := by decide +kernel
theorem dX4_selfish_13 : decode cX4_selfish 13 = .ok (.ireturn, 1) := by decide +kernel
theorem dX4_play_0 : decode cX4_play 0 = .ok (.iload_n 1, 1) := by decide +kernel
theorem dX4_play_1 : decode cX4_play 1 = .ok (.ifCond .ge 5, 3) := by decide +kernel
theorem dX4_play_4 : decode cX4_play 4 = .ok (.iload_n 2, 1) := by decide +kernel
theorem dX4_play_5 : decode cX4_play 5 = .ok (.ireturn, 1) := by decide +kernel
theorem dX4_play_6 : decode cX4_play 6 = .ok (.aload_n 0, 1) := by decide +kernel
theorem dX4_play_7 : decode cX4_play 7 = .ok (.iload_n 1, 1) := by decide +kernel
theorem dX4_play_8 : decode cX4_play 8 = .ok (.iconst 1, 1) := by decide +kernel
theorem dX4_play_9 : decode cX4_play 9 = .ok (.isub, 1) := by decide +kernel
theorem dX4_play_10 : decode cX4_play 10 = .ok (.iload_n 2, 1) := by decide +kernel
theorem dX4_play_11 : decode cX4_play 11 = .ok (.iload_n 3, 1) := by decide +kernel
theorem dX4_play_12 : decode cX4_play 12 = .ok (.iload 4, 2) := by decide +kernel
theorem dX4_play_14 : decode cX4_play 14 = .ok (.invokestatic 55, 3) := by decide +kernel
theorem dX4_play_17 : decode cX4_play 17 = .ok (.istore 5, 2) := by decide +kernel
theorem dX4_play_19 : decode cX4_play 19 = .ok (.aload_n 0, 1) := by decide +kernel
theorem dX4_play_20 : decode cX4_play 20 = .ok (.iload_n 1, 1) := by decide +kernel
theorem dX4_play_21 : decode cX4_play 21 = .ok (.invokestatic 59, 3) := by decide +kernel
theorem dX4_play_24 : decode cX4_play 24 = .ok (.istore 6, 2) := by decide +kernel
theorem dX4_play_26 : decode cX4_play 26 = .ok (.iload_n 3, 1) := by decide +kernel
theorem dX4_play_27 : decode cX4_play 27 = .ok (.aload_n 0, 1) := by decide +kernel
theorem dX4_play_28 : decode cX4_play 28 = .ok (.iload_n 1, 1) := by decide +kernel
theorem dX4_play_29 : decode cX4_play 29 = .ok (.invokevirtual 63, 3) := by decide +kernel
theorem dX4_play_32 : decode cX4_play 32 = .ok (.iand, 1) := by decide +kernel
theorem dX4_play_33 : decode cX4_play 33 = .ok (.istore 7, 2) := by decide +kernel
theorem dX4_play_35 : decode cX4_play 35 = .ok (.iload 6, 2) := by decide +kernel
theorem dX4_play_37 : decode cX4_play 37 = .ok (.iload 4, 2) := by decide +kernel
theorem dX4_play_39 : decode cX4_play 39 = .ok (.if_icmp .eq 8, 3) := by decide +kernel
theorem dX4_play_42 : decode cX4_play 42 = .ok (.iload 7, 2) := by decide +kernel
theorem dX4_play_44 : decode cX4_play 44 = .ok (.ifCond .ne 6, 3) := by decide +kernel
theorem dX4_play_47 : decode cX4_play 47 = .ok (.iload 5, 2) := by decide +kernel
theorem dX4_play_49 : decode cX4_play 49 = .ok (.ireturn, 1) := by decide +kernel
theorem dX4_play_50 : decode cX4_play 50 = .ok (.aload_n 0, 1) := by decide +kernel
theorem dX4_play_51 : decode cX4_play 51 = .ok (.iload 6, 2) := by decide +kernel
theorem dX4_play_53 : decode cX4_play 53 = .ok (.iload 5, 2) := by decide +kernel
theorem dX4_play_55 : decode cX4_play 55 = .ok (.invokevirtual 51, 3) := by decide +kernel
theorem dX4_play_58 : decode cX4_play 58 = .ok (.istore 8, 2) := by decide +kernel
theorem dX4_play_60 : decode cX4_play 60 = .ok (.iconst 0, 1) := by decide +kernel
theorem dX4_play_61 : decode cX4_play 61 = .ok (.istore 9, 2) := by decide +kernel
theorem dX4_play_63 : decode cX4_play 63 = .ok (.iload 9, 2) := by decide +kernel
theorem dX4_play_65 : decode cX4_play 65 = .ok (.aload_n 0, 1) := by decide +kernel
theorem dX4_play_66 : decode cX4_play 66 = .ok (.getfield 37, 3) := by decide +kernel
theorem dX4_play_69 : decode cX4_play 69 = .ok (.if_icmp .ge 62, 3) := by decide +kernel
theorem dX4_play_72 : decode cX4_play 72 = .ok (.iload 7, 2) := by decide +kernel
theorem dX4_play_74 : decode cX4_play 74 = .ok (.iload 9, 2) := by decide +kernel
theorem dX4_play_76 : decode cX4_play 76 = .ok (.invokestatic 41, 3) := by decide +kernel
theorem dX4_play_79 : decode cX4_play 79 = .ok (.ifCond .eq 46, 3) := by decide +kernel
theorem dX4_play_82 : decode cX4_play 82 = .ok (.aload_n 0, 1) := by decide +kernel
theorem dX4_play_83 : decode cX4_play 83 = .ok (.iload_n 1, 1) := by decide +kernel
theorem dX4_play_84 : decode cX4_play 84 = .ok (.iconst 1, 1) := by decide +kernel
theorem dX4_play_85 : decode cX4_play 85 = .ok (.isub, 1) := by decide +kernel
theorem dX4_play_86 : decode cX4_play 86 = .ok (.iload_n 2, 1) := by decide +kernel
theorem dX4_play_87 : decode cX4_play 87 = .ok (.iconst 1, 1) := by decide +kernel
theorem dX4_play_88 : decode cX4_play 88 = .ok (.iload 9, 2) := by decide +kernel
theorem dX4_play_90 : decode cX4_play 90 = .ok (.ishl, 1) := by decide +kernel
theorem dX4_play_91 : decode cX4_play 91 = .ok (.ior, 1) := by decide +kernel
theorem dX4_play_92 : decode cX4_play 92 = .ok (.iload_n 3, 1) := by decide +kernel
theorem dX4_play_93 : decode cX4_play 93 = .ok (.iload 4, 2) := by decide +kernel
theorem dX4_play_95 : decode cX4_play 95 = .ok (.invokestatic 55, 3) := by decide +kernel
theorem dX4_play_98 : decode cX4_play 98 = .ok (.istore 10, 2) := by decide +kernel
theorem dX4_play_100 : decode cX4_play 100 = .ok (.aload_n 0, 1) := by decide +kernel
theorem dX4_play_101 : decode cX4_play 101 = .ok (.iload 6, 2) := by decide +kernel
theorem dX4_play_103 : decode cX4_play 103 = .ok (.iload 10, 2) := by decide +kernel
theorem dX4_play_105 : decode cX4_play 105 = .ok (.invokevirtual 51, 3) := by decide +kernel
theorem dX4_play_108 : decode cX4_play 108 = .ok (.istore 11, 2) := by decide +kernel
theorem dX4_play_110 : decode cX4_play 110 = .ok (.iload 11, 2) := by decide +kernel
theorem dX4_play_112 : decode cX4_play 112 = .ok (.iload 8, 2) := by decide +kernel
theorem dX4_play_114 : decode cX4_play 114 = .ok (.if_icmp .le 11, 3) := by decide +kernel
theorem dX4_play_117 : decode cX4_play 117 = .ok (.iload 11, 2) := by decide +kernel
theorem dX4_play_119 : decode cX4_play 119 = .ok (.istore 8, 2) := by decide +kernel
theorem dX4_play_121 : decode cX4_play 121 = .ok (.iload 10, 2) := by decide +kernel
theorem dX4_play_123 : decode cX4_play 123 = .ok (.istore 5, 2) := by decide +kernel
theorem dX4_play_125 : decode cX4_play 125 = .ok (.iinc 9 1, 3) := by decide +kernel
theorem dX4_play_128 : decode cX4_play 128 = .ok (.goto (-65), 3) := by decide +kernel
theorem dX4_play_131 : decode cX4_play 131 = .ok (.iload 5, 2) := by decide +kernel
theorem dX4_play_133 : decode cX4_play 133 = .ok (.ireturn, 1) := by decide +kernel
theorem dX4_chooser_0 : decode cX4_chooser 0 = .ok (.aload_n 0, 1) := by decide +kernel
theorem dX4_chooser_1 : decode cX4_chooser 1 = .ok (.getfield 48, 3) := by decide +kernel
theorem dX4_chooser_4 : decode cX4_chooser 4 = .ok (.ifCond .le 12, 3) := by decide +kernel
theorem dX4_chooser_7 : decode cX4_chooser 7 = .ok (.iload_n 1, 1) := by decide +kernel
theorem dX4_chooser_8 : decode cX4_chooser 8 = .ok (.aload_n 0, 1) := by decide +kernel
theorem dX4_chooser_9 : decode cX4_chooser 9 = .ok (.getfield 48, 3) := by decide +kernel
theorem dX4_chooser_12 : decode cX4_chooser 12 = .ok (.irem, 1) := by decide +kernel
theorem dX4_chooser_13 : decode cX4_chooser 13 = .ok (.goto 4, 3) := by decide +kernel
theorem dX4_chooser_16 : decode cX4_chooser 16 = .ok (.iconst 0, 1) := by decide +kernel
theorem dX4_chooser_17 : decode cX4_chooser 17 = .ok (.ireturn, 1) := by decide +kernel
end
section
theorem dX2_init_0 : decode cX2_init 0 = .ok (.aload_n 0, 1) := by decide +kernel
theorem dX2_init_1 : decode cX2_init 1 = .ok (.invokespecial 3, 3) := by decide +kernel
theorem dX2_init_4 : decode cX2_init 4 = .ok (.aload_n 0, 1) := by decide +kernel
theorem dX2_init_5 : decode cX2_init 5 = .ok (.iconst 4, 1) := by decide +kernel
theorem dX2_init_6 : decode cX2_init 6 = .ok (.newarray .int, 2) := by decide +kernel
theorem dX2_init_8 : decode cX2_init 8 = .ok (.dup, 1) := by decide +kernel
theorem dX2_init_9 : decode cX2_init 9 = .ok (.iconst 0, 1) := by decide +kernel
theorem dX2_init_10 : decode cX2_init 10 = .ok (.iconst (-1), 1) := by decide +kernel
theorem dX2_init_11 : decode cX2_init 11 = .ok (.iastore, 1) := by decide +kernel
theorem dX2_init_12 : decode cX2_init 12 = .ok (.dup, 1) := by decide +kernel
theorem dX2_init_13 : decode cX2_init 13 = .ok (.iconst 1, 1) := by decide +kernel
theorem dX2_init_14 : decode cX2_init 14 = .ok (.iconst (-1), 1) := by decide +kernel
theorem dX2_init_15 : decode cX2_init 15 = .ok (.iastore, 1) := by decide +kernel
theorem dX2_init_16 : decode cX2_init 16 = .ok (.dup, 1) := by decide +kernel
theorem dX2_init_17 : decode cX2_init 17 = .ok (.iconst 2, 1) := by decide +kernel
theorem dX2_init_18 : decode cX2_init 18 = .ok (.iconst (-1), 1) := by decide +kernel
theorem dX2_init_19 : decode cX2_init 19 = .ok (.iastore, 1) := by decide +kernel
theorem dX2_init_20 : decode cX2_init 20 = .ok (.dup, 1) := by decide +kernel
theorem dX2_init_21 : decode cX2_init 21 = .ok (.iconst 3, 1) := by decide +kernel
theorem dX2_init_22 : decode cX2_init 22 = .ok (.iconst (-1), 1) := by decide +kernel
theorem dX2_init_23 : decode cX2_init 23 = .ok (.iastore, 1) := by decide +kernel
theorem dX2_init_24 : decode cX2_init 24 = .ok (.putfield 9, 3) := by decide +kernel
theorem dX2_init_27 : decode cX2_init 27 = .ok (.aload_n 0, 1) := by decide +kernel
theorem dX2_init_28 : decode cX2_init 28 = .ok (.iconst 4, 1) := by decide +kernel
theorem dX2_init_29 : decode cX2_init 29 = .ok (.newarray .int, 2) := by decide +kernel
theorem dX2_init_31 : decode cX2_init 31 = .ok (.putfield 15, 3) := by decide +kernel
theorem dX2_init_34 : decode cX2_init 34 = .ok (.aload_n 0, 1) := by decide +kernel
theorem dX2_init_35 : decode cX2_init 35 = .ok (.bipush 64, 2) := by decide +kernel
theorem dX2_init_37 : decode cX2_init 37 = .ok (.newarray .long, 2) := by decide +kernel
theorem dX2_init_39 : decode cX2_init 39 = .ok (.putfield 18, 3) := by decide +kernel
theorem dX2_init_42 : decode cX2_init 42 = .ok (.return_, 1) := by decide +kernel
theorem dX2_holds_0 : decode cX2_holds 0 = .ok (.aload_n 0, 1) := by decide +kernel
theorem dX2_holds_1 : decode cX2_holds 1 = .ok (.getfield 9, 3) := by decide +kernel
theorem dX2_holds_4 : decode cX2_holds 4 = .ok (.iload_n 1, 1) := by decide +kernel
theorem dX2_holds_5 : decode cX2_holds 5 = .ok (.iaload, 1) := by decide +kernel
theorem dX2_holds_6 : decode cX2_holds 6 = .ok (.iconst (-1), 1) := by decide +kernel
theorem dX2_holds_7 : decode cX2_holds 7 = .ok (.if_icmp .eq 7, 3) := by decide +kernel
theorem dX2_holds_10 : decode cX2_holds 10 = .ok (.iconst 1, 1) := by decide +kernel
theorem dX2_holds_11 : decode cX2_holds 11 = .ok (.goto 4, 3) := by decide +kernel
theorem dX2_holds_14 : decode cX2_holds 14 = .ok (.iconst 0, 1) := by decide +kernel
theorem dX2_holds_15 : decode cX2_holds 15 = .ok (.ireturn, 1) := by decide +kernel
theorem dX2_faultOf_0 : decode cX2_faultOf 0 = .ok (.iload_n 1, 1) := by decide +kernel
theorem dX2_faultOf_1 : decode cX2_faultOf 1 = .ok (.invokestatic 22, 3) := by decide +kernel
theorem dX2_faultOf_4 : decode cX2_faultOf 4 = .ok (.ifCond .eq 10, 3) := by decide +kernel
theorem dX2_faultOf_7 : decode cX2_faultOf 7 = .ok (.iload_n 2, 1) := by decide +kernel
theorem dX2_faultOf_8 : decode cX2_faultOf 8 = .ok (.invokestatic 26, 3) := by decide +kernel
theorem dX2_faultOf_11 : decode cX2_faultOf 11 = .ok (.ifCond .ne 5, 3) := by decide +kernel
theorem dX2_faultOf_14 : decode cX2_faultOf 14 = .ok (.iconst (-1), 1) := by decide +kernel
theorem dX2_faultOf_15 : decode cX2_faultOf 15 = .ok (.ireturn, 1) := by decide +kernel
theorem dX2_faultOf_16 : decode cX2_faultOf 16 = .ok (.aload_n 0, 1) := by decide +kernel
theorem dX2_faultOf_17 : decode cX2_faultOf 17 = .ok (.iload_n 1, 1) := by decide +kernel
theorem dX2_faultOf_18 : decode cX2_faultOf 18 = .ok (.invokevirtual 29, 3) := by decide +kernel
theorem dX2_faultOf_21 : decode cX2_faultOf 21 = .ok (.ifCond .ne 6, 3) := by decide +kernel
theorem dX2_faultOf_24 : decode cX2_faultOf 24 = .ok (.bipush (-11), 2) := by decide +kernel
theorem dX2_faultOf_26 : decode cX2_faultOf 26 = .ok (.ireturn, 1) := by decide +kernel
theorem dX2_faultOf_27 : decode cX2_faultOf 27 = .ok (.aload_n 0, 1) := by decide +kernel
theorem dX2_faultOf_28 : decode cX2_faultOf 28 = .ok (.getfield 9, 3) := by decide +kernel
theorem dX2_faultOf_31 : decode cX2_faultOf 31 = .ok (.iload_n 1, 1) := by decide +kernel
theorem dX2_faultOf_32 : decode cX2_faultOf 32 = .ok (.iaload, 1) := by decide +kernel
theorem dX2_faultOf_33 : decode cX2_faultOf 33 = .ok (.iload_n 2, 1) := by decide +kernel
theorem dX2_faultOf_34 : decode cX2_faultOf 34 = .ok (.if_icmp .eq 6, 3) := by decide +kernel
theorem dX2_faultOf_37 : decode cX2_faultOf 37 = .ok (.bipush (-12), 2) := by decide +kernel
theorem dX2_faultOf_39 : decode cX2_faultOf 39 = .ok (.ireturn, 1) := by decide +kernel
theorem dX2_faultOf_40 : decode cX2_faultOf 40 = .ok (.aload_n 0, 1) := by decide +kernel
theorem dX2_faultOf_41 : decode cX2_faultOf 41 = .ok (.iload_n 1, 1) := by decide +kernel
theorem dX2_faultOf_42 : decode cX2_faultOf 42 = .ok (.iload_n 3, 1) := by decide +kernel
theorem dX2_faultOf_43 : decode cX2_faultOf 43 = .ok (.iload 4, 2) := by decide +kernel
theorem dX2_faultOf_45 : decode cX2_faultOf 45 = .ok (.invokevirtual 32, 3) := by decide +kernel
theorem dX2_faultOf_48 : decode cX2_faultOf 48 = .ok (.ifCond .eq 7, 3) := by decide +kernel
theorem dX2_faultOf_51 : decode cX2_faultOf 51 = .ok (.iconst 0, 1) := by decide +kernel
theorem dX2_faultOf_52 : decode cX2_faultOf 52 = .ok (.goto 5, 3) := by decide +kernel
theorem dX2_faultOf_55 : decode cX2_faultOf 55 = .ok (.bipush (-13), 2) := by decide +kernel
theorem dX2_faultOf_57 : decode cX2_faultOf 57 = .ok (.ireturn, 1) := by decide +kernel
theorem dX2_reaches_0 : decode cX2_reaches 0 = .ok (.iload_n 2, 1) := by decide +kernel
theorem dX2_reaches_1 : decode cX2_reaches 1 = .ok (.ifCond .lt 33, 3) := by decide +kernel
theorem dX2_reaches_4 : decode cX2_reaches 4 = .ok (.iload_n 3, 1) := by decide +kernel
theorem dX2_reaches_5 : decode cX2_reaches 5 = .ok (.ifCond .lt 29, 3) := by decide +kernel
theorem dX2_reaches_8 : decode cX2_reaches 8 = .ok (.iload_n 2, 1) := by decide +kernel
theorem dX2_reaches_9 : decode cX2_reaches 9 = .ok (.aload_n 0, 1) := by decide +kernel
theorem dX2_reaches_10 : decode cX2_reaches 10 = .ok (.getfield 15, 3) := by decide +kernel
theorem dX2_reaches_13 : decode cX2_reaches 13 = .ok (.iload_n 1, 1) := by decide +kernel
theorem dX2_reaches_14 : decode cX2_reaches 14 = .ok (.iaload, 1) := by decide +kernel
theorem dX2_reaches_15 : decode cX2_reaches 15 = .ok (.if_icmp .gt 19, 3) := by decide +kernel
theorem dX2_reaches_18 : decode cX2_reaches 18 = .ok (.iload_n 3, 1) := by decide +kernel
theorem dX2_reaches_19 : decode cX2_reaches 19 = .ok (.aload_n 0, 1) := by decide +kernel
theorem dX2_reaches_20 : decode cX2_reaches 20 = .ok (.getfield 15, 3) := by decide +kernel
theorem dX2_reaches_23 : decode cX2_reaches 23 = .ok (.iload_n 1, 1) := by decide +kernel
theorem dX2_reaches_24 : decode cX2_reaches 24 = .ok (.iaload, 1) := by decide +kernel
theorem dX2_reaches_25 : decode cX2_reaches 25 = .ok (.iload_n 2, 1) := by decide +kernel
theorem dX2_reaches_26 : decode cX2_reaches 26 = .ok (.isub, 1) := by decide +kernel
theorem dX2_reaches_27 : decode cX2_reaches 27 = .ok (.if_icmp .gt 7, 3) := by decide +kernel
theorem dX2_reaches_30 : decode cX2_reaches 30 = .ok (.iconst 1, 1) := by decide +kernel
theorem dX2_reaches_31 : decode cX2_reaches 31 = .ok (.goto 4, 3) := by decide +kernel
theorem dX2_reaches_34 : decode cX2_reaches 34 = .ok (.iconst 0, 1) := by decide +kernel
theorem dX2_reaches_35 : decode cX2_reaches 35 = .ok (.ireturn, 1) := by decide +kernel
theorem dX2_begin_0 : decode cX2_begin 0 = .ok (.aload_n 0, 1) := by decide +kernel
theorem dX2_begin_1 : decode cX2_begin 1 = .ok (.getfield 9, 3) := by decide +kernel
theorem dX2_begin_4 : decode cX2_begin 4 = .ok (.iload_n 1, 1) := by decide +kernel
theorem dX2_begin_5 : decode cX2_begin 5 = .ok (.iload_n 2, 1) := by decide +kernel
theorem dX2_begin_6 : decode cX2_begin 6 = .ok (.iastore, 1) := by decide +kernel
theorem dX2_begin_7 : decode cX2_begin 7 = .ok (.aload_n 0, 1) := by decide +kernel
theorem dX2_begin_8 : decode cX2_begin 8 = .ok (.getfield 15, 3) := by decide +kernel
theorem dX2_begin_11 : decode cX2_begin 11 = .ok (.iload_n 1, 1) := by decide +kernel
theorem dX2_begin_12 : decode cX2_begin 12 = .ok (.iload_n 3, 1) := by decide +kernel
theorem dX2_begin_13 : decode cX2_begin 13 = .ok (.iastore, 1) := by decide +kernel
theorem dX2_begin_14 : decode cX2_begin 14 = .ok (.iconst 0, 1) := by decide +kernel
theorem dX2_begin_15 : decode cX2_begin 15 = .ok (.istore 4, 2) := by decide +kernel
theorem dX2_begin_17 : decode cX2_begin 17 = .ok (.iload 4, 2) := by decide +kernel
theorem dX2_begin_19 : decode cX2_begin 19 = .ok (.bipush 16, 2) := by decide +kernel
theorem dX2_begin_21 : decode cX2_begin 21 = .ok (.if_icmp .ge 22, 3) := by decide +kernel
theorem dX2_begin_24 : decode cX2_begin 24 = .ok (.aload_n 0, 1) := by decide +kernel
theorem dX2_begin_25 : decode cX2_begin 25 = .ok (.getfield 18, 3) := by decide +kernel
theorem dX2_begin_28 : decode cX2_begin 28 = .ok (.iload_n 1, 1) := by decide +kernel
theorem dX2_begin_29 : decode cX2_begin 29 = .ok (.bipush 16, 2) := by decide +kernel
theorem dX2_begin_31 : decode cX2_begin 31 = .ok (.imul, 1) := by decide +kernel
theorem dX2_begin_32 : decode cX2_begin 32 = .ok (.iload 4, 2) := by decide +kernel
theorem dX2_begin_34 : decode cX2_begin 34 = .ok (.iadd, 1) := by decide +kernel
theorem dX2_begin_35 : decode cX2_begin 35 = .ok (.lconst 0, 1) := by decide +kernel
theorem dX2_begin_36 : decode cX2_begin 36 = .ok (.lastore, 1) := by decide +kernel
theorem dX2_begin_37 : decode cX2_begin 37 = .ok (.iinc 4 1, 3) := by decide +kernel
theorem dX2_begin_40 : decode cX2_begin 40 = .ok (.goto (-23), 3) := by decide +kernel
theorem dX2_begin_43 : decode cX2_begin 43 = .ok (.return_, 1) := by decide +kernel
theorem dX2_at_0 : decode cX2_at 0 = .ok (.aload_n 0, 1) := by decide +kernel
theorem dX2_at_1 : decode cX2_at 1 = .ok (.getfield 18, 3) := by decide +kernel
theorem dX2_at_4 : decode cX2_at 4 = .ok (.iload_n 1, 1) := by decide +kernel
theorem dX2_at_5 : decode cX2_at 5 = .ok (.bipush 16, 2) := by decide +kernel
theorem dX2_at_7 : decode cX2_at 7 = .ok (.imul, 1) := by decide +kernel
theorem dX2_at_8 : decode cX2_at 8 = .ok (.iload_n 2, 1) := by decide +kernel
theorem dX2_at_9 : decode cX2_at 9 = .ok (.iadd, 1) := by decide +kernel
theorem dX2_at_10 : decode cX2_at 10 = .ok (.laload, 1) := by decide +kernel
theorem dX2_at_11 : decode cX2_at 11 = .ok (.lreturn, 1) := by decide +kernel
theorem dX2_put_0 : decode cX2_put 0 = .ok (.aload_n 0, 1) := by decide +kernel
theorem dX2_put_1 : decode cX2_put 1 = .ok (.getfield 18, 3) := by decide +kernel
theorem dX2_put_4 : decode cX2_put 4 = .ok (.iload_n 1, 1) := by decide +kernel
theorem dX2_put_5 : decode cX2_put 5 = .ok (.bipush 16, 2) := by decide +kernel
theorem dX2_put_7 : decode cX2_put 7 = .ok (.imul, 1) := by decide +kernel
theorem dX2_put_8 : decode cX2_put 8 = .ok (.iload_n 2, 1) := by decide +kernel
theorem dX2_put_9 : decode cX2_put 9 = .ok (.iadd, 1) := by decide +kernel
theorem dX2_put_10 : decode cX2_put 10 = .ok (.aload_n 0, 1) := by decide +kernel
theorem dX2_put_11 : decode cX2_put 11 = .ok (.getfield 9, 3) := by decide +kernel
theorem dX2_put_14 : decode cX2_put 14 = .ok (.iload_n 1, 1) := by decide +kernel
theorem dX2_put_15 : decode cX2_put 15 = .ok (.iaload, 1) := by decide +kernel
theorem dX2_put_16 : decode cX2_put 16 = .ok (.lload_n 3, 1) := by decide +kernel
theorem dX2_put_17 : decode cX2_put 17 = .ok (.invokestatic 36, 3) := by decide +kernel
theorem dX2_put_20 : decode cX2_put 20 = .ok (.lastore, 1) := by decide +kernel
theorem dX2_put_21 : decode cX2_put 21 = .ok (.return_, 1) := by decide +kernel
theorem dX2_lowest_0 : decode cX2_lowest 0 = .ok (.iload_n 0, 1) := by decide +kernel
theorem dX2_lowest_1 : decode cX2_lowest 1 = .ok (.tableswitch 41 0 2 #[27, 32, 37], 27) := by decide +kernel
theorem dX2_lowest_28 : decode cX2_lowest 28 = .ok (.lload_n 1, 1) := by decide +kernel
theorem dX2_lowest_29 : decode cX2_lowest 29 = .ok (.l2i, 1) := by decide +kernel
theorem dX2_lowest_30 : decode cX2_lowest 30 = .ok (.i2b, 1) := by decide +kernel
theorem dX2_lowest_31 : decode cX2_lowest 31 = .ok (.i2l, 1) := by decide +kernel
theorem dX2_lowest_32 : decode cX2_lowest 32 = .ok (.lreturn, 1) := by decide +kernel
theorem dX2_lowest_33 : decode cX2_lowest 33 = .ok (.lload_n 1, 1) := by decide +kernel
theorem dX2_lowest_34 : decode cX2_lowest 34 = .ok (.l2i, 1) := by decide +kernel
theorem dX2_lowest_35 : decode cX2_lowest 35 = .ok (.i2s, 1) := by decide +kernel
theorem dX2_lowest_36 : decode cX2_lowest 36 = .ok (.i2l, 1) := by decide +kernel
theorem dX2_lowest_37 : decode cX2_lowest 37 = .ok (.lreturn, 1) := by decide +kernel
theorem dX2_lowest_38 : decode cX2_lowest 38 = .ok (.lload_n 1, 1) := by decide +kernel
theorem dX2_lowest_39 : decode cX2_lowest 39 = .ok (.l2i, 1) := by decide +kernel
theorem dX2_lowest_40 : decode cX2_lowest 40 = .ok (.i2l, 1) := by decide +kernel
theorem dX2_lowest_41 : decode cX2_lowest 41 = .ok (.lreturn, 1) := by decide +kernel
theorem dX2_lowest_42 : decode cX2_lowest 42 = .ok (.lload_n 1, 1) := by decide +kernel
theorem dX2_lowest_43 : decode cX2_lowest 43 = .ok (.lreturn, 1) := by decide +kernel
theorem dX2_move_0 : decode cX2_move 0 = .ok (.aload_n 0, 1) := by decide +kernel
theorem dX2_move_1 : decode cX2_move 1 = .ok (.getfield 18, 3) := by decide +kernel
theorem dX2_move_4 : decode cX2_move 4 = .ok (.iload_n 1, 1) := by decide +kernel
theorem dX2_move_5 : decode cX2_move 5 = .ok (.bipush 16, 2) := by decide +kernel
theorem dX2_move_7 : decode cX2_move 7 = .ok (.imul, 1) := by decide +kernel
theorem dX2_move_8 : decode cX2_move 8 = .ok (.iload_n 2, 1) := by decide +kernel
theorem dX2_move_9 : decode cX2_move 9 = .ok (.iadd, 1) := by decide +kernel
theorem dX2_move_10 : decode cX2_move 10 = .ok (.aload_n 0, 1) := by decide +kernel
theorem dX2_move_11 : decode cX2_move 11 = .ok (.getfield 18, 3) := by decide +kernel
theorem dX2_move_14 : decode cX2_move 14 = .ok (.iload_n 3, 1) := by decide +kernel
theorem dX2_move_15 : decode cX2_move 15 = .ok (.bipush 16, 2) := by decide +kernel
theorem dX2_move_17 : decode cX2_move 17 = .ok (.imul, 1) := by decide +kernel
theorem dX2_move_18 : decode cX2_move 18 = .ok (.iload 4, 2) := by decide +kernel
theorem dX2_move_20 : decode cX2_move 20 = .ok (.iadd, 1) := by decide +kernel
theorem dX2_move_21 : decode cX2_move 21 = .ok (.iload 5, 2) := by decide +kernel
theorem dX2_move_23 : decode cX2_move 23 = .ok (.invokestatic 40, 3) := by decide +kernel
theorem dX2_move_26 : decode cX2_move 26 = .ok (.return_, 1) := by decide +kernel
theorem dX3_init_0 : decode cX3_init 0 = .ok (.aload_n 0, 1) := by decide +kernel
theorem dX3_init_1 : decode cX3_init 1 = .ok (.invokespecial 3, 3) := by decide +kernel
theorem dX3_init_4 : decode cX3_init 4 = .ok (.aload_n 0, 1) := by decide +kernel
theorem dX3_init_5 : decode cX3_init 5 = .ok (.bipush 80, 2) := by decide +kernel
theorem dX3_init_7 : decode cX3_init 7 = .ok (.newarray .char, 2) := by decide +kernel
theorem dX3_init_9 : decode cX3_init 9 = .ok (.putfield 9, 3) := by decide +kernel
theorem dX3_init_12 : decode cX3_init 12 = .ok (.aload_n 0, 1) := by decide +kernel
theorem dX3_init_13 : decode cX3_init 13 = .ok (.iconst 0, 1) := by decide +kernel
theorem dX3_init_14 : decode cX3_init 14 = .ok (.putfield 15, 3) := by decide +kernel
theorem dX3_init_17 : decode cX3_init 17 = .ok (.aload_n 0, 1) := by decide +kernel
theorem dX3_init_18 : decode cX3_init 18 = .ok (.iconst 0, 1) := by decide +kernel
theorem dX3_init_19 : decode cX3_init 19 = .ok (.putfield 19, 3) := by decide +kernel
theorem dX3_init_22 : decode cX3_init 22 = .ok (.aload_n 0, 1) := by decide +kernel
theorem dX3_init_23 : decode cX3_init 23 = .ok (.iconst 0, 1) := by decide +kernel
theorem dX3_init_24 : decode cX3_init 24 = .ok (.putfield 22, 3) := by decide +kernel
theorem dX3_init_27 : decode cX3_init 27 = .ok (.return_, 1) := by decide +kernel
theorem dX3_add_0 : decode cX3_add 0 = .ok (.aload_n 0, 1) := by decide +kernel
theorem dX3_add_1 : decode cX3_add 1 = .ok (.getfield 15, 3) := by decide +kernel
theorem dX3_add_4 : decode cX3_add 4 = .ok (.aload_n 0, 1) := by decide +kernel
theorem dX3_add_5 : decode cX3_add 5 = .ok (.getfield 9, 3) := by decide +kernel
theorem dX3_add_8 : decode cX3_add 8 = .ok (.arraylength, 1) := by decide +kernel
theorem dX3_add_9 : decode cX3_add 9 = .ok (.if_icmp .lt 5, 3) := by decide +kernel
theorem dX3_add_12 : decode cX3_add 12 = .ok (.iconst 0, 1) := by decide +kernel
theorem dX3_add_13 : decode cX3_add 13 = .ok (.ireturn, 1) := by decide +kernel
theorem dX3_add_14 : decode cX3_add 14 = .ok (.aload_n 0, 1) := by decide +kernel
theorem dX3_add_15 : decode cX3_add 15 = .ok (.getfield 9, 3) := by decide +kernel
theorem dX3_add_18 : decode cX3_add 18 = .ok (.aload_n 0, 1) := by decide +kernel
theorem dX3_add_19 : decode cX3_add 19 = .ok (.getfield 15, 3) := by decide +kernel
theorem dX3_add_22 : decode cX3_add 22 = .ok (.iload_n 1, 1) := by decide +kernel
theorem dX3_add_23 : decode cX3_add 23 = .ok (.castore, 1) := by decide +kernel
theorem dX3_add_24 : decode cX3_add 24 = .ok (.aload_n 0, 1) := by decide +kernel
theorem dX3_add_25 : decode cX3_add 25 = .ok (.dup, 1) := by decide +kernel
theorem dX3_add_26 : decode cX3_add 26 = .ok (.getfield 15, 3) := by decide +kernel
theorem dX3_add_29 : decode cX3_add 29 = .ok (.iconst 1, 1) := by decide +kernel
theorem dX3_add_30 : decode cX3_add 30 = .ok (.iadd, 1) := by decide +kernel
theorem dX3_add_31 : decode cX3_add 31 = .ok (.putfield 15, 3) := by decide +kernel
theorem dX3_add_34 : decode cX3_add 34 = .ok (.iconst 1, 1) := by decide +kernel
theorem dX3_add_35 : decode cX3_add 35 = .ok (.ireturn, 1) := by decide +kernel
theorem dX3_readInto_0 : decode cX3_readInto 0 = .ok (.aload_n 0, 1) := by decide +kernel
theorem dX3_readInto_1 : decode cX3_readInto 1 = .ok (.iconst 0, 1) := by decide +kernel
theorem dX3_readInto_2 : decode cX3_readInto 2 = .ok (.putfield 19, 3) := by decide +kernel
theorem dX3_readInto_5 : decode cX3_readInto 5 = .ok (.iconst 0, 1) := by decide +kernel
theorem dX3_readInto_6 : decode cX3_readInto 6 = .ok (.istore_n 2, 1) := by decide +kernel
theorem dX3_readInto_7 : decode cX3_readInto 7 = .ok (.iload_n 2, 1) := by decide +kernel
theorem dX3_readInto_8 : decode cX3_readInto 8 = .ok (.aload_n 0, 1) := by decide +kernel
theorem dX3_readInto_9 : decode cX3_readInto 9 = .ok (.getfield 15, 3) := by decide +kernel
theorem dX3_readInto_12 : decode cX3_readInto 12 = .ok (.if_icmp .ge 36, 3) := by decide +kernel
theorem dX3_readInto_15 : decode cX3_readInto 15 = .ok (.aload_n 0, 1) := by decide +kernel
theorem dX3_readInto_16 : decode cX3_readInto 16 = .ok (.getfield 9, 3) := by decide +kernel
theorem dX3_readInto_19 : decode cX3_readInto 19 = .ok (.iload_n 2, 1) := by decide +kernel
theorem dX3_readInto_20 : decode cX3_readInto 20 = .ok (.caload, 1) := by decide +kernel
theorem dX3_readInto_21 : decode cX3_readInto 21 = .ok (.istore_n 3, 1) := by decide +kernel
theorem dX3_readInto_22 : decode cX3_readInto 22 = .ok (.iload_n 3, 1) := by decide +kernel
theorem dX3_readInto_23 : decode cX3_readInto 23 = .ok (.bipush 32, 2) := by decide +kernel
theorem dX3_readInto_25 : decode cX3_readInto 25 = .ok (.if_icmp .eq 17, 3) := by decide +kernel
theorem dX3_readInto_28 : decode cX3_readInto 28 = .ok (.aload_n 0, 1) := by decide +kernel
theorem dX3_readInto_29 : decode cX3_readInto 29 = .ok (.iload_n 3, 1) := by decide +kernel
theorem dX3_readInto_30 : decode cX3_readInto 30 = .ok (.aload_n 1, 1) := by decide +kernel
theorem dX3_readInto_31 : decode cX3_readInto 31 = .ok (.invokevirtual 25, 3) := by decide +kernel
theorem dX3_readInto_34 : decode cX3_readInto 34 = .ok (.ifCond .ne 8, 3) := by decide +kernel
theorem dX3_readInto_37 : decode cX3_readInto 37 = .ok (.bipush (-20), 2) := by decide +kernel
theorem dX3_readInto_39 : decode cX3_readInto 39 = .ok (.iload_n 2, 1) := by decide +kernel
theorem dX3_readInto_40 : decode cX3_readInto 40 = .ok (.isub, 1) := by decide +kernel
theorem dX3_readInto_41 : decode cX3_readInto 41 = .ok (.ireturn, 1) := by decide +kernel
theorem dX3_readInto_42 : decode cX3_readInto 42 = .ok (.iinc 2 1, 3) := by decide +kernel
theorem dX3_readInto_45 : decode cX3_readInto 45 = .ok (.goto (-38), 3) := by decide +kernel
theorem dX3_readInto_48 : decode cX3_readInto 48 = .ok (.aload_n 0, 1) := by decide +kernel
theorem dX3_readInto_49 : decode cX3_readInto 49 = .ok (.getfield 19, 3) := by decide +kernel
theorem dX3_readInto_52 : decode cX3_readInto 52 = .ok (.iconst 2, 1) := by decide +kernel
theorem dX3_readInto_53 : decode cX3_readInto 53 = .ok (.if_icmp .ne 10, 3) := by decide +kernel
theorem dX3_readInto_56 : decode cX3_readInto 56 = .ok (.aload_n 1, 1) := by decide +kernel
theorem dX3_readInto_57 : decode cX3_readInto 57 = .ok (.getfield 29, 3) := by decide +kernel
theorem dX3_readInto_60 : decode cX3_readInto 60 = .ok (.goto 10, 3) := by decide +kernel
theorem dX3_readInto_63 : decode cX3_readInto 63 = .ok (.bipush (-20), 2) := by decide +kernel
theorem dX3_readInto_65 : decode cX3_readInto 65 = .ok (.aload_n 0, 1) := by decide +kernel
theorem dX3_readInto_66 : decode cX3_readInto 66 = .ok (.getfield 15, 3) := by decide +kernel
theorem dX3_readInto_69 : decode cX3_readInto 69 = .ok (.isub, 1) := by decide +kernel
theorem dX3_readInto_70 : decode cX3_readInto 70 = .ok (.ireturn, 1) := by decide +kernel
theorem dX3_takes_0 : decode cX3_takes 0 = .ok (.aload_n 0, 1) := by decide +kernel
theorem dX3_takes_1 : decode cX3_takes 1 = .ok (.getfield 19, 3) := by decide +kernel
theorem dX3_takes_4 : decode cX3_takes 4 = .ok (.lookupswitch 41 #[(0, 28), (1, 34)], 28) := by decide +kernel
theorem dX3_takes_32 : decode cX3_takes 32 = .ok (.aload_n 0, 1) := by decide +kernel
theorem dX3_takes_33 : decode cX3_takes 33 = .ok (.iload_n 1, 1) := by decide +kernel
theorem dX3_takes_34 : decode cX3_takes 34 = .ok (.invokevirtual 34, 3) := by decide +kernel
theorem dX3_takes_37 : decode cX3_takes 37 = .ok (.ireturn, 1) := by decide +kernel
theorem dX3_takes_38 : decode cX3_takes 38 = .ok (.aload_n 0, 1) := by decide +kernel
theorem dX3_takes_39 : decode cX3_takes 39 = .ok (.iload_n 1, 1) := by decide +kernel
theorem dX3_takes_40 : decode cX3_takes 40 = .ok (.aload_n 2, 1) := by decide +kernel
theorem dX3_takes_41 : decode cX3_takes 41 = .ok (.invokevirtual 38, 3) := by decide +kernel
theorem dX3_takes_44 : decode cX3_takes 44 = .ok (.ireturn, 1) := by decide +kernel
theorem dX3_takes_45 : decode cX3_takes 45 = .ok (.iload_n 1, 1) := by decide +kernel
theorem dX3_takes_46 : decode cX3_takes 46 = .ok (.bipush 44, 2) := by decide +kernel
theorem dX3_takes_48 : decode cX3_takes 48 = .ok (.if_icmp .ne 11, 3) := by decide +kernel
theorem dX3_takes_51 : decode cX3_takes 51 = .ok (.aload_n 0, 1) := by decide +kernel
theorem dX3_takes_52 : decode cX3_takes 52 = .ok (.aload_n 2, 1) := by decide +kernel
theorem dX3_takes_53 : decode cX3_takes 53 = .ok (.invokevirtual 41, 3) := by decide +kernel
theorem dX3_takes_56 : decode cX3_takes 56 = .ok (.goto 9, 3) := by decide +kernel
theorem dX3_takes_59 : decode cX3_takes 59 = .ok (.aload_n 0, 1) := by decide +kernel
theorem dX3_takes_60 : decode cX3_takes 60 = .ok (.iload_n 1, 1) := by decide +kernel
theorem dX3_takes_61 : decode cX3_takes 61 = .ok (.aload_n 2, 1) := by decide +kernel
theorem dX3_takes_62 : decode cX3_takes 62 = .ok (.invokevirtual 45, 3) := by decide +kernel
theorem dX3_takes_65 : decode cX3_takes 65 = .ok (.ireturn, 1) := by decide +kernel
theorem dX3_takesKind_0 : decode cX3_takesKind 0 = .ok (.iload_n 1, 1) := by decide +kernel
theorem dX3_takesKind_1 : decode cX3_takesKind 1 = .ok (.lookupswitch 75 #[(97, 51), (104, 67), (112, 43), (115, 59)], 43) := by decide +kernel
theorem dX3_takesKind_44 : decode cX3_takesKind 44 = .ok (.aload_n 0, 1) := by decide +kernel
theorem dX3_takesKind_45 : decode cX3_takesKind 45 = .ok (.iconst 0, 1) := by decide +kernel
theorem dX3_takesKind_46 : decode cX3_takesKind 46 = .ok (.putfield 22, 3) := by decide +kernel
theorem dX3_takesKind_49 : decode cX3_takesKind 49 = .ok (.goto 29, 3) := by decide +kernel
theorem dX3_takesKind_52 : decode cX3_takesKind 52 = .ok (.aload_n 0, 1) := by decide +kernel
theorem dX3_takesKind_53 : decode cX3_takesKind 53 = .ok (.iconst 1, 1) := by decide +kernel
theorem dX3_takesKind_54 : decode cX3_takesKind 54 = .ok (.putfield 22, 3) := by decide +kernel
theorem dX3_takesKind_57 : decode cX3_takesKind 57 = .ok (.goto 21, 3) := by decide +kernel
theorem dX3_takesKind_60 : decode cX3_takesKind 60 = .ok (.aload_n 0, 1) := by decide +kernel
theorem dX3_takesKind_61 : decode cX3_takesKind 61 = .ok (.iconst 2, 1) := by decide +kernel
theorem dX3_takesKind_62 : decode cX3_takesKind 62 = .ok (.putfield 22, 3) := by decide +kernel
theorem dX3_takesKind_65 : decode cX3_takesKind 65 = .ok (.goto 13, 3) := by decide +kernel
theorem dX3_takesKind_68 : decode cX3_takesKind 68 = .ok (.aload_n 0, 1) := by decide +kernel
theorem dX3_takesKind_69 : decode cX3_takesKind 69 = .ok (.iconst 3, 1) := by decide +kernel
theorem dX3_takesKind_70 : decode cX3_takesKind 70 = .ok (.putfield 22, 3) := by decide +kernel
theorem dX3_takesKind_73 : decode cX3_takesKind 73 = .ok (.goto 5, 3) := by decide +kernel
theorem dX3_takesKind_76 : decode cX3_takesKind 76 = .ok (.iconst 0, 1) := by decide +kernel
theorem dX3_takesKind_77 : decode cX3_takesKind 77 = .ok (.ireturn, 1) := by decide +kernel
theorem dX3_takesKind_78 : decode cX3_takesKind 78 = .ok (.aload_n 0, 1) := by decide +kernel
theorem dX3_takesKind_79 : decode cX3_takesKind 79 = .ok (.iconst 1, 1) := by decide +kernel
theorem dX3_takesKind_80 : decode cX3_takesKind 80 = .ok (.putfield 19, 3) := by decide +kernel
theorem dX3_takesKind_83 : decode cX3_takesKind 83 = .ok (.iconst 1, 1) := by decide +kernel
theorem dX3_takesKind_84 : decode cX3_takesKind 84 = .ok (.ireturn, 1) := by decide +kernel
theorem dX3_takesDay_0 : decode cX3_takesDay 0 = .ok (.aload_n 0, 1) := by decide +kernel
theorem dX3_takesDay_1 : decode cX3_takesDay 1 = .ok (.iconst 2, 1) := by decide +kernel
theorem dX3_takesDay_2 : decode cX3_takesDay 2 = .ok (.putfield 19, 3) := by decide +kernel
theorem dX3_takesDay_5 : decode cX3_takesDay 5 = .ok (.iload_n 1, 1) := by decide +kernel
theorem dX3_takesDay_6 : decode cX3_takesDay 6 = .ok (.bipush 65, 2) := by decide +kernel
theorem dX3_takesDay_8 : decode cX3_takesDay 8 = .ok (.isub, 1) := by decide +kernel
theorem dX3_takesDay_9 : decode cX3_takesDay 9 = .ok (.istore_n 3, 1) := by decide +kernel
theorem dX3_takesDay_10 : decode cX3_takesDay 10 = .ok (.iload_n 3, 1) := by decide +kernel
theorem dX3_takesDay_11 : decode cX3_takesDay 11 = .ok (.invokestatic 48, 3) := by decide +kernel
theorem dX3_takesDay_14 : decode cX3_takesDay 14 = .ok (.ifCond .eq 20, 3) := by decide +kernel
theorem dX3_takesDay_17 : decode cX3_takesDay 17 = .ok (.aload_n 2, 1) := by decide +kernel
theorem dX3_takesDay_18 : decode cX3_takesDay 18 = .ok (.aload_n 0, 1) := by decide +kernel
theorem dX3_takesDay_19 : decode cX3_takesDay 19 = .ok (.getfield 22, 3) := by decide +kernel
theorem dX3_takesDay_22 : decode cX3_takesDay 22 = .ok (.iload_n 3, 1) := by decide +kernel
theorem dX3_takesDay_23 : decode cX3_takesDay 23 = .ok (.iconst 0, 1) := by decide +kernel
theorem dX3_takesDay_24 : decode cX3_takesDay 24 = .ok (.invokevirtual 52, 3) := by decide +kernel
theorem dX3_takesDay_27 : decode cX3_takesDay 27 = .ok (.ifCond .eq 7, 3) := by decide +kernel
theorem dX3_takesDay_30 : decode cX3_takesDay 30 = .ok (.iconst 1, 1) := by decide +kernel
theorem dX3_takesDay_31 : decode cX3_takesDay 31 = .ok (.goto 4, 3) := by decide +kernel
theorem dX3_takesDay_34 : decode cX3_takesDay 34 = .ok (.iconst 0, 1) := by decide +kernel
theorem dX3_takesDay_35 : decode cX3_takesDay 35 = .ok (.ireturn, 1) := by decide +kernel
theorem dX3_takesComma_0 : decode cX3_takesComma 0 = .ok (.aload_n 0, 1) := by decide +kernel
theorem dX3_takesComma_1 : decode cX3_takesComma 1 = .ok (.iconst 0, 1) := by decide +kernel
theorem dX3_takesComma_2 : decode cX3_takesComma 2 = .ok (.putfield 19, 3) := by decide +kernel
theorem dX3_takesComma_5 : decode cX3_takesComma 5 = .ok (.aload_n 1, 1) := by decide +kernel
theorem dX3_takesComma_6 : decode cX3_takesComma 6 = .ok (.getfield 29, 3) := by decide +kernel
theorem dX3_takesComma_9 : decode cX3_takesComma 9 = .ok (.bipush 12, 2) := by decide +kernel
theorem dX3_takesComma_11 : decode cX3_takesComma 11 = .ok (.if_icmp .ge 7, 3) := by decide +kernel
theorem dX3_takesComma_14 : decode cX3_takesComma 14 = .ok (.iconst 1, 1) := by decide +kernel
theorem dX3_takesComma_15 : decode cX3_takesComma 15 = .ok (.goto 4, 3) := by decide +kernel
theorem dX3_takesComma_18 : decode cX3_takesComma 18 = .ok (.iconst 0, 1) := by decide +kernel
theorem dX3_takesComma_19 : decode cX3_takesComma 19 = .ok (.ireturn, 1) := by decide +kernel
theorem dX3_takesNeed_0 : decode cX3_takesNeed 0 = .ok (.aload_n 2, 1) := by decide +kernel
theorem dX3_takesNeed_1 : decode cX3_takesNeed 1 = .ok (.getfield 29, 3) := by decide +kernel
theorem dX3_takesNeed_4 : decode cX3_takesNeed 4 = .ok (.iconst 1, 1) := by decide +kernel
theorem dX3_takesNeed_5 : decode cX3_takesNeed 5 = .ok (.isub, 1) := by decide +kernel
theorem dX3_takesNeed_6 : decode cX3_takesNeed 6 = .ok (.istore_n 3, 1) := by decide +kernel
theorem dX3_takesNeed_7 : decode cX3_takesNeed 7 = .ok (.iload_n 1, 1) := by decide +kernel
theorem dX3_takesNeed_8 : decode cX3_takesNeed 8 = .ok (.bipush 97, 2) := by decide +kernel
theorem dX3_takesNeed_10 : decode cX3_takesNeed 10 = .ok (.isub, 1) := by decide +kernel
theorem dX3_takesNeed_11 : decode cX3_takesNeed 11 = .ok (.istore 4, 2) := by decide +kernel
theorem dX3_takesNeed_13 : decode cX3_takesNeed 13 = .ok (.aload_n 2, 1) := by decide +kernel
theorem dX3_takesNeed_14 : decode cX3_takesNeed 14 = .ok (.iload_n 3, 1) := by decide +kernel
theorem dX3_takesNeed_15 : decode cX3_takesNeed 15 = .ok (.invokevirtual 56, 3) := by decide +kernel
theorem dX3_takesNeed_18 : decode cX3_takesNeed 18 = .ok (.ifCond .eq 12, 3) := by decide +kernel
theorem dX3_takesNeed_21 : decode cX3_takesNeed 21 = .ok (.aload_n 2, 1) := by decide +kernel
theorem dX3_takesNeed_22 : decode cX3_takesNeed 22 = .ok (.iload 4, 2) := by decide +kernel
theorem dX3_takesNeed_24 : decode cX3_takesNeed 24 = .ok (.invokevirtual 56, 3) := by decide +kernel
theorem dX3_takesNeed_27 : decode cX3_takesNeed 27 = .ok (.ifCond .ne 5, 3) := by decide +kernel
theorem dX3_takesNeed_30 : decode cX3_takesNeed 30 = .ok (.iconst 0, 1) := by decide +kernel
theorem dX3_takesNeed_31 : decode cX3_takesNeed 31 = .ok (.ireturn, 1) := by decide +kernel
theorem dX3_takesNeed_32 : decode cX3_takesNeed 32 = .ok (.aload_n 2, 1) := by decide +kernel
theorem dX3_takesNeed_33 : decode cX3_takesNeed 33 = .ok (.iload_n 3, 1) := by decide +kernel
theorem dX3_takesNeed_34 : decode cX3_takesNeed 34 = .ok (.aload_n 2, 1) := by decide +kernel
theorem dX3_takesNeed_35 : decode cX3_takesNeed 35 = .ok (.getfield 59, 3) := by decide +kernel
theorem dX3_takesNeed_38 : decode cX3_takesNeed 38 = .ok (.iload_n 3, 1) := by decide +kernel
theorem dX3_takesNeed_39 : decode cX3_takesNeed 39 = .ok (.iaload, 1) := by decide +kernel
theorem dX3_takesNeed_40 : decode cX3_takesNeed 40 = .ok (.invokevirtual 63, 3) := by decide +kernel
theorem dX3_takesNeed_43 : decode cX3_takesNeed 43 = .ok (.aload_n 2, 1) := by decide +kernel
theorem dX3_takesNeed_44 : decode cX3_takesNeed 44 = .ok (.getfield 67, 3) := by decide +kernel
theorem dX3_takesNeed_47 : decode cX3_takesNeed 47 = .ok (.iload_n 3, 1) := by decide +kernel
theorem dX3_takesNeed_48 : decode cX3_takesNeed 48 = .ok (.iaload, 1) := by decide +kernel
theorem dX3_takesNeed_49 : decode cX3_takesNeed 49 = .ok (.iconst (-1), 1) := by decide +kernel
theorem dX3_takesNeed_50 : decode cX3_takesNeed 50 = .ok (.ixor, 1) := by decide +kernel
theorem dX3_takesNeed_51 : decode cX3_takesNeed 51 = .ok (.iand, 1) := by decide +kernel
theorem dX3_takesNeed_52 : decode cX3_takesNeed 52 = .ok (.iload 4, 2) := by decide +kernel
theorem dX3_takesNeed_54 : decode cX3_takesNeed 54 = .ok (.invokestatic 70, 3) := by decide +kernel
theorem dX3_takesNeed_57 : decode cX3_takesNeed 57 = .ok (.ifCond .ne 5, 3) := by decide +kernel
theorem dX3_takesNeed_60 : decode cX3_takesNeed 60 = .ok (.iconst 0, 1) := by decide +kernel
theorem dX3_takesNeed_61 : decode cX3_takesNeed 61 = .ok (.ireturn, 1) := by decide +kernel
theorem dX3_takesNeed_62 : decode cX3_takesNeed 62 = .ok (.aload_n 2, 1) := by decide +kernel
theorem dX3_takesNeed_63 : decode cX3_takesNeed 63 = .ok (.getfield 67, 3) := by decide +kernel
theorem dX3_takesNeed_66 : decode cX3_takesNeed 66 = .ok (.iload_n 3, 1) := by decide +kernel
theorem dX3_takesNeed_67 : decode cX3_takesNeed 67 = .ok (.dup2, 1) := by decide +kernel
theorem dX3_takesNeed_68 : decode cX3_takesNeed 68 = .ok (.iaload, 1) := by decide +kernel
theorem dX3_takesNeed_69 : decode cX3_takesNeed 69 = .ok (.iconst 1, 1) := by decide +kernel
theorem dX3_takesNeed_70 : decode cX3_takesNeed 70 = .ok (.iload 4, 2) := by decide +kernel
theorem dX3_takesNeed_72 : decode cX3_takesNeed 72 = .ok (.ishl, 1) := by decide +kernel
theorem dX3_takesNeed_73 : decode cX3_takesNeed 73 = .ok (.ior, 1) := by decide +kernel
theorem dX3_takesNeed_74 : decode cX3_takesNeed 74 = .ok (.iastore, 1) := by decide +kernel
theorem dX3_takesNeed_75 : decode cX3_takesNeed 75 = .ok (.iconst 1, 1) := by decide +kernel
theorem dX3_takesNeed_76 : decode cX3_takesNeed 76 = .ok (.ireturn, 1) := by decide +kernel
theorem dX6_init_0 : decode cX6_init 0 = .ok (.aload_n 0, 1) := by decide +kernel
theorem dX6_init_1 : decode cX6_init 1 = .ok (.invokespecial 1, 3) := by decide +kernel
theorem dX6_init_4 : decode cX6_init 4 = .ok (.aload_n 0, 1) := by decide +kernel
theorem dX6_init_5 : decode cX6_init 5 = .ok (.new 7, 3) := by decide +kernel
theorem dX6_init_8 : decode cX6_init 8 = .ok (.dup, 1) := by decide +kernel
theorem dX6_init_9 : decode cX6_init 9 = .ok (.invokespecial 9, 3) := by decide +kernel
theorem dX6_init_12 : decode cX6_init 12 = .ok (.putfield 10, 3) := by decide +kernel
theorem dX6_init_15 : decode cX6_init 15 = .ok (.aload_n 0, 1) := by decide +kernel
theorem dX6_init_16 : decode cX6_init 16 = .ok (.new 7, 3) := by decide +kernel
theorem dX6_init_19 : decode cX6_init 19 = .ok (.dup, 1) := by decide +kernel
theorem dX6_init_20 : decode cX6_init 20 = .ok (.invokespecial 9, 3) := by decide +kernel
theorem dX6_init_23 : decode cX6_init 23 = .ok (.putfield 16, 3) := by decide +kernel
theorem dX6_init_26 : decode cX6_init 26 = .ok (.aload_n 0, 1) := by decide +kernel
theorem dX6_init_27 : decode cX6_init 27 = .ok (.new 7, 3) := by decide +kernel
theorem dX6_init_30 : decode cX6_init 30 = .ok (.dup, 1) := by decide +kernel
theorem dX6_init_31 : decode cX6_init 31 = .ok (.invokespecial 9, 3) := by decide +kernel
theorem dX6_init_34 : decode cX6_init 34 = .ok (.putfield 19, 3) := by decide +kernel
theorem dX6_init_37 : decode cX6_init 37 = .ok (.aload_n 0, 1) := by decide +kernel
theorem dX6_init_38 : decode cX6_init 38 = .ok (.new 22, 3) := by decide +kernel
theorem dX6_init_41 : decode cX6_init 41 = .ok (.dup, 1) := by decide +kernel
theorem dX6_init_42 : decode cX6_init 42 = .ok (.invokespecial 24, 3) := by decide +kernel
theorem dX6_init_45 : decode cX6_init 45 = .ok (.putfield 25, 3) := by decide +kernel
theorem dX6_init_48 : decode cX6_init 48 = .ok (.aload_n 0, 1) := by decide +kernel
theorem dX6_init_49 : decode cX6_init 49 = .ok (.new 29, 3) := by decide +kernel
theorem dX6_init_52 : decode cX6_init 52 = .ok (.dup, 1) := by decide +kernel
theorem dX6_init_53 : decode cX6_init 53 = .ok (.invokespecial 31, 3) := by decide +kernel
theorem dX6_init_56 : decode cX6_init 56 = .ok (.putfield 32, 3) := by decide +kernel
theorem dX6_init_59 : decode cX6_init 59 = .ok (.aload_n 0, 1) := by decide +kernel
theorem dX6_init_60 : decode cX6_init 60 = .ok (.bipush 61, 2) := by decide +kernel
theorem dX6_init_62 : decode cX6_init 62 = .ok (.newarray .int, 2) := by decide +kernel
theorem dX6_init_64 : decode cX6_init 64 = .ok (.putfield 36, 3) := by decide +kernel
theorem dX6_init_67 : decode cX6_init 67 = .ok (.aload_n 0, 1) := by decide +kernel
theorem dX6_init_68 : decode cX6_init 68 = .ok (.bipush 8, 2) := by decide +kernel
theorem dX6_init_70 : decode cX6_init 70 = .ok (.newarray .int, 2) := by decide +kernel
theorem dX6_init_72 : decode cX6_init 72 = .ok (.putfield 40, 3) := by decide +kernel
theorem dX6_init_75 : decode cX6_init 75 = .ok (.aload_n 0, 1) := by decide +kernel
theorem dX6_init_76 : decode cX6_init 76 = .ok (.iconst 4, 1) := by decide +kernel
theorem dX6_init_77 : decode cX6_init 77 = .ok (.newarray .int, 2) := by decide +kernel
theorem dX6_init_79 : decode cX6_init 79 = .ok (.putfield 43, 3) := by decide +kernel
theorem dX6_init_82 : decode cX6_init 82 = .ok (.aload_n 0, 1) := by decide +kernel
theorem dX6_init_83 : decode cX6_init 83 = .ok (.iconst 0, 1) := by decide +kernel
theorem dX6_init_84 : decode cX6_init 84 = .ok (.putfield 46, 3) := by decide +kernel
theorem dX6_init_87 : decode cX6_init 87 = .ok (.return_, 1) := by decide +kernel
theorem dX6_people_0 : decode cX6_people 0 = .ok (.iload_n 1, 1) := by decide +kernel
theorem dX6_people_1 : decode cX6_people 1 = .ok (.iconst 1, 1) := by decide +kernel
theorem dX6_people_2 : decode cX6_people 2 = .ok (.if_icmp .lt 8, 3) := by decide +kernel
theorem dX6_people_5 : decode cX6_people 5 = .ok (.iload_n 1, 1) := by decide +kernel
theorem dX6_people_6 : decode cX6_people 6 = .ok (.iconst 4, 1) := by decide +kernel
theorem dX6_people_7 : decode cX6_people 7 = .ok (.if_icmp .le 5, 3) := by decide +kernel
theorem dX6_people_10 : decode cX6_people 10 = .ok (.iconst (-1), 1) := by decide +kernel
theorem dX6_people_11 : decode cX6_people 11 = .ok (.ireturn, 1) := by decide +kernel
theorem dX6_people_12 : decode cX6_people 12 = .ok (.aload_n 0, 1) := by decide +kernel
theorem dX6_people_13 : decode cX6_people 13 = .ok (.getfield 10, 3) := by decide +kernel
theorem dX6_people_16 : decode cX6_people 16 = .ok (.getfield 50, 3) := by decide +kernel
theorem dX6_people_19 : decode cX6_people 19 = .ok (.istore_n 2, 1) := by decide +kernel
theorem dX6_people_20 : decode cX6_people 20 = .ok (.aload_n 0, 1) := by decide +kernel
theorem dX6_people_21 : decode cX6_people 21 = .ok (.getfield 10, 3) := by decide +kernel
theorem dX6_people_24 : decode cX6_people 24 = .ok (.iload_n 1, 1) := by decide +kernel
theorem dX6_people_25 : decode cX6_people 25 = .ok (.putfield 50, 3) := by decide +kernel
theorem dX6_people_28 : decode cX6_people 28 = .ok (.iload_n 2, 1) := by decide +kernel
theorem dX6_people_29 : decode cX6_people 29 = .ok (.ireturn, 1) := by decide +kernel
theorem dX6_deed_0 : decode cX6_deed 0 = .ok (.iload_n 1, 1) := by decide +kernel
theorem dX6_deed_1 : decode cX6_deed 1 = .ok (.ifCond .lt 37, 3) := by decide +kernel
theorem dX6_deed_4 : decode cX6_deed 4 = .ok (.iload_n 1, 1) := by decide +kernel
theorem dX6_deed_5 : decode cX6_deed 5 = .ok (.iconst 3, 1) := by decide +kernel
theorem dX6_deed_6 : decode cX6_deed 6 = .ok (.if_icmp .gt 32, 3) := by decide +kernel
theorem dX6_deed_9 : decode cX6_deed 9 = .ok (.iload_n 2, 1) := by decide +kernel
theorem dX6_deed_10 : decode cX6_deed 10 = .ok (.invokestatic 54, 3) := by decide +kernel
theorem dX6_deed_13 : decode cX6_deed 13 = .ok (.ifCond .eq 25, 3) := by decide +kernel
theorem dX6_deed_16 : decode cX6_deed 16 = .ok (.iload_n 3, 1) := by decide +kernel
theorem dX6_deed_17 : decode cX6_deed 17 = .ok (.aload_n 0, 1) := by decide +kernel
theorem dX6_deed_18 : decode cX6_deed 18 = .ok (.getfield 10, 3) := by decide +kernel
theorem dX6_deed_21 : decode cX6_deed 21 = .ok (.aload_n 0, 1) := by decide +kernel
theorem dX6_deed_22 : decode cX6_deed 22 = .ok (.getfield 10, 3) := by decide +kernel
theorem dX6_deed_25 : decode cX6_deed 25 = .ok (.getfield 58, 3) := by decide +kernel
theorem dX6_deed_28 : decode cX6_deed 28 = .ok (.iload_n 2, 1) := by decide +kernel
theorem dX6_deed_29 : decode cX6_deed 29 = .ok (.invokevirtual 61, 3) := by decide +kernel
theorem dX6_deed_32 : decode cX6_deed 32 = .ok (.invokestatic 65, 3) := by decide +kernel
theorem dX6_deed_35 : decode cX6_deed 35 = .ok (.ifCond .ne 5, 3) := by decide +kernel
theorem dX6_deed_38 : decode cX6_deed 38 = .ok (.iconst (-1), 1) := by decide +kernel
theorem dX6_deed_39 : decode cX6_deed 39 = .ok (.ireturn, 1) := by decide +kernel
theorem dX6_deed_40 : decode cX6_deed 40 = .ok (.aload_n 0, 1) := by decide +kernel
theorem dX6_deed_41 : decode cX6_deed 41 = .ok (.getfield 10, 3) := by decide +kernel
theorem dX6_deed_44 : decode cX6_deed 44 = .ok (.iload_n 1, 1) := by decide +kernel
theorem dX6_deed_45 : decode cX6_deed 45 = .ok (.iload_n 2, 1) := by decide +kernel
theorem dX6_deed_46 : decode cX6_deed 46 = .ok (.iload_n 3, 1) := by decide +kernel
theorem dX6_deed_47 : decode cX6_deed 47 = .ok (.invokevirtual 69, 3) := by decide +kernel
theorem dX6_deed_50 : decode cX6_deed 50 = .ok (.ifCond .eq 15, 3) := by decide +kernel
theorem dX6_deed_53 : decode cX6_deed 53 = .ok (.aload_n 0, 1) := by decide +kernel
theorem dX6_deed_54 : decode cX6_deed 54 = .ok (.getfield 10, 3) := by decide +kernel
theorem dX6_deed_57 : decode cX6_deed 57 = .ok (.getfield 58, 3) := by decide +kernel
theorem dX6_deed_60 : decode cX6_deed 60 = .ok (.iconst 1, 1) := by decide +kernel
theorem dX6_deed_61 : decode cX6_deed 61 = .ok (.isub, 1) := by decide +kernel
theorem dX6_deed_62 : decode cX6_deed 62 = .ok (.goto 5, 3) := by decide +kernel
theorem dX6_deed_65 : decode cX6_deed 65 = .ok (.bipush (-3), 2) := by decide +kernel
theorem dX6_deed_67 : decode cX6_deed 67 = .ok (.ireturn, 1) := by decide +kernel
theorem dX6_told_0 : decode cX6_told 0 = .ok (.aload_n 0, 1) := by decide +kernel
theorem dX6_told_1 : decode cX6_told 1 = .ok (.getfield 10, 3) := by decide +kernel
theorem dX6_told_4 : decode cX6_told 4 = .ok (.iload_n 1, 1) := by decide +kernel
theorem dX6_told_5 : decode cX6_told 5 = .ok (.invokevirtual 73, 3) := by decide +kernel
theorem dX6_told_8 : decode cX6_told 8 = .ok (.ifCond .ne 5, 3) := by decide +kernel
theorem dX6_told_11 : decode cX6_told 11 = .ok (.iconst (-1), 1) := by decide +kernel
theorem dX6_told_12 : decode cX6_told 12 = .ok (.ireturn, 1) := by decide +kernel
theorem dX6_told_13 : decode cX6_told 13 = .ok (.iload_n 2, 1) := by decide +kernel
theorem dX6_told_14 : decode cX6_told 14 = .ok (.tableswitch 139 0 6 #[42, 52, 62, 72, 82, 92, 119], 42) := by decide +kernel
theorem dX6_told_56 : decode cX6_told 56 = .ok (.aload_n 0, 1) := by decide +kernel
theorem dX6_told_57 : decode cX6_told 57 = .ok (.getfield 10, 3) := by decide +kernel
theorem dX6_told_60 : decode cX6_told 60 = .ok (.getfield 76, 3) := by decide +kernel
theorem dX6_told_63 : decode cX6_told 63 = .ok (.iload_n 1, 1) := by decide +kernel
theorem dX6_told_64 : decode cX6_told 64 = .ok (.iaload, 1) := by decide +kernel
theorem dX6_told_65 : decode cX6_told 65 = .ok (.ireturn, 1) := by decide +kernel
theorem dX6_told_66 : decode cX6_told 66 = .ok (.aload_n 0, 1) := by decide +kernel
theorem dX6_told_67 : decode cX6_told 67 = .ok (.getfield 10, 3) := by decide +kernel
theorem dX6_told_70 : decode cX6_told 70 = .ok (.getfield 79, 3) := by decide +kernel
theorem dX6_told_73 : decode cX6_told 73 = .ok (.iload_n 1, 1) := by decide +kernel
theorem dX6_told_74 : decode cX6_told 74 = .ok (.iaload, 1) := by decide +kernel
theorem dX6_told_75 : decode cX6_told 75 = .ok (.ireturn, 1) := by decide +kernel
theorem dX6_told_76 : decode cX6_told 76 = .ok (.aload_n 0, 1) := by decide +kernel
theorem dX6_told_77 : decode cX6_told 77 = .ok (.getfield 10, 3) := by decide +kernel
theorem dX6_told_80 : decode cX6_told 80 = .ok (.getfield 82, 3) := by decide +kernel
theorem dX6_told_83 : decode cX6_told 83 = .ok (.iload_n 1, 1) := by decide +kernel
theorem dX6_told_84 : decode cX6_told 84 = .ok (.iaload, 1) := by decide +kernel
theorem dX6_told_85 : decode cX6_told 85 = .ok (.ireturn, 1) := by decide +kernel
theorem dX6_told_86 : decode cX6_told 86 = .ok (.aload_n 0, 1) := by decide +kernel
theorem dX6_told_87 : decode cX6_told 87 = .ok (.getfield 10, 3) := by decide +kernel
theorem dX6_told_90 : decode cX6_told 90 = .ok (.getfield 85, 3) := by decide +kernel
theorem dX6_told_93 : decode cX6_told 93 = .ok (.iload_n 1, 1) := by decide +kernel
theorem dX6_told_94 : decode cX6_told 94 = .ok (.iaload, 1) := by decide +kernel
theorem dX6_told_95 : decode cX6_told 95 = .ok (.ireturn, 1) := by decide +kernel
theorem dX6_told_96 : decode cX6_told 96 = .ok (.aload_n 0, 1) := by decide +kernel
theorem dX6_told_97 : decode cX6_told 97 = .ok (.getfield 10, 3) := by decide +kernel
theorem dX6_told_100 : decode cX6_told 100 = .ok (.getfield 88, 3) := by decide +kernel
theorem dX6_told_103 : decode cX6_told 103 = .ok (.iload_n 1, 1) := by decide +kernel
theorem dX6_told_104 : decode cX6_told 104 = .ok (.iaload, 1) := by decide +kernel
theorem dX6_told_105 : decode cX6_told 105 = .ok (.ireturn, 1) := by decide +kernel
theorem dX6_told_106 : decode cX6_told 106 = .ok (.aload_n 0, 1) := by decide +kernel
theorem dX6_told_107 : decode cX6_told 107 = .ok (.getfield 10, 3) := by decide +kernel
theorem dX6_told_110 : decode cX6_told 110 = .ok (.aload_n 0, 1) := by decide +kernel
theorem dX6_told_111 : decode cX6_told 111 = .ok (.getfield 10, 3) := by decide +kernel
theorem dX6_told_114 : decode cX6_told 114 = .ok (.getfield 91, 3) := by decide +kernel
theorem dX6_told_117 : decode cX6_told 117 = .ok (.invokevirtual 94, 3) := by decide +kernel
theorem dX6_told_120 : decode cX6_told 120 = .ok (.iload_n 1, 1) := by decide +kernel
theorem dX6_told_121 : decode cX6_told 121 = .ok (.invokestatic 98, 3) := by decide +kernel
theorem dX6_told_124 : decode cX6_told 124 = .ok (.ifCond .eq 7, 3) := by decide +kernel
theorem dX6_told_127 : decode cX6_told 127 = .ok (.iconst 1, 1) := by decide +kernel
theorem dX6_told_128 : decode cX6_told 128 = .ok (.goto 4, 3) := by decide +kernel
theorem dX6_told_131 : decode cX6_told 131 = .ok (.iconst 0, 1) := by decide +kernel
theorem dX6_told_132 : decode cX6_told 132 = .ok (.ireturn, 1) := by decide +kernel
theorem dX6_told_133 : decode cX6_told 133 = .ok (.aload_n 0, 1) := by decide +kernel
theorem dX6_told_134 : decode cX6_told 134 = .ok (.getfield 10, 3) := by decide +kernel
theorem dX6_told_137 : decode cX6_told 137 = .ok (.getfield 91, 3) := by decide +kernel
theorem dX6_told_140 : decode cX6_told 140 = .ok (.iload_n 1, 1) := by decide +kernel
theorem dX6_told_141 : decode cX6_told 141 = .ok (.invokestatic 98, 3) := by decide +kernel
theorem dX6_told_144 : decode cX6_told 144 = .ok (.ifCond .eq 7, 3) := by decide +kernel
theorem dX6_told_147 : decode cX6_told 147 = .ok (.iconst 1, 1) := by decide +kernel
theorem dX6_told_148 : decode cX6_told 148 = .ok (.goto 4, 3) := by decide +kernel
theorem dX6_told_151 : decode cX6_told 151 = .ok (.iconst 0, 1) := by decide +kernel
theorem dX6_told_152 : decode cX6_told 152 = .ok (.ireturn, 1) := by decide +kernel
theorem dX6_told_153 : decode cX6_told 153 = .ok (.iconst (-1), 1) := by decide +kernel
theorem dX6_told_154 : decode cX6_told 154 = .ok (.ireturn, 1) := by decide +kernel
theorem dX6_set_0 : decode cX6_set 0 = .ok (.iload_n 2, 1) := by decide +kernel
theorem dX6_set_1 : decode cX6_set 1 = .ok (.ifCond .ne 8, 3) := by decide +kernel
theorem dX6_set_4 : decode cX6_set 4 = .ok (.bipush 9, 2) := by decide +kernel
theorem dX6_set_6 : decode cX6_set 6 = .ok (.goto 4, 3) := by decide +kernel
theorem dX6_set_9 : decode cX6_set 9 = .ok (.iconst 4, 1) := by decide +kernel
theorem dX6_set_10 : decode cX6_set 10 = .ok (.istore 4, 2) := by decide +kernel
theorem dX6_set_12 : decode cX6_set 12 = .ok (.aload_n 0, 1) := by decide +kernel
theorem dX6_set_13 : decode cX6_set 13 = .ok (.getfield 10, 3) := by decide +kernel
theorem dX6_set_16 : decode cX6_set 16 = .ok (.iload_n 1, 1) := by decide +kernel
theorem dX6_set_17 : decode cX6_set 17 = .ok (.invokevirtual 73, 3) := by decide +kernel
theorem dX6_set_20 : decode cX6_set 20 = .ok (.ifCond .eq 20, 3) := by decide +kernel
theorem dX6_set_23 : decode cX6_set 23 = .ok (.iload_n 2, 1) := by decide +kernel
theorem dX6_set_24 : decode cX6_set 24 = .ok (.invokestatic 101, 3) := by decide +kernel
theorem dX6_set_27 : decode cX6_set 27 = .ok (.ifCond .eq 13, 3) := by decide +kernel
theorem dX6_set_30 : decode cX6_set 30 = .ok (.iload_n 3, 1) := by decide +kernel
theorem dX6_set_31 : decode cX6_set 31 = .ok (.ifCond .lt 9, 3) := by decide +kernel
theorem dX6_set_34 : decode cX6_set 34 = .ok (.iload_n 3, 1) := by decide +kernel
theorem dX6_set_35 : decode cX6_set 35 = .ok (.iload 4, 2) := by decide +kernel
theorem dX6_set_37 : decode cX6_set 37 = .ok (.if_icmp .le 5, 3) := by decide +kernel
theorem dX6_set_40 : decode cX6_set 40 = .ok (.iconst (-1), 1) := by decide +kernel
theorem dX6_set_41 : decode cX6_set 41 = .ok (.ireturn, 1) := by decide +kernel
theorem dX6_set_42 : decode cX6_set 42 = .ok (.iload_n 2, 1) := by decide +kernel
theorem dX6_set_43 : decode cX6_set 43 = .ok (.ifCond .ne 13, 3) := by decide +kernel
theorem dX6_set_46 : decode cX6_set 46 = .ok (.aload_n 0, 1) := by decide +kernel
theorem dX6_set_47 : decode cX6_set 47 = .ok (.getfield 10, 3) := by decide +kernel
theorem dX6_set_50 : decode cX6_set 50 = .ok (.getfield 85, 3) := by decide +kernel
theorem dX6_set_53 : decode cX6_set 53 = .ok (.goto 10, 3) := by decide +kernel
theorem dX6_set_56 : decode cX6_set 56 = .ok (.aload_n 0, 1) := by decide +kernel
theorem dX6_set_57 : decode cX6_set 57 = .ok (.getfield 10, 3) := by decide +kernel
theorem dX6_set_60 : decode cX6_set 60 = .ok (.getfield 88, 3) := by decide +kernel
theorem dX6_set_63 : decode cX6_set 63 = .ok (.astore 5, 2) := by decide +kernel
theorem dX6_set_65 : decode cX6_set 65 = .ok (.aload 5, 2) := by decide +kernel
theorem dX6_set_67 : decode cX6_set 67 = .ok (.iload_n 1, 1) := by decide +kernel
theorem dX6_set_68 : decode cX6_set 68 = .ok (.iaload, 1) := by decide +kernel
theorem dX6_set_69 : decode cX6_set 69 = .ok (.istore 6, 2) := by decide +kernel
theorem dX6_set_71 : decode cX6_set 71 = .ok (.aload 5, 2) := by decide +kernel
theorem dX6_set_73 : decode cX6_set 73 = .ok (.iload_n 1, 1) := by decide +kernel
theorem dX6_set_74 : decode cX6_set 74 = .ok (.iload_n 3, 1) := by decide +kernel
theorem dX6_set_75 : decode cX6_set 75 = .ok (.iastore, 1) := by decide +kernel
theorem dX6_set_76 : decode cX6_set 76 = .ok (.iload 6, 2) := by decide +kernel
theorem dX6_set_78 : decode cX6_set 78 = .ok (.ireturn, 1) := by decide +kernel
theorem dX6_worth_0 : decode cX6_worth 0 = .ok (.aload_n 0, 1) := by decide +kernel
theorem dX6_worth_1 : decode cX6_worth 1 = .ok (.getfield 10, 3) := by decide +kernel
theorem dX6_worth_4 : decode cX6_worth 4 = .ok (.iload_n 1, 1) := by decide +kernel
theorem dX6_worth_5 : decode cX6_worth 5 = .ok (.invokevirtual 73, 3) := by decide +kernel
theorem dX6_worth_8 : decode cX6_worth 8 = .ok (.ifCond .eq 22, 3) := by decide +kernel
theorem dX6_worth_11 : decode cX6_worth 11 = .ok (.iload_n 2, 1) := by decide +kernel
theorem dX6_worth_12 : decode cX6_worth 12 = .ok (.invokestatic 104, 3) := by decide +kernel
theorem dX6_worth_15 : decode cX6_worth 15 = .ok (.ifCond .eq 15, 3) := by decide +kernel
theorem dX6_worth_18 : decode cX6_worth 18 = .ok (.iload_n 3, 1) := by decide +kernel
theorem dX6_worth_19 : decode cX6_worth 19 = .ok (.bipush (-9), 2) := by decide +kernel
theorem dX6_worth_21 : decode cX6_worth 21 = .ok (.if_icmp .lt 9, 3) := by decide +kernel
theorem dX6_worth_24 : decode cX6_worth 24 = .ok (.iload_n 3, 1) := by decide +kernel
theorem dX6_worth_25 : decode cX6_worth 25 = .ok (.bipush 9, 2) := by decide +kernel
theorem dX6_worth_27 : decode cX6_worth 27 = .ok (.if_icmp .le 6, 3) := by decide +kernel
theorem dX6_worth_30 : decode cX6_worth 30 = .ok (.ldc 107, 2) := by decide +kernel
theorem dX6_worth_32 : decode cX6_worth 32 = .ok (.ireturn, 1) := by decide +kernel
theorem dX6_worth_33 : decode cX6_worth 33 = .ok (.aload_n 0, 1) := by decide +kernel
theorem dX6_worth_34 : decode cX6_worth 34 = .ok (.getfield 10, 3) := by decide +kernel
theorem dX6_worth_37 : decode cX6_worth 37 = .ok (.iload_n 1, 1) := by decide +kernel
theorem dX6_worth_38 : decode cX6_worth 38 = .ok (.iload_n 2, 1) := by decide +kernel
theorem dX6_worth_39 : decode cX6_worth 39 = .ok (.invokevirtual 108, 3) := by decide +kernel
theorem dX6_worth_42 : decode cX6_worth 42 = .ok (.istore 4, 2) := by decide +kernel
theorem dX6_worth_44 : decode cX6_worth 44 = .ok (.aload_n 0, 1) := by decide +kernel
theorem dX6_worth_45 : decode cX6_worth 45 = .ok (.getfield 10, 3) := by decide +kernel
theorem dX6_worth_48 : decode cX6_worth 48 = .ok (.getfield 111, 3) := by decide +kernel
theorem dX6_worth_51 : decode cX6_worth 51 = .ok (.iload_n 1, 1) := by decide +kernel
theorem dX6_worth_52 : decode cX6_worth 52 = .ok (.iconst 4, 1) := by decide +kernel
theorem dX6_worth_53 : decode cX6_worth 53 = .ok (.imul, 1) := by decide +kernel
theorem dX6_worth_54 : decode cX6_worth 54 = .ok (.iload_n 2, 1) := by decide +kernel
theorem dX6_worth_55 : decode cX6_worth 55 = .ok (.iadd, 1) := by decide +kernel
theorem dX6_worth_56 : decode cX6_worth 56 = .ok (.iload_n 3, 1) := by decide +kernel
theorem dX6_worth_57 : decode cX6_worth 57 = .ok (.iastore, 1) := by decide +kernel
theorem dX6_worth_58 : decode cX6_worth 58 = .ok (.iload 4, 2) := by decide +kernel
theorem dX6_worth_60 : decode cX6_worth 60 = .ok (.ireturn, 1) := by decide +kernel
theorem dX6_worthOf_0 : decode cX6_worthOf 0 = .ok (.aload_n 0, 1) := by decide +kernel
theorem dX6_worthOf_1 : decode cX6_worthOf 1 = .ok (.getfield 10, 3) := by decide +kernel
theorem dX6_worthOf_4 : decode cX6_worthOf 4 = .ok (.iload_n 1, 1) := by decide +kernel
theorem dX6_worthOf_5 : decode cX6_worthOf 5 = .ok (.invokevirtual 73, 3) := by decide +kernel
theorem dX6_worthOf_8 : decode cX6_worthOf 8 = .ok (.ifCond .eq 10, 3) := by decide +kernel
theorem dX6_worthOf_11 : decode cX6_worthOf 11 = .ok (.iload_n 2, 1) := by decide +kernel
theorem dX6_worthOf_12 : decode cX6_worthOf 12 = .ok (.invokestatic 104, 3) := by decide +kernel
theorem dX6_worthOf_15 : decode cX6_worthOf 15 = .ok (.ifCond .ne 6, 3) := by decide +kernel
theorem dX6_worthOf_18 : decode cX6_worthOf 18 = .ok (.ldc 107, 2) := by decide +kernel
theorem dX6_worthOf_20 : decode cX6_worthOf 20 = .ok (.ireturn, 1) := by decide +kernel
theorem dX6_worthOf_21 : decode cX6_worthOf 21 = .ok (.aload_n 0, 1) := by decide +kernel
theorem dX6_worthOf_22 : decode cX6_worthOf 22 = .ok (.getfield 10, 3) := by decide +kernel
theorem dX6_worthOf_25 : decode cX6_worthOf 25 = .ok (.iload_n 1, 1) := by decide +kernel
theorem dX6_worthOf_26 : decode cX6_worthOf 26 = .ok (.iload_n 2, 1) := by decide +kernel
theorem dX6_worthOf_27 : decode cX6_worthOf 27 = .ok (.invokevirtual 108, 3) := by decide +kernel
theorem dX6_worthOf_30 : decode cX6_worthOf 30 = .ok (.ireturn, 1) := by decide +kernel
theorem dX6_last_0 : decode cX6_last 0 = .ok (.iload_n 1, 1) := by decide +kernel
theorem dX6_last_1 : decode cX6_last 1 = .ok (.aload_n 0, 1) := by decide +kernel
theorem dX6_last_2 : decode cX6_last 2 = .ok (.getfield 10, 3) := by decide +kernel
theorem dX6_last_5 : decode cX6_last 5 = .ok (.invokevirtual 114, 3) := by decide +kernel
theorem dX6_last_8 : decode cX6_last 8 = .ok (.invokestatic 65, 3) := by decide +kernel
theorem dX6_last_11 : decode cX6_last 11 = .ok (.ifCond .ne 5, 3) := by decide +kernel
theorem dX6_last_14 : decode cX6_last 14 = .ok (.iconst (-1), 1) := by decide +kernel
theorem dX6_last_15 : decode cX6_last 15 = .ok (.ireturn, 1) := by decide +kernel
theorem dX6_last_16 : decode cX6_last 16 = .ok (.aload_n 0, 1) := by decide +kernel
theorem dX6_last_17 : decode cX6_last 17 = .ok (.getfield 10, 3) := by decide +kernel
theorem dX6_last_20 : decode cX6_last 20 = .ok (.getfield 118, 3) := by decide +kernel
theorem dX6_last_23 : decode cX6_last 23 = .ok (.istore_n 2, 1) := by decide +kernel
theorem dX6_last_24 : decode cX6_last 24 = .ok (.aload_n 0, 1) := by decide +kernel
theorem dX6_last_25 : decode cX6_last 25 = .ok (.getfield 10, 3) := by decide +kernel
theorem dX6_last_28 : decode cX6_last 28 = .ok (.iload_n 1, 1) := by decide +kernel
theorem dX6_last_29 : decode cX6_last 29 = .ok (.putfield 118, 3) := by decide +kernel
theorem dX6_last_32 : decode cX6_last 32 = .ok (.iload_n 2, 1) := by decide +kernel
theorem dX6_last_33 : decode cX6_last 33 = .ok (.ireturn, 1) := by decide +kernel
theorem dX6_type_0 : decode cX6_type 0 = .ok (.iload_n 1, 1) := by decide +kernel
theorem dX6_type_1 : decode cX6_type 1 = .ok (.bipush 32, 2) := by decide +kernel
theorem dX6_type_3 : decode cX6_type 3 = .ok (.if_icmp .lt 9, 3) := by decide +kernel
theorem dX6_type_6 : decode cX6_type 6 = .ok (.iload_n 1, 1) := by decide +kernel
theorem dX6_type_7 : decode cX6_type 7 = .ok (.bipush 126, 2) := by decide +kernel
theorem dX6_type_9 : decode cX6_type 9 = .ok (.if_icmp .le 5, 3) := by decide +kernel
theorem dX6_type_12 : decode cX6_type 12 = .ok (.iconst (-1), 1) := by decide +kernel
theorem dX6_type_13 : decode cX6_type 13 = .ok (.ireturn, 1) := by decide +kernel
theorem dX6_type_14 : decode cX6_type 14 = .ok (.aload_n 0, 1) := by decide +kernel
theorem dX6_type_15 : decode cX6_type 15 = .ok (.getfield 25, 3) := by decide +kernel
theorem dX6_type_18 : decode cX6_type 18 = .ok (.iload_n 1, 1) := by decide +kernel
theorem dX6_type_19 : decode cX6_type 19 = .ok (.i2c, 1) := by decide +kernel
theorem dX6_type_20 : decode cX6_type 20 = .ok (.invokevirtual 121, 3) := by decide +kernel
theorem dX6_type_23 : decode cX6_type 23 = .ok (.ifCond .eq 13, 3) := by decide +kernel
theorem dX6_type_26 : decode cX6_type 26 = .ok (.aload_n 0, 1) := by decide +kernel
theorem dX6_type_27 : decode cX6_type 27 = .ok (.getfield 25, 3) := by decide +kernel
theorem dX6_type_30 : decode cX6_type 30 = .ok (.getfield 124, 3) := by decide +kernel
theorem dX6_type_33 : decode cX6_type 33 = .ok (.goto 5, 3) := by decide +kernel
theorem dX6_type_36 : decode cX6_type 36 = .ok (.bipush (-3), 2) := by decide +kernel
theorem dX6_type_38 : decode cX6_type 38 = .ok (.ireturn, 1) := by decide +kernel
theorem dX6_text_0 : decode cX6_text 0 = .ok (.aload_n 0, 1) := by decide +kernel
theorem dX6_text_1 : decode cX6_text 1 = .ok (.getfield 19, 3) := by decide +kernel
theorem dX6_text_4 : decode cX6_text 4 = .ok (.invokevirtual 127, 3) := by decide +kernel
theorem dX6_text_7 : decode cX6_text 7 = .ok (.aload_n 0, 1) := by decide +kernel
theorem dX6_text_8 : decode cX6_text 8 = .ok (.getfield 25, 3) := by decide +kernel
theorem dX6_text_11 : decode cX6_text 11 = .ok (.aload_n 0, 1) := by decide +kernel
theorem dX6_text_12 : decode cX6_text 12 = .ok (.getfield 19, 3) := by decide +kernel
theorem dX6_text_15 : decode cX6_text 15 = .ok (.invokevirtual 130, 3) := by decide +kernel
theorem dX6_text_18 : decode cX6_text 18 = .ok (.istore_n 1, 1) := by decide +kernel
theorem dX6_text_19 : decode cX6_text 19 = .ok (.aload_n 0, 1) := by decide +kernel
theorem dX6_text_20 : decode cX6_text 20 = .ok (.getfield 25, 3) := by decide +kernel
theorem dX6_text_23 : decode cX6_text 23 = .ok (.iconst 0, 1) := by decide +kernel
theorem dX6_text_24 : decode cX6_text 24 = .ok (.putfield 124, 3) := by decide +kernel
theorem dX6_text_27 : decode cX6_text 27 = .ok (.iload_n 1, 1) := by decide +kernel
theorem dX6_text_28 : decode cX6_text 28 = .ok (.ifCond .le 42, 3) := by decide +kernel
theorem dX6_text_31 : decode cX6_text 31 = .ok (.aload_n 0, 1) := by decide +kernel
theorem dX6_text_32 : decode cX6_text 32 = .ok (.getfield 19, 3) := by decide +kernel
theorem dX6_text_35 : decode cX6_text 35 = .ok (.aload_n 0, 1) := by decide +kernel
theorem dX6_text_36 : decode cX6_text 36 = .ok (.getfield 10, 3) := by decide +kernel
theorem dX6_text_39 : decode cX6_text 39 = .ok (.getfield 50, 3) := by decide +kernel
theorem dX6_text_42 : decode cX6_text 42 = .ok (.putfield 50, 3) := by decide +kernel
theorem dX6_text_45 : decode cX6_text 45 = .ok (.aload_n 0, 1) := by decide +kernel
theorem dX6_text_46 : decode cX6_text 46 = .ok (.getfield 19, 3) := by decide +kernel
theorem dX6_text_49 : decode cX6_text 49 = .ok (.aload_n 0, 1) := by decide +kernel
theorem dX6_text_50 : decode cX6_text 50 = .ok (.getfield 10, 3) := by decide +kernel
theorem dX6_text_53 : decode cX6_text 53 = .ok (.getfield 134, 3) := by decide +kernel
theorem dX6_text_56 : decode cX6_text 56 = .ok (.putfield 134, 3) := by decide +kernel
theorem dX6_text_59 : decode cX6_text 59 = .ok (.aload_n 0, 1) := by decide +kernel
theorem dX6_text_60 : decode cX6_text 60 = .ok (.getfield 10, 3) := by decide +kernel
theorem dX6_text_63 : decode cX6_text 63 = .ok (.aload_n 0, 1) := by decide +kernel
theorem dX6_text_64 : decode cX6_text 64 = .ok (.getfield 19, 3) := by decide +kernel
theorem dX6_text_67 : decode cX6_text 67 = .ok (.invokevirtual 137, 3) := by decide +kernel
theorem dX6_text_70 : decode cX6_text 70 = .ok (.iload_n 1, 1) := by decide +kernel
theorem dX6_text_71 : decode cX6_text 71 = .ok (.ireturn, 1) := by decide +kernel
theorem dX6_count_0 : decode cX6_count 0 = .ok (.iload_n 1, 1) := by decide +kernel
theorem dX6_count_1 : decode cX6_count 1 = .ok (.tableswitch 108 0 6 #[43, 51, 59, 69, 77, 92, 100], 43) := by decide +kernel
theorem dX6_count_44 : decode cX6_count 44 = .ok (.aload_n 0, 1) := by decide +kernel
theorem dX6_count_45 : decode cX6_count 45 = .ok (.getfield 10, 3) := by decide +kernel
theorem dX6_count_48 : decode cX6_count 48 = .ok (.getfield 50, 3) := by decide +kernel
theorem dX6_count_51 : decode cX6_count 51 = .ok (.ireturn, 1) := by decide +kernel
theorem dX6_count_52 : decode cX6_count 52 = .ok (.aload_n 0, 1) := by decide +kernel
theorem dX6_count_53 : decode cX6_count 53 = .ok (.getfield 10, 3) := by decide +kernel
theorem dX6_count_56 : decode cX6_count 56 = .ok (.getfield 58, 3) := by decide +kernel
theorem dX6_count_59 : decode cX6_count 59 = .ok (.ireturn, 1) := by decide +kernel
theorem dX6_count_60 : decode cX6_count 60 = .ok (.aload_n 0, 1) := by decide +kernel
theorem dX6_count_61 : decode cX6_count 61 = .ok (.getfield 10, 3) := by decide +kernel
theorem dX6_count_64 : decode cX6_count 64 = .ok (.getfield 141, 3) := by decide +kernel
theorem dX6_count_67 : decode cX6_count 67 = .ok (.iconst 1, 1) := by decide +kernel
theorem dX6_count_68 : decode cX6_count 68 = .ok (.iadd, 1) := by decide +kernel
theorem dX6_count_69 : decode cX6_count 69 = .ok (.ireturn, 1) := by decide +kernel
theorem dX6_count_70 : decode cX6_count 70 = .ok (.aload_n 0, 1) := by decide +kernel
theorem dX6_count_71 : decode cX6_count 71 = .ok (.getfield 10, 3) := by decide +kernel
theorem dX6_count_74 : decode cX6_count 74 = .ok (.getfield 134, 3) := by decide +kernel
theorem dX6_count_77 : decode cX6_count 77 = .ok (.ireturn, 1) := by decide +kernel
theorem dX6_count_78 : decode cX6_count 78 = .ok (.aload_n 0, 1) := by decide +kernel
theorem dX6_count_79 : decode cX6_count 79 = .ok (.getfield 10, 3) := by decide +kernel
theorem dX6_count_82 : decode cX6_count 82 = .ok (.aload_n 0, 1) := by decide +kernel
theorem dX6_count_83 : decode cX6_count 83 = .ok (.getfield 10, 3) := by decide +kernel
theorem dX6_count_86 : decode cX6_count 86 = .ok (.getfield 91, 3) := by decide +kernel
theorem dX6_count_89 : decode cX6_count 89 = .ok (.invokevirtual 94, 3) := by decide +kernel
theorem dX6_count_92 : decode cX6_count 92 = .ok (.ireturn, 1) := by decide +kernel
theorem dX6_count_93 : decode cX6_count 93 = .ok (.aload_n 0, 1) := by decide +kernel
theorem dX6_count_94 : decode cX6_count 94 = .ok (.getfield 10, 3) := by decide +kernel
theorem dX6_count_97 : decode cX6_count 97 = .ok (.getfield 91, 3) := by decide +kernel
theorem dX6_count_100 : decode cX6_count 100 = .ok (.ireturn, 1) := by decide +kernel
theorem dX6_count_101 : decode cX6_count 101 = .ok (.aload_n 0, 1) := by decide +kernel
theorem dX6_count_102 : decode cX6_count 102 = .ok (.getfield 10, 3) := by decide +kernel
theorem dX6_count_105 : decode cX6_count 105 = .ok (.getfield 118, 3) := by decide +kernel
theorem dX6_count_108 : decode cX6_count 108 = .ok (.ireturn, 1) := by decide +kernel
theorem dX6_count_109 : decode cX6_count 109 = .ok (.iconst (-1), 1) := by decide +kernel
theorem dX6_count_110 : decode cX6_count 110 = .ok (.ireturn, 1) := by decide +kernel
theorem dX6_right_0 : decode cX6_right 0 = .ok (.aload_n 0, 1) := by decide +kernel
theorem dX6_right_1 : decode cX6_right 1 = .ok (.getfield 10, 3) := by decide +kernel
theorem dX6_right_4 : decode cX6_right 4 = .ok (.iload_n 1, 1) := by decide +kernel
theorem dX6_right_5 : decode cX6_right 5 = .ok (.invokevirtual 73, 3) := by decide +kernel
theorem dX6_right_8 : decode cX6_right 8 = .ok (.ifCond .ne 5, 3) := by decide +kernel
theorem dX6_right_11 : decode cX6_right 11 = .ok (.iconst (-1), 1) := by decide +kernel
theorem dX6_right_12 : decode cX6_right 12 = .ok (.ireturn, 1) := by decide +kernel
theorem dX6_right_13 : decode cX6_right 13 = .ok (.aload_n 0, 1) := by decide +kernel
theorem dX6_right_14 : decode cX6_right 14 = .ok (.getfield 10, 3) := by decide +kernel
theorem dX6_right_17 : decode cX6_right 17 = .ok (.aload_n 0, 1) := by decide +kernel
theorem dX6_right_18 : decode cX6_right 18 = .ok (.getfield 10, 3) := by decide +kernel
theorem dX6_right_21 : decode cX6_right 21 = .ok (.getfield 91, 3) := by decide +kernel
theorem dX6_right_24 : decode cX6_right 24 = .ok (.invokevirtual 94, 3) := by decide +kernel
theorem dX6_right_27 : decode cX6_right 27 = .ok (.istore_n 2, 1) := by decide +kernel
theorem dX6_right_28 : decode cX6_right 28 = .ok (.aload_n 0, 1) := by decide +kernel
theorem dX6_right_29 : decode cX6_right 29 = .ok (.getfield 10, 3) := by decide +kernel
theorem dX6_right_32 : decode cX6_right 32 = .ok (.getfield 91, 3) := by decide +kernel
theorem dX6_right_35 : decode cX6_right 35 = .ok (.aload_n 0, 1) := by decide +kernel
theorem dX6_right_36 : decode cX6_right 36 = .ok (.getfield 10, 3) := by decide +kernel
theorem dX6_right_39 : decode cX6_right 39 = .ok (.aload_n 0, 1) := by decide +kernel
theorem dX6_right_40 : decode cX6_right 40 = .ok (.getfield 10, 3) := by decide +kernel
theorem dX6_right_43 : decode cX6_right 43 = .ok (.getfield 141, 3) := by decide +kernel
theorem dX6_right_46 : decode cX6_right 46 = .ok (.invokevirtual 144, 3) := by decide +kernel
theorem dX6_right_49 : decode cX6_right 49 = .ok (.iand, 1) := by decide +kernel
theorem dX6_right_50 : decode cX6_right 50 = .ok (.ifCond .eq 7, 3) := by decide +kernel
theorem dX6_right_53 : decode cX6_right 53 = .ok (.iconst 1, 1) := by decide +kernel
theorem dX6_right_54 : decode cX6_right 54 = .ok (.goto 4, 3) := by decide +kernel
theorem dX6_right_57 : decode cX6_right 57 = .ok (.iconst 0, 1) := by decide +kernel
theorem dX6_right_58 : decode cX6_right 58 = .ok (.istore_n 3, 1) := by decide +kernel
theorem dX6_right_59 : decode cX6_right 59 = .ok (.aload_n 0, 1) := by decide +kernel
theorem dX6_right_60 : decode cX6_right 60 = .ok (.getfield 10, 3) := by decide +kernel
theorem dX6_right_63 : decode cX6_right 63 = .ok (.getfield 79, 3) := by decide +kernel
theorem dX6_right_66 : decode cX6_right 66 = .ok (.iload_n 1, 1) := by decide +kernel
theorem dX6_right_67 : decode cX6_right 67 = .ok (.iaload, 1) := by decide +kernel
theorem dX6_right_68 : decode cX6_right 68 = .ok (.aload_n 0, 1) := by decide +kernel
theorem dX6_right_69 : decode cX6_right 69 = .ok (.getfield 10, 3) := by decide +kernel
theorem dX6_right_72 : decode cX6_right 72 = .ok (.getfield 141, 3) := by decide +kernel
theorem dX6_right_75 : decode cX6_right 75 = .ok (.if_icmp .ne 15, 3) := by decide +kernel
theorem dX6_right_78 : decode cX6_right 78 = .ok (.iload_n 2, 1) := by decide +kernel
theorem dX6_right_79 : decode cX6_right 79 = .ok (.iload_n 1, 1) := by decide +kernel
theorem dX6_right_80 : decode cX6_right 80 = .ok (.invokestatic 98, 3) := by decide +kernel
theorem dX6_right_83 : decode cX6_right 83 = .ok (.ifCond .eq 7, 3) := by decide +kernel
theorem dX6_right_86 : decode cX6_right 86 = .ok (.iload_n 3, 1) := by decide +kernel
theorem dX6_right_87 : decode cX6_right 87 = .ok (.ifCond .eq 6, 3) := by decide +kernel
theorem dX6_right_90 : decode cX6_right 90 = .ok (.bipush (-2), 2) := by decide +kernel
theorem dX6_right_92 : decode cX6_right 92 = .ok (.ireturn, 1) := by decide +kernel
theorem dX6_right_93 : decode cX6_right 93 = .ok (.aload_n 0, 1) := by decide +kernel
theorem dX6_right_94 : decode cX6_right 94 = .ok (.getfield 10, 3) := by decide +kernel
theorem dX6_right_97 : decode cX6_right 97 = .ok (.dup, 1) := by decide +kernel
theorem dX6_right_98 : decode cX6_right 98 = .ok (.getfield 91, 3) := by decide +kernel
theorem dX6_right_101 : decode cX6_right 101 = .ok (.iconst 1, 1) := by decide +kernel
theorem dX6_right_102 : decode cX6_right 102 = .ok (.iload_n 1, 1) := by decide +kernel
theorem dX6_right_103 : decode cX6_right 103 = .ok (.ishl, 1) := by decide +kernel
theorem dX6_right_104 : decode cX6_right 104 = .ok (.ior, 1) := by decide +kernel
theorem dX6_right_105 : decode cX6_right 105 = .ok (.putfield 91, 3) := by decide +kernel
theorem dX6_right_108 : decode cX6_right 108 = .ok (.iload_n 2, 1) := by decide +kernel
theorem dX6_right_109 : decode cX6_right 109 = .ok (.aload_n 0, 1) := by decide +kernel
theorem dX6_right_110 : decode cX6_right 110 = .ok (.getfield 10, 3) := by decide +kernel
theorem dX6_right_113 : decode cX6_right 113 = .ok (.aload_n 0, 1) := by decide +kernel
theorem dX6_right_114 : decode cX6_right 114 = .ok (.getfield 10, 3) := by decide +kernel
theorem dX6_right_117 : decode cX6_right 117 = .ok (.getfield 91, 3) := by decide +kernel
theorem dX6_right_120 : decode cX6_right 120 = .ok (.invokevirtual 94, 3) := by decide +kernel
theorem dX6_right_123 : decode cX6_right 123 = .ok (.iconst (-1), 1) := by decide +kernel
theorem dX6_right_124 : decode cX6_right 124 = .ok (.ixor, 1) := by decide +kernel
theorem dX6_right_125 : decode cX6_right 125 = .ok (.iand, 1) := by decide +kernel
theorem dX6_right_126 : decode cX6_right 126 = .ok (.ireturn, 1) := by decide +kernel
theorem dX6_back_0 : decode cX6_back 0 = .ok (.aload_n 0, 1) := by decide +kernel
theorem dX6_back_1 : decode cX6_back 1 = .ok (.getfield 10, 3) := by decide +kernel
theorem dX6_back_4 : decode cX6_back 4 = .ok (.getfield 141, 3) := by decide +kernel
theorem dX6_back_7 : decode cX6_back 7 = .ok (.ifCond .ge 6, 3) := by decide +kernel
theorem dX6_back_10 : decode cX6_back 10 = .ok (.ldc 147, 2) := by decide +kernel
theorem dX6_back_12 : decode cX6_back 12 = .ok (.ireturn, 1) := by decide +kernel
theorem dX6_back_13 : decode cX6_back 13 = .ok (.aload_n 0, 1) := by decide +kernel
theorem dX6_back_14 : decode cX6_back 14 = .ok (.getfield 10, 3) := by decide +kernel
theorem dX6_back_17 : decode cX6_back 17 = .ok (.dup, 1) := by decide +kernel
theorem dX6_back_18 : decode cX6_back 18 = .ok (.getfield 141, 3) := by decide +kernel
theorem dX6_back_21 : decode cX6_back 21 = .ok (.iconst 1, 1) := by decide +kernel
theorem dX6_back_22 : decode cX6_back 22 = .ok (.isub, 1) := by decide +kernel
theorem dX6_back_23 : decode cX6_back 23 = .ok (.putfield 141, 3) := by decide +kernel
theorem dX6_back_26 : decode cX6_back 26 = .ok (.aload_n 0, 1) := by decide +kernel
theorem dX6_back_27 : decode cX6_back 27 = .ok (.getfield 10, 3) := by decide +kernel
theorem dX6_back_30 : decode cX6_back 30 = .ok (.getfield 141, 3) := by decide +kernel
theorem dX6_back_33 : decode cX6_back 33 = .ok (.ireturn, 1) := by decide +kernel
theorem dX6_year_0 : decode cX6_year 0 = .ok (.aload_n 0, 1) := by decide +kernel
theorem dX6_year_1 : decode cX6_year 1 = .ok (.getfield 10, 3) := by decide +kernel
theorem dX6_year_4 : decode cX6_year 4 = .ok (.getfield 134, 3) := by decide +kernel
theorem dX6_year_7 : decode cX6_year 7 = .ok (.sipush 9999, 3) := by decide +kernel
theorem dX6_year_10 : decode cX6_year 10 = .ok (.if_icmp .lt 6, 3) := by decide +kernel
theorem dX6_year_13 : decode cX6_year 13 = .ok (.bipush (-3), 2) := by decide +kernel
theorem dX6_year_15 : decode cX6_year 15 = .ok (.ireturn, 1) := by decide +kernel
theorem dX6_year_16 : decode cX6_year 16 = .ok (.aload_n 0, 1) := by decide +kernel
theorem dX6_year_17 : decode cX6_year 17 = .ok (.getfield 10, 3) := by decide +kernel
theorem dX6_year_20 : decode cX6_year 20 = .ok (.invokevirtual 148, 3) := by decide +kernel
theorem dX6_year_23 : decode cX6_year 23 = .ok (.aload_n 0, 1) := by decide +kernel
theorem dX6_year_24 : decode cX6_year 24 = .ok (.getfield 10, 3) := by decide +kernel
theorem dX6_year_27 : decode cX6_year 27 = .ok (.aload_n 0, 1) := by decide +kernel
theorem dX6_year_28 : decode cX6_year 28 = .ok (.getfield 10, 3) := by decide +kernel
theorem dX6_year_31 : decode cX6_year 31 = .ok (.getfield 91, 3) := by decide +kernel
theorem dX6_year_34 : decode cX6_year 34 = .ok (.invokevirtual 94, 3) := by decide +kernel
theorem dX6_year_37 : decode cX6_year 37 = .ok (.invokestatic 151, 3) := by decide +kernel
theorem dX6_year_40 : decode cX6_year 40 = .ok (.ireturn, 1) := by decide +kernel
theorem dX6_value_0 : decode cX6_value 0 = .ok (.iload_n 1, 1) := by decide +kernel
theorem dX6_value_1 : decode cX6_value 1 = .ok (.iconst (-1), 1) := by decide +kernel
theorem dX6_value_2 : decode cX6_value 2 = .ok (.if_icmp .ne 18, 3) := by decide +kernel
theorem dX6_value_5 : decode cX6_value 5 = .ok (.aload_n 0, 1) := by decide +kernel
theorem dX6_value_6 : decode cX6_value 6 = .ok (.getfield 10, 3) := by decide +kernel
theorem dX6_value_9 : decode cX6_value 9 = .ok (.aload_n 0, 1) := by decide +kernel
theorem dX6_value_10 : decode cX6_value 10 = .ok (.getfield 10, 3) := by decide +kernel
theorem dX6_value_13 : decode cX6_value 13 = .ok (.getfield 91, 3) := by decide +kernel
theorem dX6_value_16 : decode cX6_value 16 = .ok (.invokevirtual 156, 3) := by decide +kernel
theorem dX6_value_19 : decode cX6_value 19 = .ok (.ireturn, 1) := by decide +kernel
theorem dX6_value_20 : decode cX6_value 20 = .ok (.aload_n 0, 1) := by decide +kernel
theorem dX6_value_21 : decode cX6_value 21 = .ok (.getfield 10, 3) := by decide +kernel
theorem dX6_value_24 : decode cX6_value 24 = .ok (.iload_n 1, 1) := by decide +kernel
theorem dX6_value_25 : decode cX6_value 25 = .ok (.invokevirtual 159, 3) := by decide +kernel
theorem dX6_value_28 : decode cX6_value 28 = .ok (.ifCond .ne 6, 3) := by decide +kernel
theorem dX6_value_31 : decode cX6_value 31 = .ok (.ldc 107, 2) := by decide +kernel
theorem dX6_value_33 : decode cX6_value 33 = .ok (.ireturn, 1) := by decide +kernel
theorem dX6_value_34 : decode cX6_value 34 = .ok (.aload_n 0, 1) := by decide +kernel
theorem dX6_value_35 : decode cX6_value 35 = .ok (.getfield 10, 3) := by decide +kernel
theorem dX6_value_38 : decode cX6_value 38 = .ok (.iload_n 1, 1) := by decide +kernel
theorem dX6_value_39 : decode cX6_value 39 = .ok (.aload_n 0, 1) := by decide +kernel
theorem dX6_value_40 : decode cX6_value 40 = .ok (.getfield 10, 3) := by decide +kernel
theorem dX6_value_43 : decode cX6_value 43 = .ok (.getfield 91, 3) := by decide +kernel
theorem dX6_value_46 : decode cX6_value 46 = .ok (.invokevirtual 162, 3) := by decide +kernel
theorem dX6_value_49 : decode cX6_value 49 = .ok (.ireturn, 1) := by decide +kernel
theorem dX6_bears_0 : decode cX6_bears 0 = .ok (.aload_n 0, 1) := by decide +kernel
theorem dX6_bears_1 : decode cX6_bears 1 = .ok (.getfield 10, 3) := by decide +kernel
theorem dX6_bears_4 : decode cX6_bears 4 = .ok (.iload_n 1, 1) := by decide +kernel
theorem dX6_bears_5 : decode cX6_bears 5 = .ok (.invokevirtual 73, 3) := by decide +kernel
theorem dX6_bears_8 : decode cX6_bears 8 = .ok (.ifCond .eq 14, 3) := by decide +kernel
theorem dX6_bears_11 : decode cX6_bears 11 = .ok (.aload_n 0, 1) := by decide +kernel
theorem dX6_bears_12 : decode cX6_bears 12 = .ok (.getfield 10, 3) := by decide +kernel
theorem dX6_bears_15 : decode cX6_bears 15 = .ok (.iload_n 1, 1) := by decide +kernel
theorem dX6_bears_16 : decode cX6_bears 16 = .ok (.invokevirtual 165, 3) := by decide +kernel
theorem dX6_bears_19 : decode cX6_bears 19 = .ok (.goto 4, 3) := by decide +kernel
theorem dX6_bears_22 : decode cX6_bears 22 = .ok (.iconst (-1), 1) := by decide +kernel
theorem dX6_bears_23 : decode cX6_bears 23 = .ok (.ireturn, 1) := by decide +kernel
theorem dX6_best_0 : decode cX6_best 0 = .ok (.iload_n 1, 1) := by decide +kernel
theorem dX6_best_1 : decode cX6_best 1 = .ok (.invokestatic 168, 3) := by decide +kernel
theorem dX6_best_4 : decode cX6_best 4 = .ok (.ifCond .eq 17, 3) := by decide +kernel
theorem dX6_best_7 : decode cX6_best 7 = .ok (.iload_n 2, 1) := by decide +kernel
theorem dX6_best_8 : decode cX6_best 8 = .ok (.invokestatic 101, 3) := by decide +kernel
theorem dX6_best_11 : decode cX6_best 11 = .ok (.ifCond .eq 10, 3) := by decide +kernel
theorem dX6_best_14 : decode cX6_best 14 = .ok (.iload_n 3, 1) := by decide +kernel
theorem dX6_best_15 : decode cX6_best 15 = .ok (.invokestatic 101, 3) := by decide +kernel
theorem dX6_best_18 : decode cX6_best 18 = .ok (.ifCond .ne 6, 3) := by decide +kernel
theorem dX6_best_21 : decode cX6_best 21 = .ok (.ldc 107, 2) := by decide +kernel
theorem dX6_best_23 : decode cX6_best 23 = .ok (.ireturn, 1) := by decide +kernel
theorem dX6_best_24 : decode cX6_best 24 = .ok (.aload_n 0, 1) := by decide +kernel
theorem dX6_best_25 : decode cX6_best 25 = .ok (.getfield 10, 3) := by decide +kernel
theorem dX6_best_28 : decode cX6_best 28 = .ok (.iload_n 1, 1) := by decide +kernel
theorem dX6_best_29 : decode cX6_best 29 = .ok (.iload_n 2, 1) := by decide +kernel
theorem dX6_best_30 : decode cX6_best 30 = .ok (.iconst 1, 1) := by decide +kernel
theorem dX6_best_31 : decode cX6_best 31 = .ok (.if_icmp .ne 7, 3) := by decide +kernel
theorem dX6_best_34 : decode cX6_best 34 = .ok (.iconst 1, 1) := by decide +kernel
theorem dX6_best_35 : decode cX6_best 35 = .ok (.goto 4, 3) := by decide +kernel
theorem dX6_best_38 : decode cX6_best 38 = .ok (.iconst 0, 1) := by decide +kernel
theorem dX6_best_39 : decode cX6_best 39 = .ok (.invokestatic 171, 3) := by decide +kernel
theorem dX6_best_42 : decode cX6_best 42 = .ok (.istore 4, 2) := by decide +kernel
theorem dX6_best_44 : decode cX6_best 44 = .ok (.iload_n 3, 1) := by decide +kernel
theorem dX6_best_45 : decode cX6_best 45 = .ok (.ifCond .ne 15, 3) := by decide +kernel
theorem dX6_best_48 : decode cX6_best 48 = .ok (.aload_n 0, 1) := by decide +kernel
theorem dX6_best_49 : decode cX6_best 49 = .ok (.getfield 10, 3) := by decide +kernel
theorem dX6_best_52 : decode cX6_best 52 = .ok (.iload 4, 2) := by decide +kernel
theorem dX6_best_54 : decode cX6_best 54 = .ok (.invokevirtual 156, 3) := by decide +kernel
theorem dX6_best_57 : decode cX6_best 57 = .ok (.goto 5, 3) := by decide +kernel
theorem dX6_best_60 : decode cX6_best 60 = .ok (.iload 4, 2) := by decide +kernel
theorem dX6_best_62 : decode cX6_best 62 = .ok (.ireturn, 1) := by decide +kernel
theorem dX6_wanted_0 : decode cX6_wanted 0 = .ok (.iload_n 1, 1) := by decide +kernel
theorem dX6_wanted_1 : decode cX6_wanted 1 = .ok (.aload_n 0, 1) := by decide +kernel
theorem dX6_wanted_2 : decode cX6_wanted 2 = .ok (.getfield 10, 3) := by decide +kernel
theorem dX6_wanted_5 : decode cX6_wanted 5 = .ok (.invokevirtual 114, 3) := by decide +kernel
theorem dX6_wanted_8 : decode cX6_wanted 8 = .ok (.invokestatic 65, 3) := by decide +kernel
theorem dX6_wanted_11 : decode cX6_wanted 11 = .ok (.ifCond .eq 23, 3) := by decide +kernel
theorem dX6_wanted_14 : decode cX6_wanted 14 = .ok (.iload_n 2, 1) := by decide +kernel
theorem dX6_wanted_15 : decode cX6_wanted 15 = .ok (.aload_n 0, 1) := by decide +kernel
theorem dX6_wanted_16 : decode cX6_wanted 16 = .ok (.getfield 10, 3) := by decide +kernel
theorem dX6_wanted_19 : decode cX6_wanted 19 = .ok (.invokevirtual 114, 3) := by decide +kernel
theorem dX6_wanted_22 : decode cX6_wanted 22 = .ok (.invokestatic 65, 3) := by decide +kernel
theorem dX6_wanted_25 : decode cX6_wanted 25 = .ok (.ifCond .eq 9, 3) := by decide +kernel
theorem dX6_wanted_28 : decode cX6_wanted 28 = .ok (.iload_n 1, 1) := by decide +kernel
theorem dX6_wanted_29 : decode cX6_wanted 29 = .ok (.iload_n 2, 1) := by decide +kernel
theorem dX6_wanted_30 : decode cX6_wanted 30 = .ok (.iand, 1) := by decide +kernel
theorem dX6_wanted_31 : decode cX6_wanted 31 = .ok (.ifCond .eq 5, 3) := by decide +kernel
theorem dX6_wanted_34 : decode cX6_wanted 34 = .ok (.iconst (-1), 1) := by decide +kernel
theorem dX6_wanted_35 : decode cX6_wanted 35 = .ok (.ireturn, 1) := by decide +kernel
theorem dX6_wanted_36 : decode cX6_wanted 36 = .ok (.aload_n 0, 1) := by decide +kernel
theorem dX6_wanted_37 : decode cX6_wanted 37 = .ok (.getfield 10, 3) := by decide +kernel
theorem dX6_wanted_40 : decode cX6_wanted 40 = .ok (.iload_n 1, 1) := by decide +kernel
theorem dX6_wanted_41 : decode cX6_wanted 41 = .ok (.iload_n 2, 1) := by decide +kernel
theorem dX6_wanted_42 : decode cX6_wanted 42 = .ok (.invokestatic 177, 3) := by decide +kernel
theorem dX6_wanted_45 : decode cX6_wanted 45 = .ok (.ireturn, 1) := by decide +kernel
theorem dX6_self_0 : decode cX6_self 0 = .ok (.aload_n 0, 1) := by decide +kernel
theorem dX6_self_1 : decode cX6_self 1 = .ok (.getfield 10, 3) := by decide +kernel
theorem dX6_self_4 : decode cX6_self 4 = .ok (.iconst (-1), 1) := by decide +kernel
theorem dX6_self_5 : decode cX6_self 5 = .ok (.invokestatic 181, 3) := by decide +kernel
theorem dX6_self_8 : decode cX6_self 8 = .ok (.ireturn, 1) := by decide +kernel
theorem dX6_turn_0 : decode cX6_turn 0 = .ok (.aload_n 0, 1) := by decide +kernel
theorem dX6_turn_1 : decode cX6_turn 1 = .ok (.getfield 10, 3) := by decide +kernel
theorem dX6_turn_4 : decode cX6_turn 4 = .ok (.iload_n 1, 1) := by decide +kernel
theorem dX6_turn_5 : decode cX6_turn 5 = .ok (.invokevirtual 159, 3) := by decide +kernel
theorem dX6_turn_8 : decode cX6_turn 8 = .ok (.ifCond .ne 6, 3) := by decide +kernel
theorem dX6_turn_11 : decode cX6_turn 11 = .ok (.ldc 107, 2) := by decide +kernel
theorem dX6_turn_13 : decode cX6_turn 13 = .ok (.ireturn, 1) := by decide +kernel
theorem dX6_turn_14 : decode cX6_turn 14 = .ok (.aload_n 0, 1) := by decide +kernel
theorem dX6_turn_15 : decode cX6_turn 15 = .ok (.getfield 10, 3) := by decide +kernel
theorem dX6_turn_18 : decode cX6_turn 18 = .ok (.iload_n 1, 1) := by decide +kernel
theorem dX6_turn_19 : decode cX6_turn 19 = .ok (.aload_n 0, 1) := by decide +kernel
theorem dX6_turn_20 : decode cX6_turn 20 = .ok (.getfield 10, 3) := by decide +kernel
theorem dX6_turn_23 : decode cX6_turn 23 = .ok (.iconst (-1), 1) := by decide +kernel
theorem dX6_turn_24 : decode cX6_turn 24 = .ok (.invokestatic 181, 3) := by decide +kernel
theorem dX6_turn_27 : decode cX6_turn 27 = .ok (.invokevirtual 162, 3) := by decide +kernel
theorem dX6_turn_30 : decode cX6_turn 30 = .ok (.istore_n 2, 1) := by decide +kernel
theorem dX6_turn_31 : decode cX6_turn 31 = .ok (.iload_n 2, 1) := by decide +kernel
theorem dX6_turn_32 : decode cX6_turn 32 = .ok (.aload_n 0, 1) := by decide +kernel
theorem dX6_turn_33 : decode cX6_turn 33 = .ok (.getfield 10, 3) := by decide +kernel
theorem dX6_turn_36 : decode cX6_turn 36 = .ok (.iload_n 1, 1) := by decide +kernel
theorem dX6_turn_37 : decode cX6_turn 37 = .ok (.aload_n 0, 1) := by decide +kernel
theorem dX6_turn_38 : decode cX6_turn 38 = .ok (.getfield 10, 3) := by decide +kernel
theorem dX6_turn_41 : decode cX6_turn 41 = .ok (.iload_n 1, 1) := by decide +kernel
theorem dX6_turn_42 : decode cX6_turn 42 = .ok (.invokestatic 181, 3) := by decide +kernel
theorem dX6_turn_45 : decode cX6_turn 45 = .ok (.invokevirtual 162, 3) := by decide +kernel
theorem dX6_turn_48 : decode cX6_turn 48 = .ok (.isub, 1) := by decide +kernel
theorem dX6_turn_49 : decode cX6_turn 49 = .ok (.ireturn, 1) := by decide +kernel
theorem dX6_bargain_0 : decode cX6_bargain 0 = .ok (.aload_n 0, 1) := by decide +kernel
theorem dX6_bargain_1 : decode cX6_bargain 1 = .ok (.getfield 10, 3) := by decide +kernel
theorem dX6_bargain_4 : decode cX6_bargain 4 = .ok (.iload_n 1, 1) := by decide +kernel
theorem dX6_bargain_5 : decode cX6_bargain 5 = .ok (.invokevirtual 73, 3) := by decide +kernel
theorem dX6_bargain_8 : decode cX6_bargain 8 = .ok (.ifCond .eq 38, 3) := by decide +kernel
theorem dX6_bargain_11 : decode cX6_bargain 11 = .ok (.aload_n 0, 1) := by decide +kernel
theorem dX6_bargain_12 : decode cX6_bargain 12 = .ok (.getfield 10, 3) := by decide +kernel
theorem dX6_bargain_15 : decode cX6_bargain 15 = .ok (.iload_n 2, 1) := by decide +kernel
theorem dX6_bargain_16 : decode cX6_bargain 16 = .ok (.invokevirtual 159, 3) := by decide +kernel
theorem dX6_bargain_19 : decode cX6_bargain 19 = .ok (.ifCond .eq 27, 3) := by decide +kernel
theorem dX6_bargain_22 : decode cX6_bargain 22 = .ok (.aload_n 0, 1) := by decide +kernel
theorem dX6_bargain_23 : decode cX6_bargain 23 = .ok (.getfield 10, 3) := by decide +kernel
theorem dX6_bargain_26 : decode cX6_bargain 26 = .ok (.iload_n 3, 1) := by decide +kernel
theorem dX6_bargain_27 : decode cX6_bargain 27 = .ok (.invokevirtual 159, 3) := by decide +kernel
theorem dX6_bargain_30 : decode cX6_bargain 30 = .ok (.ifCond .eq 16, 3) := by decide +kernel
theorem dX6_bargain_33 : decode cX6_bargain 33 = .ok (.iload_n 2, 1) := by decide +kernel
theorem dX6_bargain_34 : decode cX6_bargain 34 = .ok (.iload_n 3, 1) := by decide +kernel
theorem dX6_bargain_35 : decode cX6_bargain 35 = .ok (.if_icmp .eq 11, 3) := by decide +kernel
theorem dX6_bargain_38 : decode cX6_bargain 38 = .ok (.iload 4, 2) := by decide +kernel
theorem dX6_bargain_40 : decode cX6_bargain 40 = .ok (.invokestatic 101, 3) := by decide +kernel
theorem dX6_bargain_43 : decode cX6_bargain 43 = .ok (.ifCond .ne 5, 3) := by decide +kernel
theorem dX6_bargain_46 : decode cX6_bargain 46 = .ok (.iconst (-1), 1) := by decide +kernel
theorem dX6_bargain_47 : decode cX6_bargain 47 = .ok (.ireturn, 1) := by decide +kernel
theorem dX6_bargain_48 : decode cX6_bargain 48 = .ok (.aload_n 0, 1) := by decide +kernel
theorem dX6_bargain_49 : decode cX6_bargain 49 = .ok (.getfield 10, 3) := by decide +kernel
theorem dX6_bargain_52 : decode cX6_bargain 52 = .ok (.aload_n 0, 1) := by decide +kernel
theorem dX6_bargain_53 : decode cX6_bargain 53 = .ok (.getfield 10, 3) := by decide +kernel
theorem dX6_bargain_56 : decode cX6_bargain 56 = .ok (.getfield 91, 3) := by decide +kernel
theorem dX6_bargain_59 : decode cX6_bargain 59 = .ok (.invokevirtual 94, 3) := by decide +kernel
theorem dX6_bargain_62 : decode cX6_bargain 62 = .ok (.iload_n 1, 1) := by decide +kernel
theorem dX6_bargain_63 : decode cX6_bargain 63 = .ok (.invokestatic 98, 3) := by decide +kernel
theorem dX6_bargain_66 : decode cX6_bargain 66 = .ok (.ifCond .ne 6, 3) := by decide +kernel
theorem dX6_bargain_69 : decode cX6_bargain 69 = .ok (.bipush (-2), 2) := by decide +kernel
theorem dX6_bargain_71 : decode cX6_bargain 71 = .ok (.ireturn, 1) := by decide +kernel
theorem dX6_bargain_72 : decode cX6_bargain 72 = .ok (.aload_n 0, 1) := by decide +kernel
theorem dX6_bargain_73 : decode cX6_bargain 73 = .ok (.getfield 10, 3) := by decide +kernel
theorem dX6_bargain_76 : decode cX6_bargain 76 = .ok (.getfield 91, 3) := by decide +kernel
theorem dX6_bargain_79 : decode cX6_bargain 79 = .ok (.iconst 1, 1) := by decide +kernel
theorem dX6_bargain_80 : decode cX6_bargain 80 = .ok (.iload_n 1, 1) := by decide +kernel
theorem dX6_bargain_81 : decode cX6_bargain 81 = .ok (.ishl, 1) := by decide +kernel
theorem dX6_bargain_82 : decode cX6_bargain 82 = .ok (.ior, 1) := by decide +kernel
theorem dX6_bargain_83 : decode cX6_bargain 83 = .ok (.istore 5, 2) := by decide +kernel
theorem dX6_bargain_85 : decode cX6_bargain 85 = .ok (.aload_n 0, 1) := by decide +kernel
theorem dX6_bargain_86 : decode cX6_bargain 86 = .ok (.getfield 10, 3) := by decide +kernel
theorem dX6_bargain_89 : decode cX6_bargain 89 = .ok (.iload_n 2, 1) := by decide +kernel
theorem dX6_bargain_90 : decode cX6_bargain 90 = .ok (.iload 5, 2) := by decide +kernel
theorem dX6_bargain_92 : decode cX6_bargain 92 = .ok (.invokevirtual 162, 3) := by decide +kernel
theorem dX6_bargain_95 : decode cX6_bargain 95 = .ok (.aload_n 0, 1) := by decide +kernel
theorem dX6_bargain_96 : decode cX6_bargain 96 = .ok (.getfield 10, 3) := by decide +kernel
theorem dX6_bargain_99 : decode cX6_bargain 99 = .ok (.iload_n 2, 1) := by decide +kernel
theorem dX6_bargain_100 : decode cX6_bargain 100 = .ok (.aload_n 0, 1) := by decide +kernel
theorem dX6_bargain_101 : decode cX6_bargain 101 = .ok (.getfield 10, 3) := by decide +kernel
theorem dX6_bargain_104 : decode cX6_bargain 104 = .ok (.getfield 91, 3) := by decide +kernel
theorem dX6_bargain_107 : decode cX6_bargain 107 = .ok (.invokevirtual 162, 3) := by decide +kernel
theorem dX6_bargain_110 : decode cX6_bargain 110 = .ok (.isub, 1) := by decide +kernel
theorem dX6_bargain_111 : decode cX6_bargain 111 = .ok (.istore 6, 2) := by decide +kernel
theorem dX6_bargain_113 : decode cX6_bargain 113 = .ok (.aload_n 0, 1) := by decide +kernel
theorem dX6_bargain_114 : decode cX6_bargain 114 = .ok (.getfield 10, 3) := by decide +kernel
theorem dX6_bargain_117 : decode cX6_bargain 117 = .ok (.iload_n 3, 1) := by decide +kernel
theorem dX6_bargain_118 : decode cX6_bargain 118 = .ok (.aload_n 0, 1) := by decide +kernel
theorem dX6_bargain_119 : decode cX6_bargain 119 = .ok (.getfield 10, 3) := by decide +kernel
theorem dX6_bargain_122 : decode cX6_bargain 122 = .ok (.getfield 91, 3) := by decide +kernel
theorem dX6_bargain_125 : decode cX6_bargain 125 = .ok (.invokevirtual 162, 3) := by decide +kernel
theorem dX6_bargain_128 : decode cX6_bargain 128 = .ok (.aload_n 0, 1) := by decide +kernel
theorem dX6_bargain_129 : decode cX6_bargain 129 = .ok (.getfield 10, 3) := by decide +kernel
theorem dX6_bargain_132 : decode cX6_bargain 132 = .ok (.iload_n 3, 1) := by decide +kernel
theorem dX6_bargain_133 : decode cX6_bargain 133 = .ok (.iload 5, 2) := by decide +kernel
theorem dX6_bargain_135 : decode cX6_bargain 135 = .ok (.invokevirtual 162, 3) := by decide +kernel
theorem dX6_bargain_138 : decode cX6_bargain 138 = .ok (.isub, 1) := by decide +kernel
theorem dX6_bargain_139 : decode cX6_bargain 139 = .ok (.istore 7, 2) := by decide +kernel
theorem dX6_bargain_141 : decode cX6_bargain 141 = .ok (.iload 6, 2) := by decide +kernel
theorem dX6_bargain_143 : decode cX6_bargain 143 = .ok (.iload 7, 2) := by decide +kernel
theorem dX6_bargain_145 : decode cX6_bargain 145 = .ok (.if_icmp .lt 8, 3) := by decide +kernel
theorem dX6_bargain_148 : decode cX6_bargain 148 = .ok (.iload 6, 2) := by decide +kernel
theorem dX6_bargain_150 : decode cX6_bargain 150 = .ok (.ifCond .gt 6, 3) := by decide +kernel
theorem dX6_bargain_153 : decode cX6_bargain 153 = .ok (.bipush (-4), 2) := by decide +kernel
theorem dX6_bargain_155 : decode cX6_bargain 155 = .ok (.ireturn, 1) := by decide +kernel
theorem dX6_bargain_156 : decode cX6_bargain 156 = .ok (.iload 4, 2) := by decide +kernel
theorem dX6_bargain_158 : decode cX6_bargain 158 = .ok (.ifCond .ne 12, 3) := by decide +kernel
theorem dX6_bargain_161 : decode cX6_bargain 161 = .ok (.iload 7, 2) := by decide +kernel
theorem dX6_bargain_163 : decode cX6_bargain 163 = .ok (.iconst 0, 1) := by decide +kernel
theorem dX6_bargain_164 : decode cX6_bargain 164 = .ok (.invokestatic 185, 3) := by decide +kernel
theorem dX6_bargain_167 : decode cX6_bargain 167 = .ok (.goto 5, 3) := by decide +kernel
theorem dX6_bargain_170 : decode cX6_bargain 170 = .ok (.iload 6, 2) := by decide +kernel
theorem dX6_bargain_172 : decode cX6_bargain 172 = .ok (.ireturn, 1) := by decide +kernel
theorem dX6_due_0 : decode cX6_due 0 = .ok (.aload_n 0, 1) := by decide +kernel
theorem dX6_due_1 : decode cX6_due 1 = .ok (.getfield 10, 3) := by decide +kernel
theorem dX6_due_4 : decode cX6_due 4 = .ok (.iload_n 1, 1) := by decide +kernel
theorem dX6_due_5 : decode cX6_due 5 = .ok (.invokevirtual 159, 3) := by decide +kernel
theorem dX6_due_8 : decode cX6_due 8 = .ok (.ifCond .eq 14, 3) := by decide +kernel
theorem dX6_due_11 : decode cX6_due 11 = .ok (.aload_n 0, 1) := by decide +kernel
theorem dX6_due_12 : decode cX6_due 12 = .ok (.getfield 10, 3) := by decide +kernel
theorem dX6_due_15 : decode cX6_due 15 = .ok (.iload_n 1, 1) := by decide +kernel
theorem dX6_due_16 : decode cX6_due 16 = .ok (.invokestatic 190, 3) := by decide +kernel
theorem dX6_due_19 : decode cX6_due 19 = .ok (.goto 5, 3) := by decide +kernel
theorem dX6_due_22 : decode cX6_due 22 = .ok (.ldc 107, 2) := by decide +kernel
theorem dX6_due_24 : decode cX6_due 24 = .ok (.ireturn, 1) := by decide +kernel
theorem dX6_payments_0 : decode cX6_payments 0 = .ok (.iconst 0, 1) := by decide +kernel
theorem dX6_payments_1 : decode cX6_payments 1 = .ok (.istore_n 1, 1) := by decide +kernel
theorem dX6_payments_2 : decode cX6_payments 2 = .ok (.iload_n 1, 1) := by decide +kernel
theorem dX6_payments_3 : decode cX6_payments 3 = .ok (.iconst 4, 1) := by decide +kernel
theorem dX6_payments_4 : decode cX6_payments 4 = .ok (.if_icmp .ge 38, 3) := by decide +kernel
theorem dX6_payments_7 : decode cX6_payments 7 = .ok (.aload_n 0, 1) := by decide +kernel
theorem dX6_payments_8 : decode cX6_payments 8 = .ok (.getfield 43, 3) := by decide +kernel
theorem dX6_payments_11 : decode cX6_payments 11 = .ok (.iload_n 1, 1) := by decide +kernel
theorem dX6_payments_12 : decode cX6_payments 12 = .ok (.aload_n 0, 1) := by decide +kernel
theorem dX6_payments_13 : decode cX6_payments 13 = .ok (.getfield 10, 3) := by decide +kernel
theorem dX6_payments_16 : decode cX6_payments 16 = .ok (.iload_n 1, 1) := by decide +kernel
theorem dX6_payments_17 : decode cX6_payments 17 = .ok (.invokevirtual 159, 3) := by decide +kernel
theorem dX6_payments_20 : decode cX6_payments 20 = .ok (.ifCond .eq 14, 3) := by decide +kernel
theorem dX6_payments_23 : decode cX6_payments 23 = .ok (.aload_n 0, 1) := by decide +kernel
theorem dX6_payments_24 : decode cX6_payments 24 = .ok (.getfield 10, 3) := by decide +kernel
theorem dX6_payments_27 : decode cX6_payments 27 = .ok (.iload_n 1, 1) := by decide +kernel
theorem dX6_payments_28 : decode cX6_payments 28 = .ok (.invokestatic 190, 3) := by decide +kernel
theorem dX6_payments_31 : decode cX6_payments 31 = .ok (.goto 4, 3) := by decide +kernel
theorem dX6_payments_34 : decode cX6_payments 34 = .ok (.iconst 0, 1) := by decide +kernel
theorem dX6_payments_35 : decode cX6_payments 35 = .ok (.iastore, 1) := by decide +kernel
theorem dX6_payments_36 : decode cX6_payments 36 = .ok (.iinc 1 1, 3) := by decide +kernel
theorem dX6_payments_39 : decode cX6_payments 39 = .ok (.goto (-37), 3) := by decide +kernel
theorem dX6_payments_42 : decode cX6_payments 42 = .ok (.aload_n 0, 1) := by decide +kernel
theorem dX6_payments_43 : decode cX6_payments 43 = .ok (.getfield 43, 3) := by decide +kernel
theorem dX6_payments_46 : decode cX6_payments 46 = .ok (.invokestatic 195, 3) := by decide +kernel
theorem dX6_payments_49 : decode cX6_payments 49 = .ok (.ireturn, 1) := by decide +kernel
theorem dX6_forgotten_0 : decode cX6_forgotten 0 = .ok (.iload_n 1, 1) := by decide +kernel
theorem dX6_forgotten_1 : decode cX6_forgotten 1 = .ok (.invokestatic 54, 3) := by decide +kernel
theorem dX6_forgotten_4 : decode cX6_forgotten 4 = .ok (.ifCond .eq 10, 3) := by decide +kernel
theorem dX6_forgotten_7 : decode cX6_forgotten 7 = .ok (.iload_n 3, 1) := by decide +kernel
theorem dX6_forgotten_8 : decode cX6_forgotten 8 = .ok (.invokestatic 101, 3) := by decide +kernel
theorem dX6_forgotten_11 : decode cX6_forgotten 11 = .ok (.ifCond .ne 5, 3) := by decide +kernel
theorem dX6_forgotten_14 : decode cX6_forgotten 14 = .ok (.iconst (-1), 1) := by decide +kernel
theorem dX6_forgotten_15 : decode cX6_forgotten 15 = .ok (.ireturn, 1) := by decide +kernel
theorem dX6_forgotten_16 : decode cX6_forgotten 16 = .ok (.aload_n 0, 1) := by decide +kernel
theorem dX6_forgotten_17 : decode cX6_forgotten 17 = .ok (.getfield 10, 3) := by decide +kernel
theorem dX6_forgotten_20 : decode cX6_forgotten 20 = .ok (.iload_n 1, 1) := by decide +kernel
theorem dX6_forgotten_21 : decode cX6_forgotten 21 = .ok (.invokevirtual 144, 3) := by decide +kernel
theorem dX6_forgotten_24 : decode cX6_forgotten 24 = .ok (.istore 4, 2) := by decide +kernel
theorem dX6_forgotten_26 : decode cX6_forgotten 26 = .ok (.aload_n 0, 1) := by decide +kernel
theorem dX6_forgotten_27 : decode cX6_forgotten 27 = .ok (.getfield 10, 3) := by decide +kernel
theorem dX6_forgotten_30 : decode cX6_forgotten 30 = .ok (.invokevirtual 114, 3) := by decide +kernel
theorem dX6_forgotten_33 : decode cX6_forgotten 33 = .ok (.iload 4, 2) := by decide +kernel
theorem dX6_forgotten_35 : decode cX6_forgotten 35 = .ok (.iconst (-1), 1) := by decide +kernel
theorem dX6_forgotten_36 : decode cX6_forgotten 36 = .ok (.ixor, 1) := by decide +kernel
theorem dX6_forgotten_37 : decode cX6_forgotten 37 = .ok (.iand, 1) := by decide +kernel
theorem dX6_forgotten_38 : decode cX6_forgotten 38 = .ok (.istore 5, 2) := by decide +kernel
theorem dX6_forgotten_40 : decode cX6_forgotten 40 = .ok (.iload_n 2, 1) := by decide +kernel
theorem dX6_forgotten_41 : decode cX6_forgotten 41 = .ok (.iload 5, 2) := by decide +kernel
theorem dX6_forgotten_43 : decode cX6_forgotten 43 = .ok (.invokestatic 65, 3) := by decide +kernel
theorem dX6_forgotten_46 : decode cX6_forgotten 46 = .ok (.ifCond .ne 5, 3) := by decide +kernel
theorem dX6_forgotten_49 : decode cX6_forgotten 49 = .ok (.iconst (-1), 1) := by decide +kernel
theorem dX6_forgotten_50 : decode cX6_forgotten 50 = .ok (.ireturn, 1) := by decide +kernel
theorem dX6_forgotten_51 : decode cX6_forgotten 51 = .ok (.iconst 0, 1) := by decide +kernel
theorem dX6_forgotten_52 : decode cX6_forgotten 52 = .ok (.istore 6, 2) := by decide +kernel
theorem dX6_forgotten_54 : decode cX6_forgotten 54 = .ok (.iload 4, 2) := by decide +kernel
theorem dX6_forgotten_56 : decode cX6_forgotten 56 = .ok (.istore 7, 2) := by decide +kernel
theorem dX6_forgotten_58 : decode cX6_forgotten 58 = .ok (.iconst 0, 1) := by decide +kernel
theorem dX6_forgotten_59 : decode cX6_forgotten 59 = .ok (.istore 8, 2) := by decide +kernel
theorem dX6_forgotten_61 : decode cX6_forgotten 61 = .ok (.iload 8, 2) := by decide +kernel
theorem dX6_forgotten_63 : decode cX6_forgotten 63 = .ok (.iload 4, 2) := by decide +kernel
theorem dX6_forgotten_65 : decode cX6_forgotten 65 = .ok (.if_icmp .gt 45, 3) := by decide +kernel
theorem dX6_forgotten_68 : decode cX6_forgotten 68 = .ok (.iload 8, 2) := by decide +kernel
theorem dX6_forgotten_70 : decode cX6_forgotten 70 = .ok (.iload 4, 2) := by decide +kernel
theorem dX6_forgotten_72 : decode cX6_forgotten 72 = .ok (.invokestatic 65, 3) := by decide +kernel
theorem dX6_forgotten_75 : decode cX6_forgotten 75 = .ok (.ifCond .eq 29, 3) := by decide +kernel
theorem dX6_forgotten_78 : decode cX6_forgotten 78 = .ok (.aload_n 0, 1) := by decide +kernel
theorem dX6_forgotten_79 : decode cX6_forgotten 79 = .ok (.getfield 10, 3) := by decide +kernel
theorem dX6_forgotten_82 : decode cX6_forgotten 82 = .ok (.iload_n 2, 1) := by decide +kernel
theorem dX6_forgotten_83 : decode cX6_forgotten 83 = .ok (.iload 8, 2) := by decide +kernel
theorem dX6_forgotten_85 : decode cX6_forgotten 85 = .ok (.ior, 1) := by decide +kernel
theorem dX6_forgotten_86 : decode cX6_forgotten 86 = .ok (.iload 5, 2) := by decide +kernel
theorem dX6_forgotten_88 : decode cX6_forgotten 88 = .ok (.invokestatic 199, 3) := by decide +kernel
theorem dX6_forgotten_91 : decode cX6_forgotten 91 = .ok (.ifCond .eq 13, 3) := by decide +kernel
theorem dX6_forgotten_94 : decode cX6_forgotten 94 = .ok (.iinc 6 1, 3) := by decide +kernel
theorem dX6_forgotten_97 : decode cX6_forgotten 97 = .ok (.iload 7, 2) := by decide +kernel
theorem dX6_forgotten_99 : decode cX6_forgotten 99 = .ok (.iload 8, 2) := by decide +kernel
theorem dX6_forgotten_101 : decode cX6_forgotten 101 = .ok (.iand, 1) := by decide +kernel
theorem dX6_forgotten_102 : decode cX6_forgotten 102 = .ok (.istore 7, 2) := by decide +kernel
theorem dX6_forgotten_104 : decode cX6_forgotten 104 = .ok (.iinc 8 1, 3) := by decide +kernel
theorem dX6_forgotten_107 : decode cX6_forgotten 107 = .ok (.goto (-46), 3) := by decide +kernel
theorem dX6_forgotten_110 : decode cX6_forgotten 110 = .ok (.iload_n 3, 1) := by decide +kernel
theorem dX6_forgotten_111 : decode cX6_forgotten 111 = .ok (.ifCond .ne 6, 3) := by decide +kernel
theorem dX6_forgotten_114 : decode cX6_forgotten 114 = .ok (.iload 6, 2) := by decide +kernel
theorem dX6_forgotten_116 : decode cX6_forgotten 116 = .ok (.ireturn, 1) := by decide +kernel
theorem dX6_forgotten_117 : decode cX6_forgotten 117 = .ok (.iload 6, 2) := by decide +kernel
theorem dX6_forgotten_119 : decode cX6_forgotten 119 = .ok (.ifCond .ne 8, 3) := by decide +kernel
theorem dX6_forgotten_122 : decode cX6_forgotten 122 = .ok (.bipush (-4), 2) := by decide +kernel
theorem dX6_forgotten_124 : decode cX6_forgotten 124 = .ok (.goto 5, 3) := by decide +kernel
theorem dX6_forgotten_127 : decode cX6_forgotten 127 = .ok (.iload 7, 2) := by decide +kernel
theorem dX6_forgotten_129 : decode cX6_forgotten 129 = .ok (.ireturn, 1) := by decide +kernel
theorem dX6_upper_0 : decode cX6_upper 0 = .ok (.aload_n 0, 1) := by decide +kernel
theorem dX6_upper_1 : decode cX6_upper 1 = .ok (.getfield 10, 3) := by decide +kernel
theorem dX6_upper_4 : decode cX6_upper 4 = .ok (.iconst 0, 1) := by decide +kernel
theorem dX6_upper_5 : decode cX6_upper 5 = .ok (.iconst 0, 1) := by decide +kernel
theorem dX6_upper_6 : decode cX6_upper 6 = .ok (.iconst 0, 1) := by decide +kernel
theorem dX6_upper_7 : decode cX6_upper 7 = .ok (.invokestatic 205, 3) := by decide +kernel
theorem dX6_upper_10 : decode cX6_upper 10 = .ok (.lstore_n 1, 1) := by decide +kernel
theorem dX6_upper_11 : decode cX6_upper 11 = .ok (.lload_n 1, 1) := by decide +kernel
theorem dX6_upper_12 : decode cX6_upper 12 = .ok (.lload_n 1, 1) := by decide +kernel
theorem dX6_upper_13 : decode cX6_upper 13 = .ok (.aload_n 0, 1) := by decide +kernel
theorem dX6_upper_14 : decode cX6_upper 14 = .ok (.getfield 10, 3) := by decide +kernel
theorem dX6_upper_17 : decode cX6_upper 17 = .ok (.getfield 58, 3) := by decide +kernel
theorem dX6_upper_20 : decode cX6_upper 20 = .ok (.invokestatic 209, 3) := by decide +kernel
theorem dX6_upper_23 : decode cX6_upper 23 = .ok (.lshr, 1) := by decide +kernel
theorem dX6_upper_24 : decode cX6_upper 24 = .ok (.lreturn, 1) := by decide +kernel
theorem dX6_lower_0 : decode cX6_lower 0 = .ok (.aload_n 0, 1) := by decide +kernel
theorem dX6_lower_1 : decode cX6_lower 1 = .ok (.getfield 10, 3) := by decide +kernel
theorem dX6_lower_4 : decode cX6_lower 4 = .ok (.iconst 0, 1) := by decide +kernel
theorem dX6_lower_5 : decode cX6_lower 5 = .ok (.iconst 0, 1) := by decide +kernel
theorem dX6_lower_6 : decode cX6_lower 6 = .ok (.iconst 0, 1) := by decide +kernel
theorem dX6_lower_7 : decode cX6_lower 7 = .ok (.invokestatic 205, 3) := by decide +kernel
theorem dX6_lower_10 : decode cX6_lower 10 = .ok (.lstore_n 1, 1) := by decide +kernel
theorem dX6_lower_11 : decode cX6_lower 11 = .ok (.aload_n 0, 1) := by decide +kernel
theorem dX6_lower_12 : decode cX6_lower 12 = .ok (.getfield 10, 3) := by decide +kernel
theorem dX6_lower_15 : decode cX6_lower 15 = .ok (.getfield 58, 3) := by decide +kernel
theorem dX6_lower_18 : decode cX6_lower 18 = .ok (.invokestatic 213, 3) := by decide +kernel
theorem dX6_lower_21 : decode cX6_lower 21 = .ok (.lload_n 1, 1) := by decide +kernel
theorem dX6_lower_22 : decode cX6_lower 22 = .ok (.aload_n 0, 1) := by decide +kernel
theorem dX6_lower_23 : decode cX6_lower 23 = .ok (.getfield 10, 3) := by decide +kernel
theorem dX6_lower_26 : decode cX6_lower 26 = .ok (.getfield 58, 3) := by decide +kernel
theorem dX6_lower_29 : decode cX6_lower 29 = .ok (.invokestatic 209, 3) := by decide +kernel
theorem dX6_lower_32 : decode cX6_lower 32 = .ok (.lshr, 1) := by decide +kernel
theorem dX6_lower_33 : decode cX6_lower 33 = .ok (.lreturn, 1) := by decide +kernel
theorem dX6_comes_0 : decode cX6_comes 0 = .ok (.iload_n 1, 1) := by decide +kernel
theorem dX6_comes_1 : decode cX6_comes 1 = .ok (.invokestatic 168, 3) := by decide +kernel
theorem dX6_comes_4 : decode cX6_comes 4 = .ok (.ifCond .eq 10, 3) := by decide +kernel
theorem dX6_comes_7 : decode cX6_comes 7 = .ok (.iload_n 2, 1) := by decide +kernel
theorem dX6_comes_8 : decode cX6_comes 8 = .ok (.invokestatic 101, 3) := by decide +kernel
theorem dX6_comes_11 : decode cX6_comes 11 = .ok (.ifCond .ne 5, 3) := by decide +kernel
theorem dX6_comes_14 : decode cX6_comes 14 = .ok (.iconst (-1), 1) := by decide +kernel
theorem dX6_comes_15 : decode cX6_comes 15 = .ok (.ireturn, 1) := by decide +kernel
theorem dX6_comes_16 : decode cX6_comes 16 = .ok (.aload_n 0, 1) := by decide +kernel
theorem dX6_comes_17 : decode cX6_comes 17 = .ok (.getfield 19, 3) := by decide +kernel
theorem dX6_comes_20 : decode cX6_comes 20 = .ok (.aload_n 0, 1) := by decide +kernel
theorem dX6_comes_21 : decode cX6_comes 21 = .ok (.getfield 10, 3) := by decide +kernel
theorem dX6_comes_24 : decode cX6_comes 24 = .ok (.invokevirtual 137, 3) := by decide +kernel
theorem dX6_comes_27 : decode cX6_comes 27 = .ok (.aload_n 0, 1) := by decide +kernel
theorem dX6_comes_28 : decode cX6_comes 28 = .ok (.getfield 36, 3) := by decide +kernel
theorem dX6_comes_31 : decode cX6_comes 31 = .ok (.iconst 0, 1) := by decide +kernel
theorem dX6_comes_32 : decode cX6_comes 32 = .ok (.aload_n 0, 1) := by decide +kernel
theorem dX6_comes_33 : decode cX6_comes 33 = .ok (.getfield 19, 3) := by decide +kernel
theorem dX6_comes_36 : decode cX6_comes 36 = .ok (.getfield 118, 3) := by decide +kernel
theorem dX6_comes_39 : decode cX6_comes 39 = .ok (.iastore, 1) := by decide +kernel
theorem dX6_comes_40 : decode cX6_comes 40 = .ok (.iconst 1, 1) := by decide +kernel
theorem dX6_comes_41 : decode cX6_comes 41 = .ok (.istore_n 3, 1) := by decide +kernel
theorem dX6_comes_42 : decode cX6_comes 42 = .ok (.iload_n 3, 1) := by decide +kernel
theorem dX6_comes_43 : decode cX6_comes 43 = .ok (.bipush 60, 2) := by decide +kernel
theorem dX6_comes_45 : decode cX6_comes 45 = .ok (.if_icmp .gt 90, 3) := by decide +kernel
theorem dX6_comes_48 : decode cX6_comes 48 = .ok (.aload_n 0, 1) := by decide +kernel
theorem dX6_comes_49 : decode cX6_comes 49 = .ok (.getfield 19, 3) := by decide +kernel
theorem dX6_comes_52 : decode cX6_comes 52 = .ok (.aload_n 0, 1) := by decide +kernel
theorem dX6_comes_53 : decode cX6_comes 53 = .ok (.getfield 19, 3) := by decide +kernel
theorem dX6_comes_56 : decode cX6_comes 56 = .ok (.iload_n 1, 1) := by decide +kernel
theorem dX6_comes_57 : decode cX6_comes 57 = .ok (.iconst 0, 1) := by decide +kernel
theorem dX6_comes_58 : decode cX6_comes 58 = .ok (.invokestatic 171, 3) := by decide +kernel
theorem dX6_comes_61 : decode cX6_comes 61 = .ok (.putfield 91, 3) := by decide +kernel
theorem dX6_comes_64 : decode cX6_comes 64 = .ok (.aload_n 0, 1) := by decide +kernel
theorem dX6_comes_65 : decode cX6_comes 65 = .ok (.getfield 19, 3) := by decide +kernel
theorem dX6_comes_68 : decode cX6_comes 68 = .ok (.invokevirtual 148, 3) := by decide +kernel
theorem dX6_comes_71 : decode cX6_comes 71 = .ok (.iconst 0, 1) := by decide +kernel
theorem dX6_comes_72 : decode cX6_comes 72 = .ok (.istore 4, 2) := by decide +kernel
theorem dX6_comes_74 : decode cX6_comes 74 = .ok (.iload 4, 2) := by decide +kernel
theorem dX6_comes_76 : decode cX6_comes 76 = .ok (.iload_n 3, 1) := by decide +kernel
theorem dX6_comes_77 : decode cX6_comes 77 = .ok (.if_icmp .ge 39, 3) := by decide +kernel
theorem dX6_comes_80 : decode cX6_comes 80 = .ok (.aload_n 0, 1) := by decide +kernel
theorem dX6_comes_81 : decode cX6_comes 81 = .ok (.getfield 36, 3) := by decide +kernel
theorem dX6_comes_84 : decode cX6_comes 84 = .ok (.iload 4, 2) := by decide +kernel
theorem dX6_comes_86 : decode cX6_comes 86 = .ok (.iaload, 1) := by decide +kernel
theorem dX6_comes_87 : decode cX6_comes 87 = .ok (.aload_n 0, 1) := by decide +kernel
theorem dX6_comes_88 : decode cX6_comes 88 = .ok (.getfield 19, 3) := by decide +kernel
theorem dX6_comes_91 : decode cX6_comes 91 = .ok (.getfield 118, 3) := by decide +kernel
theorem dX6_comes_94 : decode cX6_comes 94 = .ok (.if_icmp .ne 16, 3) := by decide +kernel
theorem dX6_comes_97 : decode cX6_comes 97 = .ok (.iload_n 2, 1) := by decide +kernel
theorem dX6_comes_98 : decode cX6_comes 98 = .ok (.ifCond .ne 7, 3) := by decide +kernel
theorem dX6_comes_101 : decode cX6_comes 101 = .ok (.iload_n 3, 1) := by decide +kernel
theorem dX6_comes_102 : decode cX6_comes 102 = .ok (.goto 7, 3) := by decide +kernel
theorem dX6_comes_105 : decode cX6_comes 105 = .ok (.iload_n 3, 1) := by decide +kernel
theorem dX6_comes_106 : decode cX6_comes 106 = .ok (.iload 4, 2) := by decide +kernel
theorem dX6_comes_108 : decode cX6_comes 108 = .ok (.isub, 1) := by decide +kernel
theorem dX6_comes_109 : decode cX6_comes 109 = .ok (.ireturn, 1) := by decide +kernel
theorem dX6_comes_110 : decode cX6_comes 110 = .ok (.iinc 4 1, 3) := by decide +kernel
theorem dX6_comes_113 : decode cX6_comes 113 = .ok (.goto (-39), 3) := by decide +kernel
theorem dX6_comes_116 : decode cX6_comes 116 = .ok (.aload_n 0, 1) := by decide +kernel
theorem dX6_comes_117 : decode cX6_comes 117 = .ok (.getfield 36, 3) := by decide +kernel
theorem dX6_comes_120 : decode cX6_comes 120 = .ok (.iload_n 3, 1) := by decide +kernel
theorem dX6_comes_121 : decode cX6_comes 121 = .ok (.aload_n 0, 1) := by decide +kernel
theorem dX6_comes_122 : decode cX6_comes 122 = .ok (.getfield 19, 3) := by decide +kernel
theorem dX6_comes_125 : decode cX6_comes 125 = .ok (.getfield 118, 3) := by decide +kernel
theorem dX6_comes_128 : decode cX6_comes 128 = .ok (.iastore, 1) := by decide +kernel
theorem dX6_comes_129 : decode cX6_comes 129 = .ok (.iinc 3 1, 3) := by decide +kernel
theorem dX6_comes_132 : decode cX6_comes 132 = .ok (.goto (-90), 3) := by decide +kernel
theorem dX6_comes_135 : decode cX6_comes 135 = .ok (.bipush (-4), 2) := by decide +kernel
theorem dX6_comes_137 : decode cX6_comes 137 = .ok (.ireturn, 1) := by decide +kernel
theorem dX6_image_0 : decode cX6_image 0 = .ok (.aload_n 0, 1) := by decide +kernel
theorem dX6_image_1 : decode cX6_image 1 = .ok (.getfield 16, 3) := by decide +kernel
theorem dX6_image_4 : decode cX6_image 4 = .ok (.aload_n 0, 1) := by decide +kernel
theorem dX6_image_5 : decode cX6_image 5 = .ok (.getfield 10, 3) := by decide +kernel
theorem dX6_image_8 : decode cX6_image 8 = .ok (.invokevirtual 137, 3) := by decide +kernel
theorem dX6_image_11 : decode cX6_image 11 = .ok (.aload_n 0, 1) := by decide +kernel
theorem dX6_image_12 : decode cX6_image 12 = .ok (.iconst 1, 1) := by decide +kernel
theorem dX6_image_13 : decode cX6_image 13 = .ok (.putfield 46, 3) := by decide +kernel
theorem dX6_image_16 : decode cX6_image 16 = .ok (.iconst 1, 1) := by decide +kernel
theorem dX6_image_17 : decode cX6_image 17 = .ok (.ireturn, 1) := by decide +kernel
theorem dX6_restore_0 : decode cX6_restore 0 = .ok (.aload_n 0, 1) := by decide +kernel
theorem dX6_restore_1 : decode cX6_restore 1 = .ok (.getfield 46, 3) := by decide +kernel
theorem dX6_restore_4 : decode cX6_restore 4 = .ok (.ifCond .ne 6, 3) := by decide +kernel
theorem dX6_restore_7 : decode cX6_restore 7 = .ok (.bipush (-4), 2) := by decide +kernel
theorem dX6_restore_9 : decode cX6_restore 9 = .ok (.ireturn, 1) := by decide +kernel
theorem dX6_restore_10 : decode cX6_restore 10 = .ok (.aload_n 0, 1) := by decide +kernel
theorem dX6_restore_11 : decode cX6_restore 11 = .ok (.getfield 10, 3) := by decide +kernel
theorem dX6_restore_14 : decode cX6_restore 14 = .ok (.aload_n 0, 1) := by decide +kernel
theorem dX6_restore_15 : decode cX6_restore 15 = .ok (.getfield 16, 3) := by decide +kernel
theorem dX6_restore_18 : decode cX6_restore 18 = .ok (.invokevirtual 137, 3) := by decide +kernel
theorem dX6_restore_21 : decode cX6_restore 21 = .ok (.iconst 1, 1) := by decide +kernel
theorem dX6_restore_22 : decode cX6_restore 22 = .ok (.ireturn, 1) := by decide +kernel
theorem dX6_judged_0 : decode cX6_judged 0 = .ok (.aload_n 0, 1) := by decide +kernel
theorem dX6_judged_1 : decode cX6_judged 1 = .ok (.getfield 32, 3) := by decide +kernel
theorem dX6_judged_4 : decode cX6_judged 4 = .ok (.iload_n 1, 1) := by decide +kernel
theorem dX6_judged_5 : decode cX6_judged 5 = .ok (.iload_n 2, 1) := by decide +kernel
theorem dX6_judged_6 : decode cX6_judged 6 = .ok (.iload_n 3, 1) := by decide +kernel
theorem dX6_judged_7 : decode cX6_judged 7 = .ok (.bipush 12, 2) := by decide +kernel
theorem dX6_judged_9 : decode cX6_judged 9 = .ok (.invokevirtual 217, 3) := by decide +kernel
theorem dX6_judged_12 : decode cX6_judged 12 = .ok (.istore 4, 2) := by decide +kernel
theorem dX6_judged_14 : decode cX6_judged 14 = .ok (.iload 4, 2) := by decide +kernel
theorem dX6_judged_16 : decode cX6_judged 16 = .ok (.ifCond .eq 6, 3) := by decide +kernel
theorem dX6_judged_19 : decode cX6_judged 19 = .ok (.iload 4, 2) := by decide +kernel
theorem dX6_judged_21 : decode cX6_judged 21 = .ok (.ireturn, 1) := by decide +kernel
theorem dX6_judged_22 : decode cX6_judged 22 = .ok (.aload_n 0, 1) := by decide +kernel
theorem dX6_judged_23 : decode cX6_judged 23 = .ok (.getfield 10, 3) := by decide +kernel
theorem dX6_judged_26 : decode cX6_judged 26 = .ok (.iconst 0, 1) := by decide +kernel
theorem dX6_judged_27 : decode cX6_judged 27 = .ok (.invokevirtual 94, 3) := by decide +kernel
theorem dX6_judged_30 : decode cX6_judged 30 = .ok (.istore 5, 2) := by decide +kernel
theorem dX6_judged_32 : decode cX6_judged 32 = .ok (.iconst 0, 1) := by decide +kernel
theorem dX6_judged_33 : decode cX6_judged 33 = .ok (.istore 6, 2) := by decide +kernel
theorem dX6_judged_35 : decode cX6_judged 35 = .ok (.iload 6, 2) := by decide +kernel
theorem dX6_judged_37 : decode cX6_judged 37 = .ok (.bipush 12, 2) := by decide +kernel
theorem dX6_judged_39 : decode cX6_judged 39 = .ok (.if_icmp .ge 58, 3) := by decide +kernel
theorem dX6_judged_42 : decode cX6_judged 42 = .ok (.aload_n 0, 1) := by decide +kernel
theorem dX6_judged_43 : decode cX6_judged 43 = .ok (.getfield 32, 3) := by decide +kernel
theorem dX6_judged_46 : decode cX6_judged 46 = .ok (.iload_n 1, 1) := by decide +kernel
theorem dX6_judged_47 : decode cX6_judged 47 = .ok (.iload_n 3, 1) := by decide +kernel
theorem dX6_judged_48 : decode cX6_judged 48 = .ok (.iload 6, 2) := by decide +kernel
theorem dX6_judged_50 : decode cX6_judged 50 = .ok (.iadd, 1) := by decide +kernel
theorem dX6_judged_51 : decode cX6_judged 51 = .ok (.invokevirtual 221, 3) := by decide +kernel
theorem dX6_judged_54 : decode cX6_judged 54 = .ok (.lstore 7, 2) := by decide +kernel
theorem dX6_judged_56 : decode cX6_judged 56 = .ok (.lload 7, 2) := by decide +kernel
theorem dX6_judged_58 : decode cX6_judged 58 = .ok (.ldc2_w 225, 3) := by decide +kernel
theorem dX6_judged_61 : decode cX6_judged 61 = .ok (.lcmp, 1) := by decide +kernel
theorem dX6_judged_62 : decode cX6_judged 62 = .ok (.ifCond .eq 29, 3) := by decide +kernel
theorem dX6_judged_65 : decode cX6_judged 65 = .ok (.lload 7, 2) := by decide +kernel
theorem dX6_judged_67 : decode cX6_judged 67 = .ok (.iload 5, 2) := by decide +kernel
theorem dX6_judged_69 : decode cX6_judged 69 = .ok (.aload_n 0, 1) := by decide +kernel
theorem dX6_judged_70 : decode cX6_judged 70 = .ok (.getfield 10, 3) := by decide +kernel
theorem dX6_judged_73 : decode cX6_judged 73 = .ok (.bipush 11, 2) := by decide +kernel
theorem dX6_judged_75 : decode cX6_judged 75 = .ok (.iload 6, 2) := by decide +kernel
theorem dX6_judged_77 : decode cX6_judged 77 = .ok (.isub, 1) := by decide +kernel
theorem dX6_judged_78 : decode cX6_judged 78 = .ok (.invokevirtual 144, 3) := by decide +kernel
theorem dX6_judged_81 : decode cX6_judged 81 = .ok (.iand, 1) := by decide +kernel
theorem dX6_judged_82 : decode cX6_judged 82 = .ok (.invokestatic 227, 3) := by decide +kernel
theorem dX6_judged_85 : decode cX6_judged 85 = .ok (.ifCond .ne 6, 3) := by decide +kernel
theorem dX6_judged_88 : decode cX6_judged 88 = .ok (.iload 6, 2) := by decide +kernel
theorem dX6_judged_90 : decode cX6_judged 90 = .ok (.ireturn, 1) := by decide +kernel
theorem dX6_judged_91 : decode cX6_judged 91 = .ok (.iinc 6 1, 3) := by decide +kernel
theorem dX6_judged_94 : decode cX6_judged 94 = .ok (.goto (-59), 3) := by decide +kernel
theorem dX6_judged_97 : decode cX6_judged 97 = .ok (.bipush (-4), 2) := by decide +kernel
theorem dX6_judged_99 : decode cX6_judged 99 = .ok (.ireturn, 1) := by decide +kernel
theorem dX6_net_0 : decode cX6_net 0 = .ok (.aload_n 0, 1) := by decide +kernel
theorem dX6_net_1 : decode cX6_net 1 = .ok (.getfield 10, 3) := by decide +kernel
theorem dX6_net_4 : decode cX6_net 4 = .ok (.iload_n 1, 1) := by decide +kernel
theorem dX6_net_5 : decode cX6_net 5 = .ok (.invokevirtual 73, 3) := by decide +kernel
theorem dX6_net_8 : decode cX6_net 8 = .ok (.ifCond .eq 24, 3) := by decide +kernel
theorem dX6_net_11 : decode cX6_net 11 = .ok (.iload 5, 2) := by decide +kernel
theorem dX6_net_13 : decode cX6_net 13 = .ok (.iconst 1, 1) := by decide +kernel
theorem dX6_net_14 : decode cX6_net 14 = .ok (.if_icmp .lt 18, 3) := by decide +kernel
theorem dX6_net_17 : decode cX6_net 17 = .ok (.iload 5, 2) := by decide +kernel
theorem dX6_net_19 : decode cX6_net 19 = .ok (.bipush 8, 2) := by decide +kernel
theorem dX6_net_21 : decode cX6_net 21 = .ok (.if_icmp .gt 11, 3) := by decide +kernel
theorem dX6_net_24 : decode cX6_net 24 = .ok (.iload 6, 2) := by decide +kernel
theorem dX6_net_26 : decode cX6_net 26 = .ok (.invokestatic 101, 3) := by decide +kernel
theorem dX6_net_29 : decode cX6_net 29 = .ok (.ifCond .ne 5, 3) := by decide +kernel
theorem dX6_net_32 : decode cX6_net 32 = .ok (.iconst (-1), 1) := by decide +kernel
theorem dX6_net_33 : decode cX6_net 33 = .ok (.ireturn, 1) := by decide +kernel
theorem dX6_net_34 : decode cX6_net 34 = .ok (.aload_n 0, 1) := by decide +kernel
theorem dX6_net_35 : decode cX6_net 35 = .ok (.getfield 32, 3) := by decide +kernel
theorem dX6_net_38 : decode cX6_net 38 = .ok (.iload_n 2, 1) := by decide +kernel
theorem dX6_net_39 : decode cX6_net 39 = .ok (.iload_n 3, 1) := by decide +kernel
theorem dX6_net_40 : decode cX6_net 40 = .ok (.iload 4, 2) := by decide +kernel
theorem dX6_net_42 : decode cX6_net 42 = .ok (.iload 5, 2) := by decide +kernel
theorem dX6_net_44 : decode cX6_net 44 = .ok (.invokevirtual 217, 3) := by decide +kernel
theorem dX6_net_47 : decode cX6_net 47 = .ok (.istore 7, 2) := by decide +kernel
theorem dX6_net_49 : decode cX6_net 49 = .ok (.iload 7, 2) := by decide +kernel
theorem dX6_net_51 : decode cX6_net 51 = .ok (.ifCond .eq 6, 3) := by decide +kernel
theorem dX6_net_54 : decode cX6_net 54 = .ok (.iload 7, 2) := by decide +kernel
theorem dX6_net_56 : decode cX6_net 56 = .ok (.ireturn, 1) := by decide +kernel
theorem dX6_net_57 : decode cX6_net 57 = .ok (.aload_n 0, 1) := by decide +kernel
theorem dX6_net_58 : decode cX6_net 58 = .ok (.iload_n 2, 1) := by decide +kernel
theorem dX6_net_59 : decode cX6_net 59 = .ok (.iload 4, 2) := by decide +kernel
theorem dX6_net_61 : decode cX6_net 61 = .ok (.iload 5, 2) := by decide +kernel
theorem dX6_net_63 : decode cX6_net 63 = .ok (.invokevirtual 231, 3) := by decide +kernel
theorem dX6_net_66 : decode cX6_net 66 = .ok (.ifCond .ne 6, 3) := by decide +kernel
theorem dX6_net_69 : decode cX6_net 69 = .ok (.bipush (-2), 2) := by decide +kernel
theorem dX6_net_71 : decode cX6_net 71 = .ok (.ireturn, 1) := by decide +kernel
theorem dX6_net_72 : decode cX6_net 72 = .ok (.aload_n 0, 1) := by decide +kernel
theorem dX6_net_73 : decode cX6_net 73 = .ok (.getfield 10, 3) := by decide +kernel
theorem dX6_net_76 : decode cX6_net 76 = .ok (.iload_n 1, 1) := by decide +kernel
theorem dX6_net_77 : decode cX6_net 77 = .ok (.aload_n 0, 1) := by decide +kernel
theorem dX6_net_78 : decode cX6_net 78 = .ok (.getfield 10, 3) := by decide +kernel
theorem dX6_net_81 : decode cX6_net 81 = .ok (.getfield 79, 3) := by decide +kernel
theorem dX6_net_84 : decode cX6_net 84 = .ok (.iload_n 1, 1) := by decide +kernel
theorem dX6_net_85 : decode cX6_net 85 = .ok (.iaload, 1) := by decide +kernel
theorem dX6_net_86 : decode cX6_net 86 = .ok (.invokevirtual 61, 3) := by decide +kernel
theorem dX6_net_89 : decode cX6_net 89 = .ok (.istore 8, 2) := by decide +kernel
theorem dX6_net_91 : decode cX6_net 91 = .ok (.iconst 0, 1) := by decide +kernel
theorem dX6_net_92 : decode cX6_net 92 = .ok (.istore 9, 2) := by decide +kernel
theorem dX6_net_94 : decode cX6_net 94 = .ok (.bipush (-4), 2) := by decide +kernel
theorem dX6_net_96 : decode cX6_net 96 = .ok (.istore 10, 2) := by decide +kernel
theorem dX6_net_98 : decode cX6_net 98 = .ok (.iload 8, 2) := by decide +kernel
theorem dX6_net_100 : decode cX6_net 100 = .ok (.istore 11, 2) := by decide +kernel
theorem dX6_net_102 : decode cX6_net 102 = .ok (.iload 11, 2) := by decide +kernel
theorem dX6_net_104 : decode cX6_net 104 = .ok (.ifCond .lt 52, 3) := by decide +kernel
theorem dX6_net_107 : decode cX6_net 107 = .ok (.iload 11, 2) := by decide +kernel
theorem dX6_net_109 : decode cX6_net 109 = .ok (.iload 8, 2) := by decide +kernel
theorem dX6_net_111 : decode cX6_net 111 = .ok (.invokestatic 65, 3) := by decide +kernel
theorem dX6_net_114 : decode cX6_net 114 = .ok (.ifCond .eq 36, 3) := by decide +kernel
theorem dX6_net_117 : decode cX6_net 117 = .ok (.aload_n 0, 1) := by decide +kernel
theorem dX6_net_118 : decode cX6_net 118 = .ok (.getfield 10, 3) := by decide +kernel
theorem dX6_net_121 : decode cX6_net 121 = .ok (.getfield 76, 3) := by decide +kernel
theorem dX6_net_124 : decode cX6_net 124 = .ok (.iload_n 1, 1) := by decide +kernel
theorem dX6_net_125 : decode cX6_net 125 = .ok (.iaload, 1) := by decide +kernel
theorem dX6_net_126 : decode cX6_net 126 = .ok (.iload 11, 2) := by decide +kernel
theorem dX6_net_128 : decode cX6_net 128 = .ok (.iconst 1, 1) := by decide +kernel
theorem dX6_net_129 : decode cX6_net 129 = .ok (.iload_n 1, 1) := by decide +kernel
theorem dX6_net_130 : decode cX6_net 130 = .ok (.ishl, 1) := by decide +kernel
theorem dX6_net_131 : decode cX6_net 131 = .ok (.aload_n 0, 1) := by decide +kernel
theorem dX6_net_132 : decode cX6_net 132 = .ok (.getfield 40, 3) := by decide +kernel
theorem dX6_net_135 : decode cX6_net 135 = .ok (.iload 5, 2) := by decide +kernel
theorem dX6_net_137 : decode cX6_net 137 = .ok (.invokestatic 234, 3) := by decide +kernel
theorem dX6_net_140 : decode cX6_net 140 = .ok (.ifCond .eq 10, 3) := by decide +kernel
theorem dX6_net_143 : decode cX6_net 143 = .ok (.iinc 9 1, 3) := by decide +kernel
theorem dX6_net_146 : decode cX6_net 146 = .ok (.iload 11, 2) := by decide +kernel
theorem dX6_net_148 : decode cX6_net 148 = .ok (.istore 10, 2) := by decide +kernel
theorem dX6_net_150 : decode cX6_net 150 = .ok (.iinc 11 (-1), 3) := by decide +kernel
theorem dX6_net_153 : decode cX6_net 153 = .ok (.goto (-51), 3) := by decide +kernel
theorem dX6_net_156 : decode cX6_net 156 = .ok (.iload 6, 2) := by decide +kernel
theorem dX6_net_158 : decode cX6_net 158 = .ok (.ifCond .ne 8, 3) := by decide +kernel
theorem dX6_net_161 : decode cX6_net 161 = .ok (.iload 9, 2) := by decide +kernel
theorem dX6_net_163 : decode cX6_net 163 = .ok (.goto 5, 3) := by decide +kernel
theorem dX6_net_166 : decode cX6_net 166 = .ok (.iload 10, 2) := by decide +kernel
theorem dX6_net_168 : decode cX6_net 168 = .ok (.ireturn, 1) := by decide +kernel
theorem dX6_film_0 : decode cX6_film 0 = .ok (.aload_n 0, 1) := by decide +kernel
theorem dX6_film_1 : decode cX6_film 1 = .ok (.getfield 32, 3) := by decide +kernel
theorem dX6_film_4 : decode cX6_film 4 = .ok (.iload_n 1, 1) := by decide +kernel
theorem dX6_film_5 : decode cX6_film 5 = .ok (.iload_n 2, 1) := by decide +kernel
theorem dX6_film_6 : decode cX6_film 6 = .ok (.iload_n 3, 1) := by decide +kernel
theorem dX6_film_7 : decode cX6_film 7 = .ok (.aload_n 0, 1) := by decide +kernel
theorem dX6_film_8 : decode cX6_film 8 = .ok (.getfield 10, 3) := by decide +kernel
theorem dX6_film_11 : decode cX6_film 11 = .ok (.getfield 50, 3) := by decide +kernel
theorem dX6_film_14 : decode cX6_film 14 = .ok (.invokevirtual 217, 3) := by decide +kernel
theorem dX6_film_17 : decode cX6_film 17 = .ok (.istore 4, 2) := by decide +kernel
theorem dX6_film_19 : decode cX6_film 19 = .ok (.iload 4, 2) := by decide +kernel
theorem dX6_film_21 : decode cX6_film 21 = .ok (.ifCond .eq 6, 3) := by decide +kernel
theorem dX6_film_24 : decode cX6_film 24 = .ok (.iload 4, 2) := by decide +kernel
theorem dX6_film_26 : decode cX6_film 26 = .ok (.ireturn, 1) := by decide +kernel
theorem dX6_film_27 : decode cX6_film 27 = .ok (.iconst 0, 1) := by decide +kernel
theorem dX6_film_28 : decode cX6_film 28 = .ok (.istore 5, 2) := by decide +kernel
theorem dX6_film_30 : decode cX6_film 30 = .ok (.iload 5, 2) := by decide +kernel
theorem dX6_film_32 : decode cX6_film 32 = .ok (.aload_n 0, 1) := by decide +kernel
theorem dX6_film_33 : decode cX6_film 33 = .ok (.getfield 10, 3) := by decide +kernel
theorem dX6_film_36 : decode cX6_film 36 = .ok (.getfield 50, 3) := by decide +kernel
theorem dX6_film_39 : decode cX6_film 39 = .ok (.if_icmp .ge 38, 3) := by decide +kernel
theorem dX6_film_42 : decode cX6_film 42 = .ok (.aload_n 0, 1) := by decide +kernel
theorem dX6_film_43 : decode cX6_film 43 = .ok (.getfield 32, 3) := by decide +kernel
theorem dX6_film_46 : decode cX6_film 46 = .ok (.iload_n 1, 1) := by decide +kernel
theorem dX6_film_47 : decode cX6_film 47 = .ok (.iload_n 3, 1) := by decide +kernel
theorem dX6_film_48 : decode cX6_film 48 = .ok (.iload 5, 2) := by decide +kernel
theorem dX6_film_50 : decode cX6_film 50 = .ok (.iadd, 1) := by decide +kernel
theorem dX6_film_51 : decode cX6_film 51 = .ok (.aload_n 0, 1) := by decide +kernel
theorem dX6_film_52 : decode cX6_film 52 = .ok (.getfield 10, 3) := by decide +kernel
theorem dX6_film_55 : decode cX6_film 55 = .ok (.iload 5, 2) := by decide +kernel
theorem dX6_film_57 : decode cX6_film 57 = .ok (.aload_n 0, 1) := by decide +kernel
theorem dX6_film_58 : decode cX6_film 58 = .ok (.getfield 10, 3) := by decide +kernel
theorem dX6_film_61 : decode cX6_film 61 = .ok (.getfield 91, 3) := by decide +kernel
theorem dX6_film_64 : decode cX6_film 64 = .ok (.invokevirtual 162, 3) := by decide +kernel
theorem dX6_film_67 : decode cX6_film 67 = .ok (.i2l, 1) := by decide +kernel
theorem dX6_film_68 : decode cX6_film 68 = .ok (.invokevirtual 238, 3) := by decide +kernel
theorem dX6_film_71 : decode cX6_film 71 = .ok (.iinc 5 1, 3) := by decide +kernel
theorem dX6_film_74 : decode cX6_film 74 = .ok (.goto (-44), 3) := by decide +kernel
theorem dX6_film_77 : decode cX6_film 77 = .ok (.aload_n 0, 1) := by decide +kernel
theorem dX6_film_78 : decode cX6_film 78 = .ok (.getfield 10, 3) := by decide +kernel
theorem dX6_film_81 : decode cX6_film 81 = .ok (.getfield 50, 3) := by decide +kernel
theorem dX6_film_84 : decode cX6_film 84 = .ok (.ireturn, 1) := by decide +kernel
theorem dX6_sheet_0 : decode cX6_sheet 0 = .ok (.iload_n 1, 1) := by decide +kernel
theorem dX6_sheet_1 : decode cX6_sheet 1 = .ok (.invokestatic 242, 3) := by decide +kernel
theorem dX6_sheet_4 : decode cX6_sheet 4 = .ok (.ifCond .eq 16, 3) := by decide +kernel
theorem dX6_sheet_7 : decode cX6_sheet 7 = .ok (.iload_n 2, 1) := by decide +kernel
theorem dX6_sheet_8 : decode cX6_sheet 8 = .ok (.invokestatic 245, 3) := by decide +kernel
theorem dX6_sheet_11 : decode cX6_sheet 11 = .ok (.ifCond .eq 9, 3) := by decide +kernel
theorem dX6_sheet_14 : decode cX6_sheet 14 = .ok (.iload_n 3, 1) := by decide +kernel
theorem dX6_sheet_15 : decode cX6_sheet 15 = .ok (.bipush 16, 2) := by decide +kernel
theorem dX6_sheet_17 : decode cX6_sheet 17 = .ok (.if_icmp .le 5, 3) := by decide +kernel
theorem dX6_sheet_20 : decode cX6_sheet 20 = .ok (.iconst (-1), 1) := by decide +kernel
theorem dX6_sheet_21 : decode cX6_sheet 21 = .ok (.ireturn, 1) := by decide +kernel
theorem dX6_sheet_22 : decode cX6_sheet 22 = .ok (.iload_n 3, 1) := by decide +kernel
theorem dX6_sheet_23 : decode cX6_sheet 23 = .ok (.ifCond .ge 6, 3) := by decide +kernel
theorem dX6_sheet_26 : decode cX6_sheet 26 = .ok (.bipush (-14), 2) := by decide +kernel
theorem dX6_sheet_28 : decode cX6_sheet 28 = .ok (.ireturn, 1) := by decide +kernel
theorem dX6_sheet_29 : decode cX6_sheet 29 = .ok (.aload_n 0, 1) := by decide +kernel
theorem dX6_sheet_30 : decode cX6_sheet 30 = .ok (.getfield 32, 3) := by decide +kernel
theorem dX6_sheet_33 : decode cX6_sheet 33 = .ok (.iload_n 1, 1) := by decide +kernel
theorem dX6_sheet_34 : decode cX6_sheet 34 = .ok (.iload_n 2, 1) := by decide +kernel
theorem dX6_sheet_35 : decode cX6_sheet 35 = .ok (.iload_n 3, 1) := by decide +kernel
theorem dX6_sheet_36 : decode cX6_sheet 36 = .ok (.invokevirtual 248, 3) := by decide +kernel
theorem dX6_sheet_39 : decode cX6_sheet 39 = .ok (.iload_n 3, 1) := by decide +kernel
theorem dX6_sheet_40 : decode cX6_sheet 40 = .ok (.ireturn, 1) := by decide +kernel
theorem dX6_drop_0 : decode cX6_drop 0 = .ok (.iload_n 1, 1) := by decide +kernel
theorem dX6_drop_1 : decode cX6_drop 1 = .ok (.invokestatic 242, 3) := by decide +kernel
theorem dX6_drop_4 : decode cX6_drop 4 = .ok (.ifCond .ne 5, 3) := by decide +kernel
theorem dX6_drop_7 : decode cX6_drop 7 = .ok (.iconst (-1), 1) := by decide +kernel
theorem dX6_drop_8 : decode cX6_drop 8 = .ok (.ireturn, 1) := by decide +kernel
theorem dX6_drop_9 : decode cX6_drop 9 = .ok (.aload_n 0, 1) := by decide +kernel
theorem dX6_drop_10 : decode cX6_drop 10 = .ok (.getfield 32, 3) := by decide +kernel
theorem dX6_drop_13 : decode cX6_drop 13 = .ok (.iload_n 1, 1) := by decide +kernel
theorem dX6_drop_14 : decode cX6_drop 14 = .ok (.invokevirtual 252, 3) := by decide +kernel
theorem dX6_drop_17 : decode cX6_drop 17 = .ok (.ifCond .ne 6, 3) := by decide +kernel
theorem dX6_drop_20 : decode cX6_drop 20 = .ok (.bipush (-11), 2) := by decide +kernel
theorem dX6_drop_22 : decode cX6_drop 22 = .ok (.ireturn, 1) := by decide +kernel
theorem dX6_drop_23 : decode cX6_drop 23 = .ok (.aload_n 0, 1) := by decide +kernel
theorem dX6_drop_24 : decode cX6_drop 24 = .ok (.getfield 32, 3) := by decide +kernel
theorem dX6_drop_27 : decode cX6_drop 27 = .ok (.getfield 255, 3) := by decide +kernel
theorem dX6_drop_30 : decode cX6_drop 30 = .ok (.iload_n 1, 1) := by decide +kernel
theorem dX6_drop_31 : decode cX6_drop 31 = .ok (.iaload, 1) := by decide +kernel
theorem dX6_drop_32 : decode cX6_drop 32 = .ok (.istore_n 2, 1) := by decide +kernel
theorem dX6_drop_33 : decode cX6_drop 33 = .ok (.aload_n 0, 1) := by decide +kernel
theorem dX6_drop_34 : decode cX6_drop 34 = .ok (.getfield 32, 3) := by decide +kernel
theorem dX6_drop_37 : decode cX6_drop 37 = .ok (.iload_n 1, 1) := by decide +kernel
theorem dX6_drop_38 : decode cX6_drop 38 = .ok (.iconst (-1), 1) := by decide +kernel
theorem dX6_drop_39 : decode cX6_drop 39 = .ok (.iconst 0, 1) := by decide +kernel
theorem dX6_drop_40 : decode cX6_drop 40 = .ok (.invokevirtual 248, 3) := by decide +kernel
theorem dX6_drop_43 : decode cX6_drop 43 = .ok (.iload_n 2, 1) := by decide +kernel
theorem dX6_drop_44 : decode cX6_drop 44 = .ok (.ireturn, 1) := by decide +kernel
theorem dX6_item_0 : decode cX6_item 0 = .ok (.aload_n 0, 1) := by decide +kernel
theorem dX6_item_1 : decode cX6_item 1 = .ok (.getfield 32, 3) := by decide +kernel
theorem dX6_item_4 : decode cX6_item 4 = .ok (.iload_n 1, 1) := by decide +kernel
theorem dX6_item_5 : decode cX6_item 5 = .ok (.iload_n 2, 1) := by decide +kernel
theorem dX6_item_6 : decode cX6_item 6 = .ok (.iload_n 3, 1) := by decide +kernel
theorem dX6_item_7 : decode cX6_item 7 = .ok (.iconst 1, 1) := by decide +kernel
theorem dX6_item_8 : decode cX6_item 8 = .ok (.invokevirtual 217, 3) := by decide +kernel
theorem dX6_item_11 : decode cX6_item 11 = .ok (.istore 6, 2) := by decide +kernel
theorem dX6_item_13 : decode cX6_item 13 = .ok (.iload 6, 2) := by decide +kernel
theorem dX6_item_15 : decode cX6_item 15 = .ok (.ifCond .eq 6, 3) := by decide +kernel
theorem dX6_item_18 : decode cX6_item 18 = .ok (.iload 6, 2) := by decide +kernel
theorem dX6_item_20 : decode cX6_item 20 = .ok (.ireturn, 1) := by decide +kernel
theorem dX6_item_21 : decode cX6_item 21 = .ok (.aload_n 0, 1) := by decide +kernel
theorem dX6_item_22 : decode cX6_item 22 = .ok (.getfield 32, 3) := by decide +kernel
theorem dX6_item_25 : decode cX6_item 25 = .ok (.iload_n 1, 1) := by decide +kernel
theorem dX6_item_26 : decode cX6_item 26 = .ok (.iload_n 3, 1) := by decide +kernel
theorem dX6_item_27 : decode cX6_item 27 = .ok (.lload 4, 2) := by decide +kernel
theorem dX6_item_29 : decode cX6_item 29 = .ok (.invokevirtual 238, 3) := by decide +kernel
theorem dX6_item_32 : decode cX6_item 32 = .ok (.iconst 1, 1) := by decide +kernel
theorem dX6_item_33 : decode cX6_item 33 = .ok (.ireturn, 1) := by decide +kernel
theorem dX6_copy_0 : decode cX6_copy 0 = .ok (.iload_n 1, 1) := by decide +kernel
theorem dX6_copy_1 : decode cX6_copy 1 = .ok (.invokestatic 242, 3) := by decide +kernel
theorem dX6_copy_4 : decode cX6_copy 4 = .ok (.ifCond .eq 10, 3) := by decide +kernel
theorem dX6_copy_7 : decode cX6_copy 7 = .ok (.iload_n 3, 1) := by decide +kernel
theorem dX6_copy_8 : decode cX6_copy 8 = .ok (.invokestatic 242, 3) := by decide +kernel
theorem dX6_copy_11 : decode cX6_copy 11 = .ok (.ifCond .ne 5, 3) := by decide +kernel
theorem dX6_copy_14 : decode cX6_copy 14 = .ok (.iconst (-1), 1) := by decide +kernel
theorem dX6_copy_15 : decode cX6_copy 15 = .ok (.ireturn, 1) := by decide +kernel
theorem dX6_copy_16 : decode cX6_copy 16 = .ok (.aload_n 0, 1) := by decide +kernel
theorem dX6_copy_17 : decode cX6_copy 17 = .ok (.getfield 32, 3) := by decide +kernel
theorem dX6_copy_20 : decode cX6_copy 20 = .ok (.iload_n 1, 1) := by decide +kernel
theorem dX6_copy_21 : decode cX6_copy 21 = .ok (.invokevirtual 252, 3) := by decide +kernel
theorem dX6_copy_24 : decode cX6_copy 24 = .ok (.ifCond .eq 14, 3) := by decide +kernel
theorem dX6_copy_27 : decode cX6_copy 27 = .ok (.aload_n 0, 1) := by decide +kernel
theorem dX6_copy_28 : decode cX6_copy 28 = .ok (.getfield 32, 3) := by decide +kernel
theorem dX6_copy_31 : decode cX6_copy 31 = .ok (.iload_n 3, 1) := by decide +kernel
theorem dX6_copy_32 : decode cX6_copy 32 = .ok (.invokevirtual 252, 3) := by decide +kernel
theorem dX6_copy_35 : decode cX6_copy 35 = .ok (.ifCond .ne 6, 3) := by decide +kernel
theorem dX6_copy_38 : decode cX6_copy 38 = .ok (.bipush (-11), 2) := by decide +kernel
theorem dX6_copy_40 : decode cX6_copy 40 = .ok (.ireturn, 1) := by decide +kernel
theorem dX6_copy_41 : decode cX6_copy 41 = .ok (.aload_n 0, 1) := by decide +kernel
theorem dX6_copy_42 : decode cX6_copy 42 = .ok (.getfield 32, 3) := by decide +kernel
theorem dX6_copy_45 : decode cX6_copy 45 = .ok (.getfield 258, 3) := by decide +kernel
theorem dX6_copy_48 : decode cX6_copy 48 = .ok (.iload_n 1, 1) := by decide +kernel
theorem dX6_copy_49 : decode cX6_copy 49 = .ok (.iaload, 1) := by decide +kernel
theorem dX6_copy_50 : decode cX6_copy 50 = .ok (.aload_n 0, 1) := by decide +kernel
theorem dX6_copy_51 : decode cX6_copy 51 = .ok (.getfield 32, 3) := by decide +kernel
theorem dX6_copy_54 : decode cX6_copy 54 = .ok (.getfield 258, 3) := by decide +kernel
theorem dX6_copy_57 : decode cX6_copy 57 = .ok (.iload_n 3, 1) := by decide +kernel
theorem dX6_copy_58 : decode cX6_copy 58 = .ok (.iaload, 1) := by decide +kernel
theorem dX6_copy_59 : decode cX6_copy 59 = .ok (.if_icmp .eq 6, 3) := by decide +kernel
theorem dX6_copy_62 : decode cX6_copy 62 = .ok (.bipush (-12), 2) := by decide +kernel
theorem dX6_copy_64 : decode cX6_copy 64 = .ok (.ireturn, 1) := by decide +kernel
theorem dX6_copy_65 : decode cX6_copy 65 = .ok (.aload_n 0, 1) := by decide +kernel
theorem dX6_copy_66 : decode cX6_copy 66 = .ok (.getfield 32, 3) := by decide +kernel
theorem dX6_copy_69 : decode cX6_copy 69 = .ok (.iload_n 1, 1) := by decide +kernel
theorem dX6_copy_70 : decode cX6_copy 70 = .ok (.iload_n 2, 1) := by decide +kernel
theorem dX6_copy_71 : decode cX6_copy 71 = .ok (.iload 5, 2) := by decide +kernel
theorem dX6_copy_73 : decode cX6_copy 73 = .ok (.invokevirtual 261, 3) := by decide +kernel
theorem dX6_copy_76 : decode cX6_copy 76 = .ok (.ifCond .eq 18, 3) := by decide +kernel
theorem dX6_copy_79 : decode cX6_copy 79 = .ok (.aload_n 0, 1) := by decide +kernel
theorem dX6_copy_80 : decode cX6_copy 80 = .ok (.getfield 32, 3) := by decide +kernel
theorem dX6_copy_83 : decode cX6_copy 83 = .ok (.iload_n 3, 1) := by decide +kernel
theorem dX6_copy_84 : decode cX6_copy 84 = .ok (.iload 4, 2) := by decide +kernel
theorem dX6_copy_86 : decode cX6_copy 86 = .ok (.iload 5, 2) := by decide +kernel
theorem dX6_copy_88 : decode cX6_copy 88 = .ok (.invokevirtual 261, 3) := by decide +kernel
theorem dX6_copy_91 : decode cX6_copy 91 = .ok (.ifCond .ne 6, 3) := by decide +kernel
theorem dX6_copy_94 : decode cX6_copy 94 = .ok (.bipush (-13), 2) := by decide +kernel
theorem dX6_copy_96 : decode cX6_copy 96 = .ok (.ireturn, 1) := by decide +kernel
theorem dX6_copy_97 : decode cX6_copy 97 = .ok (.aload_n 0, 1) := by decide +kernel
theorem dX6_copy_98 : decode cX6_copy 98 = .ok (.getfield 32, 3) := by decide +kernel
theorem dX6_copy_101 : decode cX6_copy 101 = .ok (.iload_n 1, 1) := by decide +kernel
theorem dX6_copy_102 : decode cX6_copy 102 = .ok (.iload_n 2, 1) := by decide +kernel
theorem dX6_copy_103 : decode cX6_copy 103 = .ok (.iload_n 3, 1) := by decide +kernel
theorem dX6_copy_104 : decode cX6_copy 104 = .ok (.iload 4, 2) := by decide +kernel
theorem dX6_copy_106 : decode cX6_copy 106 = .ok (.iload 5, 2) := by decide +kernel
theorem dX6_copy_108 : decode cX6_copy 108 = .ok (.invokevirtual 264, 3) := by decide +kernel
theorem dX6_copy_111 : decode cX6_copy 111 = .ok (.iload 5, 2) := by decide +kernel
theorem dX6_copy_113 : decode cX6_copy 113 = .ok (.ireturn, 1) := by decide +kernel
theorem dX6_takeToldYears_0 : decode cX6_takeToldYears 0 = .ok (.iconst 0, 1) := by decide +kernel
theorem dX6_takeToldYears_1 : decode cX6_takeToldYears 1 = .ok (.istore 4, 2) := by decide +kernel
theorem dX6_takeToldYears_3 : decode cX6_takeToldYears 3 = .ok (.iload 4, 2) := by decide +kernel
theorem dX6_takeToldYears_5 : decode cX6_takeToldYears 5 = .ok (.iload_n 3, 1) := by decide +kernel
theorem dX6_takeToldYears_6 : decode cX6_takeToldYears 6 = .ok (.if_icmp .ge 65, 3) := by decide +kernel
theorem dX6_takeToldYears_9 : decode cX6_takeToldYears 9 = .ok (.iload 4, 2) := by decide +kernel
theorem dX6_takeToldYears_11 : decode cX6_takeToldYears 11 = .ok (.aload_n 0, 1) := by decide +kernel
theorem dX6_takeToldYears_12 : decode cX6_takeToldYears 12 = .ok (.getfield 40, 3) := by decide +kernel
theorem dX6_takeToldYears_15 : decode cX6_takeToldYears 15 = .ok (.arraylength, 1) := by decide +kernel
theorem dX6_takeToldYears_16 : decode cX6_takeToldYears 16 = .ok (.if_icmp .ge 55, 3) := by decide +kernel
theorem dX6_takeToldYears_19 : decode cX6_takeToldYears 19 = .ok (.aload_n 0, 1) := by decide +kernel
theorem dX6_takeToldYears_20 : decode cX6_takeToldYears 20 = .ok (.getfield 32, 3) := by decide +kernel
theorem dX6_takeToldYears_23 : decode cX6_takeToldYears 23 = .ok (.iload_n 1, 1) := by decide +kernel
theorem dX6_takeToldYears_24 : decode cX6_takeToldYears 24 = .ok (.iload_n 2, 1) := by decide +kernel
theorem dX6_takeToldYears_25 : decode cX6_takeToldYears 25 = .ok (.iload 4, 2) := by decide +kernel
theorem dX6_takeToldYears_27 : decode cX6_takeToldYears 27 = .ok (.iadd, 1) := by decide +kernel
theorem dX6_takeToldYears_28 : decode cX6_takeToldYears 28 = .ok (.invokevirtual 221, 3) := by decide +kernel
theorem dX6_takeToldYears_31 : decode cX6_takeToldYears 31 = .ok (.lstore 5, 2) := by decide +kernel
theorem dX6_takeToldYears_33 : decode cX6_takeToldYears 33 = .ok (.lload 5, 2) := by decide +kernel
theorem dX6_takeToldYears_35 : decode cX6_takeToldYears 35 = .ok (.aload_n 0, 1) := by decide +kernel
theorem dX6_takeToldYears_36 : decode cX6_takeToldYears 36 = .ok (.getfield 10, 3) := by decide +kernel
theorem dX6_takeToldYears_39 : decode cX6_takeToldYears 39 = .ok (.invokevirtual 114, 3) := by decide +kernel
theorem dX6_takeToldYears_42 : decode cX6_takeToldYears 42 = .ok (.i2l, 1) := by decide +kernel
theorem dX6_takeToldYears_43 : decode cX6_takeToldYears 43 = .ok (.ldc2_w 225, 3) := by decide +kernel
theorem dX6_takeToldYears_46 : decode cX6_takeToldYears 46 = .ok (.lxor, 1) := by decide +kernel
theorem dX6_takeToldYears_47 : decode cX6_takeToldYears 47 = .ok (.land, 1) := by decide +kernel
theorem dX6_takeToldYears_48 : decode cX6_takeToldYears 48 = .ok (.lconst 0, 1) := by decide +kernel
theorem dX6_takeToldYears_49 : decode cX6_takeToldYears 49 = .ok (.lcmp, 1) := by decide +kernel
theorem dX6_takeToldYears_50 : decode cX6_takeToldYears 50 = .ok (.ifCond .eq 5, 3) := by decide +kernel
theorem dX6_takeToldYears_53 : decode cX6_takeToldYears 53 = .ok (.iconst 0, 1) := by decide +kernel
theorem dX6_takeToldYears_54 : decode cX6_takeToldYears 54 = .ok (.ireturn, 1) := by decide +kernel
theorem dX6_takeToldYears_55 : decode cX6_takeToldYears 55 = .ok (.aload_n 0, 1) := by decide +kernel
theorem dX6_takeToldYears_56 : decode cX6_takeToldYears 56 = .ok (.getfield 40, 3) := by decide +kernel
theorem dX6_takeToldYears_59 : decode cX6_takeToldYears 59 = .ok (.iload 4, 2) := by decide +kernel
theorem dX6_takeToldYears_61 : decode cX6_takeToldYears 61 = .ok (.lload 5, 2) := by decide +kernel
theorem dX6_takeToldYears_63 : decode cX6_takeToldYears 63 = .ok (.l2i, 1) := by decide +kernel
theorem dX6_takeToldYears_64 : decode cX6_takeToldYears 64 = .ok (.iastore, 1) := by decide +kernel
theorem dX6_takeToldYears_65 : decode cX6_takeToldYears 65 = .ok (.iinc 4 1, 3) := by decide +kernel
theorem dX6_takeToldYears_68 : decode cX6_takeToldYears 68 = .ok (.goto (-65), 3) := by decide +kernel
theorem dX6_takeToldYears_71 : decode cX6_takeToldYears 71 = .ok (.iconst 1, 1) := by decide +kernel
theorem dX6_takeToldYears_72 : decode cX6_takeToldYears 72 = .ok (.ireturn, 1) := by decide +kernel
theorem dX6_isDay_0 : decode cX6_isDay 0 = .ok (.iload_n 0, 1) := by decide +kernel
theorem dX6_isDay_1 : decode cX6_isDay 1 = .ok (.ifCond .lt 13, 3) := by decide +kernel
theorem dX6_isDay_4 : decode cX6_isDay 4 = .ok (.iload_n 0, 1) := by decide +kernel
theorem dX6_isDay_5 : decode cX6_isDay 5 = .ok (.bipush 11, 2) := by decide +kernel
theorem dX6_isDay_7 : decode cX6_isDay 7 = .ok (.if_icmp .gt 7, 3) := by decide +kernel
theorem dX6_isDay_10 : decode cX6_isDay 10 = .ok (.iconst 1, 1) := by decide +kernel
theorem dX6_isDay_11 : decode cX6_isDay 11 = .ok (.goto 4, 3) := by decide +kernel
theorem dX6_isDay_14 : decode cX6_isDay 14 = .ok (.iconst 0, 1) := by decide +kernel
theorem dX6_isDay_15 : decode cX6_isDay 15 = .ok (.ireturn, 1) := by decide +kernel
theorem dX6_isEverPerson_0 : decode cX6_isEverPerson 0 = .ok (.iload_n 0, 1) := by decide +kernel
theorem dX6_isEverPerson_1 : decode cX6_isEverPerson 1 = .ok (.ifCond .lt 12, 3) := by decide +kernel
theorem dX6_isEverPerson_4 : decode cX6_isEverPerson 4 = .ok (.iload_n 0, 1) := by decide +kernel
theorem dX6_isEverPerson_5 : decode cX6_isEverPerson 5 = .ok (.iconst 4, 1) := by decide +kernel
theorem dX6_isEverPerson_6 : decode cX6_isEverPerson 6 = .ok (.if_icmp .ge 7, 3) := by decide +kernel
theorem dX6_isEverPerson_9 : decode cX6_isEverPerson 9 = .ok (.iconst 1, 1) := by decide +kernel
theorem dX6_isEverPerson_10 : decode cX6_isEverPerson 10 = .ok (.goto 4, 3) := by decide +kernel
theorem dX6_isEverPerson_13 : decode cX6_isEverPerson 13 = .ok (.iconst 0, 1) := by decide +kernel
theorem dX6_isEverPerson_14 : decode cX6_isEverPerson 14 = .ok (.ireturn, 1) := by decide +kernel
theorem dX6_isWalkLength_0 : decode cX6_isWalkLength 0 = .ok (.iload_n 0, 1) := by decide +kernel
theorem dX6_isWalkLength_1 : decode cX6_isWalkLength 1 = .ok (.ifCond .lt 12, 3) := by decide +kernel
theorem dX6_isWalkLength_4 : decode cX6_isWalkLength 4 = .ok (.iload_n 0, 1) := by decide +kernel
theorem dX6_isWalkLength_5 : decode cX6_isWalkLength 5 = .ok (.iconst 4, 1) := by decide +kernel
theorem dX6_isWalkLength_6 : decode cX6_isWalkLength 6 = .ok (.if_icmp .gt 7, 3) := by decide +kernel
theorem dX6_isWalkLength_9 : decode cX6_isWalkLength 9 = .ok (.iconst 1, 1) := by decide +kernel
theorem dX6_isWalkLength_10 : decode cX6_isWalkLength 10 = .ok (.goto 4, 3) := by decide +kernel
theorem dX6_isWalkLength_13 : decode cX6_isWalkLength 13 = .ok (.iconst 0, 1) := by decide +kernel
theorem dX6_isWalkLength_14 : decode cX6_isWalkLength 14 = .ok (.ireturn, 1) := by decide +kernel
theorem dX6_isChoice_0 : decode cX6_isChoice 0 = .ok (.iload_n 0, 1) := by decide +kernel
theorem dX6_isChoice_1 : decode cX6_isChoice 1 = .ok (.ifCond .eq 8, 3) := by decide +kernel
theorem dX6_isChoice_4 : decode cX6_isChoice 4 = .ok (.iload_n 0, 1) := by decide +kernel
theorem dX6_isChoice_5 : decode cX6_isChoice 5 = .ok (.iconst 1, 1) := by decide +kernel
theorem dX6_isChoice_6 : decode cX6_isChoice 6 = .ok (.if_icmp .ne 7, 3) := by decide +kernel
theorem dX6_isChoice_9 : decode cX6_isChoice 9 = .ok (.iconst 1, 1) := by decide +kernel
theorem dX6_isChoice_10 : decode cX6_isChoice 10 = .ok (.goto 4, 3) := by decide +kernel
theorem dX6_isChoice_13 : decode cX6_isChoice 13 = .ok (.iconst 0, 1) := by decide +kernel
theorem dX6_isChoice_14 : decode cX6_isChoice 14 = .ok (.ireturn, 1) := by decide +kernel
theorem dX6_isSheet_0 : decode cX6_isSheet 0 = .ok (.iload_n 0, 1) := by decide +kernel
theorem dX6_isSheet_1 : decode cX6_isSheet 1 = .ok (.ifCond .lt 12, 3) := by decide +kernel
theorem dX6_isSheet_4 : decode cX6_isSheet 4 = .ok (.iload_n 0, 1) := by decide +kernel
theorem dX6_isSheet_5 : decode cX6_isSheet 5 = .ok (.iconst 4, 1) := by decide +kernel
theorem dX6_isSheet_6 : decode cX6_isSheet 6 = .ok (.if_icmp .ge 7, 3) := by decide +kernel
theorem dX6_isSheet_9 : decode cX6_isSheet 9 = .ok (.iconst 1, 1) := by decide +kernel
theorem dX6_isSheet_10 : decode cX6_isSheet 10 = .ok (.goto 4, 3) := by decide +kernel
theorem dX6_isSheet_13 : decode cX6_isSheet 13 = .ok (.iconst 0, 1) := by decide +kernel
theorem dX6_isSheet_14 : decode cX6_isSheet 14 = .ok (.ireturn, 1) := by decide +kernel
theorem dX6_isLane_0 : decode cX6_isLane 0 = .ok (.iload_n 0, 1) := by decide +kernel
theorem dX6_isLane_1 : decode cX6_isLane 1 = .ok (.ifCond .lt 12, 3) := by decide +kernel
theorem dX6_isLane_4 : decode cX6_isLane 4 = .ok (.iload_n 0, 1) := by decide +kernel
theorem dX6_isLane_5 : decode cX6_isLane 5 = .ok (.iconst 4, 1) := by decide +kernel
theorem dX6_isLane_6 : decode cX6_isLane 6 = .ok (.if_icmp .ge 7, 3) := by decide +kernel
theorem dX6_isLane_9 : decode cX6_isLane 9 = .ok (.iconst 1, 1) := by decide +kernel
theorem dX6_isLane_10 : decode cX6_isLane 10 = .ok (.goto 4, 3) := by decide +kernel
theorem dX6_isLane_13 : decode cX6_isLane 13 = .ok (.iconst 0, 1) := by decide +kernel
theorem dX6_isLane_14 : decode cX6_isLane 14 = .ok (.ireturn, 1) := by decide +kernel
theorem dX6_isIn_0 : decode cX6_isIn 0 = .ok (.iload_n 0, 1) := by decide +kernel
theorem dX6_isIn_1 : decode cX6_isIn 1 = .ok (.iload_n 1, 1) := by decide +kernel
theorem dX6_isIn_2 : decode cX6_isIn 2 = .ok (.ishr, 1) := by decide +kernel
theorem dX6_isIn_3 : decode cX6_isIn 3 = .ok (.iconst 1, 1) := by decide +kernel
theorem dX6_isIn_4 : decode cX6_isIn 4 = .ok (.iand, 1) := by decide +kernel
theorem dX6_isIn_5 : decode cX6_isIn 5 = .ok (.ifCond .eq 7, 3) := by decide +kernel
theorem dX6_isIn_8 : decode cX6_isIn 8 = .ok (.iconst 1, 1) := by decide +kernel
theorem dX6_isIn_9 : decode cX6_isIn 9 = .ok (.goto 4, 3) := by decide +kernel
theorem dX6_isIn_12 : decode cX6_isIn 12 = .ok (.iconst 0, 1) := by decide +kernel
theorem dX6_isIn_13 : decode cX6_isIn 13 = .ok (.ireturn, 1) := by decide +kernel
theorem dX6_isOneOf_0 : decode cX6_isOneOf 0 = .ok (.lload_n 0, 1) := by decide +kernel
theorem dX6_isOneOf_1 : decode cX6_isOneOf 1 = .ok (.lconst 0, 1) := by decide +kernel
theorem dX6_isOneOf_2 : decode cX6_isOneOf 2 = .ok (.lcmp, 1) := by decide +kernel
theorem dX6_isOneOf_3 : decode cX6_isOneOf 3 = .ok (.ifCond .lt 24, 3) := by decide +kernel
theorem dX6_isOneOf_6 : decode cX6_isOneOf 6 = .ok (.lload_n 0, 1) := by decide +kernel
theorem dX6_isOneOf_7 : decode cX6_isOneOf 7 = .ok (.ldc2_w 268, 3) := by decide +kernel
theorem dX6_isOneOf_10 : decode cX6_isOneOf 10 = .ok (.lcmp, 1) := by decide +kernel
theorem dX6_isOneOf_11 : decode cX6_isOneOf 11 = .ok (.ifCond .ge 16, 3) := by decide +kernel
theorem dX6_isOneOf_14 : decode cX6_isOneOf 14 = .ok (.iload_n 2, 1) := by decide +kernel
theorem dX6_isOneOf_15 : decode cX6_isOneOf 15 = .ok (.lload_n 0, 1) := by decide +kernel
theorem dX6_isOneOf_16 : decode cX6_isOneOf 16 = .ok (.l2i, 1) := by decide +kernel
theorem dX6_isOneOf_17 : decode cX6_isOneOf 17 = .ok (.invokestatic 98, 3) := by decide +kernel
theorem dX6_isOneOf_20 : decode cX6_isOneOf 20 = .ok (.ifCond .eq 7, 3) := by decide +kernel
theorem dX6_isOneOf_23 : decode cX6_isOneOf 23 = .ok (.iconst 1, 1) := by decide +kernel
theorem dX6_isOneOf_24 : decode cX6_isOneOf 24 = .ok (.goto 4, 3) := by decide +kernel
theorem dX6_isOneOf_27 : decode cX6_isOneOf 27 = .ok (.iconst 0, 1) := by decide +kernel
theorem dX6_isOneOf_28 : decode cX6_isOneOf 28 = .ok (.ireturn, 1) := by decide +kernel
theorem dX6_isWithin_0 : decode cX6_isWithin 0 = .ok (.iload_n 0, 1) := by decide +kernel
theorem dX6_isWithin_1 : decode cX6_isWithin 1 = .ok (.iload_n 1, 1) := by decide +kernel
theorem dX6_isWithin_2 : decode cX6_isWithin 2 = .ok (.iconst (-1), 1) := by decide +kernel
theorem dX6_isWithin_3 : decode cX6_isWithin 3 = .ok (.ixor, 1) := by decide +kernel
theorem dX6_isWithin_4 : decode cX6_isWithin 4 = .ok (.iand, 1) := by decide +kernel
theorem dX6_isWithin_5 : decode cX6_isWithin 5 = .ok (.ifCond .ne 7, 3) := by decide +kernel
theorem dX6_isWithin_8 : decode cX6_isWithin 8 = .ok (.iconst 1, 1) := by decide +kernel
theorem dX6_isWithin_9 : decode cX6_isWithin 9 = .ok (.goto 4, 3) := by decide +kernel
theorem dX6_isWithin_12 : decode cX6_isWithin 12 = .ok (.iconst 0, 1) := by decide +kernel
theorem dX6_isWithin_13 : decode cX6_isWithin 13 = .ok (.ireturn, 1) := by decide +kernel
end
section
theorem dX7_in_0 : decode cX7_in 0 = .ok (.lload_n 0, 1) := by decide +kernel
theorem dX7_in_1 : decode cX7_in 1 = .ok (.lload_n 2, 1) := by decide +kernel
theorem dX7_in_2 : decode cX7_in 2 = .ok (.lcmp, 1) := by decide +kernel
theorem dX7_in_3 : decode cX7_in 3 = .ok (.ifCond .lt 14, 3) := by decide +kernel
theorem dX7_in_6 : decode cX7_in 6 = .ok (.lload_n 0, 1) := by decide +kernel
theorem dX7_in_7 : decode cX7_in 7 = .ok (.lload 4, 2) := by decide +kernel
theorem dX7_in_9 : decode cX7_in 9 = .ok (.lcmp, 1) := by decide +kernel
theorem dX7_in_10 : decode cX7_in 10 = .ok (.ifCond .gt 7, 3) := by decide +kernel
theorem dX7_in_13 : decode cX7_in 13 = .ok (.iconst 1, 1) := by decide +kernel
theorem dX7_in_14 : decode cX7_in 14 = .ok (.goto 4, 3) := by decide +kernel
theorem dX7_in_17 : decode cX7_in 17 = .ok (.iconst 0, 1) := by decide +kernel
theorem dX7_in_18 : decode cX7_in 18 = .ok (.ireturn, 1) := by decide +kernel
theorem dX7_init_0 : decode cX7_init 0 = .ok (.aload_n 0, 1) := by decide +kernel
theorem dX7_init_1 : decode cX7_init 1 = .ok (.invokespecial 1, 3) := by decide +kernel
theorem dX7_init_4 : decode cX7_init 4 = .ok (.aload_n 0, 1) := by decide +kernel
theorem dX7_init_5 : decode cX7_init 5 = .ok (.bipush 12, 2) := by decide +kernel
theorem dX7_init_7 : decode cX7_init 7 = .ok (.newarray .int, 2) := by decide +kernel
theorem dX7_init_9 : decode cX7_init 9 = .ok (.putfield 7, 3) := by decide +kernel
theorem dX7_init_12 : decode cX7_init 12 = .ok (.aload_n 0, 1) := by decide +kernel
theorem dX7_init_13 : decode cX7_init 13 = .ok (.bipush 12, 2) := by decide +kernel
theorem dX7_init_15 : decode cX7_init 15 = .ok (.newarray .int, 2) := by decide +kernel
theorem dX7_init_17 : decode cX7_init 17 = .ok (.putfield 13, 3) := by decide +kernel
theorem dX7_init_20 : decode cX7_init 20 = .ok (.aload_n 0, 1) := by decide +kernel
theorem dX7_init_21 : decode cX7_init 21 = .ok (.bipush 12, 2) := by decide +kernel
theorem dX7_init_23 : decode cX7_init 23 = .ok (.newarray .int, 2) := by decide +kernel
theorem dX7_init_25 : decode cX7_init 25 = .ok (.putfield 16, 3) := by decide +kernel
theorem dX7_init_28 : decode cX7_init 28 = .ok (.aload_n 0, 1) := by decide +kernel
theorem dX7_init_29 : decode cX7_init 29 = .ok (.bipush 12, 2) := by decide +kernel
theorem dX7_init_31 : decode cX7_init 31 = .ok (.newarray .int, 2) := by decide +kernel
theorem dX7_init_33 : decode cX7_init 33 = .ok (.putfield 19, 3) := by decide +kernel
theorem dX7_init_36 : decode cX7_init 36 = .ok (.aload_n 0, 1) := by decide +kernel
theorem dX7_init_37 : decode cX7_init 37 = .ok (.bipush 12, 2) := by decide +kernel
theorem dX7_init_39 : decode cX7_init 39 = .ok (.newarray .int, 2) := by decide +kernel
theorem dX7_init_41 : decode cX7_init 41 = .ok (.putfield 22, 3) := by decide +kernel
theorem dX7_init_44 : decode cX7_init 44 = .ok (.aload_n 0, 1) := by decide +kernel
theorem dX7_init_45 : decode cX7_init 45 = .ok (.bipush 48, 2) := by decide +kernel
theorem dX7_init_47 : decode cX7_init 47 = .ok (.newarray .int, 2) := by decide +kernel
theorem dX7_init_49 : decode cX7_init 49 = .ok (.putfield 25, 3) := by decide +kernel
theorem dX7_init_52 : decode cX7_init 52 = .ok (.aload_n 0, 1) := by decide +kernel
theorem dX7_init_53 : decode cX7_init 53 = .ok (.bipush 80, 2) := by decide +kernel
theorem dX7_init_55 : decode cX7_init 55 = .ok (.newarray .int, 2) := by decide +kernel
theorem dX7_init_57 : decode cX7_init 57 = .ok (.putfield 28, 3) := by decide +kernel
theorem dX7_init_60 : decode cX7_init 60 = .ok (.aload_n 0, 1) := by decide +kernel
theorem dX7_init_61 : decode cX7_init 61 = .ok (.bipush 12, 2) := by decide +kernel
theorem dX7_init_63 : decode cX7_init 63 = .ok (.newarray .int, 2) := by decide +kernel
theorem dX7_init_65 : decode cX7_init 65 = .ok (.putfield 31, 3) := by decide +kernel
theorem dX7_init_68 : decode cX7_init 68 = .ok (.aload_n 0, 1) := by decide +kernel
theorem dX7_init_69 : decode cX7_init 69 = .ok (.bipush 12, 2) := by decide +kernel
theorem dX7_init_71 : decode cX7_init 71 = .ok (.newarray .int, 2) := by decide +kernel
theorem dX7_init_73 : decode cX7_init 73 = .ok (.putfield 34, 3) := by decide +kernel
theorem dX7_init_76 : decode cX7_init 76 = .ok (.aload_n 0, 1) := by decide +kernel
theorem dX7_init_77 : decode cX7_init 77 = .ok (.bipush 12, 2) := by decide +kernel
theorem dX7_init_79 : decode cX7_init 79 = .ok (.newarray .int, 2) := by decide +kernel
theorem dX7_init_81 : decode cX7_init 81 = .ok (.putfield 37, 3) := by decide +kernel
theorem dX7_init_84 : decode cX7_init 84 = .ok (.aload_n 0, 1) := by decide +kernel
theorem dX7_init_85 : decode cX7_init 85 = .ok (.iconst 4, 1) := by decide +kernel
theorem dX7_init_86 : decode cX7_init 86 = .ok (.newarray .int, 2) := by decide +kernel
theorem dX7_init_88 : decode cX7_init 88 = .ok (.putfield 40, 3) := by decide +kernel
theorem dX7_init_91 : decode cX7_init 91 = .ok (.aload_n 0, 1) := by decide +kernel
theorem dX7_init_92 : decode cX7_init 92 = .ok (.iconst 4, 1) := by decide +kernel
theorem dX7_init_93 : decode cX7_init 93 = .ok (.newarray .int, 2) := by decide +kernel
theorem dX7_init_95 : decode cX7_init 95 = .ok (.putfield 43, 3) := by decide +kernel
theorem dX7_init_98 : decode cX7_init 98 = .ok (.aload_n 0, 1) := by decide +kernel
theorem dX7_init_99 : decode cX7_init 99 = .ok (.bipush 13, 2) := by decide +kernel
theorem dX7_init_101 : decode cX7_init 101 = .ok (.newarray .int, 2) := by decide +kernel
theorem dX7_init_103 : decode cX7_init 103 = .ok (.putfield 46, 3) := by decide +kernel
theorem dX7_init_106 : decode cX7_init 106 = .ok (.aload_n 0, 1) := by decide +kernel
theorem dX7_init_107 : decode cX7_init 107 = .ok (.bipush 13, 2) := by decide +kernel
theorem dX7_init_109 : decode cX7_init 109 = .ok (.newarray .int, 2) := by decide +kernel
theorem dX7_init_111 : decode cX7_init 111 = .ok (.putfield 49, 3) := by decide +kernel
theorem dX7_init_114 : decode cX7_init 114 = .ok (.aload_n 0, 1) := by decide +kernel
theorem dX7_init_115 : decode cX7_init 115 = .ok (.bipush 13, 2) := by decide +kernel
theorem dX7_init_117 : decode cX7_init 117 = .ok (.newarray .int, 2) := by decide +kernel
theorem dX7_init_119 : decode cX7_init 119 = .ok (.putfield 52, 3) := by decide +kernel
theorem dX7_init_122 : decode cX7_init 122 = .ok (.aload_n 0, 1) := by decide +kernel
theorem dX7_init_123 : decode cX7_init 123 = .ok (.iconst 4, 1) := by decide +kernel
theorem dX7_init_124 : decode cX7_init 124 = .ok (.newarray .int, 2) := by decide +kernel
theorem dX7_init_126 : decode cX7_init 126 = .ok (.putfield 55, 3) := by decide +kernel
theorem dX7_init_129 : decode cX7_init 129 = .ok (.aload_n 0, 1) := by decide +kernel
theorem dX7_init_130 : decode cX7_init 130 = .ok (.bipush 61, 2) := by decide +kernel
theorem dX7_init_132 : decode cX7_init 132 = .ok (.newarray .int, 2) := by decide +kernel
theorem dX7_init_134 : decode cX7_init 134 = .ok (.putfield 58, 3) := by decide +kernel
theorem dX7_init_137 : decode cX7_init 137 = .ok (.aload_n 0, 1) := by decide +kernel
theorem dX7_init_138 : decode cX7_init 138 = .ok (.bipush 114, 2) := by decide +kernel
theorem dX7_init_140 : decode cX7_init 140 = .ok (.newarray .int, 2) := by decide +kernel
theorem dX7_init_142 : decode cX7_init 142 = .ok (.putfield 61, 3) := by decide +kernel
theorem dX7_init_145 : decode cX7_init 145 = .ok (.aload_n 0, 1) := by decide +kernel
theorem dX7_init_146 : decode cX7_init 146 = .ok (.iconst 4, 1) := by decide +kernel
theorem dX7_init_147 : decode cX7_init 147 = .ok (.newarray .int, 2) := by decide +kernel
theorem dX7_init_149 : decode cX7_init 149 = .ok (.putfield 64, 3) := by decide +kernel
theorem dX7_init_152 : decode cX7_init 152 = .ok (.aload_n 0, 1) := by decide +kernel
theorem dX7_init_153 : decode cX7_init 153 = .ok (.iconst 4, 1) := by decide +kernel
theorem dX7_init_154 : decode cX7_init 154 = .ok (.newarray .int, 2) := by decide +kernel
theorem dX7_init_156 : decode cX7_init 156 = .ok (.putfield 67, 3) := by decide +kernel
theorem dX7_init_159 : decode cX7_init 159 = .ok (.aload_n 0, 1) := by decide +kernel
theorem dX7_init_160 : decode cX7_init 160 = .ok (.bipush 64, 2) := by decide +kernel
theorem dX7_init_162 : decode cX7_init 162 = .ok (.newarray .long, 2) := by decide +kernel
theorem dX7_init_164 : decode cX7_init 164 = .ok (.putfield 70, 3) := by decide +kernel
theorem dX7_init_167 : decode cX7_init 167 = .ok (.aload_n 0, 1) := by decide +kernel
theorem dX7_init_168 : decode cX7_init 168 = .ok (.bipush 16, 2) := by decide +kernel
theorem dX7_init_170 : decode cX7_init 170 = .ok (.newarray .long, 2) := by decide +kernel
theorem dX7_init_172 : decode cX7_init 172 = .ok (.putfield 74, 3) := by decide +kernel
theorem dX7_init_175 : decode cX7_init 175 = .ok (.aload_n 0, 1) := by decide +kernel
theorem dX7_init_176 : decode cX7_init 176 = .ok (.iconst 2, 1) := by decide +kernel
theorem dX7_init_177 : decode cX7_init 177 = .ok (.putfield 77, 3) := by decide +kernel
theorem dX7_init_180 : decode cX7_init 180 = .ok (.aload_n 0, 1) := by decide +kernel
theorem dX7_init_181 : decode cX7_init 181 = .ok (.bipush 11, 2) := by decide +kernel
theorem dX7_init_183 : decode cX7_init 183 = .ok (.putfield 81, 3) := by decide +kernel
theorem dX7_init_186 : decode cX7_init 186 = .ok (.iconst 0, 1) := by decide +kernel
theorem dX7_init_187 : decode cX7_init 187 = .ok (.istore_n 1, 1) := by decide +kernel
theorem dX7_init_188 : decode cX7_init 188 = .ok (.iload_n 1, 1) := by decide +kernel
theorem dX7_init_189 : decode cX7_init 189 = .ok (.iconst 4, 1) := by decide +kernel
theorem dX7_init_190 : decode cX7_init 190 = .ok (.if_icmp .ge 16, 3) := by decide +kernel
theorem dX7_init_193 : decode cX7_init 193 = .ok (.aload_n 0, 1) := by decide +kernel
theorem dX7_init_194 : decode cX7_init 194 = .ok (.getfield 64, 3) := by decide +kernel
theorem dX7_init_197 : decode cX7_init 197 = .ok (.iload_n 1, 1) := by decide +kernel
theorem dX7_init_198 : decode cX7_init 198 = .ok (.iconst (-1), 1) := by decide +kernel
theorem dX7_init_199 : decode cX7_init 199 = .ok (.iastore, 1) := by decide +kernel
theorem dX7_init_200 : decode cX7_init 200 = .ok (.iinc 1 1, 3) := by decide +kernel
theorem dX7_init_203 : decode cX7_init 203 = .ok (.goto (-15), 3) := by decide +kernel
theorem dX7_init_206 : decode cX7_init 206 = .ok (.return_, 1) := by decide +kernel
theorem dX7_isDeed_0 : decode cX7_isDeed 0 = .ok (.lload_n 1, 1) := by decide +kernel
theorem dX7_isDeed_1 : decode cX7_isDeed 1 = .ok (.lconst 0, 1) := by decide +kernel
theorem dX7_isDeed_2 : decode cX7_isDeed 2 = .ok (.aload_n 0, 1) := by decide +kernel
theorem dX7_isDeed_3 : decode cX7_isDeed 3 = .ok (.getfield 84, 3) := by decide +kernel
theorem dX7_isDeed_6 : decode cX7_isDeed 6 = .ok (.iconst 1, 1) := by decide +kernel
theorem dX7_isDeed_7 : decode cX7_isDeed 7 = .ok (.isub, 1) := by decide +kernel
theorem dX7_isDeed_8 : decode cX7_isDeed 8 = .ok (.i2l, 1) := by decide +kernel
theorem dX7_isDeed_9 : decode cX7_isDeed 9 = .ok (.invokestatic 87, 3) := by decide +kernel
theorem dX7_isDeed_12 : decode cX7_isDeed 12 = .ok (.ireturn, 1) := by decide +kernel
theorem dX7_isOne_0 : decode cX7_isOne 0 = .ok (.iload_n 1, 1) := by decide +kernel
theorem dX7_isOne_1 : decode cX7_isOne 1 = .ok (.i2l, 1) := by decide +kernel
theorem dX7_isOne_2 : decode cX7_isOne 2 = .ok (.lconst 0, 1) := by decide +kernel
theorem dX7_isOne_3 : decode cX7_isOne 3 = .ok (.aload_n 0, 1) := by decide +kernel
theorem dX7_isOne_4 : decode cX7_isOne 4 = .ok (.getfield 77, 3) := by decide +kernel
theorem dX7_isOne_7 : decode cX7_isOne 7 = .ok (.iconst 1, 1) := by decide +kernel
theorem dX7_isOne_8 : decode cX7_isOne 8 = .ok (.isub, 1) := by decide +kernel
theorem dX7_isOne_9 : decode cX7_isOne 9 = .ok (.i2l, 1) := by decide +kernel
theorem dX7_isOne_10 : decode cX7_isOne 10 = .ok (.invokestatic 87, 3) := by decide +kernel
theorem dX7_isOne_13 : decode cX7_isOne 13 = .ok (.ireturn, 1) := by decide +kernel
theorem dX7_areDeeds_0 : decode cX7_areDeeds 0 = .ok (.lload_n 1, 1) := by decide +kernel
theorem dX7_areDeeds_1 : decode cX7_areDeeds 1 = .ok (.lconst 0, 1) := by decide +kernel
theorem dX7_areDeeds_2 : decode cX7_areDeeds 2 = .ok (.iconst 1, 1) := by decide +kernel
theorem dX7_areDeeds_3 : decode cX7_areDeeds 3 = .ok (.aload_n 0, 1) := by decide +kernel
theorem dX7_areDeeds_4 : decode cX7_areDeeds 4 = .ok (.getfield 84, 3) := by decide +kernel
theorem dX7_areDeeds_7 : decode cX7_areDeeds 7 = .ok (.ishl, 1) := by decide +kernel
theorem dX7_areDeeds_8 : decode cX7_areDeeds 8 = .ok (.iconst 1, 1) := by decide +kernel
theorem dX7_areDeeds_9 : decode cX7_areDeeds 9 = .ok (.isub, 1) := by decide +kernel
theorem dX7_areDeeds_10 : decode cX7_areDeeds 10 = .ok (.i2l, 1) := by decide +kernel
theorem dX7_areDeeds_11 : decode cX7_areDeeds 11 = .ok (.invokestatic 87, 3) := by decide +kernel
theorem dX7_areDeeds_14 : decode cX7_areDeeds 14 = .ok (.ireturn, 1) := by decide +kernel
theorem dX7_people_0 : decode cX7_people 0 = .ok (.iload_n 1, 1) := by decide +kernel
theorem dX7_people_1 : decode cX7_people 1 = .ok (.i2l, 1) := by decide +kernel
theorem dX7_people_2 : decode cX7_people 2 = .ok (.lconst 1, 1) := by decide +kernel
theorem dX7_people_3 : decode cX7_people 3 = .ok (.ldc2_w 91, 3) := by decide +kernel
theorem dX7_people_6 : decode cX7_people 6 = .ok (.invokestatic 87, 3) := by decide +kernel
theorem dX7_people_9 : decode cX7_people 9 = .ok (.ifCond .ne 5, 3) := by decide +kernel
theorem dX7_people_12 : decode cX7_people 12 = .ok (.iconst (-1), 1) := by decide +kernel
theorem dX7_people_13 : decode cX7_people 13 = .ok (.ireturn, 1) := by decide +kernel
theorem dX7_people_14 : decode cX7_people 14 = .ok (.aload_n 0, 1) := by decide +kernel
theorem dX7_people_15 : decode cX7_people 15 = .ok (.getfield 77, 3) := by decide +kernel
theorem dX7_people_18 : decode cX7_people 18 = .ok (.istore_n 2, 1) := by decide +kernel
theorem dX7_people_19 : decode cX7_people 19 = .ok (.aload_n 0, 1) := by decide +kernel
theorem dX7_people_20 : decode cX7_people 20 = .ok (.iload_n 1, 1) := by decide +kernel
theorem dX7_people_21 : decode cX7_people 21 = .ok (.putfield 77, 3) := by decide +kernel
theorem dX7_people_24 : decode cX7_people 24 = .ok (.iload_n 2, 1) := by decide +kernel
theorem dX7_people_25 : decode cX7_people 25 = .ok (.ireturn, 1) := by decide +kernel
theorem dX7_ahead_0 : decode cX7_ahead 0 = .ok (.iconst 0, 1) := by decide +kernel
theorem dX7_ahead_1 : decode cX7_ahead 1 = .ok (.istore_n 3, 1) := by decide +kernel
theorem dX7_ahead_2 : decode cX7_ahead 2 = .ok (.iconst 0, 1) := by decide +kernel
theorem dX7_ahead_3 : decode cX7_ahead 3 = .ok (.istore 4, 2) := by decide +kernel
theorem dX7_ahead_5 : decode cX7_ahead 5 = .ok (.iload 4, 2) := by decide +kernel
theorem dX7_ahead_7 : decode cX7_ahead 7 = .ok (.iload_n 0, 1) := by decide +kernel
theorem dX7_ahead_8 : decode cX7_ahead 8 = .ok (.if_icmp .ge 28, 3) := by decide +kernel
theorem dX7_ahead_11 : decode cX7_ahead 11 = .ok (.iload_n 3, 1) := by decide +kernel
theorem dX7_ahead_12 : decode cX7_ahead 12 = .ok (.aload_n 2, 1) := by decide +kernel
theorem dX7_ahead_13 : decode cX7_ahead 13 = .ok (.iload 4, 2) := by decide +kernel
theorem dX7_ahead_15 : decode cX7_ahead 15 = .ok (.iaload, 1) := by decide +kernel
theorem dX7_ahead_16 : decode cX7_ahead 16 = .ok (.iload_n 1, 1) := by decide +kernel
theorem dX7_ahead_17 : decode cX7_ahead 17 = .ok (.if_icmp .gt 10, 3) := by decide +kernel
theorem dX7_ahead_20 : decode cX7_ahead 20 = .ok (.iconst 1, 1) := by decide +kernel
theorem dX7_ahead_21 : decode cX7_ahead 21 = .ok (.iload 4, 2) := by decide +kernel
theorem dX7_ahead_23 : decode cX7_ahead 23 = .ok (.ishl, 1) := by decide +kernel
theorem dX7_ahead_24 : decode cX7_ahead 24 = .ok (.goto 4, 3) := by decide +kernel
theorem dX7_ahead_27 : decode cX7_ahead 27 = .ok (.iconst 0, 1) := by decide +kernel
theorem dX7_ahead_28 : decode cX7_ahead 28 = .ok (.ior, 1) := by decide +kernel
theorem dX7_ahead_29 : decode cX7_ahead 29 = .ok (.istore_n 3, 1) := by decide +kernel
theorem dX7_ahead_30 : decode cX7_ahead 30 = .ok (.iinc 4 1, 3) := by decide +kernel
theorem dX7_ahead_33 : decode cX7_ahead 33 = .ok (.goto (-28), 3) := by decide +kernel
theorem dX7_ahead_36 : decode cX7_ahead 36 = .ok (.iload_n 3, 1) := by decide +kernel
theorem dX7_ahead_37 : decode cX7_ahead 37 = .ok (.ireturn, 1) := by decide +kernel
theorem dX7_adds_0 : decode cX7_adds 0 = .ok (.aload_n 0, 1) := by decide +kernel
theorem dX7_adds_1 : decode cX7_adds 1 = .ok (.getfield 7, 3) := by decide +kernel
theorem dX7_adds_4 : decode cX7_adds 4 = .ok (.aload_n 0, 1) := by decide +kernel
theorem dX7_adds_5 : decode cX7_adds 5 = .ok (.getfield 84, 3) := by decide +kernel
theorem dX7_adds_8 : decode cX7_adds 8 = .ok (.iload_n 1, 1) := by decide +kernel
theorem dX7_adds_9 : decode cX7_adds 9 = .ok (.iastore, 1) := by decide +kernel
theorem dX7_adds_10 : decode cX7_adds 10 = .ok (.aload_n 0, 1) := by decide +kernel
theorem dX7_adds_11 : decode cX7_adds 11 = .ok (.getfield 13, 3) := by decide +kernel
theorem dX7_adds_14 : decode cX7_adds 14 = .ok (.aload_n 0, 1) := by decide +kernel
theorem dX7_adds_15 : decode cX7_adds 15 = .ok (.getfield 84, 3) := by decide +kernel
theorem dX7_adds_18 : decode cX7_adds 18 = .ok (.iload_n 2, 1) := by decide +kernel
theorem dX7_adds_19 : decode cX7_adds 19 = .ok (.iastore, 1) := by decide +kernel
theorem dX7_adds_20 : decode cX7_adds 20 = .ok (.aload_n 0, 1) := by decide +kernel
theorem dX7_adds_21 : decode cX7_adds 21 = .ok (.getfield 16, 3) := by decide +kernel
theorem dX7_adds_24 : decode cX7_adds 24 = .ok (.aload_n 0, 1) := by decide +kernel
theorem dX7_adds_25 : decode cX7_adds 25 = .ok (.getfield 84, 3) := by decide +kernel
theorem dX7_adds_28 : decode cX7_adds 28 = .ok (.iload_n 3, 1) := by decide +kernel
theorem dX7_adds_29 : decode cX7_adds 29 = .ok (.iastore, 1) := by decide +kernel
theorem dX7_adds_30 : decode cX7_adds 30 = .ok (.aload_n 0, 1) := by decide +kernel
theorem dX7_adds_31 : decode cX7_adds 31 = .ok (.getfield 19, 3) := by decide +kernel
theorem dX7_adds_34 : decode cX7_adds 34 = .ok (.aload_n 0, 1) := by decide +kernel
theorem dX7_adds_35 : decode cX7_adds 35 = .ok (.getfield 84, 3) := by decide +kernel
theorem dX7_adds_38 : decode cX7_adds 38 = .ok (.iconst 1, 1) := by decide +kernel
theorem dX7_adds_39 : decode cX7_adds 39 = .ok (.iastore, 1) := by decide +kernel
theorem dX7_adds_40 : decode cX7_adds 40 = .ok (.aload_n 0, 1) := by decide +kernel
theorem dX7_adds_41 : decode cX7_adds 41 = .ok (.getfield 22, 3) := by decide +kernel
theorem dX7_adds_44 : decode cX7_adds 44 = .ok (.aload_n 0, 1) := by decide +kernel
theorem dX7_adds_45 : decode cX7_adds 45 = .ok (.getfield 84, 3) := by decide +kernel
theorem dX7_adds_48 : decode cX7_adds 48 = .ok (.iconst 4, 1) := by decide +kernel
theorem dX7_adds_49 : decode cX7_adds 49 = .ok (.iastore, 1) := by decide +kernel
theorem dX7_adds_50 : decode cX7_adds 50 = .ok (.iconst 0, 1) := by decide +kernel
theorem dX7_adds_51 : decode cX7_adds 51 = .ok (.istore 4, 2) := by decide +kernel
theorem dX7_adds_53 : decode cX7_adds 53 = .ok (.iload 4, 2) := by decide +kernel
theorem dX7_adds_55 : decode cX7_adds 55 = .ok (.iconst 4, 1) := by decide +kernel
theorem dX7_adds_56 : decode cX7_adds 56 = .ok (.if_icmp .ge 24, 3) := by decide +kernel
theorem dX7_adds_59 : decode cX7_adds 59 = .ok (.aload_n 0, 1) := by decide +kernel
theorem dX7_adds_60 : decode cX7_adds 60 = .ok (.getfield 25, 3) := by decide +kernel
theorem dX7_adds_63 : decode cX7_adds 63 = .ok (.iconst 4, 1) := by decide +kernel
theorem dX7_adds_64 : decode cX7_adds 64 = .ok (.aload_n 0, 1) := by decide +kernel
theorem dX7_adds_65 : decode cX7_adds 65 = .ok (.getfield 84, 3) := by decide +kernel
theorem dX7_adds_68 : decode cX7_adds 68 = .ok (.imul, 1) := by decide +kernel
theorem dX7_adds_69 : decode cX7_adds 69 = .ok (.iload 4, 2) := by decide +kernel
theorem dX7_adds_71 : decode cX7_adds 71 = .ok (.iadd, 1) := by decide +kernel
theorem dX7_adds_72 : decode cX7_adds 72 = .ok (.iconst 0, 1) := by decide +kernel
theorem dX7_adds_73 : decode cX7_adds 73 = .ok (.iastore, 1) := by decide +kernel
theorem dX7_adds_74 : decode cX7_adds 74 = .ok (.iinc 4 1, 3) := by decide +kernel
theorem dX7_adds_77 : decode cX7_adds 77 = .ok (.goto (-24), 3) := by decide +kernel
theorem dX7_adds_80 : decode cX7_adds 80 = .ok (.aload_n 0, 1) := by decide +kernel
theorem dX7_adds_81 : decode cX7_adds 81 = .ok (.dup, 1) := by decide +kernel
theorem dX7_adds_82 : decode cX7_adds 82 = .ok (.getfield 84, 3) := by decide +kernel
theorem dX7_adds_85 : decode cX7_adds 85 = .ok (.iconst 1, 1) := by decide +kernel
theorem dX7_adds_86 : decode cX7_adds 86 = .ok (.iadd, 1) := by decide +kernel
theorem dX7_adds_87 : decode cX7_adds 87 = .ok (.putfield 84, 3) := by decide +kernel
theorem dX7_adds_90 : decode cX7_adds 90 = .ok (.return_, 1) := by decide +kernel
theorem dX7_deed_0 : decode cX7_deed 0 = .ok (.iload_n 1, 1) := by decide +kernel
theorem dX7_deed_1 : decode cX7_deed 1 = .ok (.i2l, 1) := by decide +kernel
theorem dX7_deed_2 : decode cX7_deed 2 = .ok (.lconst 0, 1) := by decide +kernel
theorem dX7_deed_3 : decode cX7_deed 3 = .ok (.ldc2_w 93, 3) := by decide +kernel
theorem dX7_deed_6 : decode cX7_deed 6 = .ok (.invokestatic 87, 3) := by decide +kernel
theorem dX7_deed_9 : decode cX7_deed 9 = .ok (.ifCond .eq 34, 3) := by decide +kernel
theorem dX7_deed_12 : decode cX7_deed 12 = .ok (.iload_n 2, 1) := by decide +kernel
theorem dX7_deed_13 : decode cX7_deed 13 = .ok (.i2l, 1) := by decide +kernel
theorem dX7_deed_14 : decode cX7_deed 14 = .ok (.lconst 0, 1) := by decide +kernel
theorem dX7_deed_15 : decode cX7_deed 15 = .ok (.ldc2_w 95, 3) := by decide +kernel
theorem dX7_deed_18 : decode cX7_deed 18 = .ok (.invokestatic 87, 3) := by decide +kernel
theorem dX7_deed_21 : decode cX7_deed 21 = .ok (.ifCond .eq 22, 3) := by decide +kernel
theorem dX7_deed_24 : decode cX7_deed 24 = .ok (.iload_n 3, 1) := by decide +kernel
theorem dX7_deed_25 : decode cX7_deed 25 = .ok (.aload_n 0, 1) := by decide +kernel
theorem dX7_deed_26 : decode cX7_deed 26 = .ok (.getfield 84, 3) := by decide +kernel
theorem dX7_deed_29 : decode cX7_deed 29 = .ok (.iload_n 2, 1) := by decide +kernel
theorem dX7_deed_30 : decode cX7_deed 30 = .ok (.aload_n 0, 1) := by decide +kernel
theorem dX7_deed_31 : decode cX7_deed 31 = .ok (.getfield 13, 3) := by decide +kernel
theorem dX7_deed_34 : decode cX7_deed 34 = .ok (.invokestatic 97, 3) := by decide +kernel
theorem dX7_deed_37 : decode cX7_deed 37 = .ok (.iconst (-1), 1) := by decide +kernel
theorem dX7_deed_38 : decode cX7_deed 38 = .ok (.ixor, 1) := by decide +kernel
theorem dX7_deed_39 : decode cX7_deed 39 = .ok (.iand, 1) := by decide +kernel
theorem dX7_deed_40 : decode cX7_deed 40 = .ok (.ifCond .eq 5, 3) := by decide +kernel
theorem dX7_deed_43 : decode cX7_deed 43 = .ok (.iconst (-1), 1) := by decide +kernel
theorem dX7_deed_44 : decode cX7_deed 44 = .ok (.ireturn, 1) := by decide +kernel
theorem dX7_deed_45 : decode cX7_deed 45 = .ok (.aload_n 0, 1) := by decide +kernel
theorem dX7_deed_46 : decode cX7_deed 46 = .ok (.getfield 84, 3) := by decide +kernel
theorem dX7_deed_49 : decode cX7_deed 49 = .ok (.bipush 12, 2) := by decide +kernel
theorem dX7_deed_51 : decode cX7_deed 51 = .ok (.if_icmp .ne 6, 3) := by decide +kernel
theorem dX7_deed_54 : decode cX7_deed 54 = .ok (.bipush (-3), 2) := by decide +kernel
theorem dX7_deed_56 : decode cX7_deed 56 = .ok (.ireturn, 1) := by decide +kernel
theorem dX7_deed_57 : decode cX7_deed 57 = .ok (.aload_n 0, 1) := by decide +kernel
theorem dX7_deed_58 : decode cX7_deed 58 = .ok (.iload_n 1, 1) := by decide +kernel
theorem dX7_deed_59 : decode cX7_deed 59 = .ok (.iload_n 2, 1) := by decide +kernel
theorem dX7_deed_60 : decode cX7_deed 60 = .ok (.iload_n 3, 1) := by decide +kernel
theorem dX7_deed_61 : decode cX7_deed 61 = .ok (.invokevirtual 101, 3) := by decide +kernel
theorem dX7_deed_64 : decode cX7_deed 64 = .ok (.aload_n 0, 1) := by decide +kernel
theorem dX7_deed_65 : decode cX7_deed 65 = .ok (.getfield 84, 3) := by decide +kernel
theorem dX7_deed_68 : decode cX7_deed 68 = .ok (.iconst 1, 1) := by decide +kernel
theorem dX7_deed_69 : decode cX7_deed 69 = .ok (.isub, 1) := by decide +kernel
theorem dX7_deed_70 : decode cX7_deed 70 = .ok (.ireturn, 1) := by decide +kernel
theorem dX7_is_0 : decode cX7_is 0 = .ok (.aload_n 0, 1) := by decide +kernel
theorem dX7_is_1 : decode cX7_is 1 = .ok (.getfield 16, 3) := by decide +kernel
theorem dX7_is_4 : decode cX7_is 4 = .ok (.iload_n 1, 1) := by decide +kernel
theorem dX7_is_5 : decode cX7_is 5 = .ok (.iaload, 1) := by decide +kernel
theorem dX7_is_6 : decode cX7_is 6 = .ok (.ifCond .eq 14, 3) := by decide +kernel
theorem dX7_is_9 : decode cX7_is 9 = .ok (.aload_n 0, 1) := by decide +kernel
theorem dX7_is_10 : decode cX7_is 10 = .ok (.getfield 16, 3) := by decide +kernel
theorem dX7_is_13 : decode cX7_is 13 = .ok (.iload_n 1, 1) := by decide +kernel
theorem dX7_is_14 : decode cX7_is 14 = .ok (.iaload, 1) := by decide +kernel
theorem dX7_is_15 : decode cX7_is 15 = .ok (.iload_n 2, 1) := by decide +kernel
theorem dX7_is_16 : decode cX7_is 16 = .ok (.iand, 1) := by decide +kernel
theorem dX7_is_17 : decode cX7_is 17 = .ok (.ifCond .eq 7, 3) := by decide +kernel
theorem dX7_is_20 : decode cX7_is 20 = .ok (.iconst 1, 1) := by decide +kernel
theorem dX7_is_21 : decode cX7_is 21 = .ok (.goto 4, 3) := by decide +kernel
theorem dX7_is_24 : decode cX7_is 24 = .ok (.iconst 0, 1) := by decide +kernel
theorem dX7_is_25 : decode cX7_is 25 = .ok (.istore 4, 2) := by decide +kernel
theorem dX7_is_27 : decode cX7_is 27 = .ok (.aload_n 0, 1) := by decide +kernel
theorem dX7_is_28 : decode cX7_is 28 = .ok (.getfield 7, 3) := by decide +kernel
theorem dX7_is_31 : decode cX7_is 31 = .ok (.iload_n 1, 1) := by decide +kernel
theorem dX7_is_32 : decode cX7_is 32 = .ok (.iaload, 1) := by decide +kernel
theorem dX7_is_33 : decode cX7_is 33 = .ok (.tableswitch 66 0 2 #[27, 46, 49], 27) := by decide +kernel
theorem dX7_is_60 : decode cX7_is 60 = .ok (.aload_n 0, 1) := by decide +kernel
theorem dX7_is_61 : decode cX7_is 61 = .ok (.getfield 16, 3) := by decide +kernel
theorem dX7_is_64 : decode cX7_is 64 = .ok (.iload_n 1, 1) := by decide +kernel
theorem dX7_is_65 : decode cX7_is 65 = .ok (.iaload, 1) := by decide +kernel
theorem dX7_is_66 : decode cX7_is 66 = .ok (.iload_n 2, 1) := by decide +kernel
theorem dX7_is_67 : decode cX7_is 67 = .ok (.iconst (-1), 1) := by decide +kernel
theorem dX7_is_68 : decode cX7_is 68 = .ok (.ixor, 1) := by decide +kernel
theorem dX7_is_69 : decode cX7_is 69 = .ok (.iand, 1) := by decide +kernel
theorem dX7_is_70 : decode cX7_is 70 = .ok (.ifCond .ne 7, 3) := by decide +kernel
theorem dX7_is_73 : decode cX7_is 73 = .ok (.iconst 1, 1) := by decide +kernel
theorem dX7_is_74 : decode cX7_is 74 = .ok (.goto 4, 3) := by decide +kernel
theorem dX7_is_77 : decode cX7_is 77 = .ok (.iconst 0, 1) := by decide +kernel
theorem dX7_is_78 : decode cX7_is 78 = .ok (.ireturn, 1) := by decide +kernel
theorem dX7_is_79 : decode cX7_is 79 = .ok (.iload 4, 2) := by decide +kernel
theorem dX7_is_81 : decode cX7_is 81 = .ok (.ireturn, 1) := by decide +kernel
theorem dX7_is_82 : decode cX7_is 82 = .ok (.aload_n 0, 1) := by decide +kernel
theorem dX7_is_83 : decode cX7_is 83 = .ok (.getfield 16, 3) := by decide +kernel
theorem dX7_is_86 : decode cX7_is 86 = .ok (.iload_n 1, 1) := by decide +kernel
theorem dX7_is_87 : decode cX7_is 87 = .ok (.iaload, 1) := by decide +kernel
theorem dX7_is_88 : decode cX7_is 88 = .ok (.iload_n 2, 1) := by decide +kernel
theorem dX7_is_89 : decode cX7_is 89 = .ok (.iand, 1) := by decide +kernel
theorem dX7_is_90 : decode cX7_is 90 = .ok (.ifCond .ne 7, 3) := by decide +kernel
theorem dX7_is_93 : decode cX7_is 93 = .ok (.iconst 1, 1) := by decide +kernel
theorem dX7_is_94 : decode cX7_is 94 = .ok (.goto 4, 3) := by decide +kernel
theorem dX7_is_97 : decode cX7_is 97 = .ok (.iconst 0, 1) := by decide +kernel
theorem dX7_is_98 : decode cX7_is 98 = .ok (.ireturn, 1) := by decide +kernel
theorem dX7_is_99 : decode cX7_is 99 = .ok (.iload 4, 2) := by decide +kernel
theorem dX7_is_101 : decode cX7_is 101 = .ok (.ifCond .ne 12, 3) := by decide +kernel
theorem dX7_is_104 : decode cX7_is 104 = .ok (.iload_n 3, 1) := by decide +kernel
theorem dX7_is_105 : decode cX7_is 105 = .ok (.iload_n 1, 1) := by decide +kernel
theorem dX7_is_106 : decode cX7_is 106 = .ok (.ishr, 1) := by decide +kernel
theorem dX7_is_107 : decode cX7_is 107 = .ok (.iconst 1, 1) := by decide +kernel
theorem dX7_is_108 : decode cX7_is 108 = .ok (.iand, 1) := by decide +kernel
theorem dX7_is_109 : decode cX7_is 109 = .ok (.iconst 1, 1) := by decide +kernel
theorem dX7_is_110 : decode cX7_is 110 = .ok (.if_icmp .ne 7, 3) := by decide +kernel
theorem dX7_is_113 : decode cX7_is 113 = .ok (.iconst 1, 1) := by decide +kernel
theorem dX7_is_114 : decode cX7_is 114 = .ok (.goto 4, 3) := by decide +kernel
theorem dX7_is_117 : decode cX7_is 117 = .ok (.iconst 0, 1) := by decide +kernel
theorem dX7_is_118 : decode cX7_is 118 = .ok (.ireturn, 1) := by decide +kernel
theorem dX7_stands_0 : decode cX7_stands 0 = .ok (.iconst 0, 1) := by decide +kernel
theorem dX7_stands_1 : decode cX7_stands 1 = .ok (.istore_n 3, 1) := by decide +kernel
theorem dX7_stands_2 : decode cX7_stands 2 = .ok (.iconst 0, 1) := by decide +kernel
theorem dX7_stands_3 : decode cX7_stands 3 = .ok (.istore 4, 2) := by decide +kernel
theorem dX7_stands_5 : decode cX7_stands 5 = .ok (.iload 4, 2) := by decide +kernel
theorem dX7_stands_7 : decode cX7_stands 7 = .ok (.aload_n 0, 1) := by decide +kernel
theorem dX7_stands_8 : decode cX7_stands 8 = .ok (.getfield 84, 3) := by decide +kernel
theorem dX7_stands_11 : decode cX7_stands 11 = .ok (.if_icmp .ge 40, 3) := by decide +kernel
theorem dX7_stands_14 : decode cX7_stands 14 = .ok (.iload_n 3, 1) := by decide +kernel
theorem dX7_stands_15 : decode cX7_stands 15 = .ok (.iload_n 1, 1) := by decide +kernel
theorem dX7_stands_16 : decode cX7_stands 16 = .ok (.iload 4, 2) := by decide +kernel
theorem dX7_stands_18 : decode cX7_stands 18 = .ok (.ishr, 1) := by decide +kernel
theorem dX7_stands_19 : decode cX7_stands 19 = .ok (.iconst 1, 1) := by decide +kernel
theorem dX7_stands_20 : decode cX7_stands 20 = .ok (.iand, 1) := by decide +kernel
theorem dX7_stands_21 : decode cX7_stands 21 = .ok (.ifCond .ne 21, 3) := by decide +kernel
theorem dX7_stands_24 : decode cX7_stands 24 = .ok (.aload_n 0, 1) := by decide +kernel
theorem dX7_stands_25 : decode cX7_stands 25 = .ok (.iload 4, 2) := by decide +kernel
theorem dX7_stands_27 : decode cX7_stands 27 = .ok (.iload_n 3, 1) := by decide +kernel
theorem dX7_stands_28 : decode cX7_stands 28 = .ok (.iload_n 2, 1) := by decide +kernel
theorem dX7_stands_29 : decode cX7_stands 29 = .ok (.invokevirtual 105, 3) := by decide +kernel
theorem dX7_stands_32 : decode cX7_stands 32 = .ok (.ifCond .eq 10, 3) := by decide +kernel
theorem dX7_stands_35 : decode cX7_stands 35 = .ok (.iconst 1, 1) := by decide +kernel
theorem dX7_stands_36 : decode cX7_stands 36 = .ok (.iload 4, 2) := by decide +kernel
theorem dX7_stands_38 : decode cX7_stands 38 = .ok (.ishl, 1) := by decide +kernel
theorem dX7_stands_39 : decode cX7_stands 39 = .ok (.goto 4, 3) := by decide +kernel
theorem dX7_stands_42 : decode cX7_stands 42 = .ok (.iconst 0, 1) := by decide +kernel
theorem dX7_stands_43 : decode cX7_stands 43 = .ok (.ior, 1) := by decide +kernel
theorem dX7_stands_44 : decode cX7_stands 44 = .ok (.istore_n 3, 1) := by decide +kernel
theorem dX7_stands_45 : decode cX7_stands 45 = .ok (.iinc 4 1, 3) := by decide +kernel
theorem dX7_stands_48 : decode cX7_stands 48 = .ok (.goto (-43), 3) := by decide +kernel
theorem dX7_stands_51 : decode cX7_stands 51 = .ok (.iload_n 3, 1) := by decide +kernel
theorem dX7_stands_52 : decode cX7_stands 52 = .ok (.ireturn, 1) := by decide +kernel
theorem dX7_told_0 : decode cX7_told 0 = .ok (.aload_n 0, 1) := by decide +kernel
theorem dX7_told_1 : decode cX7_told 1 = .ok (.iload_n 1, 1) := by decide +kernel
theorem dX7_told_2 : decode cX7_told 2 = .ok (.i2l, 1) := by decide +kernel
theorem dX7_told_3 : decode cX7_told 3 = .ok (.invokevirtual 109, 3) := by decide +kernel
theorem dX7_told_6 : decode cX7_told 6 = .ok (.ifCond .ne 5, 3) := by decide +kernel
theorem dX7_told_9 : decode cX7_told 9 = .ok (.iconst (-1), 1) := by decide +kernel
theorem dX7_told_10 : decode cX7_told 10 = .ok (.ireturn, 1) := by decide +kernel
theorem dX7_told_11 : decode cX7_told 11 = .ok (.iload_n 2, 1) := by decide +kernel
theorem dX7_told_12 : decode cX7_told 12 = .ok (.tableswitch 105 0 6 #[44, 51, 58, 65, 72, 79, 96], 44) := by decide +kernel
theorem dX7_told_56 : decode cX7_told 56 = .ok (.aload_n 0, 1) := by decide +kernel
theorem dX7_told_57 : decode cX7_told 57 = .ok (.getfield 7, 3) := by decide +kernel
theorem dX7_told_60 : decode cX7_told 60 = .ok (.iload_n 1, 1) := by decide +kernel
theorem dX7_told_61 : decode cX7_told 61 = .ok (.iaload, 1) := by decide +kernel
theorem dX7_told_62 : decode cX7_told 62 = .ok (.ireturn, 1) := by decide +kernel
theorem dX7_told_63 : decode cX7_told 63 = .ok (.aload_n 0, 1) := by decide +kernel
theorem dX7_told_64 : decode cX7_told 64 = .ok (.getfield 13, 3) := by decide +kernel
theorem dX7_told_67 : decode cX7_told 67 = .ok (.iload_n 1, 1) := by decide +kernel
theorem dX7_told_68 : decode cX7_told 68 = .ok (.iaload, 1) := by decide +kernel
theorem dX7_told_69 : decode cX7_told 69 = .ok (.ireturn, 1) := by decide +kernel
theorem dX7_told_70 : decode cX7_told 70 = .ok (.aload_n 0, 1) := by decide +kernel
theorem dX7_told_71 : decode cX7_told 71 = .ok (.getfield 16, 3) := by decide +kernel
theorem dX7_told_74 : decode cX7_told 74 = .ok (.iload_n 1, 1) := by decide +kernel
theorem dX7_told_75 : decode cX7_told 75 = .ok (.iaload, 1) := by decide +kernel
theorem dX7_told_76 : decode cX7_told 76 = .ok (.ireturn, 1) := by decide +kernel
theorem dX7_told_77 : decode cX7_told 77 = .ok (.aload_n 0, 1) := by decide +kernel
theorem dX7_told_78 : decode cX7_told 78 = .ok (.getfield 19, 3) := by decide +kernel
theorem dX7_told_81 : decode cX7_told 81 = .ok (.iload_n 1, 1) := by decide +kernel
theorem dX7_told_82 : decode cX7_told 82 = .ok (.iaload, 1) := by decide +kernel
theorem dX7_told_83 : decode cX7_told 83 = .ok (.ireturn, 1) := by decide +kernel
theorem dX7_told_84 : decode cX7_told 84 = .ok (.aload_n 0, 1) := by decide +kernel
theorem dX7_told_85 : decode cX7_told 85 = .ok (.getfield 22, 3) := by decide +kernel
theorem dX7_told_88 : decode cX7_told 88 = .ok (.iload_n 1, 1) := by decide +kernel
theorem dX7_told_89 : decode cX7_told 89 = .ok (.iaload, 1) := by decide +kernel
theorem dX7_told_90 : decode cX7_told 90 = .ok (.ireturn, 1) := by decide +kernel
theorem dX7_told_91 : decode cX7_told 91 = .ok (.aload_n 0, 1) := by decide +kernel
theorem dX7_told_92 : decode cX7_told 92 = .ok (.aload_n 0, 1) := by decide +kernel
theorem dX7_told_93 : decode cX7_told 93 = .ok (.getfield 113, 3) := by decide +kernel
theorem dX7_told_96 : decode cX7_told 96 = .ok (.aload_n 0, 1) := by decide +kernel
theorem dX7_told_97 : decode cX7_told 97 = .ok (.getfield 116, 3) := by decide +kernel
theorem dX7_told_100 : decode cX7_told 100 = .ok (.invokevirtual 119, 3) := by decide +kernel
theorem dX7_told_103 : decode cX7_told 103 = .ok (.iload_n 1, 1) := by decide +kernel
theorem dX7_told_104 : decode cX7_told 104 = .ok (.ishr, 1) := by decide +kernel
theorem dX7_told_105 : decode cX7_told 105 = .ok (.iconst 1, 1) := by decide +kernel
theorem dX7_told_106 : decode cX7_told 106 = .ok (.iand, 1) := by decide +kernel
theorem dX7_told_107 : decode cX7_told 107 = .ok (.ireturn, 1) := by decide +kernel
theorem dX7_told_108 : decode cX7_told 108 = .ok (.aload_n 0, 1) := by decide +kernel
theorem dX7_told_109 : decode cX7_told 109 = .ok (.getfield 113, 3) := by decide +kernel
theorem dX7_told_112 : decode cX7_told 112 = .ok (.iload_n 1, 1) := by decide +kernel
theorem dX7_told_113 : decode cX7_told 113 = .ok (.ishr, 1) := by decide +kernel
theorem dX7_told_114 : decode cX7_told 114 = .ok (.iconst 1, 1) := by decide +kernel
theorem dX7_told_115 : decode cX7_told 115 = .ok (.iand, 1) := by decide +kernel
theorem dX7_told_116 : decode cX7_told 116 = .ok (.ireturn, 1) := by decide +kernel
theorem dX7_told_117 : decode cX7_told 117 = .ok (.iconst (-1), 1) := by decide +kernel
theorem dX7_told_118 : decode cX7_told 118 = .ok (.ireturn, 1) := by decide +kernel
theorem dX7_set_0 : decode cX7_set 0 = .ok (.aload_n 0, 1) := by decide +kernel
theorem dX7_set_1 : decode cX7_set 1 = .ok (.iload_n 1, 1) := by decide +kernel
theorem dX7_set_2 : decode cX7_set 2 = .ok (.i2l, 1) := by decide +kernel
theorem dX7_set_3 : decode cX7_set 3 = .ok (.invokevirtual 109, 3) := by decide +kernel
theorem dX7_set_6 : decode cX7_set 6 = .ok (.ifCond .eq 35, 3) := by decide +kernel
theorem dX7_set_9 : decode cX7_set 9 = .ok (.iload_n 2, 1) := by decide +kernel
theorem dX7_set_10 : decode cX7_set 10 = .ok (.i2l, 1) := by decide +kernel
theorem dX7_set_11 : decode cX7_set 11 = .ok (.lconst 0, 1) := by decide +kernel
theorem dX7_set_12 : decode cX7_set 12 = .ok (.lconst 1, 1) := by decide +kernel
theorem dX7_set_13 : decode cX7_set 13 = .ok (.invokestatic 87, 3) := by decide +kernel
theorem dX7_set_16 : decode cX7_set 16 = .ok (.ifCond .eq 25, 3) := by decide +kernel
theorem dX7_set_19 : decode cX7_set 19 = .ok (.iload_n 3, 1) := by decide +kernel
theorem dX7_set_20 : decode cX7_set 20 = .ok (.i2l, 1) := by decide +kernel
theorem dX7_set_21 : decode cX7_set 21 = .ok (.lconst 0, 1) := by decide +kernel
theorem dX7_set_22 : decode cX7_set 22 = .ok (.iload_n 2, 1) := by decide +kernel
theorem dX7_set_23 : decode cX7_set 23 = .ok (.ifCond .ne 9, 3) := by decide +kernel
theorem dX7_set_26 : decode cX7_set 26 = .ok (.ldc2_w 123, 3) := by decide +kernel
theorem dX7_set_29 : decode cX7_set 29 = .ok (.goto 6, 3) := by decide +kernel
theorem dX7_set_32 : decode cX7_set 32 = .ok (.ldc2_w 91, 3) := by decide +kernel
theorem dX7_set_35 : decode cX7_set 35 = .ok (.invokestatic 87, 3) := by decide +kernel
theorem dX7_set_38 : decode cX7_set 38 = .ok (.ifCond .ne 5, 3) := by decide +kernel
theorem dX7_set_41 : decode cX7_set 41 = .ok (.iconst (-1), 1) := by decide +kernel
theorem dX7_set_42 : decode cX7_set 42 = .ok (.ireturn, 1) := by decide +kernel
theorem dX7_set_43 : decode cX7_set 43 = .ok (.iload_n 2, 1) := by decide +kernel
theorem dX7_set_44 : decode cX7_set 44 = .ok (.ifCond .ne 12, 3) := by decide +kernel
theorem dX7_set_47 : decode cX7_set 47 = .ok (.aload_n 0, 1) := by decide +kernel
theorem dX7_set_48 : decode cX7_set 48 = .ok (.getfield 19, 3) := by decide +kernel
theorem dX7_set_51 : decode cX7_set 51 = .ok (.iload_n 1, 1) := by decide +kernel
theorem dX7_set_52 : decode cX7_set 52 = .ok (.iaload, 1) := by decide +kernel
theorem dX7_set_53 : decode cX7_set 53 = .ok (.goto 9, 3) := by decide +kernel
theorem dX7_set_56 : decode cX7_set 56 = .ok (.aload_n 0, 1) := by decide +kernel
theorem dX7_set_57 : decode cX7_set 57 = .ok (.getfield 22, 3) := by decide +kernel
theorem dX7_set_60 : decode cX7_set 60 = .ok (.iload_n 1, 1) := by decide +kernel
theorem dX7_set_61 : decode cX7_set 61 = .ok (.iaload, 1) := by decide +kernel
theorem dX7_set_62 : decode cX7_set 62 = .ok (.istore 4, 2) := by decide +kernel
theorem dX7_set_64 : decode cX7_set 64 = .ok (.aload_n 0, 1) := by decide +kernel
theorem dX7_set_65 : decode cX7_set 65 = .ok (.getfield 19, 3) := by decide +kernel
theorem dX7_set_68 : decode cX7_set 68 = .ok (.iload_n 1, 1) := by decide +kernel
theorem dX7_set_69 : decode cX7_set 69 = .ok (.iload_n 2, 1) := by decide +kernel
theorem dX7_set_70 : decode cX7_set 70 = .ok (.ifCond .ne 7, 3) := by decide +kernel
theorem dX7_set_73 : decode cX7_set 73 = .ok (.iload_n 3, 1) := by decide +kernel
theorem dX7_set_74 : decode cX7_set 74 = .ok (.goto 9, 3) := by decide +kernel
theorem dX7_set_77 : decode cX7_set 77 = .ok (.aload_n 0, 1) := by decide +kernel
theorem dX7_set_78 : decode cX7_set 78 = .ok (.getfield 19, 3) := by decide +kernel
theorem dX7_set_81 : decode cX7_set 81 = .ok (.iload_n 1, 1) := by decide +kernel
theorem dX7_set_82 : decode cX7_set 82 = .ok (.iaload, 1) := by decide +kernel
theorem dX7_set_83 : decode cX7_set 83 = .ok (.iastore, 1) := by decide +kernel
theorem dX7_set_84 : decode cX7_set 84 = .ok (.aload_n 0, 1) := by decide +kernel
theorem dX7_set_85 : decode cX7_set 85 = .ok (.getfield 22, 3) := by decide +kernel
theorem dX7_set_88 : decode cX7_set 88 = .ok (.iload_n 1, 1) := by decide +kernel
theorem dX7_set_89 : decode cX7_set 89 = .ok (.iload_n 2, 1) := by decide +kernel
theorem dX7_set_90 : decode cX7_set 90 = .ok (.ifCond .ne 12, 3) := by decide +kernel
theorem dX7_set_93 : decode cX7_set 93 = .ok (.aload_n 0, 1) := by decide +kernel
theorem dX7_set_94 : decode cX7_set 94 = .ok (.getfield 22, 3) := by decide +kernel
theorem dX7_set_97 : decode cX7_set 97 = .ok (.iload_n 1, 1) := by decide +kernel
theorem dX7_set_98 : decode cX7_set 98 = .ok (.iaload, 1) := by decide +kernel
theorem dX7_set_99 : decode cX7_set 99 = .ok (.goto 4, 3) := by decide +kernel
theorem dX7_set_102 : decode cX7_set 102 = .ok (.iload_n 3, 1) := by decide +kernel
theorem dX7_set_103 : decode cX7_set 103 = .ok (.iastore, 1) := by decide +kernel
theorem dX7_set_104 : decode cX7_set 104 = .ok (.iload 4, 2) := by decide +kernel
theorem dX7_set_106 : decode cX7_set 106 = .ok (.ireturn, 1) := by decide +kernel
theorem dX7_worth_0 : decode cX7_worth 0 = .ok (.aload_n 0, 1) := by decide +kernel
theorem dX7_worth_1 : decode cX7_worth 1 = .ok (.iload_n 1, 1) := by decide +kernel
theorem dX7_worth_2 : decode cX7_worth 2 = .ok (.i2l, 1) := by decide +kernel
theorem dX7_worth_3 : decode cX7_worth 3 = .ok (.invokevirtual 109, 3) := by decide +kernel
theorem dX7_worth_6 : decode cX7_worth 6 = .ok (.ifCond .eq 29, 3) := by decide +kernel
theorem dX7_worth_9 : decode cX7_worth 9 = .ok (.iload_n 2, 1) := by decide +kernel
theorem dX7_worth_10 : decode cX7_worth 10 = .ok (.i2l, 1) := by decide +kernel
theorem dX7_worth_11 : decode cX7_worth 11 = .ok (.lconst 0, 1) := by decide +kernel
theorem dX7_worth_12 : decode cX7_worth 12 = .ok (.ldc2_w 93, 3) := by decide +kernel
theorem dX7_worth_15 : decode cX7_worth 15 = .ok (.invokestatic 87, 3) := by decide +kernel
theorem dX7_worth_18 : decode cX7_worth 18 = .ok (.ifCond .eq 17, 3) := by decide +kernel
theorem dX7_worth_21 : decode cX7_worth 21 = .ok (.iload_n 3, 1) := by decide +kernel
theorem dX7_worth_22 : decode cX7_worth 22 = .ok (.i2l, 1) := by decide +kernel
theorem dX7_worth_23 : decode cX7_worth 23 = .ok (.ldc2_w 125, 3) := by decide +kernel
theorem dX7_worth_26 : decode cX7_worth 26 = .ok (.ldc2_w 123, 3) := by decide +kernel
theorem dX7_worth_29 : decode cX7_worth 29 = .ok (.invokestatic 87, 3) := by decide +kernel
theorem dX7_worth_32 : decode cX7_worth 32 = .ok (.ifCond .ne 6, 3) := by decide +kernel
theorem dX7_worth_35 : decode cX7_worth 35 = .ok (.ldc 127, 2) := by decide +kernel
theorem dX7_worth_37 : decode cX7_worth 37 = .ok (.ireturn, 1) := by decide +kernel
theorem dX7_worth_38 : decode cX7_worth 38 = .ok (.aload_n 0, 1) := by decide +kernel
theorem dX7_worth_39 : decode cX7_worth 39 = .ok (.getfield 25, 3) := by decide +kernel
theorem dX7_worth_42 : decode cX7_worth 42 = .ok (.iconst 4, 1) := by decide +kernel
theorem dX7_worth_43 : decode cX7_worth 43 = .ok (.iload_n 1, 1) := by decide +kernel
theorem dX7_worth_44 : decode cX7_worth 44 = .ok (.imul, 1) := by decide +kernel
theorem dX7_worth_45 : decode cX7_worth 45 = .ok (.iload_n 2, 1) := by decide +kernel
theorem dX7_worth_46 : decode cX7_worth 46 = .ok (.iadd, 1) := by decide +kernel
theorem dX7_worth_47 : decode cX7_worth 47 = .ok (.iaload, 1) := by decide +kernel
theorem dX7_worth_48 : decode cX7_worth 48 = .ok (.istore 4, 2) := by decide +kernel
theorem dX7_worth_50 : decode cX7_worth 50 = .ok (.aload_n 0, 1) := by decide +kernel
theorem dX7_worth_51 : decode cX7_worth 51 = .ok (.getfield 25, 3) := by decide +kernel
theorem dX7_worth_54 : decode cX7_worth 54 = .ok (.iconst 4, 1) := by decide +kernel
theorem dX7_worth_55 : decode cX7_worth 55 = .ok (.iload_n 1, 1) := by decide +kernel
theorem dX7_worth_56 : decode cX7_worth 56 = .ok (.imul, 1) := by decide +kernel
theorem dX7_worth_57 : decode cX7_worth 57 = .ok (.iload_n 2, 1) := by decide +kernel
theorem dX7_worth_58 : decode cX7_worth 58 = .ok (.iadd, 1) := by decide +kernel
theorem dX7_worth_59 : decode cX7_worth 59 = .ok (.iload_n 3, 1) := by decide +kernel
theorem dX7_worth_60 : decode cX7_worth 60 = .ok (.iastore, 1) := by decide +kernel
theorem dX7_worth_61 : decode cX7_worth 61 = .ok (.iload 4, 2) := by decide +kernel
theorem dX7_worth_63 : decode cX7_worth 63 = .ok (.ireturn, 1) := by decide +kernel
theorem dX7_worthOf_0 : decode cX7_worthOf 0 = .ok (.aload_n 0, 1) := by decide +kernel
theorem dX7_worthOf_1 : decode cX7_worthOf 1 = .ok (.iload_n 1, 1) := by decide +kernel
theorem dX7_worthOf_2 : decode cX7_worthOf 2 = .ok (.i2l, 1) := by decide +kernel
theorem dX7_worthOf_3 : decode cX7_worthOf 3 = .ok (.invokevirtual 109, 3) := by decide +kernel
theorem dX7_worthOf_6 : decode cX7_worthOf 6 = .ok (.ifCond .eq 28, 3) := by decide +kernel
theorem dX7_worthOf_9 : decode cX7_worthOf 9 = .ok (.iload_n 2, 1) := by decide +kernel
theorem dX7_worthOf_10 : decode cX7_worthOf 10 = .ok (.i2l, 1) := by decide +kernel
theorem dX7_worthOf_11 : decode cX7_worthOf 11 = .ok (.lconst 0, 1) := by decide +kernel
theorem dX7_worthOf_12 : decode cX7_worthOf 12 = .ok (.ldc2_w 93, 3) := by decide +kernel
theorem dX7_worthOf_15 : decode cX7_worthOf 15 = .ok (.invokestatic 87, 3) := by decide +kernel
theorem dX7_worthOf_18 : decode cX7_worthOf 18 = .ok (.ifCond .eq 16, 3) := by decide +kernel
theorem dX7_worthOf_21 : decode cX7_worthOf 21 = .ok (.aload_n 0, 1) := by decide +kernel
theorem dX7_worthOf_22 : decode cX7_worthOf 22 = .ok (.getfield 25, 3) := by decide +kernel
theorem dX7_worthOf_25 : decode cX7_worthOf 25 = .ok (.iconst 4, 1) := by decide +kernel
theorem dX7_worthOf_26 : decode cX7_worthOf 26 = .ok (.iload_n 1, 1) := by decide +kernel
theorem dX7_worthOf_27 : decode cX7_worthOf 27 = .ok (.imul, 1) := by decide +kernel
theorem dX7_worthOf_28 : decode cX7_worthOf 28 = .ok (.iload_n 2, 1) := by decide +kernel
theorem dX7_worthOf_29 : decode cX7_worthOf 29 = .ok (.iadd, 1) := by decide +kernel
theorem dX7_worthOf_30 : decode cX7_worthOf 30 = .ok (.iaload, 1) := by decide +kernel
theorem dX7_worthOf_31 : decode cX7_worthOf 31 = .ok (.goto 5, 3) := by decide +kernel
theorem dX7_worthOf_34 : decode cX7_worthOf 34 = .ok (.ldc 127, 2) := by decide +kernel
theorem dX7_worthOf_36 : decode cX7_worthOf 36 = .ok (.ireturn, 1) := by decide +kernel
theorem dX7_last_0 : decode cX7_last 0 = .ok (.aload_n 0, 1) := by decide +kernel
theorem dX7_last_1 : decode cX7_last 1 = .ok (.iload_n 1, 1) := by decide +kernel
theorem dX7_last_2 : decode cX7_last 2 = .ok (.i2l, 1) := by decide +kernel
theorem dX7_last_3 : decode cX7_last 3 = .ok (.invokevirtual 128, 3) := by decide +kernel
theorem dX7_last_6 : decode cX7_last 6 = .ok (.ifCond .ne 5, 3) := by decide +kernel
theorem dX7_last_9 : decode cX7_last 9 = .ok (.iconst (-1), 1) := by decide +kernel
theorem dX7_last_10 : decode cX7_last 10 = .ok (.ireturn, 1) := by decide +kernel
theorem dX7_last_11 : decode cX7_last 11 = .ok (.aload_n 0, 1) := by decide +kernel
theorem dX7_last_12 : decode cX7_last 12 = .ok (.getfield 116, 3) := by decide +kernel
theorem dX7_last_15 : decode cX7_last 15 = .ok (.istore_n 2, 1) := by decide +kernel
theorem dX7_last_16 : decode cX7_last 16 = .ok (.aload_n 0, 1) := by decide +kernel
theorem dX7_last_17 : decode cX7_last 17 = .ok (.iload_n 1, 1) := by decide +kernel
theorem dX7_last_18 : decode cX7_last 18 = .ok (.putfield 116, 3) := by decide +kernel
theorem dX7_last_21 : decode cX7_last 21 = .ok (.iload_n 2, 1) := by decide +kernel
theorem dX7_last_22 : decode cX7_last 22 = .ok (.ireturn, 1) := by decide +kernel
theorem dX7_count_0 : decode cX7_count 0 = .ok (.iload_n 1, 1) := by decide +kernel
theorem dX7_count_1 : decode cX7_count 1 = .ok (.tableswitch 88 0 6 #[43, 48, 53, 60, 65, 78, 83], 43) := by decide +kernel
theorem dX7_count_44 : decode cX7_count 44 = .ok (.aload_n 0, 1) := by decide +kernel
theorem dX7_count_45 : decode cX7_count 45 = .ok (.getfield 77, 3) := by decide +kernel
theorem dX7_count_48 : decode cX7_count 48 = .ok (.ireturn, 1) := by decide +kernel
theorem dX7_count_49 : decode cX7_count 49 = .ok (.aload_n 0, 1) := by decide +kernel
theorem dX7_count_50 : decode cX7_count 50 = .ok (.getfield 84, 3) := by decide +kernel
theorem dX7_count_53 : decode cX7_count 53 = .ok (.ireturn, 1) := by decide +kernel
theorem dX7_count_54 : decode cX7_count 54 = .ok (.aload_n 0, 1) := by decide +kernel
theorem dX7_count_55 : decode cX7_count 55 = .ok (.getfield 81, 3) := by decide +kernel
theorem dX7_count_58 : decode cX7_count 58 = .ok (.iconst 1, 1) := by decide +kernel
theorem dX7_count_59 : decode cX7_count 59 = .ok (.iadd, 1) := by decide +kernel
theorem dX7_count_60 : decode cX7_count 60 = .ok (.ireturn, 1) := by decide +kernel
theorem dX7_count_61 : decode cX7_count 61 = .ok (.aload_n 0, 1) := by decide +kernel
theorem dX7_count_62 : decode cX7_count 62 = .ok (.getfield 131, 3) := by decide +kernel
theorem dX7_count_65 : decode cX7_count 65 = .ok (.ireturn, 1) := by decide +kernel
theorem dX7_count_66 : decode cX7_count 66 = .ok (.aload_n 0, 1) := by decide +kernel
theorem dX7_count_67 : decode cX7_count 67 = .ok (.aload_n 0, 1) := by decide +kernel
theorem dX7_count_68 : decode cX7_count 68 = .ok (.getfield 113, 3) := by decide +kernel
theorem dX7_count_71 : decode cX7_count 71 = .ok (.aload_n 0, 1) := by decide +kernel
theorem dX7_count_72 : decode cX7_count 72 = .ok (.getfield 116, 3) := by decide +kernel
theorem dX7_count_75 : decode cX7_count 75 = .ok (.invokevirtual 119, 3) := by decide +kernel
theorem dX7_count_78 : decode cX7_count 78 = .ok (.ireturn, 1) := by decide +kernel
theorem dX7_count_79 : decode cX7_count 79 = .ok (.aload_n 0, 1) := by decide +kernel
theorem dX7_count_80 : decode cX7_count 80 = .ok (.getfield 113, 3) := by decide +kernel
theorem dX7_count_83 : decode cX7_count 83 = .ok (.ireturn, 1) := by decide +kernel
theorem dX7_count_84 : decode cX7_count 84 = .ok (.aload_n 0, 1) := by decide +kernel
theorem dX7_count_85 : decode cX7_count 85 = .ok (.getfield 116, 3) := by decide +kernel
theorem dX7_count_88 : decode cX7_count 88 = .ok (.ireturn, 1) := by decide +kernel
theorem dX7_count_89 : decode cX7_count 89 = .ok (.iconst (-1), 1) := by decide +kernel
theorem dX7_count_90 : decode cX7_count 90 = .ok (.ireturn, 1) := by decide +kernel
theorem dX7_type_0 : decode cX7_type 0 = .ok (.iload_n 1, 1) := by decide +kernel
theorem dX7_type_1 : decode cX7_type 1 = .ok (.i2l, 1) := by decide +kernel
theorem dX7_type_2 : decode cX7_type 2 = .ok (.ldc2_w 134, 3) := by decide +kernel
theorem dX7_type_5 : decode cX7_type 5 = .ok (.ldc2_w 136, 3) := by decide +kernel
theorem dX7_type_8 : decode cX7_type 8 = .ok (.invokestatic 87, 3) := by decide +kernel
theorem dX7_type_11 : decode cX7_type 11 = .ok (.ifCond .ne 5, 3) := by decide +kernel
theorem dX7_type_14 : decode cX7_type 14 = .ok (.iconst (-1), 1) := by decide +kernel
theorem dX7_type_15 : decode cX7_type 15 = .ok (.ireturn, 1) := by decide +kernel
theorem dX7_type_16 : decode cX7_type 16 = .ok (.aload_n 0, 1) := by decide +kernel
theorem dX7_type_17 : decode cX7_type 17 = .ok (.getfield 138, 3) := by decide +kernel
theorem dX7_type_20 : decode cX7_type 20 = .ok (.bipush 80, 2) := by decide +kernel
theorem dX7_type_22 : decode cX7_type 22 = .ok (.if_icmp .ne 6, 3) := by decide +kernel
theorem dX7_type_25 : decode cX7_type 25 = .ok (.bipush (-3), 2) := by decide +kernel
theorem dX7_type_27 : decode cX7_type 27 = .ok (.ireturn, 1) := by decide +kernel
theorem dX7_type_28 : decode cX7_type 28 = .ok (.aload_n 0, 1) := by decide +kernel
theorem dX7_type_29 : decode cX7_type 29 = .ok (.getfield 28, 3) := by decide +kernel
theorem dX7_type_32 : decode cX7_type 32 = .ok (.aload_n 0, 1) := by decide +kernel
theorem dX7_type_33 : decode cX7_type 33 = .ok (.getfield 138, 3) := by decide +kernel
theorem dX7_type_36 : decode cX7_type 36 = .ok (.iload_n 1, 1) := by decide +kernel
theorem dX7_type_37 : decode cX7_type 37 = .ok (.iastore, 1) := by decide +kernel
theorem dX7_type_38 : decode cX7_type 38 = .ok (.aload_n 0, 1) := by decide +kernel
theorem dX7_type_39 : decode cX7_type 39 = .ok (.dup, 1) := by decide +kernel
theorem dX7_type_40 : decode cX7_type 40 = .ok (.getfield 138, 3) := by decide +kernel
theorem dX7_type_43 : decode cX7_type 43 = .ok (.iconst 1, 1) := by decide +kernel
theorem dX7_type_44 : decode cX7_type 44 = .ok (.iadd, 1) := by decide +kernel
theorem dX7_type_45 : decode cX7_type 45 = .ok (.putfield 138, 3) := by decide +kernel
theorem dX7_type_48 : decode cX7_type 48 = .ok (.aload_n 0, 1) := by decide +kernel
theorem dX7_type_49 : decode cX7_type 49 = .ok (.getfield 138, 3) := by decide +kernel
theorem dX7_type_52 : decode cX7_type 52 = .ok (.ireturn, 1) := by decide +kernel
theorem dX7_here_0 : decode cX7_here 0 = .ok (.aload_n 0, 1) := by decide +kernel
theorem dX7_here_1 : decode cX7_here 1 = .ok (.getfield 141, 3) := by decide +kernel
theorem dX7_here_4 : decode cX7_here 4 = .ok (.aload_n 0, 1) := by decide +kernel
theorem dX7_here_5 : decode cX7_here 5 = .ok (.getfield 138, 3) := by decide +kernel
theorem dX7_here_8 : decode cX7_here 8 = .ok (.if_icmp .ge 30, 3) := by decide +kernel
theorem dX7_here_11 : decode cX7_here 11 = .ok (.aload_n 0, 1) := by decide +kernel
theorem dX7_here_12 : decode cX7_here 12 = .ok (.getfield 28, 3) := by decide +kernel
theorem dX7_here_15 : decode cX7_here 15 = .ok (.aload_n 0, 1) := by decide +kernel
theorem dX7_here_16 : decode cX7_here 16 = .ok (.getfield 141, 3) := by decide +kernel
theorem dX7_here_19 : decode cX7_here 19 = .ok (.iaload, 1) := by decide +kernel
theorem dX7_here_20 : decode cX7_here 20 = .ok (.bipush 32, 2) := by decide +kernel
theorem dX7_here_22 : decode cX7_here 22 = .ok (.if_icmp .ne 16, 3) := by decide +kernel
theorem dX7_here_25 : decode cX7_here 25 = .ok (.aload_n 0, 1) := by decide +kernel
theorem dX7_here_26 : decode cX7_here 26 = .ok (.dup, 1) := by decide +kernel
theorem dX7_here_27 : decode cX7_here 27 = .ok (.getfield 141, 3) := by decide +kernel
theorem dX7_here_30 : decode cX7_here 30 = .ok (.iconst 1, 1) := by decide +kernel
theorem dX7_here_31 : decode cX7_here 31 = .ok (.iadd, 1) := by decide +kernel
theorem dX7_here_32 : decode cX7_here 32 = .ok (.putfield 141, 3) := by decide +kernel
theorem dX7_here_35 : decode cX7_here 35 = .ok (.goto (-35), 3) := by decide +kernel
theorem dX7_here_38 : decode cX7_here 38 = .ok (.aload_n 0, 1) := by decide +kernel
theorem dX7_here_39 : decode cX7_here 39 = .ok (.getfield 141, 3) := by decide +kernel
theorem dX7_here_42 : decode cX7_here 42 = .ok (.aload_n 0, 1) := by decide +kernel
theorem dX7_here_43 : decode cX7_here 43 = .ok (.getfield 138, 3) := by decide +kernel
theorem dX7_here_46 : decode cX7_here 46 = .ok (.if_icmp .ge 15, 3) := by decide +kernel
theorem dX7_here_49 : decode cX7_here 49 = .ok (.aload_n 0, 1) := by decide +kernel
theorem dX7_here_50 : decode cX7_here 50 = .ok (.getfield 28, 3) := by decide +kernel
theorem dX7_here_53 : decode cX7_here 53 = .ok (.aload_n 0, 1) := by decide +kernel
theorem dX7_here_54 : decode cX7_here 54 = .ok (.getfield 141, 3) := by decide +kernel
theorem dX7_here_57 : decode cX7_here 57 = .ok (.iaload, 1) := by decide +kernel
theorem dX7_here_58 : decode cX7_here 58 = .ok (.goto 4, 3) := by decide +kernel
theorem dX7_here_61 : decode cX7_here 61 = .ok (.iconst 0, 1) := by decide +kernel
theorem dX7_here_62 : decode cX7_here 62 = .ok (.ireturn, 1) := by decide +kernel
theorem dX7_readDeed_0 : decode cX7_readDeed 0 = .ok (.aload_n 0, 1) := by decide +kernel
theorem dX7_readDeed_1 : decode cX7_readDeed 1 = .ok (.invokevirtual 144, 3) := by decide +kernel
theorem dX7_readDeed_4 : decode cX7_readDeed 4 = .ok (.istore_n 1, 1) := by decide +kernel
theorem dX7_readDeed_5 : decode cX7_readDeed 5 = .ok (.iload_n 1, 1) := by decide +kernel
theorem dX7_readDeed_6 : decode cX7_readDeed 6 = .ok (.bipush 112, 2) := by decide +kernel
theorem dX7_readDeed_8 : decode cX7_readDeed 8 = .ok (.if_icmp .ne 7, 3) := by decide +kernel
theorem dX7_readDeed_11 : decode cX7_readDeed 11 = .ok (.iconst 0, 1) := by decide +kernel
theorem dX7_readDeed_12 : decode cX7_readDeed 12 = .ok (.goto 35, 3) := by decide +kernel
theorem dX7_readDeed_15 : decode cX7_readDeed 15 = .ok (.iload_n 1, 1) := by decide +kernel
theorem dX7_readDeed_16 : decode cX7_readDeed 16 = .ok (.bipush 97, 2) := by decide +kernel
theorem dX7_readDeed_18 : decode cX7_readDeed 18 = .ok (.if_icmp .ne 7, 3) := by decide +kernel
theorem dX7_readDeed_21 : decode cX7_readDeed 21 = .ok (.iconst 1, 1) := by decide +kernel
theorem dX7_readDeed_22 : decode cX7_readDeed 22 = .ok (.goto 25, 3) := by decide +kernel
theorem dX7_readDeed_25 : decode cX7_readDeed 25 = .ok (.iload_n 1, 1) := by decide +kernel
theorem dX7_readDeed_26 : decode cX7_readDeed 26 = .ok (.bipush 115, 2) := by decide +kernel
theorem dX7_readDeed_28 : decode cX7_readDeed 28 = .ok (.if_icmp .ne 7, 3) := by decide +kernel
theorem dX7_readDeed_31 : decode cX7_readDeed 31 = .ok (.iconst 2, 1) := by decide +kernel
theorem dX7_readDeed_32 : decode cX7_readDeed 32 = .ok (.goto 15, 3) := by decide +kernel
theorem dX7_readDeed_35 : decode cX7_readDeed 35 = .ok (.iload_n 1, 1) := by decide +kernel
theorem dX7_readDeed_36 : decode cX7_readDeed 36 = .ok (.bipush 104, 2) := by decide +kernel
theorem dX7_readDeed_38 : decode cX7_readDeed 38 = .ok (.if_icmp .ne 7, 3) := by decide +kernel
theorem dX7_readDeed_41 : decode cX7_readDeed 41 = .ok (.iconst 3, 1) := by decide +kernel
theorem dX7_readDeed_42 : decode cX7_readDeed 42 = .ok (.goto 5, 3) := by decide +kernel
theorem dX7_readDeed_45 : decode cX7_readDeed 45 = .ok (.bipush (-4), 2) := by decide +kernel
theorem dX7_readDeed_47 : decode cX7_readDeed 47 = .ok (.istore_n 2, 1) := by decide +kernel
theorem dX7_readDeed_48 : decode cX7_readDeed 48 = .ok (.aload_n 0, 1) := by decide +kernel
theorem dX7_readDeed_49 : decode cX7_readDeed 49 = .ok (.iload_n 2, 1) := by decide +kernel
theorem dX7_readDeed_50 : decode cX7_readDeed 50 = .ok (.ifCond .ge 7, 3) := by decide +kernel
theorem dX7_readDeed_53 : decode cX7_readDeed 53 = .ok (.iconst 1, 1) := by decide +kernel
theorem dX7_readDeed_54 : decode cX7_readDeed 54 = .ok (.goto 4, 3) := by decide +kernel
theorem dX7_readDeed_57 : decode cX7_readDeed 57 = .ok (.iconst 0, 1) := by decide +kernel
theorem dX7_readDeed_58 : decode cX7_readDeed 58 = .ok (.putfield 148, 3) := by decide +kernel
theorem dX7_readDeed_61 : decode cX7_readDeed 61 = .ok (.aload_n 0, 1) := by decide +kernel
theorem dX7_readDeed_62 : decode cX7_readDeed 62 = .ok (.dup, 1) := by decide +kernel
theorem dX7_readDeed_63 : decode cX7_readDeed 63 = .ok (.getfield 141, 3) := by decide +kernel
theorem dX7_readDeed_66 : decode cX7_readDeed 66 = .ok (.aload_n 0, 1) := by decide +kernel
theorem dX7_readDeed_67 : decode cX7_readDeed 67 = .ok (.getfield 148, 3) := by decide +kernel
theorem dX7_readDeed_70 : decode cX7_readDeed 70 = .ok (.ifCond .eq 7, 3) := by decide +kernel
theorem dX7_readDeed_73 : decode cX7_readDeed 73 = .ok (.iconst 0, 1) := by decide +kernel
theorem dX7_readDeed_74 : decode cX7_readDeed 74 = .ok (.goto 4, 3) := by decide +kernel
theorem dX7_readDeed_77 : decode cX7_readDeed 77 = .ok (.iconst 1, 1) := by decide +kernel
theorem dX7_readDeed_78 : decode cX7_readDeed 78 = .ok (.iadd, 1) := by decide +kernel
theorem dX7_readDeed_79 : decode cX7_readDeed 79 = .ok (.putfield 141, 3) := by decide +kernel
theorem dX7_readDeed_82 : decode cX7_readDeed 82 = .ok (.aload_n 0, 1) := by decide +kernel
theorem dX7_readDeed_83 : decode cX7_readDeed 83 = .ok (.invokevirtual 144, 3) := by decide +kernel
theorem dX7_readDeed_86 : decode cX7_readDeed 86 = .ok (.bipush 65, 2) := by decide +kernel
theorem dX7_readDeed_88 : decode cX7_readDeed 88 = .ok (.isub, 1) := by decide +kernel
theorem dX7_readDeed_89 : decode cX7_readDeed 89 = .ok (.istore_n 3, 1) := by decide +kernel
theorem dX7_readDeed_90 : decode cX7_readDeed 90 = .ok (.aload_n 0, 1) := by decide +kernel
theorem dX7_readDeed_91 : decode cX7_readDeed 91 = .ok (.aload_n 0, 1) := by decide +kernel
theorem dX7_readDeed_92 : decode cX7_readDeed 92 = .ok (.getfield 148, 3) := by decide +kernel
theorem dX7_readDeed_95 : decode cX7_readDeed 95 = .ok (.ifCond .ne 15, 3) := by decide +kernel
theorem dX7_readDeed_98 : decode cX7_readDeed 98 = .ok (.iload_n 3, 1) := by decide +kernel
theorem dX7_readDeed_99 : decode cX7_readDeed 99 = .ok (.i2l, 1) := by decide +kernel
theorem dX7_readDeed_100 : decode cX7_readDeed 100 = .ok (.lconst 0, 1) := by decide +kernel
theorem dX7_readDeed_101 : decode cX7_readDeed 101 = .ok (.ldc2_w 95, 3) := by decide +kernel
theorem dX7_readDeed_104 : decode cX7_readDeed 104 = .ok (.invokestatic 87, 3) := by decide +kernel
theorem dX7_readDeed_107 : decode cX7_readDeed 107 = .ok (.ifCond .ne 7, 3) := by decide +kernel
theorem dX7_readDeed_110 : decode cX7_readDeed 110 = .ok (.iconst 1, 1) := by decide +kernel
theorem dX7_readDeed_111 : decode cX7_readDeed 111 = .ok (.goto 4, 3) := by decide +kernel
theorem dX7_readDeed_114 : decode cX7_readDeed 114 = .ok (.iconst 0, 1) := by decide +kernel
theorem dX7_readDeed_115 : decode cX7_readDeed 115 = .ok (.putfield 148, 3) := by decide +kernel
theorem dX7_readDeed_118 : decode cX7_readDeed 118 = .ok (.aload_n 0, 1) := by decide +kernel
theorem dX7_readDeed_119 : decode cX7_readDeed 119 = .ok (.dup, 1) := by decide +kernel
theorem dX7_readDeed_120 : decode cX7_readDeed 120 = .ok (.getfield 141, 3) := by decide +kernel
theorem dX7_readDeed_123 : decode cX7_readDeed 123 = .ok (.aload_n 0, 1) := by decide +kernel
theorem dX7_readDeed_124 : decode cX7_readDeed 124 = .ok (.getfield 148, 3) := by decide +kernel
theorem dX7_readDeed_127 : decode cX7_readDeed 127 = .ok (.ifCond .eq 7, 3) := by decide +kernel
theorem dX7_readDeed_130 : decode cX7_readDeed 130 = .ok (.iconst 0, 1) := by decide +kernel
theorem dX7_readDeed_131 : decode cX7_readDeed 131 = .ok (.goto 4, 3) := by decide +kernel
theorem dX7_readDeed_134 : decode cX7_readDeed 134 = .ok (.iconst 1, 1) := by decide +kernel
theorem dX7_readDeed_135 : decode cX7_readDeed 135 = .ok (.iadd, 1) := by decide +kernel
theorem dX7_readDeed_136 : decode cX7_readDeed 136 = .ok (.putfield 141, 3) := by decide +kernel
theorem dX7_readDeed_139 : decode cX7_readDeed 139 = .ok (.iconst 0, 1) := by decide +kernel
theorem dX7_readDeed_140 : decode cX7_readDeed 140 = .ok (.istore 4, 2) := by decide +kernel
theorem dX7_readDeed_142 : decode cX7_readDeed 142 = .ok (.aload_n 0, 1) := by decide +kernel
theorem dX7_readDeed_143 : decode cX7_readDeed 143 = .ok (.getfield 148, 3) := by decide +kernel
theorem dX7_readDeed_146 : decode cX7_readDeed 146 = .ok (.ifCond .ne 24, 3) := by decide +kernel
theorem dX7_readDeed_149 : decode cX7_readDeed 149 = .ok (.aload_n 0, 1) := by decide +kernel
theorem dX7_readDeed_150 : decode cX7_readDeed 150 = .ok (.invokevirtual 144, 3) := by decide +kernel
theorem dX7_readDeed_153 : decode cX7_readDeed 153 = .ok (.i2l, 1) := by decide +kernel
theorem dX7_readDeed_154 : decode cX7_readDeed 154 = .ok (.ldc2_w 152, 3) := by decide +kernel
theorem dX7_readDeed_157 : decode cX7_readDeed 157 = .ok (.ldc2_w 154, 3) := by decide +kernel
theorem dX7_readDeed_160 : decode cX7_readDeed 160 = .ok (.invokestatic 87, 3) := by decide +kernel
theorem dX7_readDeed_163 : decode cX7_readDeed 163 = .ok (.ifCond .eq 7, 3) := by decide +kernel
theorem dX7_readDeed_166 : decode cX7_readDeed 166 = .ok (.iconst 1, 1) := by decide +kernel
theorem dX7_readDeed_167 : decode cX7_readDeed 167 = .ok (.goto 4, 3) := by decide +kernel
theorem dX7_readDeed_170 : decode cX7_readDeed 170 = .ok (.iconst 0, 1) := by decide +kernel
theorem dX7_readDeed_171 : decode cX7_readDeed 171 = .ok (.istore 5, 2) := by decide +kernel
theorem dX7_readDeed_173 : decode cX7_readDeed 173 = .ok (.iload 5, 2) := by decide +kernel
theorem dX7_readDeed_175 : decode cX7_readDeed 175 = .ok (.ifCond .eq 116, 3) := by decide +kernel
theorem dX7_readDeed_178 : decode cX7_readDeed 178 = .ok (.aload_n 0, 1) := by decide +kernel
theorem dX7_readDeed_179 : decode cX7_readDeed 179 = .ok (.invokevirtual 144, 3) := by decide +kernel
theorem dX7_readDeed_182 : decode cX7_readDeed 182 = .ok (.bipush 97, 2) := by decide +kernel
theorem dX7_readDeed_184 : decode cX7_readDeed 184 = .ok (.isub, 1) := by decide +kernel
theorem dX7_readDeed_185 : decode cX7_readDeed 185 = .ok (.istore 6, 2) := by decide +kernel
theorem dX7_readDeed_187 : decode cX7_readDeed 187 = .ok (.aload_n 0, 1) := by decide +kernel
theorem dX7_readDeed_188 : decode cX7_readDeed 188 = .ok (.aload_n 0, 1) := by decide +kernel
theorem dX7_readDeed_189 : decode cX7_readDeed 189 = .ok (.getfield 156, 3) := by decide +kernel
theorem dX7_readDeed_192 : decode cX7_readDeed 192 = .ok (.iload_n 3, 1) := by decide +kernel
theorem dX7_readDeed_193 : decode cX7_readDeed 193 = .ok (.aload_n 0, 1) := by decide +kernel
theorem dX7_readDeed_194 : decode cX7_readDeed 194 = .ok (.getfield 34, 3) := by decide +kernel
theorem dX7_readDeed_197 : decode cX7_readDeed 197 = .ok (.invokestatic 97, 3) := by decide +kernel
theorem dX7_readDeed_200 : decode cX7_readDeed 200 = .ok (.iload 6, 2) := by decide +kernel
theorem dX7_readDeed_202 : decode cX7_readDeed 202 = .ok (.ishr, 1) := by decide +kernel
theorem dX7_readDeed_203 : decode cX7_readDeed 203 = .ok (.iconst 1, 1) := by decide +kernel
theorem dX7_readDeed_204 : decode cX7_readDeed 204 = .ok (.iand, 1) := by decide +kernel
theorem dX7_readDeed_205 : decode cX7_readDeed 205 = .ok (.ifCond .eq 14, 3) := by decide +kernel
theorem dX7_readDeed_208 : decode cX7_readDeed 208 = .ok (.iload 4, 2) := by decide +kernel
theorem dX7_readDeed_210 : decode cX7_readDeed 210 = .ok (.iload 6, 2) := by decide +kernel
theorem dX7_readDeed_212 : decode cX7_readDeed 212 = .ok (.ishr, 1) := by decide +kernel
theorem dX7_readDeed_213 : decode cX7_readDeed 213 = .ok (.iconst 1, 1) := by decide +kernel
theorem dX7_readDeed_214 : decode cX7_readDeed 214 = .ok (.iand, 1) := by decide +kernel
theorem dX7_readDeed_215 : decode cX7_readDeed 215 = .ok (.iconst 1, 1) := by decide +kernel
theorem dX7_readDeed_216 : decode cX7_readDeed 216 = .ok (.if_icmp .ne 7, 3) := by decide +kernel
theorem dX7_readDeed_219 : decode cX7_readDeed 219 = .ok (.iconst 1, 1) := by decide +kernel
theorem dX7_readDeed_220 : decode cX7_readDeed 220 = .ok (.goto 4, 3) := by decide +kernel
theorem dX7_readDeed_223 : decode cX7_readDeed 223 = .ok (.iconst 0, 1) := by decide +kernel
theorem dX7_readDeed_224 : decode cX7_readDeed 224 = .ok (.putfield 148, 3) := by decide +kernel
theorem dX7_readDeed_227 : decode cX7_readDeed 227 = .ok (.iload 4, 2) := by decide +kernel
theorem dX7_readDeed_229 : decode cX7_readDeed 229 = .ok (.iconst 1, 1) := by decide +kernel
theorem dX7_readDeed_230 : decode cX7_readDeed 230 = .ok (.iload 6, 2) := by decide +kernel
theorem dX7_readDeed_232 : decode cX7_readDeed 232 = .ok (.ishl, 1) := by decide +kernel
theorem dX7_readDeed_233 : decode cX7_readDeed 233 = .ok (.ior, 1) := by decide +kernel
theorem dX7_readDeed_234 : decode cX7_readDeed 234 = .ok (.istore 4, 2) := by decide +kernel
theorem dX7_readDeed_236 : decode cX7_readDeed 236 = .ok (.aload_n 0, 1) := by decide +kernel
theorem dX7_readDeed_237 : decode cX7_readDeed 237 = .ok (.dup, 1) := by decide +kernel
theorem dX7_readDeed_238 : decode cX7_readDeed 238 = .ok (.getfield 141, 3) := by decide +kernel
theorem dX7_readDeed_241 : decode cX7_readDeed 241 = .ok (.aload_n 0, 1) := by decide +kernel
theorem dX7_readDeed_242 : decode cX7_readDeed 242 = .ok (.getfield 148, 3) := by decide +kernel
theorem dX7_readDeed_245 : decode cX7_readDeed 245 = .ok (.ifCond .eq 7, 3) := by decide +kernel
theorem dX7_readDeed_248 : decode cX7_readDeed 248 = .ok (.iconst 0, 1) := by decide +kernel
theorem dX7_readDeed_249 : decode cX7_readDeed 249 = .ok (.goto 4, 3) := by decide +kernel
theorem dX7_readDeed_252 : decode cX7_readDeed 252 = .ok (.iconst 1, 1) := by decide +kernel
theorem dX7_readDeed_253 : decode cX7_readDeed 253 = .ok (.iadd, 1) := by decide +kernel
theorem dX7_readDeed_254 : decode cX7_readDeed 254 = .ok (.putfield 141, 3) := by decide +kernel
theorem dX7_readDeed_257 : decode cX7_readDeed 257 = .ok (.aload_n 0, 1) := by decide +kernel
theorem dX7_readDeed_258 : decode cX7_readDeed 258 = .ok (.getfield 148, 3) := by decide +kernel
theorem dX7_readDeed_261 : decode cX7_readDeed 261 = .ok (.ifCond .ne 24, 3) := by decide +kernel
theorem dX7_readDeed_264 : decode cX7_readDeed 264 = .ok (.aload_n 0, 1) := by decide +kernel
theorem dX7_readDeed_265 : decode cX7_readDeed 265 = .ok (.invokevirtual 144, 3) := by decide +kernel
theorem dX7_readDeed_268 : decode cX7_readDeed 268 = .ok (.i2l, 1) := by decide +kernel
theorem dX7_readDeed_269 : decode cX7_readDeed 269 = .ok (.ldc2_w 152, 3) := by decide +kernel
theorem dX7_readDeed_272 : decode cX7_readDeed 272 = .ok (.ldc2_w 154, 3) := by decide +kernel
theorem dX7_readDeed_275 : decode cX7_readDeed 275 = .ok (.invokestatic 87, 3) := by decide +kernel
theorem dX7_readDeed_278 : decode cX7_readDeed 278 = .ok (.ifCond .eq 7, 3) := by decide +kernel
theorem dX7_readDeed_281 : decode cX7_readDeed 281 = .ok (.iconst 1, 1) := by decide +kernel
theorem dX7_readDeed_282 : decode cX7_readDeed 282 = .ok (.goto 4, 3) := by decide +kernel
theorem dX7_readDeed_285 : decode cX7_readDeed 285 = .ok (.iconst 0, 1) := by decide +kernel
theorem dX7_readDeed_286 : decode cX7_readDeed 286 = .ok (.istore 5, 2) := by decide +kernel
theorem dX7_readDeed_288 : decode cX7_readDeed 288 = .ok (.goto (-115), 3) := by decide +kernel
theorem dX7_readDeed_291 : decode cX7_readDeed 291 = .ok (.aload_n 0, 1) := by decide +kernel
theorem dX7_readDeed_292 : decode cX7_readDeed 292 = .ok (.getfield 31, 3) := by decide +kernel
theorem dX7_readDeed_295 : decode cX7_readDeed 295 = .ok (.aload_n 0, 1) := by decide +kernel
theorem dX7_readDeed_296 : decode cX7_readDeed 296 = .ok (.getfield 156, 3) := by decide +kernel
theorem dX7_readDeed_299 : decode cX7_readDeed 299 = .ok (.iload_n 2, 1) := by decide +kernel
theorem dX7_readDeed_300 : decode cX7_readDeed 300 = .ok (.iastore, 1) := by decide +kernel
theorem dX7_readDeed_301 : decode cX7_readDeed 301 = .ok (.aload_n 0, 1) := by decide +kernel
theorem dX7_readDeed_302 : decode cX7_readDeed 302 = .ok (.getfield 34, 3) := by decide +kernel
theorem dX7_readDeed_305 : decode cX7_readDeed 305 = .ok (.aload_n 0, 1) := by decide +kernel
theorem dX7_readDeed_306 : decode cX7_readDeed 306 = .ok (.getfield 156, 3) := by decide +kernel
theorem dX7_readDeed_309 : decode cX7_readDeed 309 = .ok (.iload_n 3, 1) := by decide +kernel
theorem dX7_readDeed_310 : decode cX7_readDeed 310 = .ok (.iastore, 1) := by decide +kernel
theorem dX7_readDeed_311 : decode cX7_readDeed 311 = .ok (.aload_n 0, 1) := by decide +kernel
theorem dX7_readDeed_312 : decode cX7_readDeed 312 = .ok (.getfield 37, 3) := by decide +kernel
theorem dX7_readDeed_315 : decode cX7_readDeed 315 = .ok (.aload_n 0, 1) := by decide +kernel
theorem dX7_readDeed_316 : decode cX7_readDeed 316 = .ok (.getfield 156, 3) := by decide +kernel
theorem dX7_readDeed_319 : decode cX7_readDeed 319 = .ok (.iload 4, 2) := by decide +kernel
theorem dX7_readDeed_321 : decode cX7_readDeed 321 = .ok (.iastore, 1) := by decide +kernel
theorem dX7_readDeed_322 : decode cX7_readDeed 322 = .ok (.aload_n 0, 1) := by decide +kernel
theorem dX7_readDeed_323 : decode cX7_readDeed 323 = .ok (.dup, 1) := by decide +kernel
theorem dX7_readDeed_324 : decode cX7_readDeed 324 = .ok (.getfield 156, 3) := by decide +kernel
theorem dX7_readDeed_327 : decode cX7_readDeed 327 = .ok (.iconst 1, 1) := by decide +kernel
theorem dX7_readDeed_328 : decode cX7_readDeed 328 = .ok (.iadd, 1) := by decide +kernel
theorem dX7_readDeed_329 : decode cX7_readDeed 329 = .ok (.putfield 156, 3) := by decide +kernel
theorem dX7_readDeed_332 : decode cX7_readDeed 332 = .ok (.return_, 1) := by decide +kernel
theorem dX7_text_0 : decode cX7_text 0 = .ok (.aload_n 0, 1) := by decide +kernel
theorem dX7_text_1 : decode cX7_text 1 = .ok (.iconst 0, 1) := by decide +kernel
theorem dX7_text_2 : decode cX7_text 2 = .ok (.putfield 141, 3) := by decide +kernel
theorem dX7_text_5 : decode cX7_text 5 = .ok (.aload_n 0, 1) := by decide +kernel
theorem dX7_text_6 : decode cX7_text 6 = .ok (.iconst 0, 1) := by decide +kernel
theorem dX7_text_7 : decode cX7_text 7 = .ok (.putfield 148, 3) := by decide +kernel
theorem dX7_text_10 : decode cX7_text 10 = .ok (.aload_n 0, 1) := by decide +kernel
theorem dX7_text_11 : decode cX7_text 11 = .ok (.iconst 0, 1) := by decide +kernel
theorem dX7_text_12 : decode cX7_text 12 = .ok (.putfield 156, 3) := by decide +kernel
theorem dX7_text_15 : decode cX7_text 15 = .ok (.iconst 1, 1) := by decide +kernel
theorem dX7_text_16 : decode cX7_text 16 = .ok (.istore_n 1, 1) := by decide +kernel
theorem dX7_text_17 : decode cX7_text 17 = .ok (.iload_n 1, 1) := by decide +kernel
theorem dX7_text_18 : decode cX7_text 18 = .ok (.ifCond .eq 59, 3) := by decide +kernel
theorem dX7_text_21 : decode cX7_text 21 = .ok (.aload_n 0, 1) := by decide +kernel
theorem dX7_text_22 : decode cX7_text 22 = .ok (.invokevirtual 159, 3) := by decide +kernel
theorem dX7_text_25 : decode cX7_text 25 = .ok (.aload_n 0, 1) := by decide +kernel
theorem dX7_text_26 : decode cX7_text 26 = .ok (.getfield 148, 3) := by decide +kernel
theorem dX7_text_29 : decode cX7_text 29 = .ok (.ifCond .ne 25, 3) := by decide +kernel
theorem dX7_text_32 : decode cX7_text 32 = .ok (.aload_n 0, 1) := by decide +kernel
theorem dX7_text_33 : decode cX7_text 33 = .ok (.getfield 156, 3) := by decide +kernel
theorem dX7_text_36 : decode cX7_text 36 = .ok (.bipush 12, 2) := by decide +kernel
theorem dX7_text_38 : decode cX7_text 38 = .ok (.if_icmp .ge 16, 3) := by decide +kernel
theorem dX7_text_41 : decode cX7_text 41 = .ok (.aload_n 0, 1) := by decide +kernel
theorem dX7_text_42 : decode cX7_text 42 = .ok (.invokevirtual 144, 3) := by decide +kernel
theorem dX7_text_45 : decode cX7_text 45 = .ok (.bipush 44, 2) := by decide +kernel
theorem dX7_text_47 : decode cX7_text 47 = .ok (.if_icmp .ne 7, 3) := by decide +kernel
theorem dX7_text_50 : decode cX7_text 50 = .ok (.iconst 1, 1) := by decide +kernel
theorem dX7_text_51 : decode cX7_text 51 = .ok (.goto 4, 3) := by decide +kernel
theorem dX7_text_54 : decode cX7_text 54 = .ok (.iconst 0, 1) := by decide +kernel
theorem dX7_text_55 : decode cX7_text 55 = .ok (.istore_n 1, 1) := by decide +kernel
theorem dX7_text_56 : decode cX7_text 56 = .ok (.aload_n 0, 1) := by decide +kernel
theorem dX7_text_57 : decode cX7_text 57 = .ok (.dup, 1) := by decide +kernel
theorem dX7_text_58 : decode cX7_text 58 = .ok (.getfield 141, 3) := by decide +kernel
theorem dX7_text_61 : decode cX7_text 61 = .ok (.iload_n 1, 1) := by decide +kernel
theorem dX7_text_62 : decode cX7_text 62 = .ok (.ifCond .eq 7, 3) := by decide +kernel
theorem dX7_text_65 : decode cX7_text 65 = .ok (.iconst 1, 1) := by decide +kernel
theorem dX7_text_66 : decode cX7_text 66 = .ok (.goto 4, 3) := by decide +kernel
theorem dX7_text_69 : decode cX7_text 69 = .ok (.iconst 0, 1) := by decide +kernel
theorem dX7_text_70 : decode cX7_text 70 = .ok (.iadd, 1) := by decide +kernel
theorem dX7_text_71 : decode cX7_text 71 = .ok (.putfield 141, 3) := by decide +kernel
theorem dX7_text_74 : decode cX7_text 74 = .ok (.goto (-57), 3) := by decide +kernel
theorem dX7_text_77 : decode cX7_text 77 = .ok (.aload_n 0, 1) := by decide +kernel
theorem dX7_text_78 : decode cX7_text 78 = .ok (.aload_n 0, 1) := by decide +kernel
theorem dX7_text_79 : decode cX7_text 79 = .ok (.getfield 148, 3) := by decide +kernel
theorem dX7_text_82 : decode cX7_text 82 = .ok (.ifCond .ne 10, 3) := by decide +kernel
theorem dX7_text_85 : decode cX7_text 85 = .ok (.aload_n 0, 1) := by decide +kernel
theorem dX7_text_86 : decode cX7_text 86 = .ok (.invokevirtual 144, 3) := by decide +kernel
theorem dX7_text_89 : decode cX7_text 89 = .ok (.ifCond .eq 7, 3) := by decide +kernel
theorem dX7_text_92 : decode cX7_text 92 = .ok (.iconst 1, 1) := by decide +kernel
theorem dX7_text_93 : decode cX7_text 93 = .ok (.goto 4, 3) := by decide +kernel
theorem dX7_text_96 : decode cX7_text 96 = .ok (.iconst 0, 1) := by decide +kernel
theorem dX7_text_97 : decode cX7_text 97 = .ok (.putfield 148, 3) := by decide +kernel
theorem dX7_text_100 : decode cX7_text 100 = .ok (.aload_n 0, 1) := by decide +kernel
theorem dX7_text_101 : decode cX7_text 101 = .ok (.iconst 0, 1) := by decide +kernel
theorem dX7_text_102 : decode cX7_text 102 = .ok (.putfield 138, 3) := by decide +kernel
theorem dX7_text_105 : decode cX7_text 105 = .ok (.aload_n 0, 1) := by decide +kernel
theorem dX7_text_106 : decode cX7_text 106 = .ok (.getfield 148, 3) := by decide +kernel
theorem dX7_text_109 : decode cX7_text 109 = .ok (.ifCond .eq 11, 3) := by decide +kernel
theorem dX7_text_112 : decode cX7_text 112 = .ok (.bipush (-20), 2) := by decide +kernel
theorem dX7_text_114 : decode cX7_text 114 = .ok (.aload_n 0, 1) := by decide +kernel
theorem dX7_text_115 : decode cX7_text 115 = .ok (.getfield 141, 3) := by decide +kernel
theorem dX7_text_118 : decode cX7_text 118 = .ok (.isub, 1) := by decide +kernel
theorem dX7_text_119 : decode cX7_text 119 = .ok (.ireturn, 1) := by decide +kernel
theorem dX7_text_120 : decode cX7_text 120 = .ok (.aload_n 0, 1) := by decide +kernel
theorem dX7_text_121 : decode cX7_text 121 = .ok (.iconst 0, 1) := by decide +kernel
theorem dX7_text_122 : decode cX7_text 122 = .ok (.putfield 84, 3) := by decide +kernel
theorem dX7_text_125 : decode cX7_text 125 = .ok (.iconst 0, 1) := by decide +kernel
theorem dX7_text_126 : decode cX7_text 126 = .ok (.istore_n 2, 1) := by decide +kernel
theorem dX7_text_127 : decode cX7_text 127 = .ok (.iload_n 2, 1) := by decide +kernel
theorem dX7_text_128 : decode cX7_text 128 = .ok (.aload_n 0, 1) := by decide +kernel
theorem dX7_text_129 : decode cX7_text 129 = .ok (.getfield 156, 3) := by decide +kernel
theorem dX7_text_132 : decode cX7_text 132 = .ok (.if_icmp .ge 31, 3) := by decide +kernel
theorem dX7_text_135 : decode cX7_text 135 = .ok (.aload_n 0, 1) := by decide +kernel
theorem dX7_text_136 : decode cX7_text 136 = .ok (.aload_n 0, 1) := by decide +kernel
theorem dX7_text_137 : decode cX7_text 137 = .ok (.getfield 31, 3) := by decide +kernel
theorem dX7_text_140 : decode cX7_text 140 = .ok (.iload_n 2, 1) := by decide +kernel
theorem dX7_text_141 : decode cX7_text 141 = .ok (.iaload, 1) := by decide +kernel
theorem dX7_text_142 : decode cX7_text 142 = .ok (.aload_n 0, 1) := by decide +kernel
theorem dX7_text_143 : decode cX7_text 143 = .ok (.getfield 34, 3) := by decide +kernel
theorem dX7_text_146 : decode cX7_text 146 = .ok (.iload_n 2, 1) := by decide +kernel
theorem dX7_text_147 : decode cX7_text 147 = .ok (.iaload, 1) := by decide +kernel
theorem dX7_text_148 : decode cX7_text 148 = .ok (.aload_n 0, 1) := by decide +kernel
theorem dX7_text_149 : decode cX7_text 149 = .ok (.getfield 37, 3) := by decide +kernel
theorem dX7_text_152 : decode cX7_text 152 = .ok (.iload_n 2, 1) := by decide +kernel
theorem dX7_text_153 : decode cX7_text 153 = .ok (.iaload, 1) := by decide +kernel
theorem dX7_text_154 : decode cX7_text 154 = .ok (.invokevirtual 101, 3) := by decide +kernel
theorem dX7_text_157 : decode cX7_text 157 = .ok (.iinc 2 1, 3) := by decide +kernel
theorem dX7_text_160 : decode cX7_text 160 = .ok (.goto (-33), 3) := by decide +kernel
theorem dX7_text_163 : decode cX7_text 163 = .ok (.aload_n 0, 1) := by decide +kernel
theorem dX7_text_164 : decode cX7_text 164 = .ok (.iconst 0, 1) := by decide +kernel
theorem dX7_text_165 : decode cX7_text 165 = .ok (.putfield 116, 3) := by decide +kernel
theorem dX7_text_168 : decode cX7_text 168 = .ok (.aload_n 0, 1) := by decide +kernel
theorem dX7_text_169 : decode cX7_text 169 = .ok (.iconst 0, 1) := by decide +kernel
theorem dX7_text_170 : decode cX7_text 170 = .ok (.putfield 113, 3) := by decide +kernel
theorem dX7_text_173 : decode cX7_text 173 = .ok (.aload_n 0, 1) := by decide +kernel
theorem dX7_text_174 : decode cX7_text 174 = .ok (.bipush 11, 2) := by decide +kernel
theorem dX7_text_176 : decode cX7_text 176 = .ok (.putfield 81, 3) := by decide +kernel
theorem dX7_text_179 : decode cX7_text 179 = .ok (.aload_n 0, 1) := by decide +kernel
theorem dX7_text_180 : decode cX7_text 180 = .ok (.getfield 84, 3) := by decide +kernel
theorem dX7_text_183 : decode cX7_text 183 = .ok (.ireturn, 1) := by decide +kernel
theorem dX7_ofDay_0 : decode cX7_ofDay 0 = .ok (.iconst 0, 1) := by decide +kernel
theorem dX7_ofDay_1 : decode cX7_ofDay 1 = .ok (.istore_n 2, 1) := by decide +kernel
theorem dX7_ofDay_2 : decode cX7_ofDay 2 = .ok (.iconst 0, 1) := by decide +kernel
theorem dX7_ofDay_3 : decode cX7_ofDay 3 = .ok (.istore_n 3, 1) := by decide +kernel
theorem dX7_ofDay_4 : decode cX7_ofDay 4 = .ok (.iload_n 3, 1) := by decide +kernel
theorem dX7_ofDay_5 : decode cX7_ofDay 5 = .ok (.aload_n 0, 1) := by decide +kernel
theorem dX7_ofDay_6 : decode cX7_ofDay 6 = .ok (.getfield 84, 3) := by decide +kernel
theorem dX7_ofDay_9 : decode cX7_ofDay 9 = .ok (.if_icmp .ge 29, 3) := by decide +kernel
theorem dX7_ofDay_12 : decode cX7_ofDay 12 = .ok (.iload_n 2, 1) := by decide +kernel
theorem dX7_ofDay_13 : decode cX7_ofDay 13 = .ok (.aload_n 0, 1) := by decide +kernel
theorem dX7_ofDay_14 : decode cX7_ofDay 14 = .ok (.getfield 13, 3) := by decide +kernel
theorem dX7_ofDay_17 : decode cX7_ofDay 17 = .ok (.iload_n 3, 1) := by decide +kernel
theorem dX7_ofDay_18 : decode cX7_ofDay 18 = .ok (.iaload, 1) := by decide +kernel
theorem dX7_ofDay_19 : decode cX7_ofDay 19 = .ok (.iload_n 1, 1) := by decide +kernel
theorem dX7_ofDay_20 : decode cX7_ofDay 20 = .ok (.if_icmp .ne 9, 3) := by decide +kernel
theorem dX7_ofDay_23 : decode cX7_ofDay 23 = .ok (.iconst 1, 1) := by decide +kernel
theorem dX7_ofDay_24 : decode cX7_ofDay 24 = .ok (.iload_n 3, 1) := by decide +kernel
theorem dX7_ofDay_25 : decode cX7_ofDay 25 = .ok (.ishl, 1) := by decide +kernel
theorem dX7_ofDay_26 : decode cX7_ofDay 26 = .ok (.goto 4, 3) := by decide +kernel
theorem dX7_ofDay_29 : decode cX7_ofDay 29 = .ok (.iconst 0, 1) := by decide +kernel
theorem dX7_ofDay_30 : decode cX7_ofDay 30 = .ok (.ior, 1) := by decide +kernel
theorem dX7_ofDay_31 : decode cX7_ofDay 31 = .ok (.istore_n 2, 1) := by decide +kernel
theorem dX7_ofDay_32 : decode cX7_ofDay 32 = .ok (.iinc 3 1, 3) := by decide +kernel
theorem dX7_ofDay_35 : decode cX7_ofDay 35 = .ok (.goto (-31), 3) := by decide +kernel
theorem dX7_ofDay_38 : decode cX7_ofDay 38 = .ok (.iload_n 2, 1) := by decide +kernel
theorem dX7_ofDay_39 : decode cX7_ofDay 39 = .ok (.ireturn, 1) := by decide +kernel
theorem dX7_right_0 : decode cX7_right 0 = .ok (.aload_n 0, 1) := by decide +kernel
theorem dX7_right_1 : decode cX7_right 1 = .ok (.iload_n 1, 1) := by decide +kernel
theorem dX7_right_2 : decode cX7_right 2 = .ok (.i2l, 1) := by decide +kernel
theorem dX7_right_3 : decode cX7_right 3 = .ok (.invokevirtual 109, 3) := by decide +kernel
theorem dX7_right_6 : decode cX7_right 6 = .ok (.ifCond .ne 5, 3) := by decide +kernel
theorem dX7_right_9 : decode cX7_right 9 = .ok (.iconst (-1), 1) := by decide +kernel
theorem dX7_right_10 : decode cX7_right 10 = .ok (.ireturn, 1) := by decide +kernel
theorem dX7_right_11 : decode cX7_right 11 = .ok (.aload_n 0, 1) := by decide +kernel
theorem dX7_right_12 : decode cX7_right 12 = .ok (.aload_n 0, 1) := by decide +kernel
theorem dX7_right_13 : decode cX7_right 13 = .ok (.getfield 113, 3) := by decide +kernel
theorem dX7_right_16 : decode cX7_right 16 = .ok (.aload_n 0, 1) := by decide +kernel
theorem dX7_right_17 : decode cX7_right 17 = .ok (.getfield 116, 3) := by decide +kernel
theorem dX7_right_20 : decode cX7_right 20 = .ok (.invokevirtual 119, 3) := by decide +kernel
theorem dX7_right_23 : decode cX7_right 23 = .ok (.istore_n 2, 1) := by decide +kernel
theorem dX7_right_24 : decode cX7_right 24 = .ok (.aload_n 0, 1) := by decide +kernel
theorem dX7_right_25 : decode cX7_right 25 = .ok (.getfield 13, 3) := by decide +kernel
theorem dX7_right_28 : decode cX7_right 28 = .ok (.iload_n 1, 1) := by decide +kernel
theorem dX7_right_29 : decode cX7_right 29 = .ok (.iaload, 1) := by decide +kernel
theorem dX7_right_30 : decode cX7_right 30 = .ok (.aload_n 0, 1) := by decide +kernel
theorem dX7_right_31 : decode cX7_right 31 = .ok (.getfield 81, 3) := by decide +kernel
theorem dX7_right_34 : decode cX7_right 34 = .ok (.if_icmp .ne 27, 3) := by decide +kernel
theorem dX7_right_37 : decode cX7_right 37 = .ok (.iload_n 2, 1) := by decide +kernel
theorem dX7_right_38 : decode cX7_right 38 = .ok (.iload_n 1, 1) := by decide +kernel
theorem dX7_right_39 : decode cX7_right 39 = .ok (.ishr, 1) := by decide +kernel
theorem dX7_right_40 : decode cX7_right 40 = .ok (.iconst 1, 1) := by decide +kernel
theorem dX7_right_41 : decode cX7_right 41 = .ok (.iand, 1) := by decide +kernel
theorem dX7_right_42 : decode cX7_right 42 = .ok (.ifCond .eq 19, 3) := by decide +kernel
theorem dX7_right_45 : decode cX7_right 45 = .ok (.aload_n 0, 1) := by decide +kernel
theorem dX7_right_46 : decode cX7_right 46 = .ok (.aload_n 0, 1) := by decide +kernel
theorem dX7_right_47 : decode cX7_right 47 = .ok (.getfield 81, 3) := by decide +kernel
theorem dX7_right_50 : decode cX7_right 50 = .ok (.invokevirtual 162, 3) := by decide +kernel
theorem dX7_right_53 : decode cX7_right 53 = .ok (.aload_n 0, 1) := by decide +kernel
theorem dX7_right_54 : decode cX7_right 54 = .ok (.getfield 113, 3) := by decide +kernel
theorem dX7_right_57 : decode cX7_right 57 = .ok (.iand, 1) := by decide +kernel
theorem dX7_right_58 : decode cX7_right 58 = .ok (.ifCond .eq 6, 3) := by decide +kernel
theorem dX7_right_61 : decode cX7_right 61 = .ok (.bipush (-2), 2) := by decide +kernel
theorem dX7_right_63 : decode cX7_right 63 = .ok (.ireturn, 1) := by decide +kernel
theorem dX7_right_64 : decode cX7_right 64 = .ok (.aload_n 0, 1) := by decide +kernel
theorem dX7_right_65 : decode cX7_right 65 = .ok (.dup, 1) := by decide +kernel
theorem dX7_right_66 : decode cX7_right 66 = .ok (.getfield 113, 3) := by decide +kernel
theorem dX7_right_69 : decode cX7_right 69 = .ok (.iconst 1, 1) := by decide +kernel
theorem dX7_right_70 : decode cX7_right 70 = .ok (.iload_n 1, 1) := by decide +kernel
theorem dX7_right_71 : decode cX7_right 71 = .ok (.ishl, 1) := by decide +kernel
theorem dX7_right_72 : decode cX7_right 72 = .ok (.ior, 1) := by decide +kernel
theorem dX7_right_73 : decode cX7_right 73 = .ok (.putfield 113, 3) := by decide +kernel
theorem dX7_right_76 : decode cX7_right 76 = .ok (.iload_n 2, 1) := by decide +kernel
theorem dX7_right_77 : decode cX7_right 77 = .ok (.aload_n 0, 1) := by decide +kernel
theorem dX7_right_78 : decode cX7_right 78 = .ok (.aload_n 0, 1) := by decide +kernel
theorem dX7_right_79 : decode cX7_right 79 = .ok (.getfield 113, 3) := by decide +kernel
theorem dX7_right_82 : decode cX7_right 82 = .ok (.aload_n 0, 1) := by decide +kernel
theorem dX7_right_83 : decode cX7_right 83 = .ok (.getfield 116, 3) := by decide +kernel
theorem dX7_right_86 : decode cX7_right 86 = .ok (.invokevirtual 119, 3) := by decide +kernel
theorem dX7_right_89 : decode cX7_right 89 = .ok (.iconst (-1), 1) := by decide +kernel
theorem dX7_right_90 : decode cX7_right 90 = .ok (.ixor, 1) := by decide +kernel
theorem dX7_right_91 : decode cX7_right 91 = .ok (.iand, 1) := by decide +kernel
theorem dX7_right_92 : decode cX7_right 92 = .ok (.ireturn, 1) := by decide +kernel
theorem dX7_back_0 : decode cX7_back 0 = .ok (.aload_n 0, 1) := by decide +kernel
theorem dX7_back_1 : decode cX7_back 1 = .ok (.getfield 81, 3) := by decide +kernel
theorem dX7_back_4 : decode cX7_back 4 = .ok (.ifCond .ge 6, 3) := by decide +kernel
theorem dX7_back_7 : decode cX7_back 7 = .ok (.ldc 166, 2) := by decide +kernel
theorem dX7_back_9 : decode cX7_back 9 = .ok (.ireturn, 1) := by decide +kernel
theorem dX7_back_10 : decode cX7_back 10 = .ok (.aload_n 0, 1) := by decide +kernel
theorem dX7_back_11 : decode cX7_back 11 = .ok (.dup, 1) := by decide +kernel
theorem dX7_back_12 : decode cX7_back 12 = .ok (.getfield 81, 3) := by decide +kernel
theorem dX7_back_15 : decode cX7_back 15 = .ok (.iconst 1, 1) := by decide +kernel
theorem dX7_back_16 : decode cX7_back 16 = .ok (.isub, 1) := by decide +kernel
theorem dX7_back_17 : decode cX7_back 17 = .ok (.putfield 81, 3) := by decide +kernel
theorem dX7_back_20 : decode cX7_back 20 = .ok (.aload_n 0, 1) := by decide +kernel
theorem dX7_back_21 : decode cX7_back 21 = .ok (.getfield 81, 3) := by decide +kernel
theorem dX7_back_24 : decode cX7_back 24 = .ok (.ireturn, 1) := by decide +kernel
theorem dX7_size_0 : decode cX7_size 0 = .ok (.iconst 0, 1) := by decide +kernel
theorem dX7_size_1 : decode cX7_size 1 = .ok (.istore_n 1, 1) := by decide +kernel
theorem dX7_size_2 : decode cX7_size 2 = .ok (.iload_n 0, 1) := by decide +kernel
theorem dX7_size_3 : decode cX7_size 3 = .ok (.istore_n 2, 1) := by decide +kernel
theorem dX7_size_4 : decode cX7_size 4 = .ok (.iload_n 2, 1) := by decide +kernel
theorem dX7_size_5 : decode cX7_size 5 = .ok (.ifCond .eq 15, 3) := by decide +kernel
theorem dX7_size_8 : decode cX7_size 8 = .ok (.iinc 1 1, 3) := by decide +kernel
theorem dX7_size_11 : decode cX7_size 11 = .ok (.iload_n 2, 1) := by decide +kernel
theorem dX7_size_12 : decode cX7_size 12 = .ok (.iload_n 2, 1) := by decide +kernel
theorem dX7_size_13 : decode cX7_size 13 = .ok (.iconst 1, 1) := by decide +kernel
theorem dX7_size_14 : decode cX7_size 14 = .ok (.isub, 1) := by decide +kernel
theorem dX7_size_15 : decode cX7_size 15 = .ok (.iand, 1) := by decide +kernel
theorem dX7_size_16 : decode cX7_size 16 = .ok (.istore_n 2, 1) := by decide +kernel
theorem dX7_size_17 : decode cX7_size 17 = .ok (.goto (-13), 3) := by decide +kernel
theorem dX7_size_20 : decode cX7_size 20 = .ok (.iload_n 1, 1) := by decide +kernel
theorem dX7_size_21 : decode cX7_size 21 = .ok (.ireturn, 1) := by decide +kernel
theorem dX7_year_0 : decode cX7_year 0 = .ok (.aload_n 0, 1) := by decide +kernel
theorem dX7_year_1 : decode cX7_year 1 = .ok (.getfield 131, 3) := by decide +kernel
theorem dX7_year_4 : decode cX7_year 4 = .ok (.sipush 9999, 3) := by decide +kernel
theorem dX7_year_7 : decode cX7_year 7 = .ok (.if_icmp .ne 6, 3) := by decide +kernel
theorem dX7_year_10 : decode cX7_year 10 = .ok (.bipush (-3), 2) := by decide +kernel
theorem dX7_year_12 : decode cX7_year 12 = .ok (.ireturn, 1) := by decide +kernel
theorem dX7_year_13 : decode cX7_year 13 = .ok (.aload_n 0, 1) := by decide +kernel
theorem dX7_year_14 : decode cX7_year 14 = .ok (.aload_n 0, 1) := by decide +kernel
theorem dX7_year_15 : decode cX7_year 15 = .ok (.aload_n 0, 1) := by decide +kernel
theorem dX7_year_16 : decode cX7_year 16 = .ok (.getfield 113, 3) := by decide +kernel
theorem dX7_year_19 : decode cX7_year 19 = .ok (.aload_n 0, 1) := by decide +kernel
theorem dX7_year_20 : decode cX7_year 20 = .ok (.getfield 116, 3) := by decide +kernel
theorem dX7_year_23 : decode cX7_year 23 = .ok (.invokevirtual 119, 3) := by decide +kernel
theorem dX7_year_26 : decode cX7_year 26 = .ok (.putfield 116, 3) := by decide +kernel
theorem dX7_year_29 : decode cX7_year 29 = .ok (.aload_n 0, 1) := by decide +kernel
theorem dX7_year_30 : decode cX7_year 30 = .ok (.iconst 0, 1) := by decide +kernel
theorem dX7_year_31 : decode cX7_year 31 = .ok (.putfield 113, 3) := by decide +kernel
theorem dX7_year_34 : decode cX7_year 34 = .ok (.aload_n 0, 1) := by decide +kernel
theorem dX7_year_35 : decode cX7_year 35 = .ok (.bipush 11, 2) := by decide +kernel
theorem dX7_year_37 : decode cX7_year 37 = .ok (.putfield 81, 3) := by decide +kernel
theorem dX7_year_40 : decode cX7_year 40 = .ok (.aload_n 0, 1) := by decide +kernel
theorem dX7_year_41 : decode cX7_year 41 = .ok (.dup, 1) := by decide +kernel
theorem dX7_year_42 : decode cX7_year 42 = .ok (.getfield 131, 3) := by decide +kernel
theorem dX7_year_45 : decode cX7_year 45 = .ok (.iconst 1, 1) := by decide +kernel
theorem dX7_year_46 : decode cX7_year 46 = .ok (.iadd, 1) := by decide +kernel
theorem dX7_year_47 : decode cX7_year 47 = .ok (.putfield 131, 3) := by decide +kernel
theorem dX7_year_50 : decode cX7_year 50 = .ok (.aload_n 0, 1) := by decide +kernel
theorem dX7_year_51 : decode cX7_year 51 = .ok (.iconst 0, 1) := by decide +kernel
theorem dX7_year_52 : decode cX7_year 52 = .ok (.aload_n 0, 1) := by decide +kernel
theorem dX7_year_53 : decode cX7_year 53 = .ok (.getfield 116, 3) := by decide +kernel
theorem dX7_year_56 : decode cX7_year 56 = .ok (.invokevirtual 119, 3) := by decide +kernel
theorem dX7_year_59 : decode cX7_year 59 = .ok (.invokestatic 167, 3) := by decide +kernel
theorem dX7_year_62 : decode cX7_year 62 = .ok (.ireturn, 1) := by decide +kernel
theorem dX7_bearer_0 : decode cX7_bearer 0 = .ok (.iconst 0, 1) := by decide +kernel
theorem dX7_bearer_1 : decode cX7_bearer 1 = .ok (.istore_n 2, 1) := by decide +kernel
theorem dX7_bearer_2 : decode cX7_bearer 2 = .ok (.iconst 0, 1) := by decide +kernel
theorem dX7_bearer_3 : decode cX7_bearer 3 = .ok (.istore_n 3, 1) := by decide +kernel
theorem dX7_bearer_4 : decode cX7_bearer 4 = .ok (.iconst 1, 1) := by decide +kernel
theorem dX7_bearer_5 : decode cX7_bearer 5 = .ok (.istore 4, 2) := by decide +kernel
theorem dX7_bearer_7 : decode cX7_bearer 7 = .ok (.iload 4, 2) := by decide +kernel
theorem dX7_bearer_9 : decode cX7_bearer 9 = .ok (.aload_n 0, 1) := by decide +kernel
theorem dX7_bearer_10 : decode cX7_bearer 10 = .ok (.getfield 77, 3) := by decide +kernel
theorem dX7_bearer_13 : decode cX7_bearer 13 = .ok (.if_icmp .ge 71, 3) := by decide +kernel
theorem dX7_bearer_16 : decode cX7_bearer 16 = .ok (.aload_n 0, 1) := by decide +kernel
theorem dX7_bearer_17 : decode cX7_bearer 17 = .ok (.getfield 25, 3) := by decide +kernel
theorem dX7_bearer_20 : decode cX7_bearer 20 = .ok (.iconst 4, 1) := by decide +kernel
theorem dX7_bearer_21 : decode cX7_bearer 21 = .ok (.iload_n 1, 1) := by decide +kernel
theorem dX7_bearer_22 : decode cX7_bearer 22 = .ok (.imul, 1) := by decide +kernel
theorem dX7_bearer_23 : decode cX7_bearer 23 = .ok (.iload 4, 2) := by decide +kernel
theorem dX7_bearer_25 : decode cX7_bearer 25 = .ok (.iadd, 1) := by decide +kernel
theorem dX7_bearer_26 : decode cX7_bearer 26 = .ok (.iaload, 1) := by decide +kernel
theorem dX7_bearer_27 : decode cX7_bearer 27 = .ok (.aload_n 0, 1) := by decide +kernel
theorem dX7_bearer_28 : decode cX7_bearer 28 = .ok (.getfield 25, 3) := by decide +kernel
theorem dX7_bearer_31 : decode cX7_bearer 31 = .ok (.iconst 4, 1) := by decide +kernel
theorem dX7_bearer_32 : decode cX7_bearer 32 = .ok (.iload_n 1, 1) := by decide +kernel
theorem dX7_bearer_33 : decode cX7_bearer 33 = .ok (.imul, 1) := by decide +kernel
theorem dX7_bearer_34 : decode cX7_bearer 34 = .ok (.iload_n 2, 1) := by decide +kernel
theorem dX7_bearer_35 : decode cX7_bearer 35 = .ok (.iadd, 1) := by decide +kernel
theorem dX7_bearer_36 : decode cX7_bearer 36 = .ok (.iaload, 1) := by decide +kernel
theorem dX7_bearer_37 : decode cX7_bearer 37 = .ok (.if_icmp .le 8, 3) := by decide +kernel
theorem dX7_bearer_40 : decode cX7_bearer 40 = .ok (.iload 4, 2) := by decide +kernel
theorem dX7_bearer_42 : decode cX7_bearer 42 = .ok (.goto 4, 3) := by decide +kernel
theorem dX7_bearer_45 : decode cX7_bearer 45 = .ok (.iload_n 2, 1) := by decide +kernel
theorem dX7_bearer_46 : decode cX7_bearer 46 = .ok (.istore_n 2, 1) := by decide +kernel
theorem dX7_bearer_47 : decode cX7_bearer 47 = .ok (.aload_n 0, 1) := by decide +kernel
theorem dX7_bearer_48 : decode cX7_bearer 48 = .ok (.getfield 25, 3) := by decide +kernel
theorem dX7_bearer_51 : decode cX7_bearer 51 = .ok (.iconst 4, 1) := by decide +kernel
theorem dX7_bearer_52 : decode cX7_bearer 52 = .ok (.iload_n 1, 1) := by decide +kernel
theorem dX7_bearer_53 : decode cX7_bearer 53 = .ok (.imul, 1) := by decide +kernel
theorem dX7_bearer_54 : decode cX7_bearer 54 = .ok (.iload 4, 2) := by decide +kernel
theorem dX7_bearer_56 : decode cX7_bearer 56 = .ok (.iadd, 1) := by decide +kernel
theorem dX7_bearer_57 : decode cX7_bearer 57 = .ok (.iaload, 1) := by decide +kernel
theorem dX7_bearer_58 : decode cX7_bearer 58 = .ok (.aload_n 0, 1) := by decide +kernel
theorem dX7_bearer_59 : decode cX7_bearer 59 = .ok (.getfield 25, 3) := by decide +kernel
theorem dX7_bearer_62 : decode cX7_bearer 62 = .ok (.iconst 4, 1) := by decide +kernel
theorem dX7_bearer_63 : decode cX7_bearer 63 = .ok (.iload_n 1, 1) := by decide +kernel
theorem dX7_bearer_64 : decode cX7_bearer 64 = .ok (.imul, 1) := by decide +kernel
theorem dX7_bearer_65 : decode cX7_bearer 65 = .ok (.iload_n 3, 1) := by decide +kernel
theorem dX7_bearer_66 : decode cX7_bearer 66 = .ok (.iadd, 1) := by decide +kernel
theorem dX7_bearer_67 : decode cX7_bearer 67 = .ok (.iaload, 1) := by decide +kernel
theorem dX7_bearer_68 : decode cX7_bearer 68 = .ok (.if_icmp .ge 8, 3) := by decide +kernel
theorem dX7_bearer_71 : decode cX7_bearer 71 = .ok (.iload 4, 2) := by decide +kernel
theorem dX7_bearer_73 : decode cX7_bearer 73 = .ok (.goto 4, 3) := by decide +kernel
theorem dX7_bearer_76 : decode cX7_bearer 76 = .ok (.iload_n 3, 1) := by decide +kernel
theorem dX7_bearer_77 : decode cX7_bearer 77 = .ok (.istore_n 3, 1) := by decide +kernel
theorem dX7_bearer_78 : decode cX7_bearer 78 = .ok (.iinc 4 1, 3) := by decide +kernel
theorem dX7_bearer_81 : decode cX7_bearer 81 = .ok (.goto (-74), 3) := by decide +kernel
theorem dX7_bearer_84 : decode cX7_bearer 84 = .ok (.aload_n 0, 1) := by decide +kernel
theorem dX7_bearer_85 : decode cX7_bearer 85 = .ok (.getfield 25, 3) := by decide +kernel
theorem dX7_bearer_88 : decode cX7_bearer 88 = .ok (.iconst 4, 1) := by decide +kernel
theorem dX7_bearer_89 : decode cX7_bearer 89 = .ok (.iload_n 1, 1) := by decide +kernel
theorem dX7_bearer_90 : decode cX7_bearer 90 = .ok (.imul, 1) := by decide +kernel
theorem dX7_bearer_91 : decode cX7_bearer 91 = .ok (.iload_n 2, 1) := by decide +kernel
theorem dX7_bearer_92 : decode cX7_bearer 92 = .ok (.iadd, 1) := by decide +kernel
theorem dX7_bearer_93 : decode cX7_bearer 93 = .ok (.iaload, 1) := by decide +kernel
theorem dX7_bearer_94 : decode cX7_bearer 94 = .ok (.ifCond .le 7, 3) := by decide +kernel
theorem dX7_bearer_97 : decode cX7_bearer 97 = .ok (.iload_n 2, 1) := by decide +kernel
theorem dX7_bearer_98 : decode cX7_bearer 98 = .ok (.goto 4, 3) := by decide +kernel
theorem dX7_bearer_101 : decode cX7_bearer 101 = .ok (.iload_n 3, 1) := by decide +kernel
theorem dX7_bearer_102 : decode cX7_bearer 102 = .ok (.ireturn, 1) := by decide +kernel
theorem dX7_bears_0 : decode cX7_bears 0 = .ok (.aload_n 0, 1) := by decide +kernel
theorem dX7_bears_1 : decode cX7_bears 1 = .ok (.iload_n 1, 1) := by decide +kernel
theorem dX7_bears_2 : decode cX7_bears 2 = .ok (.i2l, 1) := by decide +kernel
theorem dX7_bears_3 : decode cX7_bears 3 = .ok (.invokevirtual 109, 3) := by decide +kernel
theorem dX7_bears_6 : decode cX7_bears 6 = .ok (.ifCond .eq 11, 3) := by decide +kernel
theorem dX7_bears_9 : decode cX7_bears 9 = .ok (.aload_n 0, 1) := by decide +kernel
theorem dX7_bears_10 : decode cX7_bears 10 = .ok (.iload_n 1, 1) := by decide +kernel
theorem dX7_bears_11 : decode cX7_bears 11 = .ok (.invokevirtual 170, 3) := by decide +kernel
theorem dX7_bears_14 : decode cX7_bears 14 = .ok (.goto 4, 3) := by decide +kernel
theorem dX7_bears_17 : decode cX7_bears 17 = .ok (.iconst (-1), 1) := by decide +kernel
theorem dX7_bears_18 : decode cX7_bears 18 = .ok (.ireturn, 1) := by decide +kernel
theorem dX7_counts_0 : decode cX7_counts 0 = .ok (.aload_n 0, 1) := by decide +kernel
theorem dX7_counts_1 : decode cX7_counts 1 = .ok (.iload_n 1, 1) := by decide +kernel
theorem dX7_counts_2 : decode cX7_counts 2 = .ok (.iload_n 2, 1) := by decide +kernel
theorem dX7_counts_3 : decode cX7_counts 3 = .ok (.invokevirtual 119, 3) := by decide +kernel
theorem dX7_counts_6 : decode cX7_counts 6 = .ok (.istore_n 3, 1) := by decide +kernel
theorem dX7_counts_7 : decode cX7_counts 7 = .ok (.aload_n 0, 1) := by decide +kernel
theorem dX7_counts_8 : decode cX7_counts 8 = .ok (.iconst 0, 1) := by decide +kernel
theorem dX7_counts_9 : decode cX7_counts 9 = .ok (.putfield 173, 3) := by decide +kernel
theorem dX7_counts_12 : decode cX7_counts 12 = .ok (.iconst 0, 1) := by decide +kernel
theorem dX7_counts_13 : decode cX7_counts 13 = .ok (.istore 4, 2) := by decide +kernel
theorem dX7_counts_15 : decode cX7_counts 15 = .ok (.iload 4, 2) := by decide +kernel
theorem dX7_counts_17 : decode cX7_counts 17 = .ok (.iconst 4, 1) := by decide +kernel
theorem dX7_counts_18 : decode cX7_counts 18 = .ok (.if_icmp .ge 17, 3) := by decide +kernel
theorem dX7_counts_21 : decode cX7_counts 21 = .ok (.aload_n 0, 1) := by decide +kernel
theorem dX7_counts_22 : decode cX7_counts 22 = .ok (.getfield 40, 3) := by decide +kernel
theorem dX7_counts_25 : decode cX7_counts 25 = .ok (.iload 4, 2) := by decide +kernel
theorem dX7_counts_27 : decode cX7_counts 27 = .ok (.iconst 0, 1) := by decide +kernel
theorem dX7_counts_28 : decode cX7_counts 28 = .ok (.iastore, 1) := by decide +kernel
theorem dX7_counts_29 : decode cX7_counts 29 = .ok (.iinc 4 1, 3) := by decide +kernel
theorem dX7_counts_32 : decode cX7_counts 32 = .ok (.goto (-17), 3) := by decide +kernel
theorem dX7_counts_35 : decode cX7_counts 35 = .ok (.iconst 0, 1) := by decide +kernel
theorem dX7_counts_36 : decode cX7_counts 36 = .ok (.istore 4, 2) := by decide +kernel
theorem dX7_counts_38 : decode cX7_counts 38 = .ok (.iload 4, 2) := by decide +kernel
theorem dX7_counts_40 : decode cX7_counts 40 = .ok (.aload_n 0, 1) := by decide +kernel
theorem dX7_counts_41 : decode cX7_counts 41 = .ok (.getfield 84, 3) := by decide +kernel
theorem dX7_counts_44 : decode cX7_counts 44 = .ok (.if_icmp .ge 90, 3) := by decide +kernel
theorem dX7_counts_47 : decode cX7_counts 47 = .ok (.iconst 0, 1) := by decide +kernel
theorem dX7_counts_48 : decode cX7_counts 48 = .ok (.istore 5, 2) := by decide +kernel
theorem dX7_counts_50 : decode cX7_counts 50 = .ok (.iload 5, 2) := by decide +kernel
theorem dX7_counts_52 : decode cX7_counts 52 = .ok (.aload_n 0, 1) := by decide +kernel
theorem dX7_counts_53 : decode cX7_counts 53 = .ok (.getfield 77, 3) := by decide +kernel
theorem dX7_counts_56 : decode cX7_counts 56 = .ok (.if_icmp .ge 41, 3) := by decide +kernel
theorem dX7_counts_59 : decode cX7_counts 59 = .ok (.iload_n 3, 1) := by decide +kernel
theorem dX7_counts_60 : decode cX7_counts 60 = .ok (.iload 4, 2) := by decide +kernel
theorem dX7_counts_62 : decode cX7_counts 62 = .ok (.ishr, 1) := by decide +kernel
theorem dX7_counts_63 : decode cX7_counts 63 = .ok (.iconst 1, 1) := by decide +kernel
theorem dX7_counts_64 : decode cX7_counts 64 = .ok (.iand, 1) := by decide +kernel
theorem dX7_counts_65 : decode cX7_counts 65 = .ok (.iconst 1, 1) := by decide +kernel
theorem dX7_counts_66 : decode cX7_counts 66 = .ok (.if_icmp .ne 31, 3) := by decide +kernel
theorem dX7_counts_69 : decode cX7_counts 69 = .ok (.aload_n 0, 1) := by decide +kernel
theorem dX7_counts_70 : decode cX7_counts 70 = .ok (.getfield 40, 3) := by decide +kernel
theorem dX7_counts_73 : decode cX7_counts 73 = .ok (.iload 5, 2) := by decide +kernel
theorem dX7_counts_75 : decode cX7_counts 75 = .ok (.dup2, 1) := by decide +kernel
theorem dX7_counts_76 : decode cX7_counts 76 = .ok (.iaload, 1) := by decide +kernel
theorem dX7_counts_77 : decode cX7_counts 77 = .ok (.aload_n 0, 1) := by decide +kernel
theorem dX7_counts_78 : decode cX7_counts 78 = .ok (.getfield 25, 3) := by decide +kernel
theorem dX7_counts_81 : decode cX7_counts 81 = .ok (.iconst 4, 1) := by decide +kernel
theorem dX7_counts_82 : decode cX7_counts 82 = .ok (.iload 4, 2) := by decide +kernel
theorem dX7_counts_84 : decode cX7_counts 84 = .ok (.imul, 1) := by decide +kernel
theorem dX7_counts_85 : decode cX7_counts 85 = .ok (.iload 5, 2) := by decide +kernel
theorem dX7_counts_87 : decode cX7_counts 87 = .ok (.iadd, 1) := by decide +kernel
theorem dX7_counts_88 : decode cX7_counts 88 = .ok (.iaload, 1) := by decide +kernel
theorem dX7_counts_89 : decode cX7_counts 89 = .ok (.iadd, 1) := by decide +kernel
theorem dX7_counts_90 : decode cX7_counts 90 = .ok (.iastore, 1) := by decide +kernel
theorem dX7_counts_91 : decode cX7_counts 91 = .ok (.iinc 5 1, 3) := by decide +kernel
theorem dX7_counts_94 : decode cX7_counts 94 = .ok (.goto (-44), 3) := by decide +kernel
theorem dX7_counts_97 : decode cX7_counts 97 = .ok (.iload_n 1, 1) := by decide +kernel
theorem dX7_counts_98 : decode cX7_counts 98 = .ok (.iload 4, 2) := by decide +kernel
theorem dX7_counts_100 : decode cX7_counts 100 = .ok (.ishr, 1) := by decide +kernel
theorem dX7_counts_101 : decode cX7_counts 101 = .ok (.iconst 1, 1) := by decide +kernel
theorem dX7_counts_102 : decode cX7_counts 102 = .ok (.iand, 1) := by decide +kernel
theorem dX7_counts_103 : decode cX7_counts 103 = .ok (.iconst 1, 1) := by decide +kernel
theorem dX7_counts_104 : decode cX7_counts 104 = .ok (.if_icmp .ne 24, 3) := by decide +kernel
theorem dX7_counts_107 : decode cX7_counts 107 = .ok (.aload_n 0, 1) := by decide +kernel
theorem dX7_counts_108 : decode cX7_counts 108 = .ok (.getfield 40, 3) := by decide +kernel
theorem dX7_counts_111 : decode cX7_counts 111 = .ok (.aload_n 0, 1) := by decide +kernel
theorem dX7_counts_112 : decode cX7_counts 112 = .ok (.iload 4, 2) := by decide +kernel
theorem dX7_counts_114 : decode cX7_counts 114 = .ok (.invokevirtual 170, 3) := by decide +kernel
theorem dX7_counts_117 : decode cX7_counts 117 = .ok (.dup2, 1) := by decide +kernel
theorem dX7_counts_118 : decode cX7_counts 118 = .ok (.iaload, 1) := by decide +kernel
theorem dX7_counts_119 : decode cX7_counts 119 = .ok (.aload_n 0, 1) := by decide +kernel
theorem dX7_counts_120 : decode cX7_counts 120 = .ok (.getfield 19, 3) := by decide +kernel
theorem dX7_counts_123 : decode cX7_counts 123 = .ok (.iload 4, 2) := by decide +kernel
theorem dX7_counts_125 : decode cX7_counts 125 = .ok (.iaload, 1) := by decide +kernel
theorem dX7_counts_126 : decode cX7_counts 126 = .ok (.isub, 1) := by decide +kernel
theorem dX7_counts_127 : decode cX7_counts 127 = .ok (.iastore, 1) := by decide +kernel
theorem dX7_counts_128 : decode cX7_counts 128 = .ok (.iinc 4 1, 3) := by decide +kernel
theorem dX7_counts_131 : decode cX7_counts 131 = .ok (.goto (-93), 3) := by decide +kernel
theorem dX7_counts_134 : decode cX7_counts 134 = .ok (.iconst 0, 1) := by decide +kernel
theorem dX7_counts_135 : decode cX7_counts 135 = .ok (.istore 4, 2) := by decide +kernel
theorem dX7_counts_137 : decode cX7_counts 137 = .ok (.iload 4, 2) := by decide +kernel
theorem dX7_counts_139 : decode cX7_counts 139 = .ok (.aload_n 0, 1) := by decide +kernel
theorem dX7_counts_140 : decode cX7_counts 140 = .ok (.getfield 77, 3) := by decide +kernel
theorem dX7_counts_143 : decode cX7_counts 143 = .ok (.if_icmp .ge 25, 3) := by decide +kernel
theorem dX7_counts_146 : decode cX7_counts 146 = .ok (.aload_n 0, 1) := by decide +kernel
theorem dX7_counts_147 : decode cX7_counts 147 = .ok (.dup, 1) := by decide +kernel
theorem dX7_counts_148 : decode cX7_counts 148 = .ok (.getfield 173, 3) := by decide +kernel
theorem dX7_counts_151 : decode cX7_counts 151 = .ok (.aload_n 0, 1) := by decide +kernel
theorem dX7_counts_152 : decode cX7_counts 152 = .ok (.getfield 40, 3) := by decide +kernel
theorem dX7_counts_155 : decode cX7_counts 155 = .ok (.iload 4, 2) := by decide +kernel
theorem dX7_counts_157 : decode cX7_counts 157 = .ok (.iaload, 1) := by decide +kernel
theorem dX7_counts_158 : decode cX7_counts 158 = .ok (.iadd, 1) := by decide +kernel
theorem dX7_counts_159 : decode cX7_counts 159 = .ok (.putfield 173, 3) := by decide +kernel
theorem dX7_counts_162 : decode cX7_counts 162 = .ok (.iinc 4 1, 3) := by decide +kernel
theorem dX7_counts_165 : decode cX7_counts 165 = .ok (.goto (-28), 3) := by decide +kernel
theorem dX7_counts_168 : decode cX7_counts 168 = .ok (.return_, 1) := by decide +kernel
theorem dX7_value_0 : decode cX7_value 0 = .ok (.iload_n 1, 1) := by decide +kernel
theorem dX7_value_1 : decode cX7_value 1 = .ok (.iconst (-1), 1) := by decide +kernel
theorem dX7_value_2 : decode cX7_value 2 = .ok (.if_icmp .eq 14, 3) := by decide +kernel
theorem dX7_value_5 : decode cX7_value 5 = .ok (.aload_n 0, 1) := by decide +kernel
theorem dX7_value_6 : decode cX7_value 6 = .ok (.iload_n 1, 1) := by decide +kernel
theorem dX7_value_7 : decode cX7_value 7 = .ok (.invokevirtual 176, 3) := by decide +kernel
theorem dX7_value_10 : decode cX7_value 10 = .ok (.ifCond .ne 6, 3) := by decide +kernel
theorem dX7_value_13 : decode cX7_value 13 = .ok (.ldc 127, 2) := by decide +kernel
theorem dX7_value_15 : decode cX7_value 15 = .ok (.ireturn, 1) := by decide +kernel
theorem dX7_value_16 : decode cX7_value 16 = .ok (.aload_n 0, 1) := by decide +kernel
theorem dX7_value_17 : decode cX7_value 17 = .ok (.aload_n 0, 1) := by decide +kernel
theorem dX7_value_18 : decode cX7_value 18 = .ok (.getfield 113, 3) := by decide +kernel
theorem dX7_value_21 : decode cX7_value 21 = .ok (.aload_n 0, 1) := by decide +kernel
theorem dX7_value_22 : decode cX7_value 22 = .ok (.getfield 116, 3) := by decide +kernel
theorem dX7_value_25 : decode cX7_value 25 = .ok (.invokevirtual 180, 3) := by decide +kernel
theorem dX7_value_28 : decode cX7_value 28 = .ok (.iload_n 1, 1) := by decide +kernel
theorem dX7_value_29 : decode cX7_value 29 = .ok (.ifCond .ge 10, 3) := by decide +kernel
theorem dX7_value_32 : decode cX7_value 32 = .ok (.aload_n 0, 1) := by decide +kernel
theorem dX7_value_33 : decode cX7_value 33 = .ok (.getfield 173, 3) := by decide +kernel
theorem dX7_value_36 : decode cX7_value 36 = .ok (.goto 9, 3) := by decide +kernel
theorem dX7_value_39 : decode cX7_value 39 = .ok (.aload_n 0, 1) := by decide +kernel
theorem dX7_value_40 : decode cX7_value 40 = .ok (.getfield 40, 3) := by decide +kernel
theorem dX7_value_43 : decode cX7_value 43 = .ok (.iload_n 1, 1) := by decide +kernel
theorem dX7_value_44 : decode cX7_value 44 = .ok (.iaload, 1) := by decide +kernel
theorem dX7_value_45 : decode cX7_value 45 = .ok (.ireturn, 1) := by decide +kernel
theorem dX7_isWalk_0 : decode cX7_isWalk 0 = .ok (.iconst 0, 1) := by decide +kernel
theorem dX7_isWalk_1 : decode cX7_isWalk 1 = .ok (.istore_n 3, 1) := by decide +kernel
theorem dX7_isWalk_2 : decode cX7_isWalk 2 = .ok (.iload_n 1, 1) := by decide +kernel
theorem dX7_isWalk_3 : decode cX7_isWalk 3 = .ok (.iload_n 2, 1) := by decide +kernel
theorem dX7_isWalk_4 : decode cX7_isWalk 4 = .ok (.iconst (-1), 1) := by decide +kernel
theorem dX7_isWalk_5 : decode cX7_isWalk 5 = .ok (.ixor, 1) := by decide +kernel
theorem dX7_isWalk_6 : decode cX7_isWalk 6 = .ok (.iand, 1) := by decide +kernel
theorem dX7_isWalk_7 : decode cX7_isWalk 7 = .ok (.ifCond .ne 7, 3) := by decide +kernel
theorem dX7_isWalk_10 : decode cX7_isWalk 10 = .ok (.iconst 1, 1) := by decide +kernel
theorem dX7_isWalk_11 : decode cX7_isWalk 11 = .ok (.goto 4, 3) := by decide +kernel
theorem dX7_isWalk_14 : decode cX7_isWalk 14 = .ok (.iconst 0, 1) := by decide +kernel
theorem dX7_isWalk_15 : decode cX7_isWalk 15 = .ok (.istore 4, 2) := by decide +kernel
theorem dX7_isWalk_17 : decode cX7_isWalk 17 = .ok (.iconst 0, 1) := by decide +kernel
theorem dX7_isWalk_18 : decode cX7_isWalk 18 = .ok (.istore 5, 2) := by decide +kernel
theorem dX7_isWalk_20 : decode cX7_isWalk 20 = .ok (.iload 5, 2) := by decide +kernel
theorem dX7_isWalk_22 : decode cX7_isWalk 22 = .ok (.aload_n 0, 1) := by decide +kernel
theorem dX7_isWalk_23 : decode cX7_isWalk 23 = .ok (.getfield 84, 3) := by decide +kernel
theorem dX7_isWalk_26 : decode cX7_isWalk 26 = .ok (.if_icmp .ge 57, 3) := by decide +kernel
theorem dX7_isWalk_29 : decode cX7_isWalk 29 = .ok (.iload_n 1, 1) := by decide +kernel
theorem dX7_isWalk_30 : decode cX7_isWalk 30 = .ok (.iload 5, 2) := by decide +kernel
theorem dX7_isWalk_32 : decode cX7_isWalk 32 = .ok (.ishr, 1) := by decide +kernel
theorem dX7_isWalk_33 : decode cX7_isWalk 33 = .ok (.iconst 1, 1) := by decide +kernel
theorem dX7_isWalk_34 : decode cX7_isWalk 34 = .ok (.iand, 1) := by decide +kernel
theorem dX7_isWalk_35 : decode cX7_isWalk 35 = .ok (.iconst 1, 1) := by decide +kernel
theorem dX7_isWalk_36 : decode cX7_isWalk 36 = .ok (.if_icmp .ne 41, 3) := by decide +kernel
theorem dX7_isWalk_39 : decode cX7_isWalk 39 = .ok (.iload 4, 2) := by decide +kernel
theorem dX7_isWalk_41 : decode cX7_isWalk 41 = .ok (.ifCond .eq 21, 3) := by decide +kernel
theorem dX7_isWalk_44 : decode cX7_isWalk 44 = .ok (.iload_n 3, 1) := by decide +kernel
theorem dX7_isWalk_45 : decode cX7_isWalk 45 = .ok (.aload_n 0, 1) := by decide +kernel
theorem dX7_isWalk_46 : decode cX7_isWalk 46 = .ok (.getfield 13, 3) := by decide +kernel
theorem dX7_isWalk_49 : decode cX7_isWalk 49 = .ok (.iload 5, 2) := by decide +kernel
theorem dX7_isWalk_51 : decode cX7_isWalk 51 = .ok (.iaload, 1) := by decide +kernel
theorem dX7_isWalk_52 : decode cX7_isWalk 52 = .ok (.ishr, 1) := by decide +kernel
theorem dX7_isWalk_53 : decode cX7_isWalk 53 = .ok (.iconst 1, 1) := by decide +kernel
theorem dX7_isWalk_54 : decode cX7_isWalk 54 = .ok (.iand, 1) := by decide +kernel
theorem dX7_isWalk_55 : decode cX7_isWalk 55 = .ok (.ifCond .ne 7, 3) := by decide +kernel
theorem dX7_isWalk_58 : decode cX7_isWalk 58 = .ok (.iconst 1, 1) := by decide +kernel
theorem dX7_isWalk_59 : decode cX7_isWalk 59 = .ok (.goto 4, 3) := by decide +kernel
theorem dX7_isWalk_62 : decode cX7_isWalk 62 = .ok (.iconst 0, 1) := by decide +kernel
theorem dX7_isWalk_63 : decode cX7_isWalk 63 = .ok (.istore 4, 2) := by decide +kernel
theorem dX7_isWalk_65 : decode cX7_isWalk 65 = .ok (.iload_n 3, 1) := by decide +kernel
theorem dX7_isWalk_66 : decode cX7_isWalk 66 = .ok (.iconst 1, 1) := by decide +kernel
theorem dX7_isWalk_67 : decode cX7_isWalk 67 = .ok (.aload_n 0, 1) := by decide +kernel
theorem dX7_isWalk_68 : decode cX7_isWalk 68 = .ok (.getfield 13, 3) := by decide +kernel
theorem dX7_isWalk_71 : decode cX7_isWalk 71 = .ok (.iload 5, 2) := by decide +kernel
theorem dX7_isWalk_73 : decode cX7_isWalk 73 = .ok (.iaload, 1) := by decide +kernel
theorem dX7_isWalk_74 : decode cX7_isWalk 74 = .ok (.ishl, 1) := by decide +kernel
theorem dX7_isWalk_75 : decode cX7_isWalk 75 = .ok (.ior, 1) := by decide +kernel
theorem dX7_isWalk_76 : decode cX7_isWalk 76 = .ok (.istore_n 3, 1) := by decide +kernel
theorem dX7_isWalk_77 : decode cX7_isWalk 77 = .ok (.iinc 5 1, 3) := by decide +kernel
theorem dX7_isWalk_80 : decode cX7_isWalk 80 = .ok (.goto (-60), 3) := by decide +kernel
theorem dX7_isWalk_83 : decode cX7_isWalk 83 = .ok (.iload 4, 2) := by decide +kernel
theorem dX7_isWalk_85 : decode cX7_isWalk 85 = .ok (.ireturn, 1) := by decide +kernel
theorem dX7_bestOf_0 : decode cX7_bestOf 0 = .ok (.aload_n 0, 1) := by decide +kernel
theorem dX7_bestOf_1 : decode cX7_bestOf 1 = .ok (.iconst 0, 1) := by decide +kernel
theorem dX7_bestOf_2 : decode cX7_bestOf 2 = .ok (.iload_n 3, 1) := by decide +kernel
theorem dX7_bestOf_3 : decode cX7_bestOf 3 = .ok (.invokevirtual 119, 3) := by decide +kernel
theorem dX7_bestOf_6 : decode cX7_bestOf 6 = .ok (.istore 4, 2) := by decide +kernel
theorem dX7_bestOf_8 : decode cX7_bestOf 8 = .ok (.aload_n 0, 1) := by decide +kernel
theorem dX7_bestOf_9 : decode cX7_bestOf 9 = .ok (.iconst 0, 1) := by decide +kernel
theorem dX7_bestOf_10 : decode cX7_bestOf 10 = .ok (.iload_n 3, 1) := by decide +kernel
theorem dX7_bestOf_11 : decode cX7_bestOf 11 = .ok (.invokevirtual 180, 3) := by decide +kernel
theorem dX7_bestOf_14 : decode cX7_bestOf 14 = .ok (.iconst 0, 1) := by decide +kernel
theorem dX7_bestOf_15 : decode cX7_bestOf 15 = .ok (.istore 5, 2) := by decide +kernel
theorem dX7_bestOf_17 : decode cX7_bestOf 17 = .ok (.iload 5, 2) := by decide +kernel
theorem dX7_bestOf_19 : decode cX7_bestOf 19 = .ok (.iconst 4, 1) := by decide +kernel
theorem dX7_bestOf_20 : decode cX7_bestOf 20 = .ok (.if_icmp .ge 23, 3) := by decide +kernel
theorem dX7_bestOf_23 : decode cX7_bestOf 23 = .ok (.aload_n 0, 1) := by decide +kernel
theorem dX7_bestOf_24 : decode cX7_bestOf 24 = .ok (.getfield 43, 3) := by decide +kernel
theorem dX7_bestOf_27 : decode cX7_bestOf 27 = .ok (.iload 5, 2) := by decide +kernel
theorem dX7_bestOf_29 : decode cX7_bestOf 29 = .ok (.aload_n 0, 1) := by decide +kernel
theorem dX7_bestOf_30 : decode cX7_bestOf 30 = .ok (.getfield 40, 3) := by decide +kernel
theorem dX7_bestOf_33 : decode cX7_bestOf 33 = .ok (.iload 5, 2) := by decide +kernel
theorem dX7_bestOf_35 : decode cX7_bestOf 35 = .ok (.iaload, 1) := by decide +kernel
theorem dX7_bestOf_36 : decode cX7_bestOf 36 = .ok (.iastore, 1) := by decide +kernel
theorem dX7_bestOf_37 : decode cX7_bestOf 37 = .ok (.iinc 5 1, 3) := by decide +kernel
theorem dX7_bestOf_40 : decode cX7_bestOf 40 = .ok (.goto (-23), 3) := by decide +kernel
theorem dX7_bestOf_43 : decode cX7_bestOf 43 = .ok (.iconst 0, 1) := by decide +kernel
theorem dX7_bestOf_44 : decode cX7_bestOf 44 = .ok (.istore 5, 2) := by decide +kernel
theorem dX7_bestOf_46 : decode cX7_bestOf 46 = .ok (.aload_n 0, 1) := by decide +kernel
theorem dX7_bestOf_47 : decode cX7_bestOf 47 = .ok (.aload_n 0, 1) := by decide +kernel
theorem dX7_bestOf_48 : decode cX7_bestOf 48 = .ok (.getfield 173, 3) := by decide +kernel
theorem dX7_bestOf_51 : decode cX7_bestOf 51 = .ok (.putfield 184, 3) := by decide +kernel
theorem dX7_bestOf_54 : decode cX7_bestOf 54 = .ok (.iconst 1, 1) := by decide +kernel
theorem dX7_bestOf_55 : decode cX7_bestOf 55 = .ok (.istore 6, 2) := by decide +kernel
theorem dX7_bestOf_57 : decode cX7_bestOf 57 = .ok (.iload 6, 2) := by decide +kernel
theorem dX7_bestOf_59 : decode cX7_bestOf 59 = .ok (.iconst 1, 1) := by decide +kernel
theorem dX7_bestOf_60 : decode cX7_bestOf 60 = .ok (.aload_n 0, 1) := by decide +kernel
theorem dX7_bestOf_61 : decode cX7_bestOf 61 = .ok (.getfield 84, 3) := by decide +kernel
theorem dX7_bestOf_64 : decode cX7_bestOf 64 = .ok (.ishl, 1) := by decide +kernel
theorem dX7_bestOf_65 : decode cX7_bestOf 65 = .ok (.if_icmp .ge 173, 3) := by decide +kernel
theorem dX7_bestOf_68 : decode cX7_bestOf 68 = .ok (.iload 6, 2) := by decide +kernel
theorem dX7_bestOf_70 : decode cX7_bestOf 70 = .ok (.iload 4, 2) := by decide +kernel
theorem dX7_bestOf_72 : decode cX7_bestOf 72 = .ok (.iconst (-1), 1) := by decide +kernel
theorem dX7_bestOf_73 : decode cX7_bestOf 73 = .ok (.ixor, 1) := by decide +kernel
theorem dX7_bestOf_74 : decode cX7_bestOf 74 = .ok (.iand, 1) := by decide +kernel
theorem dX7_bestOf_75 : decode cX7_bestOf 75 = .ok (.ifCond .ne 157, 3) := by decide +kernel
theorem dX7_bestOf_78 : decode cX7_bestOf 78 = .ok (.iload 6, 2) := by decide +kernel
theorem dX7_bestOf_80 : decode cX7_bestOf 80 = .ok (.invokestatic 167, 3) := by decide +kernel
theorem dX7_bestOf_83 : decode cX7_bestOf 83 = .ok (.iload_n 1, 1) := by decide +kernel
theorem dX7_bestOf_84 : decode cX7_bestOf 84 = .ok (.if_icmp .gt 148, 3) := by decide +kernel
theorem dX7_bestOf_87 : decode cX7_bestOf 87 = .ok (.aload_n 0, 1) := by decide +kernel
theorem dX7_bestOf_88 : decode cX7_bestOf 88 = .ok (.iload 6, 2) := by decide +kernel
theorem dX7_bestOf_90 : decode cX7_bestOf 90 = .ok (.iload 4, 2) := by decide +kernel
theorem dX7_bestOf_92 : decode cX7_bestOf 92 = .ok (.invokevirtual 187, 3) := by decide +kernel
theorem dX7_bestOf_95 : decode cX7_bestOf 95 = .ok (.ifCond .eq 137, 3) := by decide +kernel
theorem dX7_bestOf_98 : decode cX7_bestOf 98 = .ok (.aload_n 0, 1) := by decide +kernel
theorem dX7_bestOf_99 : decode cX7_bestOf 99 = .ok (.iload 6, 2) := by decide +kernel
theorem dX7_bestOf_101 : decode cX7_bestOf 101 = .ok (.iload_n 3, 1) := by decide +kernel
theorem dX7_bestOf_102 : decode cX7_bestOf 102 = .ok (.invokevirtual 180, 3) := by decide +kernel
theorem dX7_bestOf_105 : decode cX7_bestOf 105 = .ok (.aload_n 0, 1) := by decide +kernel
theorem dX7_bestOf_106 : decode cX7_bestOf 106 = .ok (.getfield 173, 3) := by decide +kernel
theorem dX7_bestOf_109 : decode cX7_bestOf 109 = .ok (.aload_n 0, 1) := by decide +kernel
theorem dX7_bestOf_110 : decode cX7_bestOf 110 = .ok (.getfield 184, 3) := by decide +kernel
theorem dX7_bestOf_113 : decode cX7_bestOf 113 = .ok (.if_icmp .gt 27, 3) := by decide +kernel
theorem dX7_bestOf_116 : decode cX7_bestOf 116 = .ok (.aload_n 0, 1) := by decide +kernel
theorem dX7_bestOf_117 : decode cX7_bestOf 117 = .ok (.getfield 173, 3) := by decide +kernel
theorem dX7_bestOf_120 : decode cX7_bestOf 120 = .ok (.aload_n 0, 1) := by decide +kernel
theorem dX7_bestOf_121 : decode cX7_bestOf 121 = .ok (.getfield 184, 3) := by decide +kernel
theorem dX7_bestOf_124 : decode cX7_bestOf 124 = .ok (.if_icmp .ne 20, 3) := by decide +kernel
theorem dX7_bestOf_127 : decode cX7_bestOf 127 = .ok (.iload 6, 2) := by decide +kernel
theorem dX7_bestOf_129 : decode cX7_bestOf 129 = .ok (.invokestatic 167, 3) := by decide +kernel
theorem dX7_bestOf_132 : decode cX7_bestOf 132 = .ok (.iload 5, 2) := by decide +kernel
theorem dX7_bestOf_134 : decode cX7_bestOf 134 = .ok (.invokestatic 167, 3) := by decide +kernel
theorem dX7_bestOf_137 : decode cX7_bestOf 137 = .ok (.if_icmp .ge 7, 3) := by decide +kernel
theorem dX7_bestOf_140 : decode cX7_bestOf 140 = .ok (.iconst 1, 1) := by decide +kernel
theorem dX7_bestOf_141 : decode cX7_bestOf 141 = .ok (.goto 4, 3) := by decide +kernel
theorem dX7_bestOf_144 : decode cX7_bestOf 144 = .ok (.iconst 0, 1) := by decide +kernel
theorem dX7_bestOf_145 : decode cX7_bestOf 145 = .ok (.istore 7, 2) := by decide +kernel
theorem dX7_bestOf_147 : decode cX7_bestOf 147 = .ok (.iconst 0, 1) := by decide +kernel
theorem dX7_bestOf_148 : decode cX7_bestOf 148 = .ok (.istore 8, 2) := by decide +kernel
theorem dX7_bestOf_150 : decode cX7_bestOf 150 = .ok (.iload 8, 2) := by decide +kernel
theorem dX7_bestOf_152 : decode cX7_bestOf 152 = .ok (.aload_n 0, 1) := by decide +kernel
theorem dX7_bestOf_153 : decode cX7_bestOf 153 = .ok (.getfield 77, 3) := by decide +kernel
theorem dX7_bestOf_156 : decode cX7_bestOf 156 = .ok (.if_icmp .ge 42, 3) := by decide +kernel
theorem dX7_bestOf_159 : decode cX7_bestOf 159 = .ok (.iload_n 2, 1) := by decide +kernel
theorem dX7_bestOf_160 : decode cX7_bestOf 160 = .ok (.ifCond .eq 38, 3) := by decide +kernel
theorem dX7_bestOf_163 : decode cX7_bestOf 163 = .ok (.iload 7, 2) := by decide +kernel
theorem dX7_bestOf_165 : decode cX7_bestOf 165 = .ok (.ifCond .eq 24, 3) := by decide +kernel
theorem dX7_bestOf_168 : decode cX7_bestOf 168 = .ok (.aload_n 0, 1) := by decide +kernel
theorem dX7_bestOf_169 : decode cX7_bestOf 169 = .ok (.getfield 40, 3) := by decide +kernel
theorem dX7_bestOf_172 : decode cX7_bestOf 172 = .ok (.iload 8, 2) := by decide +kernel
theorem dX7_bestOf_174 : decode cX7_bestOf 174 = .ok (.iaload, 1) := by decide +kernel
theorem dX7_bestOf_175 : decode cX7_bestOf 175 = .ok (.aload_n 0, 1) := by decide +kernel
theorem dX7_bestOf_176 : decode cX7_bestOf 176 = .ok (.getfield 43, 3) := by decide +kernel
theorem dX7_bestOf_179 : decode cX7_bestOf 179 = .ok (.iload 8, 2) := by decide +kernel
theorem dX7_bestOf_181 : decode cX7_bestOf 181 = .ok (.iaload, 1) := by decide +kernel
theorem dX7_bestOf_182 : decode cX7_bestOf 182 = .ok (.if_icmp .lt 7, 3) := by decide +kernel
theorem dX7_bestOf_185 : decode cX7_bestOf 185 = .ok (.iconst 1, 1) := by decide +kernel
theorem dX7_bestOf_186 : decode cX7_bestOf 186 = .ok (.goto 4, 3) := by decide +kernel
theorem dX7_bestOf_189 : decode cX7_bestOf 189 = .ok (.iconst 0, 1) := by decide +kernel
theorem dX7_bestOf_190 : decode cX7_bestOf 190 = .ok (.istore 7, 2) := by decide +kernel
theorem dX7_bestOf_192 : decode cX7_bestOf 192 = .ok (.iinc 8 1, 3) := by decide +kernel
theorem dX7_bestOf_195 : decode cX7_bestOf 195 = .ok (.goto (-45), 3) := by decide +kernel
theorem dX7_bestOf_198 : decode cX7_bestOf 198 = .ok (.iload 7, 2) := by decide +kernel
theorem dX7_bestOf_200 : decode cX7_bestOf 200 = .ok (.ifCond .eq 8, 3) := by decide +kernel
theorem dX7_bestOf_203 : decode cX7_bestOf 203 = .ok (.iload 6, 2) := by decide +kernel
theorem dX7_bestOf_205 : decode cX7_bestOf 205 = .ok (.goto 5, 3) := by decide +kernel
theorem dX7_bestOf_208 : decode cX7_bestOf 208 = .ok (.iload 5, 2) := by decide +kernel
theorem dX7_bestOf_210 : decode cX7_bestOf 210 = .ok (.istore 5, 2) := by decide +kernel
theorem dX7_bestOf_212 : decode cX7_bestOf 212 = .ok (.aload_n 0, 1) := by decide +kernel
theorem dX7_bestOf_213 : decode cX7_bestOf 213 = .ok (.iload 7, 2) := by decide +kernel
theorem dX7_bestOf_215 : decode cX7_bestOf 215 = .ok (.ifCond .eq 10, 3) := by decide +kernel
theorem dX7_bestOf_218 : decode cX7_bestOf 218 = .ok (.aload_n 0, 1) := by decide +kernel
theorem dX7_bestOf_219 : decode cX7_bestOf 219 = .ok (.getfield 173, 3) := by decide +kernel
theorem dX7_bestOf_222 : decode cX7_bestOf 222 = .ok (.goto 7, 3) := by decide +kernel
theorem dX7_bestOf_225 : decode cX7_bestOf 225 = .ok (.aload_n 0, 1) := by decide +kernel
theorem dX7_bestOf_226 : decode cX7_bestOf 226 = .ok (.getfield 184, 3) := by decide +kernel
theorem dX7_bestOf_229 : decode cX7_bestOf 229 = .ok (.putfield 184, 3) := by decide +kernel
theorem dX7_bestOf_232 : decode cX7_bestOf 232 = .ok (.iinc 6 1, 3) := by decide +kernel
theorem dX7_bestOf_235 : decode cX7_bestOf 235 = .ok (.goto (-178), 3) := by decide +kernel
theorem dX7_bestOf_238 : decode cX7_bestOf 238 = .ok (.iload 5, 2) := by decide +kernel
theorem dX7_bestOf_240 : decode cX7_bestOf 240 = .ok (.ireturn, 1) := by decide +kernel
theorem dX7_best_0 : decode cX7_best 0 = .ok (.iload_n 1, 1) := by decide +kernel
theorem dX7_best_1 : decode cX7_best 1 = .ok (.i2l, 1) := by decide +kernel
theorem dX7_best_2 : decode cX7_best 2 = .ok (.lconst 0, 1) := by decide +kernel
theorem dX7_best_3 : decode cX7_best 3 = .ok (.ldc2_w 91, 3) := by decide +kernel
theorem dX7_best_6 : decode cX7_best 6 = .ok (.invokestatic 87, 3) := by decide +kernel
theorem dX7_best_9 : decode cX7_best 9 = .ok (.ifCond .eq 23, 3) := by decide +kernel
theorem dX7_best_12 : decode cX7_best 12 = .ok (.iload_n 2, 1) := by decide +kernel
theorem dX7_best_13 : decode cX7_best 13 = .ok (.i2l, 1) := by decide +kernel
theorem dX7_best_14 : decode cX7_best 14 = .ok (.lconst 0, 1) := by decide +kernel
theorem dX7_best_15 : decode cX7_best 15 = .ok (.lconst 1, 1) := by decide +kernel
theorem dX7_best_16 : decode cX7_best 16 = .ok (.invokestatic 87, 3) := by decide +kernel
theorem dX7_best_19 : decode cX7_best 19 = .ok (.ifCond .eq 13, 3) := by decide +kernel
theorem dX7_best_22 : decode cX7_best 22 = .ok (.iload_n 3, 1) := by decide +kernel
theorem dX7_best_23 : decode cX7_best 23 = .ok (.i2l, 1) := by decide +kernel
theorem dX7_best_24 : decode cX7_best 24 = .ok (.lconst 0, 1) := by decide +kernel
theorem dX7_best_25 : decode cX7_best 25 = .ok (.lconst 1, 1) := by decide +kernel
theorem dX7_best_26 : decode cX7_best 26 = .ok (.invokestatic 87, 3) := by decide +kernel
theorem dX7_best_29 : decode cX7_best 29 = .ok (.ifCond .ne 6, 3) := by decide +kernel
theorem dX7_best_32 : decode cX7_best 32 = .ok (.ldc 127, 2) := by decide +kernel
theorem dX7_best_34 : decode cX7_best 34 = .ok (.ireturn, 1) := by decide +kernel
theorem dX7_best_35 : decode cX7_best 35 = .ok (.aload_n 0, 1) := by decide +kernel
theorem dX7_best_36 : decode cX7_best 36 = .ok (.iload_n 1, 1) := by decide +kernel
theorem dX7_best_37 : decode cX7_best 37 = .ok (.iload_n 2, 1) := by decide +kernel
theorem dX7_best_38 : decode cX7_best 38 = .ok (.iconst 1, 1) := by decide +kernel
theorem dX7_best_39 : decode cX7_best 39 = .ok (.if_icmp .ne 7, 3) := by decide +kernel
theorem dX7_best_42 : decode cX7_best 42 = .ok (.iconst 1, 1) := by decide +kernel
theorem dX7_best_43 : decode cX7_best 43 = .ok (.goto 4, 3) := by decide +kernel
theorem dX7_best_46 : decode cX7_best 46 = .ok (.iconst 0, 1) := by decide +kernel
theorem dX7_best_47 : decode cX7_best 47 = .ok (.aload_n 0, 1) := by decide +kernel
theorem dX7_best_48 : decode cX7_best 48 = .ok (.getfield 116, 3) := by decide +kernel
theorem dX7_best_51 : decode cX7_best 51 = .ok (.invokevirtual 191, 3) := by decide +kernel
theorem dX7_best_54 : decode cX7_best 54 = .ok (.istore 4, 2) := by decide +kernel
theorem dX7_best_56 : decode cX7_best 56 = .ok (.iload_n 3, 1) := by decide +kernel
theorem dX7_best_57 : decode cX7_best 57 = .ok (.ifCond .ne 10, 3) := by decide +kernel
theorem dX7_best_60 : decode cX7_best 60 = .ok (.aload_n 0, 1) := by decide +kernel
theorem dX7_best_61 : decode cX7_best 61 = .ok (.getfield 184, 3) := by decide +kernel
theorem dX7_best_64 : decode cX7_best 64 = .ok (.goto 5, 3) := by decide +kernel
theorem dX7_best_67 : decode cX7_best 67 = .ok (.iload 4, 2) := by decide +kernel
theorem dX7_best_69 : decode cX7_best 69 = .ok (.ireturn, 1) := by decide +kernel
theorem dX7_wanted_0 : decode cX7_wanted 0 = .ok (.aload_n 0, 1) := by decide +kernel
theorem dX7_wanted_1 : decode cX7_wanted 1 = .ok (.iload_n 1, 1) := by decide +kernel
theorem dX7_wanted_2 : decode cX7_wanted 2 = .ok (.i2l, 1) := by decide +kernel
theorem dX7_wanted_3 : decode cX7_wanted 3 = .ok (.invokevirtual 128, 3) := by decide +kernel
theorem dX7_wanted_6 : decode cX7_wanted 6 = .ok (.ifCond .eq 18, 3) := by decide +kernel
theorem dX7_wanted_9 : decode cX7_wanted 9 = .ok (.aload_n 0, 1) := by decide +kernel
theorem dX7_wanted_10 : decode cX7_wanted 10 = .ok (.iload_n 2, 1) := by decide +kernel
theorem dX7_wanted_11 : decode cX7_wanted 11 = .ok (.i2l, 1) := by decide +kernel
theorem dX7_wanted_12 : decode cX7_wanted 12 = .ok (.invokevirtual 128, 3) := by decide +kernel
theorem dX7_wanted_15 : decode cX7_wanted 15 = .ok (.ifCond .eq 9, 3) := by decide +kernel
theorem dX7_wanted_18 : decode cX7_wanted 18 = .ok (.iload_n 1, 1) := by decide +kernel
theorem dX7_wanted_19 : decode cX7_wanted 19 = .ok (.iload_n 2, 1) := by decide +kernel
theorem dX7_wanted_20 : decode cX7_wanted 20 = .ok (.iand, 1) := by decide +kernel
theorem dX7_wanted_21 : decode cX7_wanted 21 = .ok (.ifCond .eq 5, 3) := by decide +kernel
theorem dX7_wanted_24 : decode cX7_wanted 24 = .ok (.iconst (-1), 1) := by decide +kernel
theorem dX7_wanted_25 : decode cX7_wanted 25 = .ok (.ireturn, 1) := by decide +kernel
theorem dX7_wanted_26 : decode cX7_wanted 26 = .ok (.aload_n 0, 1) := by decide +kernel
theorem dX7_wanted_27 : decode cX7_wanted 27 = .ok (.iconst 0, 1) := by decide +kernel
theorem dX7_wanted_28 : decode cX7_wanted 28 = .ok (.aload_n 0, 1) := by decide +kernel
theorem dX7_wanted_29 : decode cX7_wanted 29 = .ok (.getfield 116, 3) := by decide +kernel
theorem dX7_wanted_32 : decode cX7_wanted 32 = .ok (.invokevirtual 119, 3) := by decide +kernel
theorem dX7_wanted_35 : decode cX7_wanted 35 = .ok (.istore_n 3, 1) := by decide +kernel
theorem dX7_wanted_36 : decode cX7_wanted 36 = .ok (.bipush (-4), 2) := by decide +kernel
theorem dX7_wanted_38 : decode cX7_wanted 38 = .ok (.istore 4, 2) := by decide +kernel
theorem dX7_wanted_40 : decode cX7_wanted 40 = .ok (.iconst 0, 1) := by decide +kernel
theorem dX7_wanted_41 : decode cX7_wanted 41 = .ok (.istore 5, 2) := by decide +kernel
theorem dX7_wanted_43 : decode cX7_wanted 43 = .ok (.iload 5, 2) := by decide +kernel
theorem dX7_wanted_45 : decode cX7_wanted 45 = .ok (.iconst 1, 1) := by decide +kernel
theorem dX7_wanted_46 : decode cX7_wanted 46 = .ok (.aload_n 0, 1) := by decide +kernel
theorem dX7_wanted_47 : decode cX7_wanted 47 = .ok (.getfield 84, 3) := by decide +kernel
theorem dX7_wanted_50 : decode cX7_wanted 50 = .ok (.ishl, 1) := by decide +kernel
theorem dX7_wanted_51 : decode cX7_wanted 51 = .ok (.if_icmp .ge 106, 3) := by decide +kernel
theorem dX7_wanted_54 : decode cX7_wanted 54 = .ok (.iload 5, 2) := by decide +kernel
theorem dX7_wanted_56 : decode cX7_wanted 56 = .ok (.iload_n 3, 1) := by decide +kernel
theorem dX7_wanted_57 : decode cX7_wanted 57 = .ok (.iconst (-1), 1) := by decide +kernel
theorem dX7_wanted_58 : decode cX7_wanted 58 = .ok (.ixor, 1) := by decide +kernel
theorem dX7_wanted_59 : decode cX7_wanted 59 = .ok (.iand, 1) := by decide +kernel
theorem dX7_wanted_60 : decode cX7_wanted 60 = .ok (.ifCond .ne 36, 3) := by decide +kernel
theorem dX7_wanted_63 : decode cX7_wanted 63 = .ok (.iload 5, 2) := by decide +kernel
theorem dX7_wanted_65 : decode cX7_wanted 65 = .ok (.invokestatic 167, 3) := by decide +kernel
theorem dX7_wanted_68 : decode cX7_wanted 68 = .ok (.iconst 4, 1) := by decide +kernel
theorem dX7_wanted_69 : decode cX7_wanted 69 = .ok (.if_icmp .gt 27, 3) := by decide +kernel
theorem dX7_wanted_72 : decode cX7_wanted 72 = .ok (.iload 4, 2) := by decide +kernel
theorem dX7_wanted_74 : decode cX7_wanted 74 = .ok (.bipush (-4), 2) := by decide +kernel
theorem dX7_wanted_76 : decode cX7_wanted 76 = .ok (.if_icmp .eq 16, 3) := by decide +kernel
theorem dX7_wanted_79 : decode cX7_wanted 79 = .ok (.iload 5, 2) := by decide +kernel
theorem dX7_wanted_81 : decode cX7_wanted 81 = .ok (.invokestatic 167, 3) := by decide +kernel
theorem dX7_wanted_84 : decode cX7_wanted 84 = .ok (.iload 4, 2) := by decide +kernel
theorem dX7_wanted_86 : decode cX7_wanted 86 = .ok (.invokestatic 167, 3) := by decide +kernel
theorem dX7_wanted_89 : decode cX7_wanted 89 = .ok (.if_icmp .ge 7, 3) := by decide +kernel
theorem dX7_wanted_92 : decode cX7_wanted 92 = .ok (.iconst 1, 1) := by decide +kernel
theorem dX7_wanted_93 : decode cX7_wanted 93 = .ok (.goto 4, 3) := by decide +kernel
theorem dX7_wanted_96 : decode cX7_wanted 96 = .ok (.iconst 0, 1) := by decide +kernel
theorem dX7_wanted_97 : decode cX7_wanted 97 = .ok (.istore 6, 2) := by decide +kernel
theorem dX7_wanted_99 : decode cX7_wanted 99 = .ok (.iload 6, 2) := by decide +kernel
theorem dX7_wanted_101 : decode cX7_wanted 101 = .ok (.ifCond .eq 50, 3) := by decide +kernel
theorem dX7_wanted_104 : decode cX7_wanted 104 = .ok (.aload_n 0, 1) := by decide +kernel
theorem dX7_wanted_105 : decode cX7_wanted 105 = .ok (.iload 5, 2) := by decide +kernel
theorem dX7_wanted_107 : decode cX7_wanted 107 = .ok (.iload_n 3, 1) := by decide +kernel
theorem dX7_wanted_108 : decode cX7_wanted 108 = .ok (.invokevirtual 187, 3) := by decide +kernel
theorem dX7_wanted_111 : decode cX7_wanted 111 = .ok (.ifCond .eq 40, 3) := by decide +kernel
theorem dX7_wanted_114 : decode cX7_wanted 114 = .ok (.aload_n 0, 1) := by decide +kernel
theorem dX7_wanted_115 : decode cX7_wanted 115 = .ok (.iload 5, 2) := by decide +kernel
theorem dX7_wanted_117 : decode cX7_wanted 117 = .ok (.aload_n 0, 1) := by decide +kernel
theorem dX7_wanted_118 : decode cX7_wanted 118 = .ok (.getfield 116, 3) := by decide +kernel
theorem dX7_wanted_121 : decode cX7_wanted 121 = .ok (.invokevirtual 119, 3) := by decide +kernel
theorem dX7_wanted_124 : decode cX7_wanted 124 = .ok (.istore 7, 2) := by decide +kernel
theorem dX7_wanted_126 : decode cX7_wanted 126 = .ok (.iload_n 1, 1) := by decide +kernel
theorem dX7_wanted_127 : decode cX7_wanted 127 = .ok (.iload 7, 2) := by decide +kernel
theorem dX7_wanted_129 : decode cX7_wanted 129 = .ok (.iconst (-1), 1) := by decide +kernel
theorem dX7_wanted_130 : decode cX7_wanted 130 = .ok (.ixor, 1) := by decide +kernel
theorem dX7_wanted_131 : decode cX7_wanted 131 = .ok (.iand, 1) := by decide +kernel
theorem dX7_wanted_132 : decode cX7_wanted 132 = .ok (.ifCond .ne 15, 3) := by decide +kernel
theorem dX7_wanted_135 : decode cX7_wanted 135 = .ok (.iload_n 2, 1) := by decide +kernel
theorem dX7_wanted_136 : decode cX7_wanted 136 = .ok (.iload 7, 2) := by decide +kernel
theorem dX7_wanted_138 : decode cX7_wanted 138 = .ok (.iand, 1) := by decide +kernel
theorem dX7_wanted_139 : decode cX7_wanted 139 = .ok (.ifCond .ne 8, 3) := by decide +kernel
theorem dX7_wanted_142 : decode cX7_wanted 142 = .ok (.iload 5, 2) := by decide +kernel
theorem dX7_wanted_144 : decode cX7_wanted 144 = .ok (.goto 5, 3) := by decide +kernel
theorem dX7_wanted_147 : decode cX7_wanted 147 = .ok (.iload 4, 2) := by decide +kernel
theorem dX7_wanted_149 : decode cX7_wanted 149 = .ok (.istore 4, 2) := by decide +kernel
theorem dX7_wanted_151 : decode cX7_wanted 151 = .ok (.iinc 5 1, 3) := by decide +kernel
theorem dX7_wanted_154 : decode cX7_wanted 154 = .ok (.goto (-111), 3) := by decide +kernel
theorem dX7_wanted_157 : decode cX7_wanted 157 = .ok (.iload 4, 2) := by decide +kernel
theorem dX7_wanted_159 : decode cX7_wanted 159 = .ok (.ireturn, 1) := by decide +kernel
theorem dX7_own_0 : decode cX7_own 0 = .ok (.aload_n 0, 1) := by decide +kernel
theorem dX7_own_1 : decode cX7_own 1 = .ok (.iload_n 1, 1) := by decide +kernel
theorem dX7_own_2 : decode cX7_own 2 = .ok (.aload_n 0, 1) := by decide +kernel
theorem dX7_own_3 : decode cX7_own 3 = .ok (.getfield 116, 3) := by decide +kernel
theorem dX7_own_6 : decode cX7_own 6 = .ok (.invokevirtual 180, 3) := by decide +kernel
theorem dX7_own_9 : decode cX7_own 9 = .ok (.aload_n 0, 1) := by decide +kernel
theorem dX7_own_10 : decode cX7_own 10 = .ok (.getfield 40, 3) := by decide +kernel
theorem dX7_own_13 : decode cX7_own 13 = .ok (.iload_n 2, 1) := by decide +kernel
theorem dX7_own_14 : decode cX7_own 14 = .ok (.iaload, 1) := by decide +kernel
theorem dX7_own_15 : decode cX7_own 15 = .ok (.ireturn, 1) := by decide +kernel
theorem dX7_plays_0 : decode cX7_plays 0 = .ok (.aload_n 0, 1) := by decide +kernel
theorem dX7_plays_1 : decode cX7_plays 1 = .ok (.iconst 0, 1) := by decide +kernel
theorem dX7_plays_2 : decode cX7_plays 2 = .ok (.aload_n 0, 1) := by decide +kernel
theorem dX7_plays_3 : decode cX7_plays 3 = .ok (.getfield 116, 3) := by decide +kernel
theorem dX7_plays_6 : decode cX7_plays 6 = .ok (.invokevirtual 119, 3) := by decide +kernel
theorem dX7_plays_9 : decode cX7_plays 9 = .ok (.istore_n 2, 1) := by decide +kernel
theorem dX7_plays_10 : decode cX7_plays 10 = .ok (.iconst 0, 1) := by decide +kernel
theorem dX7_plays_11 : decode cX7_plays 11 = .ok (.istore_n 3, 1) := by decide +kernel
theorem dX7_plays_12 : decode cX7_plays 12 = .ok (.iconst 0, 1) := by decide +kernel
theorem dX7_plays_13 : decode cX7_plays 13 = .ok (.istore 4, 2) := by decide +kernel
theorem dX7_plays_15 : decode cX7_plays 15 = .ok (.iconst 1, 1) := by decide +kernel
theorem dX7_plays_16 : decode cX7_plays 16 = .ok (.istore 5, 2) := by decide +kernel
theorem dX7_plays_18 : decode cX7_plays 18 = .ok (.aload_n 0, 1) := by decide +kernel
theorem dX7_plays_19 : decode cX7_plays 19 = .ok (.getfield 46, 3) := by decide +kernel
theorem dX7_plays_22 : decode cX7_plays 22 = .ok (.iconst 0, 1) := by decide +kernel
theorem dX7_plays_23 : decode cX7_plays 23 = .ok (.iconst 0, 1) := by decide +kernel
theorem dX7_plays_24 : decode cX7_plays 24 = .ok (.iastore, 1) := by decide +kernel
theorem dX7_plays_25 : decode cX7_plays 25 = .ok (.iload_n 3, 1) := by decide +kernel
theorem dX7_plays_26 : decode cX7_plays 26 = .ok (.ifCond .lt 279, 3) := by decide +kernel
theorem dX7_plays_29 : decode cX7_plays 29 = .ok (.bipush 11, 2) := by decide +kernel
theorem dX7_plays_31 : decode cX7_plays 31 = .ok (.iload_n 3, 1) := by decide +kernel
theorem dX7_plays_32 : decode cX7_plays 32 = .ok (.isub, 1) := by decide +kernel
theorem dX7_plays_33 : decode cX7_plays 33 = .ok (.istore 6, 2) := by decide +kernel
theorem dX7_plays_35 : decode cX7_plays 35 = .ok (.iload_n 3, 1) := by decide +kernel
theorem dX7_plays_36 : decode cX7_plays 36 = .ok (.bipush 12, 2) := by decide +kernel
theorem dX7_plays_38 : decode cX7_plays 38 = .ok (.if_icmp .ne 21, 3) := by decide +kernel
theorem dX7_plays_41 : decode cX7_plays 41 = .ok (.aload_n 0, 1) := by decide +kernel
theorem dX7_plays_42 : decode cX7_plays 42 = .ok (.getfield 46, 3) := by decide +kernel
theorem dX7_plays_45 : decode cX7_plays 45 = .ok (.bipush 12, 2) := by decide +kernel
theorem dX7_plays_47 : decode cX7_plays 47 = .ok (.iaload, 1) := by decide +kernel
theorem dX7_plays_48 : decode cX7_plays 48 = .ok (.istore 4, 2) := by decide +kernel
theorem dX7_plays_50 : decode cX7_plays 50 = .ok (.iinc 3 (-1), 3) := by decide +kernel
theorem dX7_plays_53 : decode cX7_plays 53 = .ok (.iconst 0, 1) := by decide +kernel
theorem dX7_plays_54 : decode cX7_plays 54 = .ok (.istore 5, 2) := by decide +kernel
theorem dX7_plays_56 : decode cX7_plays 56 = .ok (.goto 246, 3) := by decide +kernel
theorem dX7_plays_59 : decode cX7_plays 59 = .ok (.iload 6, 2) := by decide +kernel
theorem dX7_plays_61 : decode cX7_plays 61 = .ok (.aload_n 0, 1) := by decide +kernel
theorem dX7_plays_62 : decode cX7_plays 62 = .ok (.getfield 77, 3) := by decide +kernel
theorem dX7_plays_65 : decode cX7_plays 65 = .ok (.irem, 1) := by decide +kernel
theorem dX7_plays_66 : decode cX7_plays 66 = .ok (.istore 7, 2) := by decide +kernel
theorem dX7_plays_68 : decode cX7_plays 68 = .ok (.iload 5, 2) := by decide +kernel
theorem dX7_plays_70 : decode cX7_plays 70 = .ok (.ifCond .eq 20, 3) := by decide +kernel
theorem dX7_plays_73 : decode cX7_plays 73 = .ok (.aload_n 0, 1) := by decide +kernel
theorem dX7_plays_74 : decode cX7_plays 74 = .ok (.getfield 49, 3) := by decide +kernel
theorem dX7_plays_77 : decode cX7_plays 77 = .ok (.iload_n 3, 1) := by decide +kernel
theorem dX7_plays_78 : decode cX7_plays 78 = .ok (.iconst (-1), 1) := by decide +kernel
theorem dX7_plays_79 : decode cX7_plays 79 = .ok (.iastore, 1) := by decide +kernel
theorem dX7_plays_80 : decode cX7_plays 80 = .ok (.aload_n 0, 1) := by decide +kernel
theorem dX7_plays_81 : decode cX7_plays 81 = .ok (.getfield 52, 3) := by decide +kernel
theorem dX7_plays_84 : decode cX7_plays 84 = .ok (.iload_n 3, 1) := by decide +kernel
theorem dX7_plays_85 : decode cX7_plays 85 = .ok (.iconst (-1), 1) := by decide +kernel
theorem dX7_plays_86 : decode cX7_plays 86 = .ok (.iastore, 1) := by decide +kernel
theorem dX7_plays_87 : decode cX7_plays 87 = .ok (.goto 74, 3) := by decide +kernel
theorem dX7_plays_90 : decode cX7_plays 90 = .ok (.aload_n 0, 1) := by decide +kernel
theorem dX7_plays_91 : decode cX7_plays 91 = .ok (.getfield 52, 3) := by decide +kernel
theorem dX7_plays_94 : decode cX7_plays 94 = .ok (.iload_n 3, 1) := by decide +kernel
theorem dX7_plays_95 : decode cX7_plays 95 = .ok (.iaload, 1) := by decide +kernel
theorem dX7_plays_96 : decode cX7_plays 96 = .ok (.ifCond .lt 26, 3) := by decide +kernel
theorem dX7_plays_99 : decode cX7_plays 99 = .ok (.aload_n 0, 1) := by decide +kernel
theorem dX7_plays_100 : decode cX7_plays 100 = .ok (.iload 4, 2) := by decide +kernel
theorem dX7_plays_102 : decode cX7_plays 102 = .ok (.iload 7, 2) := by decide +kernel
theorem dX7_plays_104 : decode cX7_plays 104 = .ok (.invokevirtual 195, 3) := by decide +kernel
theorem dX7_plays_107 : decode cX7_plays 107 = .ok (.aload_n 0, 1) := by decide +kernel
theorem dX7_plays_108 : decode cX7_plays 108 = .ok (.aload_n 0, 1) := by decide +kernel
theorem dX7_plays_109 : decode cX7_plays 109 = .ok (.getfield 52, 3) := by decide +kernel
theorem dX7_plays_112 : decode cX7_plays 112 = .ok (.iload_n 3, 1) := by decide +kernel
theorem dX7_plays_113 : decode cX7_plays 113 = .ok (.iaload, 1) := by decide +kernel
theorem dX7_plays_114 : decode cX7_plays 114 = .ok (.iload 7, 2) := by decide +kernel
theorem dX7_plays_116 : decode cX7_plays 116 = .ok (.invokevirtual 195, 3) := by decide +kernel
theorem dX7_plays_119 : decode cX7_plays 119 = .ok (.if_icmp .le 7, 3) := by decide +kernel
theorem dX7_plays_122 : decode cX7_plays 122 = .ok (.iconst 1, 1) := by decide +kernel
theorem dX7_plays_123 : decode cX7_plays 123 = .ok (.goto 4, 3) := by decide +kernel
theorem dX7_plays_126 : decode cX7_plays 126 = .ok (.iconst 0, 1) := by decide +kernel
theorem dX7_plays_127 : decode cX7_plays 127 = .ok (.istore 8, 2) := by decide +kernel
theorem dX7_plays_129 : decode cX7_plays 129 = .ok (.aload_n 0, 1) := by decide +kernel
theorem dX7_plays_130 : decode cX7_plays 130 = .ok (.getfield 52, 3) := by decide +kernel
theorem dX7_plays_133 : decode cX7_plays 133 = .ok (.iload_n 3, 1) := by decide +kernel
theorem dX7_plays_134 : decode cX7_plays 134 = .ok (.iload 8, 2) := by decide +kernel
theorem dX7_plays_136 : decode cX7_plays 136 = .ok (.ifCond .eq 8, 3) := by decide +kernel
theorem dX7_plays_139 : decode cX7_plays 139 = .ok (.iload 4, 2) := by decide +kernel
theorem dX7_plays_141 : decode cX7_plays 141 = .ok (.goto 9, 3) := by decide +kernel
theorem dX7_plays_144 : decode cX7_plays 144 = .ok (.aload_n 0, 1) := by decide +kernel
theorem dX7_plays_145 : decode cX7_plays 145 = .ok (.getfield 52, 3) := by decide +kernel
theorem dX7_plays_148 : decode cX7_plays 148 = .ok (.iload_n 3, 1) := by decide +kernel
theorem dX7_plays_149 : decode cX7_plays 149 = .ok (.iaload, 1) := by decide +kernel
theorem dX7_plays_150 : decode cX7_plays 150 = .ok (.iastore, 1) := by decide +kernel
theorem dX7_plays_151 : decode cX7_plays 151 = .ok (.aload_n 0, 1) := by decide +kernel
theorem dX7_plays_152 : decode cX7_plays 152 = .ok (.getfield 49, 3) := by decide +kernel
theorem dX7_plays_155 : decode cX7_plays 155 = .ok (.iload_n 3, 1) := by decide +kernel
theorem dX7_plays_156 : decode cX7_plays 156 = .ok (.dup2, 1) := by decide +kernel
theorem dX7_plays_157 : decode cX7_plays 157 = .ok (.iaload, 1) := by decide +kernel
theorem dX7_plays_158 : decode cX7_plays 158 = .ok (.iconst 1, 1) := by decide +kernel
theorem dX7_plays_159 : decode cX7_plays 159 = .ok (.iadd, 1) := by decide +kernel
theorem dX7_plays_160 : decode cX7_plays 160 = .ok (.iastore, 1) := by decide +kernel
theorem dX7_plays_161 : decode cX7_plays 161 = .ok (.iload 7, 2) := by decide +kernel
theorem dX7_plays_163 : decode cX7_plays 163 = .ok (.iload_n 1, 1) := by decide +kernel
theorem dX7_plays_164 : decode cX7_plays 164 = .ok (.if_icmp .ne 7, 3) := by decide +kernel
theorem dX7_plays_167 : decode cX7_plays 167 = .ok (.iconst 0, 1) := by decide +kernel
theorem dX7_plays_168 : decode cX7_plays 168 = .ok (.goto 11, 3) := by decide +kernel
theorem dX7_plays_171 : decode cX7_plays 171 = .ok (.aload_n 0, 1) := by decide +kernel
theorem dX7_plays_172 : decode cX7_plays 172 = .ok (.iload 6, 2) := by decide +kernel
theorem dX7_plays_174 : decode cX7_plays 174 = .ok (.invokevirtual 162, 3) := by decide +kernel
theorem dX7_plays_177 : decode cX7_plays 177 = .ok (.iload_n 2, 1) := by decide +kernel
theorem dX7_plays_178 : decode cX7_plays 178 = .ok (.iand, 1) := by decide +kernel
theorem dX7_plays_179 : decode cX7_plays 179 = .ok (.istore 8, 2) := by decide +kernel
theorem dX7_plays_181 : decode cX7_plays 181 = .ok (.aload_n 0, 1) := by decide +kernel
theorem dX7_plays_182 : decode cX7_plays 182 = .ok (.getfield 49, 3) := by decide +kernel
theorem dX7_plays_185 : decode cX7_plays 185 = .ok (.iload_n 3, 1) := by decide +kernel
theorem dX7_plays_186 : decode cX7_plays 186 = .ok (.iaload, 1) := by decide +kernel
theorem dX7_plays_187 : decode cX7_plays 187 = .ok (.ifCond .lt 43, 3) := by decide +kernel
theorem dX7_plays_190 : decode cX7_plays 190 = .ok (.aload_n 0, 1) := by decide +kernel
theorem dX7_plays_191 : decode cX7_plays 191 = .ok (.getfield 49, 3) := by decide +kernel
theorem dX7_plays_194 : decode cX7_plays 194 = .ok (.iload_n 3, 1) := by decide +kernel
theorem dX7_plays_195 : decode cX7_plays 195 = .ok (.iaload, 1) := by decide +kernel
theorem dX7_plays_196 : decode cX7_plays 196 = .ok (.aload_n 0, 1) := by decide +kernel
theorem dX7_plays_197 : decode cX7_plays 197 = .ok (.getfield 84, 3) := by decide +kernel
theorem dX7_plays_200 : decode cX7_plays 200 = .ok (.if_icmp .ge 30, 3) := by decide +kernel
theorem dX7_plays_203 : decode cX7_plays 203 = .ok (.iload 8, 2) := by decide +kernel
theorem dX7_plays_205 : decode cX7_plays 205 = .ok (.aload_n 0, 1) := by decide +kernel
theorem dX7_plays_206 : decode cX7_plays 206 = .ok (.getfield 49, 3) := by decide +kernel
theorem dX7_plays_209 : decode cX7_plays 209 = .ok (.iload_n 3, 1) := by decide +kernel
theorem dX7_plays_210 : decode cX7_plays 210 = .ok (.iaload, 1) := by decide +kernel
theorem dX7_plays_211 : decode cX7_plays 211 = .ok (.ishr, 1) := by decide +kernel
theorem dX7_plays_212 : decode cX7_plays 212 = .ok (.iconst 1, 1) := by decide +kernel
theorem dX7_plays_213 : decode cX7_plays 213 = .ok (.iand, 1) := by decide +kernel
theorem dX7_plays_214 : decode cX7_plays 214 = .ok (.ifCond .ne 16, 3) := by decide +kernel
theorem dX7_plays_217 : decode cX7_plays 217 = .ok (.aload_n 0, 1) := by decide +kernel
theorem dX7_plays_218 : decode cX7_plays 218 = .ok (.getfield 49, 3) := by decide +kernel
theorem dX7_plays_221 : decode cX7_plays 221 = .ok (.iload_n 3, 1) := by decide +kernel
theorem dX7_plays_222 : decode cX7_plays 222 = .ok (.dup2, 1) := by decide +kernel
theorem dX7_plays_223 : decode cX7_plays 223 = .ok (.iaload, 1) := by decide +kernel
theorem dX7_plays_224 : decode cX7_plays 224 = .ok (.iconst 1, 1) := by decide +kernel
theorem dX7_plays_225 : decode cX7_plays 225 = .ok (.iadd, 1) := by decide +kernel
theorem dX7_plays_226 : decode cX7_plays 226 = .ok (.iastore, 1) := by decide +kernel
theorem dX7_plays_227 : decode cX7_plays 227 = .ok (.goto (-46), 3) := by decide +kernel
theorem dX7_plays_230 : decode cX7_plays 230 = .ok (.aload_n 0, 1) := by decide +kernel
theorem dX7_plays_231 : decode cX7_plays 231 = .ok (.getfield 49, 3) := by decide +kernel
theorem dX7_plays_234 : decode cX7_plays 234 = .ok (.iload_n 3, 1) := by decide +kernel
theorem dX7_plays_235 : decode cX7_plays 235 = .ok (.iaload, 1) := by decide +kernel
theorem dX7_plays_236 : decode cX7_plays 236 = .ok (.aload_n 0, 1) := by decide +kernel
theorem dX7_plays_237 : decode cX7_plays 237 = .ok (.getfield 84, 3) := by decide +kernel
theorem dX7_plays_240 : decode cX7_plays 240 = .ok (.if_icmp .lt 20, 3) := by decide +kernel
theorem dX7_plays_243 : decode cX7_plays 243 = .ok (.aload_n 0, 1) := by decide +kernel
theorem dX7_plays_244 : decode cX7_plays 244 = .ok (.getfield 52, 3) := by decide +kernel
theorem dX7_plays_247 : decode cX7_plays 247 = .ok (.iload_n 3, 1) := by decide +kernel
theorem dX7_plays_248 : decode cX7_plays 248 = .ok (.iaload, 1) := by decide +kernel
theorem dX7_plays_249 : decode cX7_plays 249 = .ok (.istore 4, 2) := by decide +kernel
theorem dX7_plays_251 : decode cX7_plays 251 = .ok (.iinc 3 (-1), 3) := by decide +kernel
theorem dX7_plays_254 : decode cX7_plays 254 = .ok (.iconst 0, 1) := by decide +kernel
theorem dX7_plays_255 : decode cX7_plays 255 = .ok (.istore 5, 2) := by decide +kernel
theorem dX7_plays_257 : decode cX7_plays 257 = .ok (.goto 45, 3) := by decide +kernel
theorem dX7_plays_260 : decode cX7_plays 260 = .ok (.aload_n 0, 1) := by decide +kernel
theorem dX7_plays_261 : decode cX7_plays 261 = .ok (.getfield 46, 3) := by decide +kernel
theorem dX7_plays_264 : decode cX7_plays 264 = .ok (.iload_n 3, 1) := by decide +kernel
theorem dX7_plays_265 : decode cX7_plays 265 = .ok (.iconst 1, 1) := by decide +kernel
theorem dX7_plays_266 : decode cX7_plays 266 = .ok (.iadd, 1) := by decide +kernel
theorem dX7_plays_267 : decode cX7_plays 267 = .ok (.aload_n 0, 1) := by decide +kernel
theorem dX7_plays_268 : decode cX7_plays 268 = .ok (.getfield 46, 3) := by decide +kernel
theorem dX7_plays_271 : decode cX7_plays 271 = .ok (.iload_n 3, 1) := by decide +kernel
theorem dX7_plays_272 : decode cX7_plays 272 = .ok (.iaload, 1) := by decide +kernel
theorem dX7_plays_273 : decode cX7_plays 273 = .ok (.aload_n 0, 1) := by decide +kernel
theorem dX7_plays_274 : decode cX7_plays 274 = .ok (.getfield 49, 3) := by decide +kernel
theorem dX7_plays_277 : decode cX7_plays 277 = .ok (.iload_n 3, 1) := by decide +kernel
theorem dX7_plays_278 : decode cX7_plays 278 = .ok (.iaload, 1) := by decide +kernel
theorem dX7_plays_279 : decode cX7_plays 279 = .ok (.ifCond .ge 7, 3) := by decide +kernel
theorem dX7_plays_282 : decode cX7_plays 282 = .ok (.iconst 0, 1) := by decide +kernel
theorem dX7_plays_283 : decode cX7_plays 283 = .ok (.goto 11, 3) := by decide +kernel
theorem dX7_plays_286 : decode cX7_plays 286 = .ok (.iconst 1, 1) := by decide +kernel
theorem dX7_plays_287 : decode cX7_plays 287 = .ok (.aload_n 0, 1) := by decide +kernel
theorem dX7_plays_288 : decode cX7_plays 288 = .ok (.getfield 49, 3) := by decide +kernel
theorem dX7_plays_291 : decode cX7_plays 291 = .ok (.iload_n 3, 1) := by decide +kernel
theorem dX7_plays_292 : decode cX7_plays 292 = .ok (.iaload, 1) := by decide +kernel
theorem dX7_plays_293 : decode cX7_plays 293 = .ok (.ishl, 1) := by decide +kernel
theorem dX7_plays_294 : decode cX7_plays 294 = .ok (.ior, 1) := by decide +kernel
theorem dX7_plays_295 : decode cX7_plays 295 = .ok (.iastore, 1) := by decide +kernel
theorem dX7_plays_296 : decode cX7_plays 296 = .ok (.iinc 3 1, 3) := by decide +kernel
theorem dX7_plays_299 : decode cX7_plays 299 = .ok (.iconst 1, 1) := by decide +kernel
theorem dX7_plays_300 : decode cX7_plays 300 = .ok (.istore 5, 2) := by decide +kernel
theorem dX7_plays_302 : decode cX7_plays 302 = .ok (.goto (-277), 3) := by decide +kernel
theorem dX7_plays_305 : decode cX7_plays 305 = .ok (.iload 4, 2) := by decide +kernel
theorem dX7_plays_307 : decode cX7_plays 307 = .ok (.ireturn, 1) := by decide +kernel
theorem dX7_self_0 : decode cX7_self 0 = .ok (.aload_n 0, 1) := by decide +kernel
theorem dX7_self_1 : decode cX7_self 1 = .ok (.iconst (-1), 1) := by decide +kernel
theorem dX7_self_2 : decode cX7_self 2 = .ok (.invokevirtual 198, 3) := by decide +kernel
theorem dX7_self_5 : decode cX7_self 5 = .ok (.ireturn, 1) := by decide +kernel
theorem dX7_turn_0 : decode cX7_turn 0 = .ok (.aload_n 0, 1) := by decide +kernel
theorem dX7_turn_1 : decode cX7_turn 1 = .ok (.iload_n 1, 1) := by decide +kernel
theorem dX7_turn_2 : decode cX7_turn 2 = .ok (.invokevirtual 176, 3) := by decide +kernel
theorem dX7_turn_5 : decode cX7_turn 5 = .ok (.ifCond .ne 6, 3) := by decide +kernel
theorem dX7_turn_8 : decode cX7_turn 8 = .ok (.ldc 127, 2) := by decide +kernel
theorem dX7_turn_10 : decode cX7_turn 10 = .ok (.ireturn, 1) := by decide +kernel
theorem dX7_turn_11 : decode cX7_turn 11 = .ok (.aload_n 0, 1) := by decide +kernel
theorem dX7_turn_12 : decode cX7_turn 12 = .ok (.aload_n 0, 1) := by decide +kernel
theorem dX7_turn_13 : decode cX7_turn 13 = .ok (.iconst (-1), 1) := by decide +kernel
theorem dX7_turn_14 : decode cX7_turn 14 = .ok (.invokevirtual 198, 3) := by decide +kernel
theorem dX7_turn_17 : decode cX7_turn 17 = .ok (.iload_n 1, 1) := by decide +kernel
theorem dX7_turn_18 : decode cX7_turn 18 = .ok (.invokevirtual 195, 3) := by decide +kernel
theorem dX7_turn_21 : decode cX7_turn 21 = .ok (.istore_n 2, 1) := by decide +kernel
theorem dX7_turn_22 : decode cX7_turn 22 = .ok (.iload_n 2, 1) := by decide +kernel
theorem dX7_turn_23 : decode cX7_turn 23 = .ok (.aload_n 0, 1) := by decide +kernel
theorem dX7_turn_24 : decode cX7_turn 24 = .ok (.aload_n 0, 1) := by decide +kernel
theorem dX7_turn_25 : decode cX7_turn 25 = .ok (.iload_n 1, 1) := by decide +kernel
theorem dX7_turn_26 : decode cX7_turn 26 = .ok (.invokevirtual 198, 3) := by decide +kernel
theorem dX7_turn_29 : decode cX7_turn 29 = .ok (.iload_n 1, 1) := by decide +kernel
theorem dX7_turn_30 : decode cX7_turn 30 = .ok (.invokevirtual 195, 3) := by decide +kernel
theorem dX7_turn_33 : decode cX7_turn 33 = .ok (.isub, 1) := by decide +kernel
theorem dX7_turn_34 : decode cX7_turn 34 = .ok (.ireturn, 1) := by decide +kernel
theorem dX7_bargain_0 : decode cX7_bargain 0 = .ok (.aload_n 0, 1) := by decide +kernel
theorem dX7_bargain_1 : decode cX7_bargain 1 = .ok (.iload_n 1, 1) := by decide +kernel
theorem dX7_bargain_2 : decode cX7_bargain 2 = .ok (.i2l, 1) := by decide +kernel
theorem dX7_bargain_3 : decode cX7_bargain 3 = .ok (.invokevirtual 109, 3) := by decide +kernel
theorem dX7_bargain_6 : decode cX7_bargain 6 = .ok (.ifCond .eq 35, 3) := by decide +kernel
theorem dX7_bargain_9 : decode cX7_bargain 9 = .ok (.aload_n 0, 1) := by decide +kernel
theorem dX7_bargain_10 : decode cX7_bargain 10 = .ok (.iload_n 2, 1) := by decide +kernel
theorem dX7_bargain_11 : decode cX7_bargain 11 = .ok (.invokevirtual 176, 3) := by decide +kernel
theorem dX7_bargain_14 : decode cX7_bargain 14 = .ok (.ifCond .eq 27, 3) := by decide +kernel
theorem dX7_bargain_17 : decode cX7_bargain 17 = .ok (.aload_n 0, 1) := by decide +kernel
theorem dX7_bargain_18 : decode cX7_bargain 18 = .ok (.iload_n 3, 1) := by decide +kernel
theorem dX7_bargain_19 : decode cX7_bargain 19 = .ok (.invokevirtual 176, 3) := by decide +kernel
theorem dX7_bargain_22 : decode cX7_bargain 22 = .ok (.ifCond .eq 19, 3) := by decide +kernel
theorem dX7_bargain_25 : decode cX7_bargain 25 = .ok (.iload_n 2, 1) := by decide +kernel
theorem dX7_bargain_26 : decode cX7_bargain 26 = .ok (.iload_n 3, 1) := by decide +kernel
theorem dX7_bargain_27 : decode cX7_bargain 27 = .ok (.if_icmp .eq 14, 3) := by decide +kernel
theorem dX7_bargain_30 : decode cX7_bargain 30 = .ok (.iload 4, 2) := by decide +kernel
theorem dX7_bargain_32 : decode cX7_bargain 32 = .ok (.i2l, 1) := by decide +kernel
theorem dX7_bargain_33 : decode cX7_bargain 33 = .ok (.lconst 0, 1) := by decide +kernel
theorem dX7_bargain_34 : decode cX7_bargain 34 = .ok (.lconst 1, 1) := by decide +kernel
theorem dX7_bargain_35 : decode cX7_bargain 35 = .ok (.invokestatic 87, 3) := by decide +kernel
theorem dX7_bargain_38 : decode cX7_bargain 38 = .ok (.ifCond .ne 5, 3) := by decide +kernel
theorem dX7_bargain_41 : decode cX7_bargain 41 = .ok (.iconst (-1), 1) := by decide +kernel
theorem dX7_bargain_42 : decode cX7_bargain 42 = .ok (.ireturn, 1) := by decide +kernel
theorem dX7_bargain_43 : decode cX7_bargain 43 = .ok (.aload_n 0, 1) := by decide +kernel
theorem dX7_bargain_44 : decode cX7_bargain 44 = .ok (.aload_n 0, 1) := by decide +kernel
theorem dX7_bargain_45 : decode cX7_bargain 45 = .ok (.getfield 113, 3) := by decide +kernel
theorem dX7_bargain_48 : decode cX7_bargain 48 = .ok (.aload_n 0, 1) := by decide +kernel
theorem dX7_bargain_49 : decode cX7_bargain 49 = .ok (.getfield 116, 3) := by decide +kernel
theorem dX7_bargain_52 : decode cX7_bargain 52 = .ok (.invokevirtual 119, 3) := by decide +kernel
theorem dX7_bargain_55 : decode cX7_bargain 55 = .ok (.iload_n 1, 1) := by decide +kernel
theorem dX7_bargain_56 : decode cX7_bargain 56 = .ok (.ishr, 1) := by decide +kernel
theorem dX7_bargain_57 : decode cX7_bargain 57 = .ok (.iconst 1, 1) := by decide +kernel
theorem dX7_bargain_58 : decode cX7_bargain 58 = .ok (.iand, 1) := by decide +kernel
theorem dX7_bargain_59 : decode cX7_bargain 59 = .ok (.ifCond .ne 6, 3) := by decide +kernel
theorem dX7_bargain_62 : decode cX7_bargain 62 = .ok (.bipush (-2), 2) := by decide +kernel
theorem dX7_bargain_64 : decode cX7_bargain 64 = .ok (.ireturn, 1) := by decide +kernel
theorem dX7_bargain_65 : decode cX7_bargain 65 = .ok (.aload_n 0, 1) := by decide +kernel
theorem dX7_bargain_66 : decode cX7_bargain 66 = .ok (.getfield 113, 3) := by decide +kernel
theorem dX7_bargain_69 : decode cX7_bargain 69 = .ok (.iconst 1, 1) := by decide +kernel
theorem dX7_bargain_70 : decode cX7_bargain 70 = .ok (.iload_n 1, 1) := by decide +kernel
theorem dX7_bargain_71 : decode cX7_bargain 71 = .ok (.ishl, 1) := by decide +kernel
theorem dX7_bargain_72 : decode cX7_bargain 72 = .ok (.ior, 1) := by decide +kernel
theorem dX7_bargain_73 : decode cX7_bargain 73 = .ok (.istore 5, 2) := by decide +kernel
theorem dX7_bargain_75 : decode cX7_bargain 75 = .ok (.aload_n 0, 1) := by decide +kernel
theorem dX7_bargain_76 : decode cX7_bargain 76 = .ok (.iload 5, 2) := by decide +kernel
theorem dX7_bargain_78 : decode cX7_bargain 78 = .ok (.iload_n 2, 1) := by decide +kernel
theorem dX7_bargain_79 : decode cX7_bargain 79 = .ok (.invokevirtual 195, 3) := by decide +kernel
theorem dX7_bargain_82 : decode cX7_bargain 82 = .ok (.aload_n 0, 1) := by decide +kernel
theorem dX7_bargain_83 : decode cX7_bargain 83 = .ok (.aload_n 0, 1) := by decide +kernel
theorem dX7_bargain_84 : decode cX7_bargain 84 = .ok (.getfield 113, 3) := by decide +kernel
theorem dX7_bargain_87 : decode cX7_bargain 87 = .ok (.iload_n 2, 1) := by decide +kernel
theorem dX7_bargain_88 : decode cX7_bargain 88 = .ok (.invokevirtual 195, 3) := by decide +kernel
theorem dX7_bargain_91 : decode cX7_bargain 91 = .ok (.isub, 1) := by decide +kernel
theorem dX7_bargain_92 : decode cX7_bargain 92 = .ok (.istore 6, 2) := by decide +kernel
theorem dX7_bargain_94 : decode cX7_bargain 94 = .ok (.aload_n 0, 1) := by decide +kernel
theorem dX7_bargain_95 : decode cX7_bargain 95 = .ok (.aload_n 0, 1) := by decide +kernel
theorem dX7_bargain_96 : decode cX7_bargain 96 = .ok (.getfield 113, 3) := by decide +kernel
theorem dX7_bargain_99 : decode cX7_bargain 99 = .ok (.iload_n 3, 1) := by decide +kernel
theorem dX7_bargain_100 : decode cX7_bargain 100 = .ok (.invokevirtual 195, 3) := by decide +kernel
theorem dX7_bargain_103 : decode cX7_bargain 103 = .ok (.aload_n 0, 1) := by decide +kernel
theorem dX7_bargain_104 : decode cX7_bargain 104 = .ok (.iload 5, 2) := by decide +kernel
theorem dX7_bargain_106 : decode cX7_bargain 106 = .ok (.iload_n 3, 1) := by decide +kernel
theorem dX7_bargain_107 : decode cX7_bargain 107 = .ok (.invokevirtual 195, 3) := by decide +kernel
theorem dX7_bargain_110 : decode cX7_bargain 110 = .ok (.isub, 1) := by decide +kernel
theorem dX7_bargain_111 : decode cX7_bargain 111 = .ok (.istore 7, 2) := by decide +kernel
theorem dX7_bargain_113 : decode cX7_bargain 113 = .ok (.iload 7, 2) := by decide +kernel
theorem dX7_bargain_115 : decode cX7_bargain 115 = .ok (.ifCond .ge 7, 3) := by decide +kernel
theorem dX7_bargain_118 : decode cX7_bargain 118 = .ok (.iconst 0, 1) := by decide +kernel
theorem dX7_bargain_119 : decode cX7_bargain 119 = .ok (.goto 5, 3) := by decide +kernel
theorem dX7_bargain_122 : decode cX7_bargain 122 = .ok (.iload 7, 2) := by decide +kernel
theorem dX7_bargain_124 : decode cX7_bargain 124 = .ok (.istore 7, 2) := by decide +kernel
theorem dX7_bargain_126 : decode cX7_bargain 126 = .ok (.iload 6, 2) := by decide +kernel
theorem dX7_bargain_128 : decode cX7_bargain 128 = .ok (.iload 7, 2) := by decide +kernel
theorem dX7_bargain_130 : decode cX7_bargain 130 = .ok (.if_icmp .lt 8, 3) := by decide +kernel
theorem dX7_bargain_133 : decode cX7_bargain 133 = .ok (.iload 6, 2) := by decide +kernel
theorem dX7_bargain_135 : decode cX7_bargain 135 = .ok (.ifCond .gt 6, 3) := by decide +kernel
theorem dX7_bargain_138 : decode cX7_bargain 138 = .ok (.bipush (-4), 2) := by decide +kernel
theorem dX7_bargain_140 : decode cX7_bargain 140 = .ok (.ireturn, 1) := by decide +kernel
theorem dX7_bargain_141 : decode cX7_bargain 141 = .ok (.iload 4, 2) := by decide +kernel
theorem dX7_bargain_143 : decode cX7_bargain 143 = .ok (.ifCond .ne 8, 3) := by decide +kernel
theorem dX7_bargain_146 : decode cX7_bargain 146 = .ok (.iload 7, 2) := by decide +kernel
theorem dX7_bargain_148 : decode cX7_bargain 148 = .ok (.goto 5, 3) := by decide +kernel
theorem dX7_bargain_151 : decode cX7_bargain 151 = .ok (.iload 6, 2) := by decide +kernel
theorem dX7_bargain_153 : decode cX7_bargain 153 = .ok (.ireturn, 1) := by decide +kernel
theorem dX7_owes_0 : decode cX7_owes 0 = .ok (.iconst 0, 1) := by decide +kernel
theorem dX7_owes_1 : decode cX7_owes 1 = .ok (.istore_n 1, 1) := by decide +kernel
theorem dX7_owes_2 : decode cX7_owes 2 = .ok (.iload_n 1, 1) := by decide +kernel
theorem dX7_owes_3 : decode cX7_owes 3 = .ok (.iconst 4, 1) := by decide +kernel
theorem dX7_owes_4 : decode cX7_owes 4 = .ok (.if_icmp .ge 16, 3) := by decide +kernel
theorem dX7_owes_7 : decode cX7_owes 7 = .ok (.aload_n 0, 1) := by decide +kernel
theorem dX7_owes_8 : decode cX7_owes 8 = .ok (.getfield 55, 3) := by decide +kernel
theorem dX7_owes_11 : decode cX7_owes 11 = .ok (.iload_n 1, 1) := by decide +kernel
theorem dX7_owes_12 : decode cX7_owes 12 = .ok (.iconst 0, 1) := by decide +kernel
theorem dX7_owes_13 : decode cX7_owes 13 = .ok (.iastore, 1) := by decide +kernel
theorem dX7_owes_14 : decode cX7_owes 14 = .ok (.iinc 1 1, 3) := by decide +kernel
theorem dX7_owes_17 : decode cX7_owes 17 = .ok (.goto (-15), 3) := by decide +kernel
theorem dX7_owes_20 : decode cX7_owes 20 = .ok (.iconst 0, 1) := by decide +kernel
theorem dX7_owes_21 : decode cX7_owes 21 = .ok (.istore_n 1, 1) := by decide +kernel
theorem dX7_owes_22 : decode cX7_owes 22 = .ok (.iload_n 1, 1) := by decide +kernel
theorem dX7_owes_23 : decode cX7_owes 23 = .ok (.aload_n 0, 1) := by decide +kernel
theorem dX7_owes_24 : decode cX7_owes 24 = .ok (.getfield 84, 3) := by decide +kernel
theorem dX7_owes_27 : decode cX7_owes 27 = .ok (.if_icmp .ge 173, 3) := by decide +kernel
theorem dX7_owes_30 : decode cX7_owes 30 = .ok (.aload_n 0, 1) := by decide +kernel
theorem dX7_owes_31 : decode cX7_owes 31 = .ok (.iload_n 1, 1) := by decide +kernel
theorem dX7_owes_32 : decode cX7_owes 32 = .ok (.invokevirtual 170, 3) := by decide +kernel
theorem dX7_owes_35 : decode cX7_owes 35 = .ok (.istore_n 2, 1) := by decide +kernel
theorem dX7_owes_36 : decode cX7_owes 36 = .ok (.iconst 0, 1) := by decide +kernel
theorem dX7_owes_37 : decode cX7_owes 37 = .ok (.istore_n 3, 1) := by decide +kernel
theorem dX7_owes_38 : decode cX7_owes 38 = .ok (.iconst 0, 1) := by decide +kernel
theorem dX7_owes_39 : decode cX7_owes 39 = .ok (.istore 4, 2) := by decide +kernel
theorem dX7_owes_41 : decode cX7_owes 41 = .ok (.iload 4, 2) := by decide +kernel
theorem dX7_owes_43 : decode cX7_owes 43 = .ok (.aload_n 0, 1) := by decide +kernel
theorem dX7_owes_44 : decode cX7_owes 44 = .ok (.getfield 77, 3) := by decide +kernel
theorem dX7_owes_47 : decode cX7_owes 47 = .ok (.if_icmp .ge 37, 3) := by decide +kernel
theorem dX7_owes_50 : decode cX7_owes 50 = .ok (.iload_n 3, 1) := by decide +kernel
theorem dX7_owes_51 : decode cX7_owes 51 = .ok (.iload 4, 2) := by decide +kernel
theorem dX7_owes_53 : decode cX7_owes 53 = .ok (.iload_n 2, 1) := by decide +kernel
theorem dX7_owes_54 : decode cX7_owes 54 = .ok (.if_icmp .eq 21, 3) := by decide +kernel
theorem dX7_owes_57 : decode cX7_owes 57 = .ok (.aload_n 0, 1) := by decide +kernel
theorem dX7_owes_58 : decode cX7_owes 58 = .ok (.getfield 25, 3) := by decide +kernel
theorem dX7_owes_61 : decode cX7_owes 61 = .ok (.iconst 4, 1) := by decide +kernel
theorem dX7_owes_62 : decode cX7_owes 62 = .ok (.iload_n 1, 1) := by decide +kernel
theorem dX7_owes_63 : decode cX7_owes 63 = .ok (.imul, 1) := by decide +kernel
theorem dX7_owes_64 : decode cX7_owes 64 = .ok (.iload 4, 2) := by decide +kernel
theorem dX7_owes_66 : decode cX7_owes 66 = .ok (.iadd, 1) := by decide +kernel
theorem dX7_owes_67 : decode cX7_owes 67 = .ok (.iaload, 1) := by decide +kernel
theorem dX7_owes_68 : decode cX7_owes 68 = .ok (.ifCond .ge 7, 3) := by decide +kernel
theorem dX7_owes_71 : decode cX7_owes 71 = .ok (.iconst 1, 1) := by decide +kernel
theorem dX7_owes_72 : decode cX7_owes 72 = .ok (.goto 4, 3) := by decide +kernel
theorem dX7_owes_75 : decode cX7_owes 75 = .ok (.iconst 0, 1) := by decide +kernel
theorem dX7_owes_76 : decode cX7_owes 76 = .ok (.iadd, 1) := by decide +kernel
theorem dX7_owes_77 : decode cX7_owes 77 = .ok (.istore_n 3, 1) := by decide +kernel
theorem dX7_owes_78 : decode cX7_owes 78 = .ok (.iinc 4 1, 3) := by decide +kernel
theorem dX7_owes_81 : decode cX7_owes 81 = .ok (.goto (-40), 3) := by decide +kernel
theorem dX7_owes_84 : decode cX7_owes 84 = .ok (.aload_n 0, 1) := by decide +kernel
theorem dX7_owes_85 : decode cX7_owes 85 = .ok (.getfield 113, 3) := by decide +kernel
theorem dX7_owes_88 : decode cX7_owes 88 = .ok (.iload_n 1, 1) := by decide +kernel
theorem dX7_owes_89 : decode cX7_owes 89 = .ok (.ishr, 1) := by decide +kernel
theorem dX7_owes_90 : decode cX7_owes 90 = .ok (.iconst 1, 1) := by decide +kernel
theorem dX7_owes_91 : decode cX7_owes 91 = .ok (.iand, 1) := by decide +kernel
theorem dX7_owes_92 : decode cX7_owes 92 = .ok (.iconst 1, 1) := by decide +kernel
theorem dX7_owes_93 : decode cX7_owes 93 = .ok (.if_icmp .ne 101, 3) := by decide +kernel
theorem dX7_owes_96 : decode cX7_owes 96 = .ok (.iload_n 3, 1) := by decide +kernel
theorem dX7_owes_97 : decode cX7_owes 97 = .ok (.ifCond .le 97, 3) := by decide +kernel
theorem dX7_owes_100 : decode cX7_owes 100 = .ok (.aload_n 0, 1) := by decide +kernel
theorem dX7_owes_101 : decode cX7_owes 101 = .ok (.getfield 19, 3) := by decide +kernel
theorem dX7_owes_104 : decode cX7_owes 104 = .ok (.iload_n 1, 1) := by decide +kernel
theorem dX7_owes_105 : decode cX7_owes 105 = .ok (.iaload, 1) := by decide +kernel
theorem dX7_owes_106 : decode cX7_owes 106 = .ok (.iload_n 3, 1) := by decide +kernel
theorem dX7_owes_107 : decode cX7_owes 107 = .ok (.idiv, 1) := by decide +kernel
theorem dX7_owes_108 : decode cX7_owes 108 = .ok (.istore 4, 2) := by decide +kernel
theorem dX7_owes_110 : decode cX7_owes 110 = .ok (.aload_n 0, 1) := by decide +kernel
theorem dX7_owes_111 : decode cX7_owes 111 = .ok (.getfield 19, 3) := by decide +kernel
theorem dX7_owes_114 : decode cX7_owes 114 = .ok (.iload_n 1, 1) := by decide +kernel
theorem dX7_owes_115 : decode cX7_owes 115 = .ok (.iaload, 1) := by decide +kernel
theorem dX7_owes_116 : decode cX7_owes 116 = .ok (.iload 4, 2) := by decide +kernel
theorem dX7_owes_118 : decode cX7_owes 118 = .ok (.iload_n 3, 1) := by decide +kernel
theorem dX7_owes_119 : decode cX7_owes 119 = .ok (.imul, 1) := by decide +kernel
theorem dX7_owes_120 : decode cX7_owes 120 = .ok (.isub, 1) := by decide +kernel
theorem dX7_owes_121 : decode cX7_owes 121 = .ok (.istore 5, 2) := by decide +kernel
theorem dX7_owes_123 : decode cX7_owes 123 = .ok (.aload_n 0, 1) := by decide +kernel
theorem dX7_owes_124 : decode cX7_owes 124 = .ok (.getfield 55, 3) := by decide +kernel
theorem dX7_owes_127 : decode cX7_owes 127 = .ok (.iload_n 2, 1) := by decide +kernel
theorem dX7_owes_128 : decode cX7_owes 128 = .ok (.dup2, 1) := by decide +kernel
theorem dX7_owes_129 : decode cX7_owes 129 = .ok (.iaload, 1) := by decide +kernel
theorem dX7_owes_130 : decode cX7_owes 130 = .ok (.aload_n 0, 1) := by decide +kernel
theorem dX7_owes_131 : decode cX7_owes 131 = .ok (.getfield 19, 3) := by decide +kernel
theorem dX7_owes_134 : decode cX7_owes 134 = .ok (.iload_n 1, 1) := by decide +kernel
theorem dX7_owes_135 : decode cX7_owes 135 = .ok (.iaload, 1) := by decide +kernel
theorem dX7_owes_136 : decode cX7_owes 136 = .ok (.isub, 1) := by decide +kernel
theorem dX7_owes_137 : decode cX7_owes 137 = .ok (.iastore, 1) := by decide +kernel
theorem dX7_owes_138 : decode cX7_owes 138 = .ok (.iconst 0, 1) := by decide +kernel
theorem dX7_owes_139 : decode cX7_owes 139 = .ok (.istore 6, 2) := by decide +kernel
theorem dX7_owes_141 : decode cX7_owes 141 = .ok (.iload 6, 2) := by decide +kernel
theorem dX7_owes_143 : decode cX7_owes 143 = .ok (.aload_n 0, 1) := by decide +kernel
theorem dX7_owes_144 : decode cX7_owes 144 = .ok (.getfield 77, 3) := by decide +kernel
theorem dX7_owes_147 : decode cX7_owes 147 = .ok (.if_icmp .ge 47, 3) := by decide +kernel
theorem dX7_owes_150 : decode cX7_owes 150 = .ok (.iload 6, 2) := by decide +kernel
theorem dX7_owes_152 : decode cX7_owes 152 = .ok (.iload_n 2, 1) := by decide +kernel
theorem dX7_owes_153 : decode cX7_owes 153 = .ok (.if_icmp .eq 35, 3) := by decide +kernel
theorem dX7_owes_156 : decode cX7_owes 156 = .ok (.aload_n 0, 1) := by decide +kernel
theorem dX7_owes_157 : decode cX7_owes 157 = .ok (.getfield 25, 3) := by decide +kernel
theorem dX7_owes_160 : decode cX7_owes 160 = .ok (.iconst 4, 1) := by decide +kernel
theorem dX7_owes_161 : decode cX7_owes 161 = .ok (.iload_n 1, 1) := by decide +kernel
theorem dX7_owes_162 : decode cX7_owes 162 = .ok (.imul, 1) := by decide +kernel
theorem dX7_owes_163 : decode cX7_owes 163 = .ok (.iload 6, 2) := by decide +kernel
theorem dX7_owes_165 : decode cX7_owes 165 = .ok (.iadd, 1) := by decide +kernel
theorem dX7_owes_166 : decode cX7_owes 166 = .ok (.iaload, 1) := by decide +kernel
theorem dX7_owes_167 : decode cX7_owes 167 = .ok (.ifCond .ge 21, 3) := by decide +kernel
theorem dX7_owes_170 : decode cX7_owes 170 = .ok (.aload_n 0, 1) := by decide +kernel
theorem dX7_owes_171 : decode cX7_owes 171 = .ok (.getfield 55, 3) := by decide +kernel
theorem dX7_owes_174 : decode cX7_owes 174 = .ok (.iload 6, 2) := by decide +kernel
theorem dX7_owes_176 : decode cX7_owes 176 = .ok (.dup2, 1) := by decide +kernel
theorem dX7_owes_177 : decode cX7_owes 177 = .ok (.iaload, 1) := by decide +kernel
theorem dX7_owes_178 : decode cX7_owes 178 = .ok (.iload 4, 2) := by decide +kernel
theorem dX7_owes_180 : decode cX7_owes 180 = .ok (.iload 5, 2) := by decide +kernel
theorem dX7_owes_182 : decode cX7_owes 182 = .ok (.iadd, 1) := by decide +kernel
theorem dX7_owes_183 : decode cX7_owes 183 = .ok (.iadd, 1) := by decide +kernel
theorem dX7_owes_184 : decode cX7_owes 184 = .ok (.iastore, 1) := by decide +kernel
theorem dX7_owes_185 : decode cX7_owes 185 = .ok (.iconst 0, 1) := by decide +kernel
theorem dX7_owes_186 : decode cX7_owes 186 = .ok (.istore 5, 2) := by decide +kernel
theorem dX7_owes_188 : decode cX7_owes 188 = .ok (.iinc 6 1, 3) := by decide +kernel
theorem dX7_owes_191 : decode cX7_owes 191 = .ok (.goto (-50), 3) := by decide +kernel
theorem dX7_owes_194 : decode cX7_owes 194 = .ok (.iinc 1 1, 3) := by decide +kernel
theorem dX7_owes_197 : decode cX7_owes 197 = .ok (.goto (-175), 3) := by decide +kernel
theorem dX7_owes_200 : decode cX7_owes 200 = .ok (.return_, 1) := by decide +kernel
theorem dX7_due_0 : decode cX7_due 0 = .ok (.aload_n 0, 1) := by decide +kernel
theorem dX7_due_1 : decode cX7_due 1 = .ok (.iload_n 1, 1) := by decide +kernel
theorem dX7_due_2 : decode cX7_due 2 = .ok (.invokevirtual 176, 3) := by decide +kernel
theorem dX7_due_5 : decode cX7_due 5 = .ok (.ifCond .ne 6, 3) := by decide +kernel
theorem dX7_due_8 : decode cX7_due 8 = .ok (.ldc 127, 2) := by decide +kernel
theorem dX7_due_10 : decode cX7_due 10 = .ok (.ireturn, 1) := by decide +kernel
theorem dX7_due_11 : decode cX7_due 11 = .ok (.aload_n 0, 1) := by decide +kernel
theorem dX7_due_12 : decode cX7_due 12 = .ok (.invokevirtual 201, 3) := by decide +kernel
theorem dX7_due_15 : decode cX7_due 15 = .ok (.aload_n 0, 1) := by decide +kernel
theorem dX7_due_16 : decode cX7_due 16 = .ok (.getfield 55, 3) := by decide +kernel
theorem dX7_due_19 : decode cX7_due 19 = .ok (.iload_n 1, 1) := by decide +kernel
theorem dX7_due_20 : decode cX7_due 20 = .ok (.iaload, 1) := by decide +kernel
theorem dX7_due_21 : decode cX7_due 21 = .ok (.ireturn, 1) := by decide +kernel
theorem dX7_isZero_0 : decode cX7_isZero 0 = .ok (.iconst 0, 1) := by decide +kernel
theorem dX7_isZero_1 : decode cX7_isZero 1 = .ok (.istore_n 2, 1) := by decide +kernel
theorem dX7_isZero_2 : decode cX7_isZero 2 = .ok (.iconst 0, 1) := by decide +kernel
theorem dX7_isZero_3 : decode cX7_isZero 3 = .ok (.istore_n 3, 1) := by decide +kernel
theorem dX7_isZero_4 : decode cX7_isZero 4 = .ok (.iload_n 3, 1) := by decide +kernel
theorem dX7_isZero_5 : decode cX7_isZero 5 = .ok (.iconst 4, 1) := by decide +kernel
theorem dX7_isZero_6 : decode cX7_isZero 6 = .ok (.if_icmp .ge 31, 3) := by decide +kernel
theorem dX7_isZero_9 : decode cX7_isZero 9 = .ok (.iload_n 2, 1) := by decide +kernel
theorem dX7_isZero_10 : decode cX7_isZero 10 = .ok (.iload_n 1, 1) := by decide +kernel
theorem dX7_isZero_11 : decode cX7_isZero 11 = .ok (.iload_n 3, 1) := by decide +kernel
theorem dX7_isZero_12 : decode cX7_isZero 12 = .ok (.ishr, 1) := by decide +kernel
theorem dX7_isZero_13 : decode cX7_isZero 13 = .ok (.iconst 1, 1) := by decide +kernel
theorem dX7_isZero_14 : decode cX7_isZero 14 = .ok (.iand, 1) := by decide +kernel
theorem dX7_isZero_15 : decode cX7_isZero 15 = .ok (.iconst 1, 1) := by decide +kernel
theorem dX7_isZero_16 : decode cX7_isZero 16 = .ok (.if_icmp .ne 12, 3) := by decide +kernel
theorem dX7_isZero_19 : decode cX7_isZero 19 = .ok (.aload_n 0, 1) := by decide +kernel
theorem dX7_isZero_20 : decode cX7_isZero 20 = .ok (.getfield 55, 3) := by decide +kernel
theorem dX7_isZero_23 : decode cX7_isZero 23 = .ok (.iload_n 3, 1) := by decide +kernel
theorem dX7_isZero_24 : decode cX7_isZero 24 = .ok (.iaload, 1) := by decide +kernel
theorem dX7_isZero_25 : decode cX7_isZero 25 = .ok (.goto 4, 3) := by decide +kernel
theorem dX7_isZero_28 : decode cX7_isZero 28 = .ok (.iconst 0, 1) := by decide +kernel
theorem dX7_isZero_29 : decode cX7_isZero 29 = .ok (.iadd, 1) := by decide +kernel
theorem dX7_isZero_30 : decode cX7_isZero 30 = .ok (.istore_n 2, 1) := by decide +kernel
theorem dX7_isZero_31 : decode cX7_isZero 31 = .ok (.iinc 3 1, 3) := by decide +kernel
theorem dX7_isZero_34 : decode cX7_isZero 34 = .ok (.goto (-30), 3) := by decide +kernel
theorem dX7_isZero_37 : decode cX7_isZero 37 = .ok (.iload_n 2, 1) := by decide +kernel
theorem dX7_isZero_38 : decode cX7_isZero 38 = .ok (.ifCond .ne 7, 3) := by decide +kernel
theorem dX7_isZero_41 : decode cX7_isZero 41 = .ok (.iconst 1, 1) := by decide +kernel
theorem dX7_isZero_42 : decode cX7_isZero 42 = .ok (.goto 4, 3) := by decide +kernel
theorem dX7_isZero_45 : decode cX7_isZero 45 = .ok (.iconst 0, 1) := by decide +kernel
theorem dX7_isZero_46 : decode cX7_isZero 46 = .ok (.ireturn, 1) := by decide +kernel
theorem dX7_payments_0 : decode cX7_payments 0 = .ok (.aload_n 0, 1) := by decide +kernel
theorem dX7_payments_1 : decode cX7_payments 1 = .ok (.invokevirtual 201, 3) := by decide +kernel
theorem dX7_payments_4 : decode cX7_payments 4 = .ok (.iconst 0, 1) := by decide +kernel
theorem dX7_payments_5 : decode cX7_payments 5 = .ok (.istore_n 1, 1) := by decide +kernel
theorem dX7_payments_6 : decode cX7_payments 6 = .ok (.iconst 0, 1) := by decide +kernel
theorem dX7_payments_7 : decode cX7_payments 7 = .ok (.istore_n 2, 1) := by decide +kernel
theorem dX7_payments_8 : decode cX7_payments 8 = .ok (.iload_n 2, 1) := by decide +kernel
theorem dX7_payments_9 : decode cX7_payments 9 = .ok (.aload_n 0, 1) := by decide +kernel
theorem dX7_payments_10 : decode cX7_payments 10 = .ok (.getfield 77, 3) := by decide +kernel
theorem dX7_payments_13 : decode cX7_payments 13 = .ok (.if_icmp .ge 28, 3) := by decide +kernel
theorem dX7_payments_16 : decode cX7_payments 16 = .ok (.iload_n 1, 1) := by decide +kernel
theorem dX7_payments_17 : decode cX7_payments 17 = .ok (.aload_n 0, 1) := by decide +kernel
theorem dX7_payments_18 : decode cX7_payments 18 = .ok (.getfield 55, 3) := by decide +kernel
theorem dX7_payments_21 : decode cX7_payments 21 = .ok (.iload_n 2, 1) := by decide +kernel
theorem dX7_payments_22 : decode cX7_payments 22 = .ok (.iaload, 1) := by decide +kernel
theorem dX7_payments_23 : decode cX7_payments 23 = .ok (.ifCond .ne 7, 3) := by decide +kernel
theorem dX7_payments_26 : decode cX7_payments 26 = .ok (.iconst 0, 1) := by decide +kernel
theorem dX7_payments_27 : decode cX7_payments 27 = .ok (.goto 6, 3) := by decide +kernel
theorem dX7_payments_30 : decode cX7_payments 30 = .ok (.iconst 1, 1) := by decide +kernel
theorem dX7_payments_31 : decode cX7_payments 31 = .ok (.iload_n 2, 1) := by decide +kernel
theorem dX7_payments_32 : decode cX7_payments 32 = .ok (.ishl, 1) := by decide +kernel
theorem dX7_payments_33 : decode cX7_payments 33 = .ok (.ior, 1) := by decide +kernel
theorem dX7_payments_34 : decode cX7_payments 34 = .ok (.istore_n 1, 1) := by decide +kernel
theorem dX7_payments_35 : decode cX7_payments 35 = .ok (.iinc 2 1, 3) := by decide +kernel
theorem dX7_payments_38 : decode cX7_payments 38 = .ok (.goto (-30), 3) := by decide +kernel
theorem dX7_payments_41 : decode cX7_payments 41 = .ok (.iload_n 1, 1) := by decide +kernel
theorem dX7_payments_42 : decode cX7_payments 42 = .ok (.ifCond .ne 5, 3) := by decide +kernel
theorem dX7_payments_45 : decode cX7_payments 45 = .ok (.iconst 0, 1) := by decide +kernel
theorem dX7_payments_46 : decode cX7_payments 46 = .ok (.ireturn, 1) := by decide +kernel
theorem dX7_payments_47 : decode cX7_payments 47 = .ok (.iconst 1, 1) := by decide +kernel
theorem dX7_payments_48 : decode cX7_payments 48 = .ok (.istore_n 2, 1) := by decide +kernel
theorem dX7_payments_49 : decode cX7_payments 49 = .ok (.iload_n 2, 1) := by decide +kernel
theorem dX7_payments_50 : decode cX7_payments 50 = .ok (.iload_n 1, 1) := by decide +kernel
theorem dX7_payments_51 : decode cX7_payments 51 = .ok (.if_icmp .ge 32, 3) := by decide +kernel
theorem dX7_payments_54 : decode cX7_payments 54 = .ok (.iload_n 2, 1) := by decide +kernel
theorem dX7_payments_55 : decode cX7_payments 55 = .ok (.iload_n 1, 1) := by decide +kernel
theorem dX7_payments_56 : decode cX7_payments 56 = .ok (.iconst (-1), 1) := by decide +kernel
theorem dX7_payments_57 : decode cX7_payments 57 = .ok (.ixor, 1) := by decide +kernel
theorem dX7_payments_58 : decode cX7_payments 58 = .ok (.iand, 1) := by decide +kernel
theorem dX7_payments_59 : decode cX7_payments 59 = .ok (.ifCond .ne 18, 3) := by decide +kernel
theorem dX7_payments_62 : decode cX7_payments 62 = .ok (.aload_n 0, 1) := by decide +kernel
theorem dX7_payments_63 : decode cX7_payments 63 = .ok (.iload_n 2, 1) := by decide +kernel
theorem dX7_payments_64 : decode cX7_payments 64 = .ok (.invokevirtual 204, 3) := by decide +kernel
theorem dX7_payments_67 : decode cX7_payments 67 = .ok (.ifCond .eq 10, 3) := by decide +kernel
theorem dX7_payments_70 : decode cX7_payments 70 = .ok (.iload_n 1, 1) := by decide +kernel
theorem dX7_payments_71 : decode cX7_payments 71 = .ok (.invokestatic 167, 3) := by decide +kernel
theorem dX7_payments_74 : decode cX7_payments 74 = .ok (.iconst 2, 1) := by decide +kernel
theorem dX7_payments_75 : decode cX7_payments 75 = .ok (.isub, 1) := by decide +kernel
theorem dX7_payments_76 : decode cX7_payments 76 = .ok (.ireturn, 1) := by decide +kernel
theorem dX7_payments_77 : decode cX7_payments 77 = .ok (.iinc 2 1, 3) := by decide +kernel
theorem dX7_payments_80 : decode cX7_payments 80 = .ok (.goto (-31), 3) := by decide +kernel
theorem dX7_payments_83 : decode cX7_payments 83 = .ok (.iload_n 1, 1) := by decide +kernel
theorem dX7_payments_84 : decode cX7_payments 84 = .ok (.invokestatic 167, 3) := by decide +kernel
theorem dX7_payments_87 : decode cX7_payments 87 = .ok (.iconst 1, 1) := by decide +kernel
theorem dX7_payments_88 : decode cX7_payments 88 = .ok (.isub, 1) := by decide +kernel
theorem dX7_payments_89 : decode cX7_payments 89 = .ok (.ireturn, 1) := by decide +kernel
theorem dX7_forgotten_0 : decode cX7_forgotten 0 = .ok (.iload_n 1, 1) := by decide +kernel
theorem dX7_forgotten_1 : decode cX7_forgotten 1 = .ok (.i2l, 1) := by decide +kernel
theorem dX7_forgotten_2 : decode cX7_forgotten 2 = .ok (.lconst 0, 1) := by decide +kernel
theorem dX7_forgotten_3 : decode cX7_forgotten 3 = .ok (.ldc2_w 95, 3) := by decide +kernel
theorem dX7_forgotten_6 : decode cX7_forgotten 6 = .ok (.invokestatic 87, 3) := by decide +kernel
theorem dX7_forgotten_9 : decode cX7_forgotten 9 = .ok (.ifCond .eq 32, 3) := by decide +kernel
theorem dX7_forgotten_12 : decode cX7_forgotten 12 = .ok (.aload_n 0, 1) := by decide +kernel
theorem dX7_forgotten_13 : decode cX7_forgotten 13 = .ok (.iload_n 2, 1) := by decide +kernel
theorem dX7_forgotten_14 : decode cX7_forgotten 14 = .ok (.i2l, 1) := by decide +kernel
theorem dX7_forgotten_15 : decode cX7_forgotten 15 = .ok (.invokevirtual 128, 3) := by decide +kernel
theorem dX7_forgotten_18 : decode cX7_forgotten 18 = .ok (.ifCond .eq 23, 3) := by decide +kernel
theorem dX7_forgotten_21 : decode cX7_forgotten 21 = .ok (.iload_n 2, 1) := by decide +kernel
theorem dX7_forgotten_22 : decode cX7_forgotten 22 = .ok (.aload_n 0, 1) := by decide +kernel
theorem dX7_forgotten_23 : decode cX7_forgotten 23 = .ok (.iload_n 1, 1) := by decide +kernel
theorem dX7_forgotten_24 : decode cX7_forgotten 24 = .ok (.invokevirtual 162, 3) := by decide +kernel
theorem dX7_forgotten_27 : decode cX7_forgotten 27 = .ok (.iand, 1) := by decide +kernel
theorem dX7_forgotten_28 : decode cX7_forgotten 28 = .ok (.ifCond .ne 13, 3) := by decide +kernel
theorem dX7_forgotten_31 : decode cX7_forgotten 31 = .ok (.iload_n 3, 1) := by decide +kernel
theorem dX7_forgotten_32 : decode cX7_forgotten 32 = .ok (.i2l, 1) := by decide +kernel
theorem dX7_forgotten_33 : decode cX7_forgotten 33 = .ok (.lconst 0, 1) := by decide +kernel
theorem dX7_forgotten_34 : decode cX7_forgotten 34 = .ok (.lconst 1, 1) := by decide +kernel
theorem dX7_forgotten_35 : decode cX7_forgotten 35 = .ok (.invokestatic 87, 3) := by decide +kernel
theorem dX7_forgotten_38 : decode cX7_forgotten 38 = .ok (.ifCond .ne 5, 3) := by decide +kernel
theorem dX7_forgotten_41 : decode cX7_forgotten 41 = .ok (.iconst (-1), 1) := by decide +kernel
theorem dX7_forgotten_42 : decode cX7_forgotten 42 = .ok (.ireturn, 1) := by decide +kernel
theorem dX7_forgotten_43 : decode cX7_forgotten 43 = .ok (.aload_n 0, 1) := by decide +kernel
theorem dX7_forgotten_44 : decode cX7_forgotten 44 = .ok (.iload_n 1, 1) := by decide +kernel
theorem dX7_forgotten_45 : decode cX7_forgotten 45 = .ok (.invokevirtual 162, 3) := by decide +kernel
theorem dX7_forgotten_48 : decode cX7_forgotten 48 = .ok (.istore 4, 2) := by decide +kernel
theorem dX7_forgotten_50 : decode cX7_forgotten 50 = .ok (.iconst 0, 1) := by decide +kernel
theorem dX7_forgotten_51 : decode cX7_forgotten 51 = .ok (.istore 5, 2) := by decide +kernel
theorem dX7_forgotten_53 : decode cX7_forgotten 53 = .ok (.iload 4, 2) := by decide +kernel
theorem dX7_forgotten_55 : decode cX7_forgotten 55 = .ok (.istore 6, 2) := by decide +kernel
theorem dX7_forgotten_57 : decode cX7_forgotten 57 = .ok (.iconst 0, 1) := by decide +kernel
theorem dX7_forgotten_58 : decode cX7_forgotten 58 = .ok (.istore 7, 2) := by decide +kernel
theorem dX7_forgotten_60 : decode cX7_forgotten 60 = .ok (.iload 7, 2) := by decide +kernel
theorem dX7_forgotten_62 : decode cX7_forgotten 62 = .ok (.iconst 1, 1) := by decide +kernel
theorem dX7_forgotten_63 : decode cX7_forgotten 63 = .ok (.aload_n 0, 1) := by decide +kernel
theorem dX7_forgotten_64 : decode cX7_forgotten 64 = .ok (.getfield 84, 3) := by decide +kernel
theorem dX7_forgotten_67 : decode cX7_forgotten 67 = .ok (.ishl, 1) := by decide +kernel
theorem dX7_forgotten_68 : decode cX7_forgotten 68 = .ok (.if_icmp .ge 130, 3) := by decide +kernel
theorem dX7_forgotten_71 : decode cX7_forgotten 71 = .ok (.iload 7, 2) := by decide +kernel
theorem dX7_forgotten_73 : decode cX7_forgotten 73 = .ok (.iload 4, 2) := by decide +kernel
theorem dX7_forgotten_75 : decode cX7_forgotten 75 = .ok (.iconst (-1), 1) := by decide +kernel
theorem dX7_forgotten_76 : decode cX7_forgotten 76 = .ok (.ixor, 1) := by decide +kernel
theorem dX7_forgotten_77 : decode cX7_forgotten 77 = .ok (.iand, 1) := by decide +kernel
theorem dX7_forgotten_78 : decode cX7_forgotten 78 = .ok (.ifCond .ne 114, 3) := by decide +kernel
theorem dX7_forgotten_81 : decode cX7_forgotten 81 = .ok (.iconst 1, 1) := by decide +kernel
theorem dX7_forgotten_82 : decode cX7_forgotten 82 = .ok (.istore 8, 2) := by decide +kernel
theorem dX7_forgotten_84 : decode cX7_forgotten 84 = .ok (.iconst 0, 1) := by decide +kernel
theorem dX7_forgotten_85 : decode cX7_forgotten 85 = .ok (.istore 9, 2) := by decide +kernel
theorem dX7_forgotten_87 : decode cX7_forgotten 87 = .ok (.iload 9, 2) := by decide +kernel
theorem dX7_forgotten_89 : decode cX7_forgotten 89 = .ok (.aload_n 0, 1) := by decide +kernel
theorem dX7_forgotten_90 : decode cX7_forgotten 90 = .ok (.getfield 84, 3) := by decide +kernel
theorem dX7_forgotten_93 : decode cX7_forgotten 93 = .ok (.if_icmp .ge 68, 3) := by decide +kernel
theorem dX7_forgotten_96 : decode cX7_forgotten 96 = .ok (.iload_n 2, 1) := by decide +kernel
theorem dX7_forgotten_97 : decode cX7_forgotten 97 = .ok (.iload 9, 2) := by decide +kernel
theorem dX7_forgotten_99 : decode cX7_forgotten 99 = .ok (.ishr, 1) := by decide +kernel
theorem dX7_forgotten_100 : decode cX7_forgotten 100 = .ok (.iconst 1, 1) := by decide +kernel
theorem dX7_forgotten_101 : decode cX7_forgotten 101 = .ok (.iand, 1) := by decide +kernel
theorem dX7_forgotten_102 : decode cX7_forgotten 102 = .ok (.iconst 1, 1) := by decide +kernel
theorem dX7_forgotten_103 : decode cX7_forgotten 103 = .ok (.if_icmp .ne 7, 3) := by decide +kernel
theorem dX7_forgotten_106 : decode cX7_forgotten 106 = .ok (.iconst 1, 1) := by decide +kernel
theorem dX7_forgotten_107 : decode cX7_forgotten 107 = .ok (.goto 4, 3) := by decide +kernel
theorem dX7_forgotten_110 : decode cX7_forgotten 110 = .ok (.iconst 0, 1) := by decide +kernel
theorem dX7_forgotten_111 : decode cX7_forgotten 111 = .ok (.istore 10, 2) := by decide +kernel
theorem dX7_forgotten_113 : decode cX7_forgotten 113 = .ok (.iload 8, 2) := by decide +kernel
theorem dX7_forgotten_115 : decode cX7_forgotten 115 = .ok (.ifCond .eq 37, 3) := by decide +kernel
theorem dX7_forgotten_118 : decode cX7_forgotten 118 = .ok (.iload 4, 2) := by decide +kernel
theorem dX7_forgotten_120 : decode cX7_forgotten 120 = .ok (.iload 9, 2) := by decide +kernel
theorem dX7_forgotten_122 : decode cX7_forgotten 122 = .ok (.ishr, 1) := by decide +kernel
theorem dX7_forgotten_123 : decode cX7_forgotten 123 = .ok (.iconst 1, 1) := by decide +kernel
theorem dX7_forgotten_124 : decode cX7_forgotten 124 = .ok (.iand, 1) := by decide +kernel
theorem dX7_forgotten_125 : decode cX7_forgotten 125 = .ok (.iconst 1, 1) := by decide +kernel
theorem dX7_forgotten_126 : decode cX7_forgotten 126 = .ok (.if_icmp .eq 22, 3) := by decide +kernel
theorem dX7_forgotten_129 : decode cX7_forgotten 129 = .ok (.aload_n 0, 1) := by decide +kernel
theorem dX7_forgotten_130 : decode cX7_forgotten 130 = .ok (.iload 9, 2) := by decide +kernel
theorem dX7_forgotten_132 : decode cX7_forgotten 132 = .ok (.iload_n 2, 1) := by decide +kernel
theorem dX7_forgotten_133 : decode cX7_forgotten 133 = .ok (.iload 7, 2) := by decide +kernel
theorem dX7_forgotten_135 : decode cX7_forgotten 135 = .ok (.ior, 1) := by decide +kernel
theorem dX7_forgotten_136 : decode cX7_forgotten 136 = .ok (.aload_n 0, 1) := by decide +kernel
theorem dX7_forgotten_137 : decode cX7_forgotten 137 = .ok (.getfield 116, 3) := by decide +kernel
theorem dX7_forgotten_140 : decode cX7_forgotten 140 = .ok (.invokevirtual 105, 3) := by decide +kernel
theorem dX7_forgotten_143 : decode cX7_forgotten 143 = .ok (.iload 10, 2) := by decide +kernel
theorem dX7_forgotten_145 : decode cX7_forgotten 145 = .ok (.if_icmp .ne 7, 3) := by decide +kernel
theorem dX7_forgotten_148 : decode cX7_forgotten 148 = .ok (.iconst 1, 1) := by decide +kernel
theorem dX7_forgotten_149 : decode cX7_forgotten 149 = .ok (.goto 4, 3) := by decide +kernel
theorem dX7_forgotten_152 : decode cX7_forgotten 152 = .ok (.iconst 0, 1) := by decide +kernel
theorem dX7_forgotten_153 : decode cX7_forgotten 153 = .ok (.istore 8, 2) := by decide +kernel
theorem dX7_forgotten_155 : decode cX7_forgotten 155 = .ok (.iinc 9 1, 3) := by decide +kernel
theorem dX7_forgotten_158 : decode cX7_forgotten 158 = .ok (.goto (-71), 3) := by decide +kernel
theorem dX7_forgotten_161 : decode cX7_forgotten 161 = .ok (.iload 5, 2) := by decide +kernel
theorem dX7_forgotten_163 : decode cX7_forgotten 163 = .ok (.iload 8, 2) := by decide +kernel
theorem dX7_forgotten_165 : decode cX7_forgotten 165 = .ok (.ifCond .eq 7, 3) := by decide +kernel
theorem dX7_forgotten_168 : decode cX7_forgotten 168 = .ok (.iconst 1, 1) := by decide +kernel
theorem dX7_forgotten_169 : decode cX7_forgotten 169 = .ok (.goto 4, 3) := by decide +kernel
theorem dX7_forgotten_172 : decode cX7_forgotten 172 = .ok (.iconst 0, 1) := by decide +kernel
theorem dX7_forgotten_173 : decode cX7_forgotten 173 = .ok (.iadd, 1) := by decide +kernel
theorem dX7_forgotten_174 : decode cX7_forgotten 174 = .ok (.istore 5, 2) := by decide +kernel
theorem dX7_forgotten_176 : decode cX7_forgotten 176 = .ok (.iload 6, 2) := by decide +kernel
theorem dX7_forgotten_178 : decode cX7_forgotten 178 = .ok (.iload 8, 2) := by decide +kernel
theorem dX7_forgotten_180 : decode cX7_forgotten 180 = .ok (.ifCond .eq 8, 3) := by decide +kernel
theorem dX7_forgotten_183 : decode cX7_forgotten 183 = .ok (.iload 7, 2) := by decide +kernel
theorem dX7_forgotten_185 : decode cX7_forgotten 185 = .ok (.goto 4, 3) := by decide +kernel
theorem dX7_forgotten_188 : decode cX7_forgotten 188 = .ok (.iconst (-1), 1) := by decide +kernel
theorem dX7_forgotten_189 : decode cX7_forgotten 189 = .ok (.iand, 1) := by decide +kernel
theorem dX7_forgotten_190 : decode cX7_forgotten 190 = .ok (.istore 6, 2) := by decide +kernel
theorem dX7_forgotten_192 : decode cX7_forgotten 192 = .ok (.iinc 7 1, 3) := by decide +kernel
theorem dX7_forgotten_195 : decode cX7_forgotten 195 = .ok (.goto (-135), 3) := by decide +kernel
theorem dX7_forgotten_198 : decode cX7_forgotten 198 = .ok (.iload_n 3, 1) := by decide +kernel
theorem dX7_forgotten_199 : decode cX7_forgotten 199 = .ok (.ifCond .ne 8, 3) := by decide +kernel
theorem dX7_forgotten_202 : decode cX7_forgotten 202 = .ok (.iload 5, 2) := by decide +kernel
theorem dX7_forgotten_204 : decode cX7_forgotten 204 = .ok (.goto 15, 3) := by decide +kernel
theorem dX7_forgotten_207 : decode cX7_forgotten 207 = .ok (.iload 5, 2) := by decide +kernel
theorem dX7_forgotten_209 : decode cX7_forgotten 209 = .ok (.ifCond .ne 8, 3) := by decide +kernel
theorem dX7_forgotten_212 : decode cX7_forgotten 212 = .ok (.bipush (-4), 2) := by decide +kernel
theorem dX7_forgotten_214 : decode cX7_forgotten 214 = .ok (.goto 5, 3) := by decide +kernel
theorem dX7_forgotten_217 : decode cX7_forgotten 217 = .ok (.iload 6, 2) := by decide +kernel
theorem dX7_forgotten_219 : decode cX7_forgotten 219 = .ok (.ireturn, 1) := by decide +kernel
theorem dX7_expects_0 : decode cX7_expects 0 = .ok (.lconst 0, 1) := by decide +kernel
theorem dX7_expects_1 : decode cX7_expects 1 = .ok (.lstore_n 1, 1) := by decide +kernel
theorem dX7_expects_2 : decode cX7_expects 2 = .ok (.lconst 1, 1) := by decide +kernel
theorem dX7_expects_3 : decode cX7_expects 3 = .ok (.lstore_n 3, 1) := by decide +kernel
theorem dX7_expects_4 : decode cX7_expects 4 = .ok (.iconst 0, 1) := by decide +kernel
theorem dX7_expects_5 : decode cX7_expects 5 = .ok (.istore 5, 2) := by decide +kernel
theorem dX7_expects_7 : decode cX7_expects 7 = .ok (.iload 5, 2) := by decide +kernel
theorem dX7_expects_9 : decode cX7_expects 9 = .ok (.aload_n 0, 1) := by decide +kernel
theorem dX7_expects_10 : decode cX7_expects 10 = .ok (.getfield 84, 3) := by decide +kernel
theorem dX7_expects_13 : decode cX7_expects 13 = .ok (.if_icmp .ge 15, 3) := by decide +kernel
theorem dX7_expects_16 : decode cX7_expects 16 = .ok (.lload_n 3, 1) := by decide +kernel
theorem dX7_expects_17 : decode cX7_expects 17 = .ok (.ldc2_w 91, 3) := by decide +kernel
theorem dX7_expects_20 : decode cX7_expects 20 = .ok (.lmul, 1) := by decide +kernel
theorem dX7_expects_21 : decode cX7_expects 21 = .ok (.lstore_n 3, 1) := by decide +kernel
theorem dX7_expects_22 : decode cX7_expects 22 = .ok (.iinc 5 1, 3) := by decide +kernel
theorem dX7_expects_25 : decode cX7_expects 25 = .ok (.goto (-18), 3) := by decide +kernel
theorem dX7_expects_28 : decode cX7_expects 28 = .ok (.iconst 0, 1) := by decide +kernel
theorem dX7_expects_29 : decode cX7_expects 29 = .ok (.istore 5, 2) := by decide +kernel
theorem dX7_expects_31 : decode cX7_expects 31 = .ok (.iload 5, 2) := by decide +kernel
theorem dX7_expects_33 : decode cX7_expects 33 = .ok (.iconst 1, 1) := by decide +kernel
theorem dX7_expects_34 : decode cX7_expects 34 = .ok (.aload_n 0, 1) := by decide +kernel
theorem dX7_expects_35 : decode cX7_expects 35 = .ok (.getfield 84, 3) := by decide +kernel
theorem dX7_expects_38 : decode cX7_expects 38 = .ok (.ishl, 1) := by decide +kernel
theorem dX7_expects_39 : decode cX7_expects 39 = .ok (.if_icmp .ge 168, 3) := by decide +kernel
theorem dX7_expects_42 : decode cX7_expects 42 = .ok (.lconst 1, 1) := by decide +kernel
theorem dX7_expects_43 : decode cX7_expects 43 = .ok (.lstore 6, 2) := by decide +kernel
theorem dX7_expects_45 : decode cX7_expects 45 = .ok (.iconst 0, 1) := by decide +kernel
theorem dX7_expects_46 : decode cX7_expects 46 = .ok (.istore 8, 2) := by decide +kernel
theorem dX7_expects_48 : decode cX7_expects 48 = .ok (.iconst 0, 1) := by decide +kernel
theorem dX7_expects_49 : decode cX7_expects 49 = .ok (.istore 9, 2) := by decide +kernel
theorem dX7_expects_51 : decode cX7_expects 51 = .ok (.iload 9, 2) := by decide +kernel
theorem dX7_expects_53 : decode cX7_expects 53 = .ok (.aload_n 0, 1) := by decide +kernel
theorem dX7_expects_54 : decode cX7_expects 54 = .ok (.getfield 84, 3) := by decide +kernel
theorem dX7_expects_57 : decode cX7_expects 57 = .ok (.if_icmp .ge 135, 3) := by decide +kernel
theorem dX7_expects_60 : decode cX7_expects 60 = .ok (.iload 5, 2) := by decide +kernel
theorem dX7_expects_62 : decode cX7_expects 62 = .ok (.iload 9, 2) := by decide +kernel
theorem dX7_expects_64 : decode cX7_expects 64 = .ok (.ishr, 1) := by decide +kernel
theorem dX7_expects_65 : decode cX7_expects 65 = .ok (.iconst 1, 1) := by decide +kernel
theorem dX7_expects_66 : decode cX7_expects 66 = .ok (.iand, 1) := by decide +kernel
theorem dX7_expects_67 : decode cX7_expects 67 = .ok (.iconst 1, 1) := by decide +kernel
theorem dX7_expects_68 : decode cX7_expects 68 = .ok (.if_icmp .ne 7, 3) := by decide +kernel
theorem dX7_expects_71 : decode cX7_expects 71 = .ok (.iconst 1, 1) := by decide +kernel
theorem dX7_expects_72 : decode cX7_expects 72 = .ok (.goto 4, 3) := by decide +kernel
theorem dX7_expects_75 : decode cX7_expects 75 = .ok (.iconst 0, 1) := by decide +kernel
theorem dX7_expects_76 : decode cX7_expects 76 = .ok (.istore 10, 2) := by decide +kernel
theorem dX7_expects_78 : decode cX7_expects 78 = .ok (.lload 6, 2) := by decide +kernel
theorem dX7_expects_80 : decode cX7_expects 80 = .ok (.aload_n 0, 1) := by decide +kernel
theorem dX7_expects_81 : decode cX7_expects 81 = .ok (.iload 9, 2) := by decide +kernel
theorem dX7_expects_83 : decode cX7_expects 83 = .ok (.iload 5, 2) := by decide +kernel
theorem dX7_expects_85 : decode cX7_expects 85 = .ok (.iconst 1, 1) := by decide +kernel
theorem dX7_expects_86 : decode cX7_expects 86 = .ok (.iload 9, 2) := by decide +kernel
theorem dX7_expects_88 : decode cX7_expects 88 = .ok (.ishl, 1) := by decide +kernel
theorem dX7_expects_89 : decode cX7_expects 89 = .ok (.iconst 1, 1) := by decide +kernel
theorem dX7_expects_90 : decode cX7_expects 90 = .ok (.isub, 1) := by decide +kernel
theorem dX7_expects_91 : decode cX7_expects 91 = .ok (.iand, 1) := by decide +kernel
theorem dX7_expects_92 : decode cX7_expects 92 = .ok (.aload_n 0, 1) := by decide +kernel
theorem dX7_expects_93 : decode cX7_expects 93 = .ok (.getfield 116, 3) := by decide +kernel
theorem dX7_expects_96 : decode cX7_expects 96 = .ok (.invokevirtual 105, 3) := by decide +kernel
theorem dX7_expects_99 : decode cX7_expects 99 = .ok (.ifCond .eq 32, 3) := by decide +kernel
theorem dX7_expects_102 : decode cX7_expects 102 = .ok (.iload 10, 2) := by decide +kernel
theorem dX7_expects_104 : decode cX7_expects 104 = .ok (.ifCond .eq 14, 3) := by decide +kernel
theorem dX7_expects_107 : decode cX7_expects 107 = .ok (.aload_n 0, 1) := by decide +kernel
theorem dX7_expects_108 : decode cX7_expects 108 = .ok (.getfield 22, 3) := by decide +kernel
theorem dX7_expects_111 : decode cX7_expects 111 = .ok (.iload 9, 2) := by decide +kernel
theorem dX7_expects_113 : decode cX7_expects 113 = .ok (.iaload, 1) := by decide +kernel
theorem dX7_expects_114 : decode cX7_expects 114 = .ok (.i2l, 1) := by decide +kernel
theorem dX7_expects_115 : decode cX7_expects 115 = .ok (.goto 28, 3) := by decide +kernel
theorem dX7_expects_118 : decode cX7_expects 118 = .ok (.iconst 4, 1) := by decide +kernel
theorem dX7_expects_119 : decode cX7_expects 119 = .ok (.aload_n 0, 1) := by decide +kernel
theorem dX7_expects_120 : decode cX7_expects 120 = .ok (.getfield 22, 3) := by decide +kernel
theorem dX7_expects_123 : decode cX7_expects 123 = .ok (.iload 9, 2) := by decide +kernel
theorem dX7_expects_125 : decode cX7_expects 125 = .ok (.iaload, 1) := by decide +kernel
theorem dX7_expects_126 : decode cX7_expects 126 = .ok (.isub, 1) := by decide +kernel
theorem dX7_expects_127 : decode cX7_expects 127 = .ok (.i2l, 1) := by decide +kernel
theorem dX7_expects_128 : decode cX7_expects 128 = .ok (.goto 15, 3) := by decide +kernel
theorem dX7_expects_131 : decode cX7_expects 131 = .ok (.iload 10, 2) := by decide +kernel
theorem dX7_expects_133 : decode cX7_expects 133 = .ok (.ifCond .eq 7, 3) := by decide +kernel
theorem dX7_expects_136 : decode cX7_expects 136 = .ok (.lconst 0, 1) := by decide +kernel
theorem dX7_expects_137 : decode cX7_expects 137 = .ok (.goto 6, 3) := by decide +kernel
theorem dX7_expects_140 : decode cX7_expects 140 = .ok (.ldc2_w 91, 3) := by decide +kernel
theorem dX7_expects_143 : decode cX7_expects 143 = .ok (.lmul, 1) := by decide +kernel
theorem dX7_expects_144 : decode cX7_expects 144 = .ok (.lstore 6, 2) := by decide +kernel
theorem dX7_expects_146 : decode cX7_expects 146 = .ok (.iconst 0, 1) := by decide +kernel
theorem dX7_expects_147 : decode cX7_expects 147 = .ok (.istore 11, 2) := by decide +kernel
theorem dX7_expects_149 : decode cX7_expects 149 = .ok (.iload 11, 2) := by decide +kernel
theorem dX7_expects_151 : decode cX7_expects 151 = .ok (.aload_n 0, 1) := by decide +kernel
theorem dX7_expects_152 : decode cX7_expects 152 = .ok (.getfield 77, 3) := by decide +kernel
theorem dX7_expects_155 : decode cX7_expects 155 = .ok (.if_icmp .ge 31, 3) := by decide +kernel
theorem dX7_expects_158 : decode cX7_expects 158 = .ok (.iload 10, 2) := by decide +kernel
theorem dX7_expects_160 : decode cX7_expects 160 = .ok (.ifCond .eq 26, 3) := by decide +kernel
theorem dX7_expects_163 : decode cX7_expects 163 = .ok (.iload 8, 2) := by decide +kernel
theorem dX7_expects_165 : decode cX7_expects 165 = .ok (.aload_n 0, 1) := by decide +kernel
theorem dX7_expects_166 : decode cX7_expects 166 = .ok (.getfield 25, 3) := by decide +kernel
theorem dX7_expects_169 : decode cX7_expects 169 = .ok (.iconst 4, 1) := by decide +kernel
theorem dX7_expects_170 : decode cX7_expects 170 = .ok (.iload 9, 2) := by decide +kernel
theorem dX7_expects_172 : decode cX7_expects 172 = .ok (.imul, 1) := by decide +kernel
theorem dX7_expects_173 : decode cX7_expects 173 = .ok (.iload 11, 2) := by decide +kernel
theorem dX7_expects_175 : decode cX7_expects 175 = .ok (.iadd, 1) := by decide +kernel
theorem dX7_expects_176 : decode cX7_expects 176 = .ok (.iaload, 1) := by decide +kernel
theorem dX7_expects_177 : decode cX7_expects 177 = .ok (.iadd, 1) := by decide +kernel
theorem dX7_expects_178 : decode cX7_expects 178 = .ok (.istore 8, 2) := by decide +kernel
theorem dX7_expects_180 : decode cX7_expects 180 = .ok (.iinc 11 1, 3) := by decide +kernel
theorem dX7_expects_183 : decode cX7_expects 183 = .ok (.goto (-34), 3) := by decide +kernel
theorem dX7_expects_186 : decode cX7_expects 186 = .ok (.iinc 9 1, 3) := by decide +kernel
theorem dX7_expects_189 : decode cX7_expects 189 = .ok (.goto (-138), 3) := by decide +kernel
theorem dX7_expects_192 : decode cX7_expects 192 = .ok (.lload_n 1, 1) := by decide +kernel
theorem dX7_expects_193 : decode cX7_expects 193 = .ok (.lload 6, 2) := by decide +kernel
theorem dX7_expects_195 : decode cX7_expects 195 = .ok (.iload 8, 2) := by decide +kernel
theorem dX7_expects_197 : decode cX7_expects 197 = .ok (.i2l, 1) := by decide +kernel
theorem dX7_expects_198 : decode cX7_expects 198 = .ok (.lmul, 1) := by decide +kernel
theorem dX7_expects_199 : decode cX7_expects 199 = .ok (.ladd, 1) := by decide +kernel
theorem dX7_expects_200 : decode cX7_expects 200 = .ok (.lstore_n 1, 1) := by decide +kernel
theorem dX7_expects_201 : decode cX7_expects 201 = .ok (.iinc 5 1, 3) := by decide +kernel
theorem dX7_expects_204 : decode cX7_expects 204 = .ok (.goto (-173), 3) := by decide +kernel
theorem dX7_expects_207 : decode cX7_expects 207 = .ok (.lload_n 1, 1) := by decide +kernel
theorem dX7_expects_208 : decode cX7_expects 208 = .ok (.lconst 0, 1) := by decide +kernel
theorem dX7_expects_209 : decode cX7_expects 209 = .ok (.lcmp, 1) := by decide +kernel
theorem dX7_expects_210 : decode cX7_expects 210 = .ok (.ifCond .ge 8, 3) := by decide +kernel
theorem dX7_expects_213 : decode cX7_expects 213 = .ok (.lload_n 1, 1) := by decide +kernel
theorem dX7_expects_214 : decode cX7_expects 214 = .ok (.lneg, 1) := by decide +kernel
theorem dX7_expects_215 : decode cX7_expects 215 = .ok (.goto 4, 3) := by decide +kernel
theorem dX7_expects_218 : decode cX7_expects 218 = .ok (.lload_n 1, 1) := by decide +kernel
theorem dX7_expects_219 : decode cX7_expects 219 = .ok (.lstore 5, 2) := by decide +kernel
theorem dX7_expects_221 : decode cX7_expects 221 = .ok (.lload_n 3, 1) := by decide +kernel
theorem dX7_expects_222 : decode cX7_expects 222 = .ok (.lstore 7, 2) := by decide +kernel
theorem dX7_expects_224 : decode cX7_expects 224 = .ok (.lload 5, 2) := by decide +kernel
theorem dX7_expects_226 : decode cX7_expects 226 = .ok (.lconst 0, 1) := by decide +kernel
theorem dX7_expects_227 : decode cX7_expects 227 = .ok (.lcmp, 1) := by decide +kernel
theorem dX7_expects_228 : decode cX7_expects 228 = .ok (.ifCond .le 21, 3) := by decide +kernel
theorem dX7_expects_231 : decode cX7_expects 231 = .ok (.lload 7, 2) := by decide +kernel
theorem dX7_expects_233 : decode cX7_expects 233 = .ok (.lload 5, 2) := by decide +kernel
theorem dX7_expects_235 : decode cX7_expects 235 = .ok (.lrem, 1) := by decide +kernel
theorem dX7_expects_236 : decode cX7_expects 236 = .ok (.lstore 9, 2) := by decide +kernel
theorem dX7_expects_238 : decode cX7_expects 238 = .ok (.lload 5, 2) := by decide +kernel
theorem dX7_expects_240 : decode cX7_expects 240 = .ok (.lstore 7, 2) := by decide +kernel
theorem dX7_expects_242 : decode cX7_expects 242 = .ok (.lload 9, 2) := by decide +kernel
theorem dX7_expects_244 : decode cX7_expects 244 = .ok (.lstore 5, 2) := by decide +kernel
theorem dX7_expects_246 : decode cX7_expects 246 = .ok (.goto (-22), 3) := by decide +kernel
theorem dX7_expects_249 : decode cX7_expects 249 = .ok (.aload_n 0, 1) := by decide +kernel
theorem dX7_expects_250 : decode cX7_expects 250 = .ok (.lload_n 1, 1) := by decide +kernel
theorem dX7_expects_251 : decode cX7_expects 251 = .ok (.lload 7, 2) := by decide +kernel
theorem dX7_expects_253 : decode cX7_expects 253 = .ok (.ldiv, 1) := by decide +kernel
theorem dX7_expects_254 : decode cX7_expects 254 = .ok (.putfield 207, 3) := by decide +kernel
theorem dX7_expects_257 : decode cX7_expects 257 = .ok (.aload_n 0, 1) := by decide +kernel
theorem dX7_expects_258 : decode cX7_expects 258 = .ok (.lload_n 3, 1) := by decide +kernel
theorem dX7_expects_259 : decode cX7_expects 259 = .ok (.lload 7, 2) := by decide +kernel
theorem dX7_expects_261 : decode cX7_expects 261 = .ok (.ldiv, 1) := by decide +kernel
theorem dX7_expects_262 : decode cX7_expects 262 = .ok (.putfield 211, 3) := by decide +kernel
theorem dX7_expects_265 : decode cX7_expects 265 = .ok (.return_, 1) := by decide +kernel
theorem dX7_upper_0 : decode cX7_upper 0 = .ok (.aload_n 0, 1) := by decide +kernel
theorem dX7_upper_1 : decode cX7_upper 1 = .ok (.invokevirtual 214, 3) := by decide +kernel
theorem dX7_upper_4 : decode cX7_upper 4 = .ok (.aload_n 0, 1) := by decide +kernel
theorem dX7_upper_5 : decode cX7_upper 5 = .ok (.getfield 207, 3) := by decide +kernel
theorem dX7_upper_8 : decode cX7_upper 8 = .ok (.lreturn, 1) := by decide +kernel
theorem dX7_lower_0 : decode cX7_lower 0 = .ok (.aload_n 0, 1) := by decide +kernel
theorem dX7_lower_1 : decode cX7_lower 1 = .ok (.invokevirtual 214, 3) := by decide +kernel
theorem dX7_lower_4 : decode cX7_lower 4 = .ok (.aload_n 0, 1) := by decide +kernel
theorem dX7_lower_5 : decode cX7_lower 5 = .ok (.getfield 211, 3) := by decide +kernel
theorem dX7_lower_8 : decode cX7_lower 8 = .ok (.lreturn, 1) := by decide +kernel
theorem dX7_comes_0 : decode cX7_comes 0 = .ok (.iload_n 1, 1) := by decide +kernel
theorem dX7_comes_1 : decode cX7_comes 1 = .ok (.i2l, 1) := by decide +kernel
theorem dX7_comes_2 : decode cX7_comes 2 = .ok (.lconst 0, 1) := by decide +kernel
theorem dX7_comes_3 : decode cX7_comes 3 = .ok (.ldc2_w 91, 3) := by decide +kernel
theorem dX7_comes_6 : decode cX7_comes 6 = .ok (.invokestatic 87, 3) := by decide +kernel
theorem dX7_comes_9 : decode cX7_comes 9 = .ok (.ifCond .eq 13, 3) := by decide +kernel
theorem dX7_comes_12 : decode cX7_comes 12 = .ok (.iload_n 2, 1) := by decide +kernel
theorem dX7_comes_13 : decode cX7_comes 13 = .ok (.i2l, 1) := by decide +kernel
theorem dX7_comes_14 : decode cX7_comes 14 = .ok (.lconst 0, 1) := by decide +kernel
theorem dX7_comes_15 : decode cX7_comes 15 = .ok (.lconst 1, 1) := by decide +kernel
theorem dX7_comes_16 : decode cX7_comes 16 = .ok (.invokestatic 87, 3) := by decide +kernel
theorem dX7_comes_19 : decode cX7_comes 19 = .ok (.ifCond .ne 5, 3) := by decide +kernel
theorem dX7_comes_22 : decode cX7_comes 22 = .ok (.iconst (-1), 1) := by decide +kernel
theorem dX7_comes_23 : decode cX7_comes 23 = .ok (.ireturn, 1) := by decide +kernel
theorem dX7_comes_24 : decode cX7_comes 24 = .ok (.aload_n 0, 1) := by decide +kernel
theorem dX7_comes_25 : decode cX7_comes 25 = .ok (.getfield 58, 3) := by decide +kernel
theorem dX7_comes_28 : decode cX7_comes 28 = .ok (.iconst 0, 1) := by decide +kernel
theorem dX7_comes_29 : decode cX7_comes 29 = .ok (.aload_n 0, 1) := by decide +kernel
theorem dX7_comes_30 : decode cX7_comes 30 = .ok (.getfield 116, 3) := by decide +kernel
theorem dX7_comes_33 : decode cX7_comes 33 = .ok (.iastore, 1) := by decide +kernel
theorem dX7_comes_34 : decode cX7_comes 34 = .ok (.iconst 1, 1) := by decide +kernel
theorem dX7_comes_35 : decode cX7_comes 35 = .ok (.istore_n 3, 1) := by decide +kernel
theorem dX7_comes_36 : decode cX7_comes 36 = .ok (.iload_n 3, 1) := by decide +kernel
theorem dX7_comes_37 : decode cX7_comes 37 = .ok (.bipush 60, 2) := by decide +kernel
theorem dX7_comes_39 : decode cX7_comes 39 = .ok (.if_icmp .gt 85, 3) := by decide +kernel
theorem dX7_comes_42 : decode cX7_comes 42 = .ok (.aload_n 0, 1) := by decide +kernel
theorem dX7_comes_43 : decode cX7_comes 43 = .ok (.getfield 58, 3) := by decide +kernel
theorem dX7_comes_46 : decode cX7_comes 46 = .ok (.iload_n 3, 1) := by decide +kernel
theorem dX7_comes_47 : decode cX7_comes 47 = .ok (.aload_n 0, 1) := by decide +kernel
theorem dX7_comes_48 : decode cX7_comes 48 = .ok (.aload_n 0, 1) := by decide +kernel
theorem dX7_comes_49 : decode cX7_comes 49 = .ok (.iload_n 1, 1) := by decide +kernel
theorem dX7_comes_50 : decode cX7_comes 50 = .ok (.iconst 0, 1) := by decide +kernel
theorem dX7_comes_51 : decode cX7_comes 51 = .ok (.aload_n 0, 1) := by decide +kernel
theorem dX7_comes_52 : decode cX7_comes 52 = .ok (.getfield 58, 3) := by decide +kernel
theorem dX7_comes_55 : decode cX7_comes 55 = .ok (.iload_n 3, 1) := by decide +kernel
theorem dX7_comes_56 : decode cX7_comes 56 = .ok (.iconst 1, 1) := by decide +kernel
theorem dX7_comes_57 : decode cX7_comes 57 = .ok (.isub, 1) := by decide +kernel
theorem dX7_comes_58 : decode cX7_comes 58 = .ok (.iaload, 1) := by decide +kernel
theorem dX7_comes_59 : decode cX7_comes 59 = .ok (.invokevirtual 191, 3) := by decide +kernel
theorem dX7_comes_62 : decode cX7_comes 62 = .ok (.aload_n 0, 1) := by decide +kernel
theorem dX7_comes_63 : decode cX7_comes 63 = .ok (.getfield 58, 3) := by decide +kernel
theorem dX7_comes_66 : decode cX7_comes 66 = .ok (.iload_n 3, 1) := by decide +kernel
theorem dX7_comes_67 : decode cX7_comes 67 = .ok (.iconst 1, 1) := by decide +kernel
theorem dX7_comes_68 : decode cX7_comes 68 = .ok (.isub, 1) := by decide +kernel
theorem dX7_comes_69 : decode cX7_comes 69 = .ok (.iaload, 1) := by decide +kernel
theorem dX7_comes_70 : decode cX7_comes 70 = .ok (.invokevirtual 119, 3) := by decide +kernel
theorem dX7_comes_73 : decode cX7_comes 73 = .ok (.iastore, 1) := by decide +kernel
theorem dX7_comes_74 : decode cX7_comes 74 = .ok (.iconst 0, 1) := by decide +kernel
theorem dX7_comes_75 : decode cX7_comes 75 = .ok (.istore 4, 2) := by decide +kernel
theorem dX7_comes_77 : decode cX7_comes 77 = .ok (.iload 4, 2) := by decide +kernel
theorem dX7_comes_79 : decode cX7_comes 79 = .ok (.iload_n 3, 1) := by decide +kernel
theorem dX7_comes_80 : decode cX7_comes 80 = .ok (.if_icmp .ge 38, 3) := by decide +kernel
theorem dX7_comes_83 : decode cX7_comes 83 = .ok (.aload_n 0, 1) := by decide +kernel
theorem dX7_comes_84 : decode cX7_comes 84 = .ok (.getfield 58, 3) := by decide +kernel
theorem dX7_comes_87 : decode cX7_comes 87 = .ok (.iload 4, 2) := by decide +kernel
theorem dX7_comes_89 : decode cX7_comes 89 = .ok (.iaload, 1) := by decide +kernel
theorem dX7_comes_90 : decode cX7_comes 90 = .ok (.aload_n 0, 1) := by decide +kernel
theorem dX7_comes_91 : decode cX7_comes 91 = .ok (.getfield 58, 3) := by decide +kernel
theorem dX7_comes_94 : decode cX7_comes 94 = .ok (.iload_n 3, 1) := by decide +kernel
theorem dX7_comes_95 : decode cX7_comes 95 = .ok (.iaload, 1) := by decide +kernel
theorem dX7_comes_96 : decode cX7_comes 96 = .ok (.if_icmp .ne 16, 3) := by decide +kernel
theorem dX7_comes_99 : decode cX7_comes 99 = .ok (.iload_n 2, 1) := by decide +kernel
theorem dX7_comes_100 : decode cX7_comes 100 = .ok (.ifCond .ne 7, 3) := by decide +kernel
theorem dX7_comes_103 : decode cX7_comes 103 = .ok (.iload_n 3, 1) := by decide +kernel
theorem dX7_comes_104 : decode cX7_comes 104 = .ok (.goto 7, 3) := by decide +kernel
theorem dX7_comes_107 : decode cX7_comes 107 = .ok (.iload_n 3, 1) := by decide +kernel
theorem dX7_comes_108 : decode cX7_comes 108 = .ok (.iload 4, 2) := by decide +kernel
theorem dX7_comes_110 : decode cX7_comes 110 = .ok (.isub, 1) := by decide +kernel
theorem dX7_comes_111 : decode cX7_comes 111 = .ok (.ireturn, 1) := by decide +kernel
theorem dX7_comes_112 : decode cX7_comes 112 = .ok (.iinc 4 1, 3) := by decide +kernel
theorem dX7_comes_115 : decode cX7_comes 115 = .ok (.goto (-38), 3) := by decide +kernel
theorem dX7_comes_118 : decode cX7_comes 118 = .ok (.iinc 3 1, 3) := by decide +kernel
theorem dX7_comes_121 : decode cX7_comes 121 = .ok (.goto (-85), 3) := by decide +kernel
theorem dX7_comes_124 : decode cX7_comes 124 = .ok (.bipush (-4), 2) := by decide +kernel
theorem dX7_comes_126 : decode cX7_comes 126 = .ok (.ireturn, 1) := by decide +kernel
theorem dX7_notes_0 : decode cX7_notes 0 = .ok (.iconst 0, 1) := by decide +kernel
theorem dX7_notes_1 : decode cX7_notes 1 = .ok (.istore_n 3, 1) := by decide +kernel
theorem dX7_notes_2 : decode cX7_notes 2 = .ok (.iload_n 3, 1) := by decide +kernel
theorem dX7_notes_3 : decode cX7_notes 3 = .ok (.aload_n 1, 1) := by decide +kernel
theorem dX7_notes_4 : decode cX7_notes 4 = .ok (.arraylength, 1) := by decide +kernel
theorem dX7_notes_5 : decode cX7_notes 5 = .ok (.if_icmp .ge 20, 3) := by decide +kernel
theorem dX7_notes_8 : decode cX7_notes 8 = .ok (.aload_n 0, 1) := by decide +kernel
theorem dX7_notes_9 : decode cX7_notes 9 = .ok (.getfield 61, 3) := by decide +kernel
theorem dX7_notes_12 : decode cX7_notes 12 = .ok (.iload_n 2, 1) := by decide +kernel
theorem dX7_notes_13 : decode cX7_notes 13 = .ok (.iload_n 3, 1) := by decide +kernel
theorem dX7_notes_14 : decode cX7_notes 14 = .ok (.iadd, 1) := by decide +kernel
theorem dX7_notes_15 : decode cX7_notes 15 = .ok (.aload_n 1, 1) := by decide +kernel
theorem dX7_notes_16 : decode cX7_notes 16 = .ok (.iload_n 3, 1) := by decide +kernel
theorem dX7_notes_17 : decode cX7_notes 17 = .ok (.iaload, 1) := by decide +kernel
theorem dX7_notes_18 : decode cX7_notes 18 = .ok (.iastore, 1) := by decide +kernel
theorem dX7_notes_19 : decode cX7_notes 19 = .ok (.iinc 3 1, 3) := by decide +kernel
theorem dX7_notes_22 : decode cX7_notes 22 = .ok (.goto (-20), 3) := by decide +kernel
theorem dX7_notes_25 : decode cX7_notes 25 = .ok (.iload_n 2, 1) := by decide +kernel
theorem dX7_notes_26 : decode cX7_notes 26 = .ok (.aload_n 1, 1) := by decide +kernel
theorem dX7_notes_27 : decode cX7_notes 27 = .ok (.arraylength, 1) := by decide +kernel
theorem dX7_notes_28 : decode cX7_notes 28 = .ok (.iadd, 1) := by decide +kernel
theorem dX7_notes_29 : decode cX7_notes 29 = .ok (.ireturn, 1) := by decide +kernel
theorem dX7_gives_0 : decode cX7_gives 0 = .ok (.iconst 0, 1) := by decide +kernel
theorem dX7_gives_1 : decode cX7_gives 1 = .ok (.istore_n 3, 1) := by decide +kernel
theorem dX7_gives_2 : decode cX7_gives 2 = .ok (.iload_n 3, 1) := by decide +kernel
theorem dX7_gives_3 : decode cX7_gives 3 = .ok (.aload_n 2, 1) := by decide +kernel
theorem dX7_gives_4 : decode cX7_gives 4 = .ok (.arraylength, 1) := by decide +kernel
theorem dX7_gives_5 : decode cX7_gives 5 = .ok (.if_icmp .ge 20, 3) := by decide +kernel
theorem dX7_gives_8 : decode cX7_gives 8 = .ok (.aload_n 2, 1) := by decide +kernel
theorem dX7_gives_9 : decode cX7_gives 9 = .ok (.iload_n 3, 1) := by decide +kernel
theorem dX7_gives_10 : decode cX7_gives 10 = .ok (.aload_n 0, 1) := by decide +kernel
theorem dX7_gives_11 : decode cX7_gives 11 = .ok (.getfield 61, 3) := by decide +kernel
theorem dX7_gives_14 : decode cX7_gives 14 = .ok (.iload_n 1, 1) := by decide +kernel
theorem dX7_gives_15 : decode cX7_gives 15 = .ok (.iload_n 3, 1) := by decide +kernel
theorem dX7_gives_16 : decode cX7_gives 16 = .ok (.iadd, 1) := by decide +kernel
theorem dX7_gives_17 : decode cX7_gives 17 = .ok (.iaload, 1) := by decide +kernel
theorem dX7_gives_18 : decode cX7_gives 18 = .ok (.iastore, 1) := by decide +kernel
theorem dX7_gives_19 : decode cX7_gives 19 = .ok (.iinc 3 1, 3) := by decide +kernel
theorem dX7_gives_22 : decode cX7_gives 22 = .ok (.goto (-20), 3) := by decide +kernel
theorem dX7_gives_25 : decode cX7_gives 25 = .ok (.iload_n 1, 1) := by decide +kernel
theorem dX7_gives_26 : decode cX7_gives 26 = .ok (.aload_n 2, 1) := by decide +kernel
theorem dX7_gives_27 : decode cX7_gives 27 = .ok (.arraylength, 1) := by decide +kernel
theorem dX7_gives_28 : decode cX7_gives 28 = .ok (.iadd, 1) := by decide +kernel
theorem dX7_gives_29 : decode cX7_gives 29 = .ok (.ireturn, 1) := by decide +kernel
theorem dX7_image_0 : decode cX7_image 0 = .ok (.aload_n 0, 1) := by decide +kernel
theorem dX7_image_1 : decode cX7_image 1 = .ok (.getfield 61, 3) := by decide +kernel
theorem dX7_image_4 : decode cX7_image 4 = .ok (.iconst 0, 1) := by decide +kernel
theorem dX7_image_5 : decode cX7_image 5 = .ok (.aload_n 0, 1) := by decide +kernel
theorem dX7_image_6 : decode cX7_image 6 = .ok (.getfield 77, 3) := by decide +kernel
theorem dX7_image_9 : decode cX7_image 9 = .ok (.iastore, 1) := by decide +kernel
theorem dX7_image_10 : decode cX7_image 10 = .ok (.aload_n 0, 1) := by decide +kernel
theorem dX7_image_11 : decode cX7_image 11 = .ok (.getfield 61, 3) := by decide +kernel
theorem dX7_image_14 : decode cX7_image 14 = .ok (.iconst 1, 1) := by decide +kernel
theorem dX7_image_15 : decode cX7_image 15 = .ok (.aload_n 0, 1) := by decide +kernel
theorem dX7_image_16 : decode cX7_image 16 = .ok (.getfield 84, 3) := by decide +kernel
theorem dX7_image_19 : decode cX7_image 19 = .ok (.iastore, 1) := by decide +kernel
theorem dX7_image_20 : decode cX7_image 20 = .ok (.aload_n 0, 1) := by decide +kernel
theorem dX7_image_21 : decode cX7_image 21 = .ok (.getfield 61, 3) := by decide +kernel
theorem dX7_image_24 : decode cX7_image 24 = .ok (.iconst 2, 1) := by decide +kernel
theorem dX7_image_25 : decode cX7_image 25 = .ok (.aload_n 0, 1) := by decide +kernel
theorem dX7_image_26 : decode cX7_image 26 = .ok (.getfield 116, 3) := by decide +kernel
theorem dX7_image_29 : decode cX7_image 29 = .ok (.iastore, 1) := by decide +kernel
theorem dX7_image_30 : decode cX7_image 30 = .ok (.aload_n 0, 1) := by decide +kernel
theorem dX7_image_31 : decode cX7_image 31 = .ok (.getfield 61, 3) := by decide +kernel
theorem dX7_image_34 : decode cX7_image 34 = .ok (.iconst 3, 1) := by decide +kernel
theorem dX7_image_35 : decode cX7_image 35 = .ok (.aload_n 0, 1) := by decide +kernel
theorem dX7_image_36 : decode cX7_image 36 = .ok (.getfield 113, 3) := by decide +kernel
theorem dX7_image_39 : decode cX7_image 39 = .ok (.iastore, 1) := by decide +kernel
theorem dX7_image_40 : decode cX7_image 40 = .ok (.aload_n 0, 1) := by decide +kernel
theorem dX7_image_41 : decode cX7_image 41 = .ok (.getfield 61, 3) := by decide +kernel
theorem dX7_image_44 : decode cX7_image 44 = .ok (.iconst 4, 1) := by decide +kernel
theorem dX7_image_45 : decode cX7_image 45 = .ok (.aload_n 0, 1) := by decide +kernel
theorem dX7_image_46 : decode cX7_image 46 = .ok (.getfield 81, 3) := by decide +kernel
theorem dX7_image_49 : decode cX7_image 49 = .ok (.iastore, 1) := by decide +kernel
theorem dX7_image_50 : decode cX7_image 50 = .ok (.aload_n 0, 1) := by decide +kernel
theorem dX7_image_51 : decode cX7_image 51 = .ok (.getfield 61, 3) := by decide +kernel
theorem dX7_image_54 : decode cX7_image 54 = .ok (.iconst 5, 1) := by decide +kernel
theorem dX7_image_55 : decode cX7_image 55 = .ok (.aload_n 0, 1) := by decide +kernel
theorem dX7_image_56 : decode cX7_image 56 = .ok (.getfield 131, 3) := by decide +kernel
theorem dX7_image_59 : decode cX7_image 59 = .ok (.iastore, 1) := by decide +kernel
theorem dX7_image_60 : decode cX7_image 60 = .ok (.aload_n 0, 1) := by decide +kernel
theorem dX7_image_61 : decode cX7_image 61 = .ok (.aload_n 0, 1) := by decide +kernel
theorem dX7_image_62 : decode cX7_image 62 = .ok (.getfield 7, 3) := by decide +kernel
theorem dX7_image_65 : decode cX7_image 65 = .ok (.bipush 6, 2) := by decide +kernel
theorem dX7_image_67 : decode cX7_image 67 = .ok (.invokevirtual 217, 3) := by decide +kernel
theorem dX7_image_70 : decode cX7_image 70 = .ok (.istore_n 1, 1) := by decide +kernel
theorem dX7_image_71 : decode cX7_image 71 = .ok (.aload_n 0, 1) := by decide +kernel
theorem dX7_image_72 : decode cX7_image 72 = .ok (.aload_n 0, 1) := by decide +kernel
theorem dX7_image_73 : decode cX7_image 73 = .ok (.getfield 13, 3) := by decide +kernel
theorem dX7_image_76 : decode cX7_image 76 = .ok (.iload_n 1, 1) := by decide +kernel
theorem dX7_image_77 : decode cX7_image 77 = .ok (.invokevirtual 217, 3) := by decide +kernel
theorem dX7_image_80 : decode cX7_image 80 = .ok (.istore_n 1, 1) := by decide +kernel
theorem dX7_image_81 : decode cX7_image 81 = .ok (.aload_n 0, 1) := by decide +kernel
theorem dX7_image_82 : decode cX7_image 82 = .ok (.aload_n 0, 1) := by decide +kernel
theorem dX7_image_83 : decode cX7_image 83 = .ok (.getfield 16, 3) := by decide +kernel
theorem dX7_image_86 : decode cX7_image 86 = .ok (.iload_n 1, 1) := by decide +kernel
theorem dX7_image_87 : decode cX7_image 87 = .ok (.invokevirtual 217, 3) := by decide +kernel
theorem dX7_image_90 : decode cX7_image 90 = .ok (.istore_n 1, 1) := by decide +kernel
theorem dX7_image_91 : decode cX7_image 91 = .ok (.aload_n 0, 1) := by decide +kernel
theorem dX7_image_92 : decode cX7_image 92 = .ok (.aload_n 0, 1) := by decide +kernel
theorem dX7_image_93 : decode cX7_image 93 = .ok (.getfield 19, 3) := by decide +kernel
theorem dX7_image_96 : decode cX7_image 96 = .ok (.iload_n 1, 1) := by decide +kernel
theorem dX7_image_97 : decode cX7_image 97 = .ok (.invokevirtual 217, 3) := by decide +kernel
theorem dX7_image_100 : decode cX7_image 100 = .ok (.istore_n 1, 1) := by decide +kernel
theorem dX7_image_101 : decode cX7_image 101 = .ok (.aload_n 0, 1) := by decide +kernel
theorem dX7_image_102 : decode cX7_image 102 = .ok (.aload_n 0, 1) := by decide +kernel
theorem dX7_image_103 : decode cX7_image 103 = .ok (.getfield 22, 3) := by decide +kernel
theorem dX7_image_106 : decode cX7_image 106 = .ok (.iload_n 1, 1) := by decide +kernel
theorem dX7_image_107 : decode cX7_image 107 = .ok (.invokevirtual 217, 3) := by decide +kernel
theorem dX7_image_110 : decode cX7_image 110 = .ok (.istore_n 1, 1) := by decide +kernel
theorem dX7_image_111 : decode cX7_image 111 = .ok (.aload_n 0, 1) := by decide +kernel
theorem dX7_image_112 : decode cX7_image 112 = .ok (.aload_n 0, 1) := by decide +kernel
theorem dX7_image_113 : decode cX7_image 113 = .ok (.getfield 25, 3) := by decide +kernel
theorem dX7_image_116 : decode cX7_image 116 = .ok (.iload_n 1, 1) := by decide +kernel
theorem dX7_image_117 : decode cX7_image 117 = .ok (.invokevirtual 217, 3) := by decide +kernel
theorem dX7_image_120 : decode cX7_image 120 = .ok (.pop, 1) := by decide +kernel
theorem dX7_image_121 : decode cX7_image 121 = .ok (.aload_n 0, 1) := by decide +kernel
theorem dX7_image_122 : decode cX7_image 122 = .ok (.iconst 1, 1) := by decide +kernel
theorem dX7_image_123 : decode cX7_image 123 = .ok (.putfield 221, 3) := by decide +kernel
theorem dX7_image_126 : decode cX7_image 126 = .ok (.iconst 1, 1) := by decide +kernel
theorem dX7_image_127 : decode cX7_image 127 = .ok (.ireturn, 1) := by decide +kernel
theorem dX7_restore_0 : decode cX7_restore 0 = .ok (.aload_n 0, 1) := by decide +kernel
theorem dX7_restore_1 : decode cX7_restore 1 = .ok (.getfield 221, 3) := by decide +kernel
theorem dX7_restore_4 : decode cX7_restore 4 = .ok (.ifCond .ne 6, 3) := by decide +kernel
theorem dX7_restore_7 : decode cX7_restore 7 = .ok (.bipush (-4), 2) := by decide +kernel
theorem dX7_restore_9 : decode cX7_restore 9 = .ok (.ireturn, 1) := by decide +kernel
theorem dX7_restore_10 : decode cX7_restore 10 = .ok (.aload_n 0, 1) := by decide +kernel
theorem dX7_restore_11 : decode cX7_restore 11 = .ok (.aload_n 0, 1) := by decide +kernel
theorem dX7_restore_12 : decode cX7_restore 12 = .ok (.getfield 61, 3) := by decide +kernel
theorem dX7_restore_15 : decode cX7_restore 15 = .ok (.iconst 0, 1) := by decide +kernel
theorem dX7_restore_16 : decode cX7_restore 16 = .ok (.iaload, 1) := by decide +kernel
theorem dX7_restore_17 : decode cX7_restore 17 = .ok (.putfield 77, 3) := by decide +kernel
theorem dX7_restore_20 : decode cX7_restore 20 = .ok (.aload_n 0, 1) := by decide +kernel
theorem dX7_restore_21 : decode cX7_restore 21 = .ok (.aload_n 0, 1) := by decide +kernel
theorem dX7_restore_22 : decode cX7_restore 22 = .ok (.getfield 61, 3) := by decide +kernel
theorem dX7_restore_25 : decode cX7_restore 25 = .ok (.iconst 1, 1) := by decide +kernel
theorem dX7_restore_26 : decode cX7_restore 26 = .ok (.iaload, 1) := by decide +kernel
theorem dX7_restore_27 : decode cX7_restore 27 = .ok (.putfield 84, 3) := by decide +kernel
theorem dX7_restore_30 : decode cX7_restore 30 = .ok (.aload_n 0, 1) := by decide +kernel
theorem dX7_restore_31 : decode cX7_restore 31 = .ok (.aload_n 0, 1) := by decide +kernel
theorem dX7_restore_32 : decode cX7_restore 32 = .ok (.getfield 61, 3) := by decide +kernel
theorem dX7_restore_35 : decode cX7_restore 35 = .ok (.iconst 2, 1) := by decide +kernel
theorem dX7_restore_36 : decode cX7_restore 36 = .ok (.iaload, 1) := by decide +kernel
theorem dX7_restore_37 : decode cX7_restore 37 = .ok (.putfield 116, 3) := by decide +kernel
theorem dX7_restore_40 : decode cX7_restore 40 = .ok (.aload_n 0, 1) := by decide +kernel
theorem dX7_restore_41 : decode cX7_restore 41 = .ok (.aload_n 0, 1) := by decide +kernel
theorem dX7_restore_42 : decode cX7_restore 42 = .ok (.getfield 61, 3) := by decide +kernel
theorem dX7_restore_45 : decode cX7_restore 45 = .ok (.iconst 3, 1) := by decide +kernel
theorem dX7_restore_46 : decode cX7_restore 46 = .ok (.iaload, 1) := by decide +kernel
theorem dX7_restore_47 : decode cX7_restore 47 = .ok (.putfield 113, 3) := by decide +kernel
theorem dX7_restore_50 : decode cX7_restore 50 = .ok (.aload_n 0, 1) := by decide +kernel
theorem dX7_restore_51 : decode cX7_restore 51 = .ok (.aload_n 0, 1) := by decide +kernel
theorem dX7_restore_52 : decode cX7_restore 52 = .ok (.getfield 61, 3) := by decide +kernel
theorem dX7_restore_55 : decode cX7_restore 55 = .ok (.iconst 4, 1) := by decide +kernel
theorem dX7_restore_56 : decode cX7_restore 56 = .ok (.iaload, 1) := by decide +kernel
theorem dX7_restore_57 : decode cX7_restore 57 = .ok (.putfield 81, 3) := by decide +kernel
theorem dX7_restore_60 : decode cX7_restore 60 = .ok (.aload_n 0, 1) := by decide +kernel
theorem dX7_restore_61 : decode cX7_restore 61 = .ok (.aload_n 0, 1) := by decide +kernel
theorem dX7_restore_62 : decode cX7_restore 62 = .ok (.getfield 61, 3) := by decide +kernel
theorem dX7_restore_65 : decode cX7_restore 65 = .ok (.iconst 5, 1) := by decide +kernel
theorem dX7_restore_66 : decode cX7_restore 66 = .ok (.iaload, 1) := by decide +kernel
theorem dX7_restore_67 : decode cX7_restore 67 = .ok (.putfield 131, 3) := by decide +kernel
theorem dX7_restore_70 : decode cX7_restore 70 = .ok (.aload_n 0, 1) := by decide +kernel
theorem dX7_restore_71 : decode cX7_restore 71 = .ok (.bipush 6, 2) := by decide +kernel
theorem dX7_restore_73 : decode cX7_restore 73 = .ok (.aload_n 0, 1) := by decide +kernel
theorem dX7_restore_74 : decode cX7_restore 74 = .ok (.getfield 7, 3) := by decide +kernel
theorem dX7_restore_77 : decode cX7_restore 77 = .ok (.invokevirtual 224, 3) := by decide +kernel
theorem dX7_restore_80 : decode cX7_restore 80 = .ok (.istore_n 1, 1) := by decide +kernel
theorem dX7_restore_81 : decode cX7_restore 81 = .ok (.aload_n 0, 1) := by decide +kernel
theorem dX7_restore_82 : decode cX7_restore 82 = .ok (.iload_n 1, 1) := by decide +kernel
theorem dX7_restore_83 : decode cX7_restore 83 = .ok (.aload_n 0, 1) := by decide +kernel
theorem dX7_restore_84 : decode cX7_restore 84 = .ok (.getfield 13, 3) := by decide +kernel
theorem dX7_restore_87 : decode cX7_restore 87 = .ok (.invokevirtual 224, 3) := by decide +kernel
theorem dX7_restore_90 : decode cX7_restore 90 = .ok (.istore_n 1, 1) := by decide +kernel
theorem dX7_restore_91 : decode cX7_restore 91 = .ok (.aload_n 0, 1) := by decide +kernel
theorem dX7_restore_92 : decode cX7_restore 92 = .ok (.iload_n 1, 1) := by decide +kernel
theorem dX7_restore_93 : decode cX7_restore 93 = .ok (.aload_n 0, 1) := by decide +kernel
theorem dX7_restore_94 : decode cX7_restore 94 = .ok (.getfield 16, 3) := by decide +kernel
theorem dX7_restore_97 : decode cX7_restore 97 = .ok (.invokevirtual 224, 3) := by decide +kernel
theorem dX7_restore_100 : decode cX7_restore 100 = .ok (.istore_n 1, 1) := by decide +kernel
theorem dX7_restore_101 : decode cX7_restore 101 = .ok (.aload_n 0, 1) := by decide +kernel
theorem dX7_restore_102 : decode cX7_restore 102 = .ok (.iload_n 1, 1) := by decide +kernel
theorem dX7_restore_103 : decode cX7_restore 103 = .ok (.aload_n 0, 1) := by decide +kernel
theorem dX7_restore_104 : decode cX7_restore 104 = .ok (.getfield 19, 3) := by decide +kernel
theorem dX7_restore_107 : decode cX7_restore 107 = .ok (.invokevirtual 224, 3) := by decide +kernel
theorem dX7_restore_110 : decode cX7_restore 110 = .ok (.istore_n 1, 1) := by decide +kernel
theorem dX7_restore_111 : decode cX7_restore 111 = .ok (.aload_n 0, 1) := by decide +kernel
theorem dX7_restore_112 : decode cX7_restore 112 = .ok (.iload_n 1, 1) := by decide +kernel
theorem dX7_restore_113 : decode cX7_restore 113 = .ok (.aload_n 0, 1) := by decide +kernel
theorem dX7_restore_114 : decode cX7_restore 114 = .ok (.getfield 22, 3) := by decide +kernel
theorem dX7_restore_117 : decode cX7_restore 117 = .ok (.invokevirtual 224, 3) := by decide +kernel
theorem dX7_restore_120 : decode cX7_restore 120 = .ok (.istore_n 1, 1) := by decide +kernel
theorem dX7_restore_121 : decode cX7_restore 121 = .ok (.aload_n 0, 1) := by decide +kernel
theorem dX7_restore_122 : decode cX7_restore 122 = .ok (.iload_n 1, 1) := by decide +kernel
theorem dX7_restore_123 : decode cX7_restore 123 = .ok (.aload_n 0, 1) := by decide +kernel
theorem dX7_restore_124 : decode cX7_restore 124 = .ok (.getfield 25, 3) := by decide +kernel
theorem dX7_restore_127 : decode cX7_restore 127 = .ok (.invokevirtual 224, 3) := by decide +kernel
theorem dX7_restore_130 : decode cX7_restore 130 = .ok (.pop, 1) := by decide +kernel
theorem dX7_restore_131 : decode cX7_restore 131 = .ok (.iconst 1, 1) := by decide +kernel
theorem dX7_restore_132 : decode cX7_restore 132 = .ok (.ireturn, 1) := by decide +kernel
theorem dX7_isSheet_0 : decode cX7_isSheet 0 = .ok (.iload_n 0, 1) := by decide +kernel
theorem dX7_isSheet_1 : decode cX7_isSheet 1 = .ok (.i2l, 1) := by decide +kernel
theorem dX7_isSheet_2 : decode cX7_isSheet 2 = .ok (.lconst 0, 1) := by decide +kernel
theorem dX7_isSheet_3 : decode cX7_isSheet 3 = .ok (.ldc2_w 93, 3) := by decide +kernel
theorem dX7_isSheet_6 : decode cX7_isSheet 6 = .ok (.invokestatic 87, 3) := by decide +kernel
theorem dX7_isSheet_9 : decode cX7_isSheet 9 = .ok (.ireturn, 1) := by decide +kernel
theorem dX7_isLane_0 : decode cX7_isLane 0 = .ok (.iload_n 0, 1) := by decide +kernel
theorem dX7_isLane_1 : decode cX7_isLane 1 = .ok (.i2l, 1) := by decide +kernel
theorem dX7_isLane_2 : decode cX7_isLane 2 = .ok (.lconst 0, 1) := by decide +kernel
theorem dX7_isLane_3 : decode cX7_isLane 3 = .ok (.ldc2_w 93, 3) := by decide +kernel
theorem dX7_isLane_6 : decode cX7_isLane 6 = .ok (.invokestatic 87, 3) := by decide +kernel
theorem dX7_isLane_9 : decode cX7_isLane 9 = .ok (.ireturn, 1) := by decide +kernel
theorem dX7_why_0 : decode cX7_why 0 = .ok (.aload_n 0, 1) := by decide +kernel
theorem dX7_why_1 : decode cX7_why 1 = .ok (.getfield 64, 3) := by decide +kernel
theorem dX7_why_4 : decode cX7_why 4 = .ok (.iload_n 1, 1) := by decide +kernel
theorem dX7_why_5 : decode cX7_why 5 = .ok (.iaload, 1) := by decide +kernel
theorem dX7_why_6 : decode cX7_why 6 = .ok (.ifCond .ge 6, 3) := by decide +kernel
theorem dX7_why_9 : decode cX7_why 9 = .ok (.bipush (-11), 2) := by decide +kernel
theorem dX7_why_11 : decode cX7_why 11 = .ok (.ireturn, 1) := by decide +kernel
theorem dX7_why_12 : decode cX7_why 12 = .ok (.aload_n 0, 1) := by decide +kernel
theorem dX7_why_13 : decode cX7_why 13 = .ok (.getfield 64, 3) := by decide +kernel
theorem dX7_why_16 : decode cX7_why 16 = .ok (.iload_n 1, 1) := by decide +kernel
theorem dX7_why_17 : decode cX7_why 17 = .ok (.iaload, 1) := by decide +kernel
theorem dX7_why_18 : decode cX7_why 18 = .ok (.iload_n 2, 1) := by decide +kernel
theorem dX7_why_19 : decode cX7_why 19 = .ok (.if_icmp .eq 6, 3) := by decide +kernel
theorem dX7_why_22 : decode cX7_why 22 = .ok (.bipush (-12), 2) := by decide +kernel
theorem dX7_why_24 : decode cX7_why 24 = .ok (.ireturn, 1) := by decide +kernel
theorem dX7_why_25 : decode cX7_why 25 = .ok (.iload_n 3, 1) := by decide +kernel
theorem dX7_why_26 : decode cX7_why 26 = .ok (.ifCond .lt 20, 3) := by decide +kernel
theorem dX7_why_29 : decode cX7_why 29 = .ok (.iload_n 3, 1) := by decide +kernel
theorem dX7_why_30 : decode cX7_why 30 = .ok (.i2l, 1) := by decide +kernel
theorem dX7_why_31 : decode cX7_why 31 = .ok (.iload 4, 2) := by decide +kernel
theorem dX7_why_33 : decode cX7_why 33 = .ok (.i2l, 1) := by decide +kernel
theorem dX7_why_34 : decode cX7_why 34 = .ok (.ladd, 1) := by decide +kernel
theorem dX7_why_35 : decode cX7_why 35 = .ok (.aload_n 0, 1) := by decide +kernel
theorem dX7_why_36 : decode cX7_why 36 = .ok (.getfield 67, 3) := by decide +kernel
theorem dX7_why_39 : decode cX7_why 39 = .ok (.iload_n 1, 1) := by decide +kernel
theorem dX7_why_40 : decode cX7_why 40 = .ok (.iaload, 1) := by decide +kernel
theorem dX7_why_41 : decode cX7_why 41 = .ok (.i2l, 1) := by decide +kernel
theorem dX7_why_42 : decode cX7_why 42 = .ok (.lcmp, 1) := by decide +kernel
theorem dX7_why_43 : decode cX7_why 43 = .ok (.ifCond .le 8, 3) := by decide +kernel
theorem dX7_why_46 : decode cX7_why 46 = .ok (.bipush (-13), 2) := by decide +kernel
theorem dX7_why_48 : decode cX7_why 48 = .ok (.goto 4, 3) := by decide +kernel
theorem dX7_why_51 : decode cX7_why 51 = .ok (.iconst 0, 1) := by decide +kernel
theorem dX7_why_52 : decode cX7_why 52 = .ok (.ireturn, 1) := by decide +kernel
theorem dX7_judged_0 : decode cX7_judged 0 = .ok (.iload_n 1, 1) := by decide +kernel
theorem dX7_judged_1 : decode cX7_judged 1 = .ok (.invokestatic 228, 3) := by decide +kernel
theorem dX7_judged_4 : decode cX7_judged 4 = .ok (.ifCond .eq 10, 3) := by decide +kernel
theorem dX7_judged_7 : decode cX7_judged 7 = .ok (.iload_n 2, 1) := by decide +kernel
theorem dX7_judged_8 : decode cX7_judged 8 = .ok (.invokestatic 231, 3) := by decide +kernel
theorem dX7_judged_11 : decode cX7_judged 11 = .ok (.ifCond .ne 5, 3) := by decide +kernel
theorem dX7_judged_14 : decode cX7_judged 14 = .ok (.iconst (-1), 1) := by decide +kernel
theorem dX7_judged_15 : decode cX7_judged 15 = .ok (.ireturn, 1) := by decide +kernel
theorem dX7_judged_16 : decode cX7_judged 16 = .ok (.aload_n 0, 1) := by decide +kernel
theorem dX7_judged_17 : decode cX7_judged 17 = .ok (.iload_n 1, 1) := by decide +kernel
theorem dX7_judged_18 : decode cX7_judged 18 = .ok (.iload_n 2, 1) := by decide +kernel
theorem dX7_judged_19 : decode cX7_judged 19 = .ok (.iload_n 3, 1) := by decide +kernel
theorem dX7_judged_20 : decode cX7_judged 20 = .ok (.bipush 12, 2) := by decide +kernel
theorem dX7_judged_22 : decode cX7_judged 22 = .ok (.invokevirtual 234, 3) := by decide +kernel
theorem dX7_judged_25 : decode cX7_judged 25 = .ok (.istore 4, 2) := by decide +kernel
theorem dX7_judged_27 : decode cX7_judged 27 = .ok (.iload 4, 2) := by decide +kernel
theorem dX7_judged_29 : decode cX7_judged 29 = .ok (.ifCond .ge 6, 3) := by decide +kernel
theorem dX7_judged_32 : decode cX7_judged 32 = .ok (.iload 4, 2) := by decide +kernel
theorem dX7_judged_34 : decode cX7_judged 34 = .ok (.ireturn, 1) := by decide +kernel
theorem dX7_judged_35 : decode cX7_judged 35 = .ok (.aload_n 0, 1) := by decide +kernel
theorem dX7_judged_36 : decode cX7_judged 36 = .ok (.iconst 0, 1) := by decide +kernel
theorem dX7_judged_37 : decode cX7_judged 37 = .ok (.aload_n 0, 1) := by decide +kernel
theorem dX7_judged_38 : decode cX7_judged 38 = .ok (.getfield 116, 3) := by decide +kernel
theorem dX7_judged_41 : decode cX7_judged 41 = .ok (.invokevirtual 119, 3) := by decide +kernel
theorem dX7_judged_44 : decode cX7_judged 44 = .ok (.istore 5, 2) := by decide +kernel
theorem dX7_judged_46 : decode cX7_judged 46 = .ok (.iconst 0, 1) := by decide +kernel
theorem dX7_judged_47 : decode cX7_judged 47 = .ok (.istore 6, 2) := by decide +kernel
theorem dX7_judged_49 : decode cX7_judged 49 = .ok (.iload 6, 2) := by decide +kernel
theorem dX7_judged_51 : decode cX7_judged 51 = .ok (.bipush 12, 2) := by decide +kernel
theorem dX7_judged_53 : decode cX7_judged 53 = .ok (.if_icmp .ge 79, 3) := by decide +kernel
theorem dX7_judged_56 : decode cX7_judged 56 = .ok (.aload_n 0, 1) := by decide +kernel
theorem dX7_judged_57 : decode cX7_judged 57 = .ok (.getfield 70, 3) := by decide +kernel
theorem dX7_judged_60 : decode cX7_judged 60 = .ok (.bipush 16, 2) := by decide +kernel
theorem dX7_judged_62 : decode cX7_judged 62 = .ok (.iload_n 1, 1) := by decide +kernel
theorem dX7_judged_63 : decode cX7_judged 63 = .ok (.imul, 1) := by decide +kernel
theorem dX7_judged_64 : decode cX7_judged 64 = .ok (.iload_n 3, 1) := by decide +kernel
theorem dX7_judged_65 : decode cX7_judged 65 = .ok (.iadd, 1) := by decide +kernel
theorem dX7_judged_66 : decode cX7_judged 66 = .ok (.iload 6, 2) := by decide +kernel
theorem dX7_judged_68 : decode cX7_judged 68 = .ok (.iadd, 1) := by decide +kernel
theorem dX7_judged_69 : decode cX7_judged 69 = .ok (.laload, 1) := by decide +kernel
theorem dX7_judged_70 : decode cX7_judged 70 = .ok (.lstore 7, 2) := by decide +kernel
theorem dX7_judged_72 : decode cX7_judged 72 = .ok (.lload 7, 2) := by decide +kernel
theorem dX7_judged_74 : decode cX7_judged 74 = .ok (.ldc2_w 238, 3) := by decide +kernel
theorem dX7_judged_77 : decode cX7_judged 77 = .ok (.lcmp, 1) := by decide +kernel
theorem dX7_judged_78 : decode cX7_judged 78 = .ok (.ifCond .eq 33, 3) := by decide +kernel
theorem dX7_judged_81 : decode cX7_judged 81 = .ok (.aload_n 0, 1) := by decide +kernel
theorem dX7_judged_82 : decode cX7_judged 82 = .ok (.lload 7, 2) := by decide +kernel
theorem dX7_judged_84 : decode cX7_judged 84 = .ok (.invokevirtual 109, 3) := by decide +kernel
theorem dX7_judged_87 : decode cX7_judged 87 = .ok (.ifCond .eq 28, 3) := by decide +kernel
theorem dX7_judged_90 : decode cX7_judged 90 = .ok (.aload_n 0, 1) := by decide +kernel
theorem dX7_judged_91 : decode cX7_judged 91 = .ok (.bipush 11, 2) := by decide +kernel
theorem dX7_judged_93 : decode cX7_judged 93 = .ok (.iload 6, 2) := by decide +kernel
theorem dX7_judged_95 : decode cX7_judged 95 = .ok (.isub, 1) := by decide +kernel
theorem dX7_judged_96 : decode cX7_judged 96 = .ok (.invokevirtual 162, 3) := by decide +kernel
theorem dX7_judged_99 : decode cX7_judged 99 = .ok (.iload 5, 2) := by decide +kernel
theorem dX7_judged_101 : decode cX7_judged 101 = .ok (.iand, 1) := by decide +kernel
theorem dX7_judged_102 : decode cX7_judged 102 = .ok (.iconst 1, 1) := by decide +kernel
theorem dX7_judged_103 : decode cX7_judged 103 = .ok (.lload 7, 2) := by decide +kernel
theorem dX7_judged_105 : decode cX7_judged 105 = .ok (.l2i, 1) := by decide +kernel
theorem dX7_judged_106 : decode cX7_judged 106 = .ok (.ishl, 1) := by decide +kernel
theorem dX7_judged_107 : decode cX7_judged 107 = .ok (.iand, 1) := by decide +kernel
theorem dX7_judged_108 : decode cX7_judged 108 = .ok (.ifCond .eq 7, 3) := by decide +kernel
theorem dX7_judged_111 : decode cX7_judged 111 = .ok (.iconst 1, 1) := by decide +kernel
theorem dX7_judged_112 : decode cX7_judged 112 = .ok (.goto 4, 3) := by decide +kernel
theorem dX7_judged_115 : decode cX7_judged 115 = .ok (.iconst 0, 1) := by decide +kernel
theorem dX7_judged_116 : decode cX7_judged 116 = .ok (.istore 9, 2) := by decide +kernel
theorem dX7_judged_118 : decode cX7_judged 118 = .ok (.iload 9, 2) := by decide +kernel
theorem dX7_judged_120 : decode cX7_judged 120 = .ok (.ifCond .ne 6, 3) := by decide +kernel
theorem dX7_judged_123 : decode cX7_judged 123 = .ok (.iload 6, 2) := by decide +kernel
theorem dX7_judged_125 : decode cX7_judged 125 = .ok (.ireturn, 1) := by decide +kernel
theorem dX7_judged_126 : decode cX7_judged 126 = .ok (.iinc 6 1, 3) := by decide +kernel
theorem dX7_judged_129 : decode cX7_judged 129 = .ok (.goto (-80), 3) := by decide +kernel
theorem dX7_judged_132 : decode cX7_judged 132 = .ok (.bipush (-4), 2) := by decide +kernel
theorem dX7_judged_134 : decode cX7_judged 134 = .ok (.ireturn, 1) := by decide +kernel
theorem dX7_net_0 : decode cX7_net 0 = .ok (.aload_n 0, 1) := by decide +kernel
theorem dX7_net_1 : decode cX7_net 1 = .ok (.iload_n 1, 1) := by decide +kernel
theorem dX7_net_2 : decode cX7_net 2 = .ok (.i2l, 1) := by decide +kernel
theorem dX7_net_3 : decode cX7_net 3 = .ok (.invokevirtual 109, 3) := by decide +kernel
theorem dX7_net_6 : decode cX7_net 6 = .ok (.ifCond .eq 41, 3) := by decide +kernel
theorem dX7_net_9 : decode cX7_net 9 = .ok (.iload_n 2, 1) := by decide +kernel
theorem dX7_net_10 : decode cX7_net 10 = .ok (.invokestatic 228, 3) := by decide +kernel
theorem dX7_net_13 : decode cX7_net 13 = .ok (.ifCond .eq 34, 3) := by decide +kernel
theorem dX7_net_16 : decode cX7_net 16 = .ok (.iload_n 3, 1) := by decide +kernel
theorem dX7_net_17 : decode cX7_net 17 = .ok (.invokestatic 231, 3) := by decide +kernel
theorem dX7_net_20 : decode cX7_net 20 = .ok (.ifCond .eq 27, 3) := by decide +kernel
theorem dX7_net_23 : decode cX7_net 23 = .ok (.iload 5, 2) := by decide +kernel
theorem dX7_net_25 : decode cX7_net 25 = .ok (.i2l, 1) := by decide +kernel
theorem dX7_net_26 : decode cX7_net 26 = .ok (.lconst 1, 1) := by decide +kernel
theorem dX7_net_27 : decode cX7_net 27 = .ok (.ldc2_w 240, 3) := by decide +kernel
theorem dX7_net_30 : decode cX7_net 30 = .ok (.invokestatic 87, 3) := by decide +kernel
theorem dX7_net_33 : decode cX7_net 33 = .ok (.ifCond .eq 14, 3) := by decide +kernel
theorem dX7_net_36 : decode cX7_net 36 = .ok (.iload 6, 2) := by decide +kernel
theorem dX7_net_38 : decode cX7_net 38 = .ok (.i2l, 1) := by decide +kernel
theorem dX7_net_39 : decode cX7_net 39 = .ok (.lconst 0, 1) := by decide +kernel
theorem dX7_net_40 : decode cX7_net 40 = .ok (.lconst 1, 1) := by decide +kernel
theorem dX7_net_41 : decode cX7_net 41 = .ok (.invokestatic 87, 3) := by decide +kernel
theorem dX7_net_44 : decode cX7_net 44 = .ok (.ifCond .ne 5, 3) := by decide +kernel
theorem dX7_net_47 : decode cX7_net 47 = .ok (.iconst (-1), 1) := by decide +kernel
theorem dX7_net_48 : decode cX7_net 48 = .ok (.ireturn, 1) := by decide +kernel
theorem dX7_net_49 : decode cX7_net 49 = .ok (.aload_n 0, 1) := by decide +kernel
theorem dX7_net_50 : decode cX7_net 50 = .ok (.iload_n 2, 1) := by decide +kernel
theorem dX7_net_51 : decode cX7_net 51 = .ok (.iload_n 3, 1) := by decide +kernel
theorem dX7_net_52 : decode cX7_net 52 = .ok (.iload 4, 2) := by decide +kernel
theorem dX7_net_54 : decode cX7_net 54 = .ok (.iload 5, 2) := by decide +kernel
theorem dX7_net_56 : decode cX7_net 56 = .ok (.invokevirtual 234, 3) := by decide +kernel
theorem dX7_net_59 : decode cX7_net 59 = .ok (.istore 7, 2) := by decide +kernel
theorem dX7_net_61 : decode cX7_net 61 = .ok (.iload 7, 2) := by decide +kernel
theorem dX7_net_63 : decode cX7_net 63 = .ok (.ifCond .ge 6, 3) := by decide +kernel
theorem dX7_net_66 : decode cX7_net 66 = .ok (.iload 7, 2) := by decide +kernel
theorem dX7_net_68 : decode cX7_net 68 = .ok (.ireturn, 1) := by decide +kernel
theorem dX7_net_69 : decode cX7_net 69 = .ok (.iconst 0, 1) := by decide +kernel
theorem dX7_net_70 : decode cX7_net 70 = .ok (.istore 8, 2) := by decide +kernel
theorem dX7_net_72 : decode cX7_net 72 = .ok (.iload 8, 2) := by decide +kernel
theorem dX7_net_74 : decode cX7_net 74 = .ok (.iload 5, 2) := by decide +kernel
theorem dX7_net_76 : decode cX7_net 76 = .ok (.if_icmp .ge 34, 3) := by decide +kernel
theorem dX7_net_79 : decode cX7_net 79 = .ok (.aload_n 0, 1) := by decide +kernel
theorem dX7_net_80 : decode cX7_net 80 = .ok (.aload_n 0, 1) := by decide +kernel
theorem dX7_net_81 : decode cX7_net 81 = .ok (.getfield 70, 3) := by decide +kernel
theorem dX7_net_84 : decode cX7_net 84 = .ok (.bipush 16, 2) := by decide +kernel
theorem dX7_net_86 : decode cX7_net 86 = .ok (.iload_n 2, 1) := by decide +kernel
theorem dX7_net_87 : decode cX7_net 87 = .ok (.imul, 1) := by decide +kernel
theorem dX7_net_88 : decode cX7_net 88 = .ok (.iload 4, 2) := by decide +kernel
theorem dX7_net_90 : decode cX7_net 90 = .ok (.iadd, 1) := by decide +kernel
theorem dX7_net_91 : decode cX7_net 91 = .ok (.iload 8, 2) := by decide +kernel
theorem dX7_net_93 : decode cX7_net 93 = .ok (.iadd, 1) := by decide +kernel
theorem dX7_net_94 : decode cX7_net 94 = .ok (.laload, 1) := by decide +kernel
theorem dX7_net_95 : decode cX7_net 95 = .ok (.invokevirtual 128, 3) := by decide +kernel
theorem dX7_net_98 : decode cX7_net 98 = .ok (.ifCond .ne 6, 3) := by decide +kernel
theorem dX7_net_101 : decode cX7_net 101 = .ok (.bipush (-2), 2) := by decide +kernel
theorem dX7_net_103 : decode cX7_net 103 = .ok (.ireturn, 1) := by decide +kernel
theorem dX7_net_104 : decode cX7_net 104 = .ok (.iinc 8 1, 3) := by decide +kernel
theorem dX7_net_107 : decode cX7_net 107 = .ok (.goto (-35), 3) := by decide +kernel
theorem dX7_net_110 : decode cX7_net 110 = .ok (.iload_n 1, 1) := by decide +kernel
theorem dX7_net_111 : decode cX7_net 111 = .ok (.aload_n 0, 1) := by decide +kernel
theorem dX7_net_112 : decode cX7_net 112 = .ok (.getfield 13, 3) := by decide +kernel
theorem dX7_net_115 : decode cX7_net 115 = .ok (.iload_n 1, 1) := by decide +kernel
theorem dX7_net_116 : decode cX7_net 116 = .ok (.iaload, 1) := by decide +kernel
theorem dX7_net_117 : decode cX7_net 117 = .ok (.aload_n 0, 1) := by decide +kernel
theorem dX7_net_118 : decode cX7_net 118 = .ok (.getfield 13, 3) := by decide +kernel
theorem dX7_net_121 : decode cX7_net 121 = .ok (.invokestatic 97, 3) := by decide +kernel
theorem dX7_net_124 : decode cX7_net 124 = .ok (.istore 8, 2) := by decide +kernel
theorem dX7_net_126 : decode cX7_net 126 = .ok (.aload_n 0, 1) := by decide +kernel
theorem dX7_net_127 : decode cX7_net 127 = .ok (.getfield 16, 3) := by decide +kernel
theorem dX7_net_130 : decode cX7_net 130 = .ok (.iload_n 1, 1) := by decide +kernel
theorem dX7_net_131 : decode cX7_net 131 = .ok (.iaload, 1) := by decide +kernel
theorem dX7_net_132 : decode cX7_net 132 = .ok (.istore 9, 2) := by decide +kernel
theorem dX7_net_134 : decode cX7_net 134 = .ok (.iconst 0, 1) := by decide +kernel
theorem dX7_net_135 : decode cX7_net 135 = .ok (.istore 10, 2) := by decide +kernel
theorem dX7_net_137 : decode cX7_net 137 = .ok (.bipush (-4), 2) := by decide +kernel
theorem dX7_net_139 : decode cX7_net 139 = .ok (.istore 11, 2) := by decide +kernel
theorem dX7_net_141 : decode cX7_net 141 = .ok (.iconst 0, 1) := by decide +kernel
theorem dX7_net_142 : decode cX7_net 142 = .ok (.istore 12, 2) := by decide +kernel
theorem dX7_net_144 : decode cX7_net 144 = .ok (.iload 12, 2) := by decide +kernel
theorem dX7_net_146 : decode cX7_net 146 = .ok (.iconst 1, 1) := by decide +kernel
theorem dX7_net_147 : decode cX7_net 147 = .ok (.iload_n 1, 1) := by decide +kernel
theorem dX7_net_148 : decode cX7_net 148 = .ok (.ishl, 1) := by decide +kernel
theorem dX7_net_149 : decode cX7_net 149 = .ok (.if_icmp .ge 140, 3) := by decide +kernel
theorem dX7_net_152 : decode cX7_net 152 = .ok (.iload 12, 2) := by decide +kernel
theorem dX7_net_154 : decode cX7_net 154 = .ok (.iload 8, 2) := by decide +kernel
theorem dX7_net_156 : decode cX7_net 156 = .ok (.iconst (-1), 1) := by decide +kernel
theorem dX7_net_157 : decode cX7_net 157 = .ok (.ixor, 1) := by decide +kernel
theorem dX7_net_158 : decode cX7_net 158 = .ok (.iand, 1) := by decide +kernel
theorem dX7_net_159 : decode cX7_net 159 = .ok (.ifCond .ne 7, 3) := by decide +kernel
theorem dX7_net_162 : decode cX7_net 162 = .ok (.iconst 1, 1) := by decide +kernel
theorem dX7_net_163 : decode cX7_net 163 = .ok (.goto 4, 3) := by decide +kernel
theorem dX7_net_166 : decode cX7_net 166 = .ok (.iconst 0, 1) := by decide +kernel
theorem dX7_net_167 : decode cX7_net 167 = .ok (.istore 13, 2) := by decide +kernel
theorem dX7_net_169 : decode cX7_net 169 = .ok (.aload_n 0, 1) := by decide +kernel
theorem dX7_net_170 : decode cX7_net 170 = .ok (.getfield 16, 3) := by decide +kernel
theorem dX7_net_173 : decode cX7_net 173 = .ok (.iload_n 1, 1) := by decide +kernel
theorem dX7_net_174 : decode cX7_net 174 = .ok (.iload 12, 2) := by decide +kernel
theorem dX7_net_176 : decode cX7_net 176 = .ok (.iastore, 1) := by decide +kernel
theorem dX7_net_177 : decode cX7_net 177 = .ok (.iconst 0, 1) := by decide +kernel
theorem dX7_net_178 : decode cX7_net 178 = .ok (.istore 14, 2) := by decide +kernel
theorem dX7_net_180 : decode cX7_net 180 = .ok (.iload 14, 2) := by decide +kernel
theorem dX7_net_182 : decode cX7_net 182 = .ok (.iload 5, 2) := by decide +kernel
theorem dX7_net_184 : decode cX7_net 184 = .ok (.if_icmp .ge 65, 3) := by decide +kernel
theorem dX7_net_187 : decode cX7_net 187 = .ok (.iload 13, 2) := by decide +kernel
theorem dX7_net_189 : decode cX7_net 189 = .ok (.ifCond .eq 60, 3) := by decide +kernel
theorem dX7_net_192 : decode cX7_net 192 = .ok (.aload_n 0, 1) := by decide +kernel
theorem dX7_net_193 : decode cX7_net 193 = .ok (.getfield 70, 3) := by decide +kernel
theorem dX7_net_196 : decode cX7_net 196 = .ok (.bipush 16, 2) := by decide +kernel
theorem dX7_net_198 : decode cX7_net 198 = .ok (.iload_n 2, 1) := by decide +kernel
theorem dX7_net_199 : decode cX7_net 199 = .ok (.imul, 1) := by decide +kernel
theorem dX7_net_200 : decode cX7_net 200 = .ok (.iload 4, 2) := by decide +kernel
theorem dX7_net_202 : decode cX7_net 202 = .ok (.iadd, 1) := by decide +kernel
theorem dX7_net_203 : decode cX7_net 203 = .ok (.iload 14, 2) := by decide +kernel
theorem dX7_net_205 : decode cX7_net 205 = .ok (.iadd, 1) := by decide +kernel
theorem dX7_net_206 : decode cX7_net 206 = .ok (.laload, 1) := by decide +kernel
theorem dX7_net_207 : decode cX7_net 207 = .ok (.l2i, 1) := by decide +kernel
theorem dX7_net_208 : decode cX7_net 208 = .ok (.istore 15, 2) := by decide +kernel
theorem dX7_net_210 : decode cX7_net 210 = .ok (.aload_n 0, 1) := by decide +kernel
theorem dX7_net_211 : decode cX7_net 211 = .ok (.iload_n 1, 1) := by decide +kernel
theorem dX7_net_212 : decode cX7_net 212 = .ok (.iload 15, 2) := by decide +kernel
theorem dX7_net_214 : decode cX7_net 214 = .ok (.iconst 0, 1) := by decide +kernel
theorem dX7_net_215 : decode cX7_net 215 = .ok (.invokevirtual 105, 3) := by decide +kernel
theorem dX7_net_218 : decode cX7_net 218 = .ok (.iload 15, 2) := by decide +kernel
theorem dX7_net_220 : decode cX7_net 220 = .ok (.iload_n 1, 1) := by decide +kernel
theorem dX7_net_221 : decode cX7_net 221 = .ok (.ishr, 1) := by decide +kernel
theorem dX7_net_222 : decode cX7_net 222 = .ok (.iconst 1, 1) := by decide +kernel
theorem dX7_net_223 : decode cX7_net 223 = .ok (.iand, 1) := by decide +kernel
theorem dX7_net_224 : decode cX7_net 224 = .ok (.iconst 1, 1) := by decide +kernel
theorem dX7_net_225 : decode cX7_net 225 = .ok (.if_icmp .ne 7, 3) := by decide +kernel
theorem dX7_net_228 : decode cX7_net 228 = .ok (.iconst 1, 1) := by decide +kernel
theorem dX7_net_229 : decode cX7_net 229 = .ok (.goto 4, 3) := by decide +kernel
theorem dX7_net_232 : decode cX7_net 232 = .ok (.iconst 0, 1) := by decide +kernel
theorem dX7_net_233 : decode cX7_net 233 = .ok (.if_icmp .ne 7, 3) := by decide +kernel
theorem dX7_net_236 : decode cX7_net 236 = .ok (.iconst 1, 1) := by decide +kernel
theorem dX7_net_237 : decode cX7_net 237 = .ok (.goto 4, 3) := by decide +kernel
theorem dX7_net_240 : decode cX7_net 240 = .ok (.iconst 0, 1) := by decide +kernel
theorem dX7_net_241 : decode cX7_net 241 = .ok (.istore 13, 2) := by decide +kernel
theorem dX7_net_243 : decode cX7_net 243 = .ok (.iinc 14 1, 3) := by decide +kernel
theorem dX7_net_246 : decode cX7_net 246 = .ok (.goto (-66), 3) := by decide +kernel
theorem dX7_net_249 : decode cX7_net 249 = .ok (.iload 13, 2) := by decide +kernel
theorem dX7_net_251 : decode cX7_net 251 = .ok (.ifCond .eq 13, 3) := by decide +kernel
theorem dX7_net_254 : decode cX7_net 254 = .ok (.iload 10, 2) := by decide +kernel
theorem dX7_net_256 : decode cX7_net 256 = .ok (.ifCond .ne 8, 3) := by decide +kernel
theorem dX7_net_259 : decode cX7_net 259 = .ok (.iload 12, 2) := by decide +kernel
theorem dX7_net_261 : decode cX7_net 261 = .ok (.goto 5, 3) := by decide +kernel
theorem dX7_net_264 : decode cX7_net 264 = .ok (.iload 11, 2) := by decide +kernel
theorem dX7_net_266 : decode cX7_net 266 = .ok (.istore 11, 2) := by decide +kernel
theorem dX7_net_268 : decode cX7_net 268 = .ok (.iload 10, 2) := by decide +kernel
theorem dX7_net_270 : decode cX7_net 270 = .ok (.iload 13, 2) := by decide +kernel
theorem dX7_net_272 : decode cX7_net 272 = .ok (.ifCond .eq 7, 3) := by decide +kernel
theorem dX7_net_275 : decode cX7_net 275 = .ok (.iconst 1, 1) := by decide +kernel
theorem dX7_net_276 : decode cX7_net 276 = .ok (.goto 4, 3) := by decide +kernel
theorem dX7_net_279 : decode cX7_net 279 = .ok (.iconst 0, 1) := by decide +kernel
theorem dX7_net_280 : decode cX7_net 280 = .ok (.iadd, 1) := by decide +kernel
theorem dX7_net_281 : decode cX7_net 281 = .ok (.istore 10, 2) := by decide +kernel
theorem dX7_net_283 : decode cX7_net 283 = .ok (.iinc 12 1, 3) := by decide +kernel
theorem dX7_net_286 : decode cX7_net 286 = .ok (.goto (-142), 3) := by decide +kernel
theorem dX7_net_289 : decode cX7_net 289 = .ok (.aload_n 0, 1) := by decide +kernel
theorem dX7_net_290 : decode cX7_net 290 = .ok (.getfield 16, 3) := by decide +kernel
theorem dX7_net_293 : decode cX7_net 293 = .ok (.iload_n 1, 1) := by decide +kernel
theorem dX7_net_294 : decode cX7_net 294 = .ok (.iload 9, 2) := by decide +kernel
theorem dX7_net_296 : decode cX7_net 296 = .ok (.iastore, 1) := by decide +kernel
theorem dX7_net_297 : decode cX7_net 297 = .ok (.iload 6, 2) := by decide +kernel
theorem dX7_net_299 : decode cX7_net 299 = .ok (.ifCond .ne 8, 3) := by decide +kernel
theorem dX7_net_302 : decode cX7_net 302 = .ok (.iload 10, 2) := by decide +kernel
theorem dX7_net_304 : decode cX7_net 304 = .ok (.goto 5, 3) := by decide +kernel
theorem dX7_net_307 : decode cX7_net 307 = .ok (.iload 11, 2) := by decide +kernel
theorem dX7_net_309 : decode cX7_net 309 = .ok (.ireturn, 1) := by decide +kernel
theorem dX7_puts_0 : decode cX7_puts 0 = .ok (.aload_n 0, 1) := by decide +kernel
theorem dX7_puts_1 : decode cX7_puts 1 = .ok (.getfield 64, 3) := by decide +kernel
theorem dX7_puts_4 : decode cX7_puts 4 = .ok (.iload_n 1, 1) := by decide +kernel
theorem dX7_puts_5 : decode cX7_puts 5 = .ok (.iaload, 1) := by decide +kernel
theorem dX7_puts_6 : decode cX7_puts 6 = .ok (.istore 5, 2) := by decide +kernel
theorem dX7_puts_8 : decode cX7_puts 8 = .ok (.aload_n 0, 1) := by decide +kernel
theorem dX7_puts_9 : decode cX7_puts 9 = .ok (.getfield 70, 3) := by decide +kernel
theorem dX7_puts_12 : decode cX7_puts 12 = .ok (.bipush 16, 2) := by decide +kernel
theorem dX7_puts_14 : decode cX7_puts 14 = .ok (.iload_n 1, 1) := by decide +kernel
theorem dX7_puts_15 : decode cX7_puts 15 = .ok (.imul, 1) := by decide +kernel
theorem dX7_puts_16 : decode cX7_puts 16 = .ok (.iload_n 2, 1) := by decide +kernel
theorem dX7_puts_17 : decode cX7_puts 17 = .ok (.iadd, 1) := by decide +kernel
theorem dX7_puts_18 : decode cX7_puts 18 = .ok (.iload 5, 2) := by decide +kernel
theorem dX7_puts_20 : decode cX7_puts 20 = .ok (.ifCond .ne 10, 3) := by decide +kernel
theorem dX7_puts_23 : decode cX7_puts 23 = .ok (.lload_n 3, 1) := by decide +kernel
theorem dX7_puts_24 : decode cX7_puts 24 = .ok (.l2i, 1) := by decide +kernel
theorem dX7_puts_25 : decode cX7_puts 25 = .ok (.i2b, 1) := by decide +kernel
theorem dX7_puts_26 : decode cX7_puts 26 = .ok (.i2l, 1) := by decide +kernel
theorem dX7_puts_27 : decode cX7_puts 27 = .ok (.goto 29, 3) := by decide +kernel
theorem dX7_puts_30 : decode cX7_puts 30 = .ok (.iload 5, 2) := by decide +kernel
theorem dX7_puts_32 : decode cX7_puts 32 = .ok (.iconst 1, 1) := by decide +kernel
theorem dX7_puts_33 : decode cX7_puts 33 = .ok (.if_icmp .ne 10, 3) := by decide +kernel
theorem dX7_puts_36 : decode cX7_puts 36 = .ok (.lload_n 3, 1) := by decide +kernel
theorem dX7_puts_37 : decode cX7_puts 37 = .ok (.l2i, 1) := by decide +kernel
theorem dX7_puts_38 : decode cX7_puts 38 = .ok (.i2s, 1) := by decide +kernel
theorem dX7_puts_39 : decode cX7_puts 39 = .ok (.i2l, 1) := by decide +kernel
theorem dX7_puts_40 : decode cX7_puts 40 = .ok (.goto 16, 3) := by decide +kernel
theorem dX7_puts_43 : decode cX7_puts 43 = .ok (.iload 5, 2) := by decide +kernel
theorem dX7_puts_45 : decode cX7_puts 45 = .ok (.iconst 2, 1) := by decide +kernel
theorem dX7_puts_46 : decode cX7_puts 46 = .ok (.if_icmp .ne 9, 3) := by decide +kernel
theorem dX7_puts_49 : decode cX7_puts 49 = .ok (.lload_n 3, 1) := by decide +kernel
theorem dX7_puts_50 : decode cX7_puts 50 = .ok (.l2i, 1) := by decide +kernel
theorem dX7_puts_51 : decode cX7_puts 51 = .ok (.i2l, 1) := by decide +kernel
theorem dX7_puts_52 : decode cX7_puts 52 = .ok (.goto 4, 3) := by decide +kernel
theorem dX7_puts_55 : decode cX7_puts 55 = .ok (.lload_n 3, 1) := by decide +kernel
theorem dX7_puts_56 : decode cX7_puts 56 = .ok (.lastore, 1) := by decide +kernel
theorem dX7_puts_57 : decode cX7_puts 57 = .ok (.return_, 1) := by decide +kernel
theorem dX7_film_0 : decode cX7_film 0 = .ok (.iload_n 1, 1) := by decide +kernel
theorem dX7_film_1 : decode cX7_film 1 = .ok (.invokestatic 228, 3) := by decide +kernel
theorem dX7_film_4 : decode cX7_film 4 = .ok (.ifCond .eq 10, 3) := by decide +kernel
theorem dX7_film_7 : decode cX7_film 7 = .ok (.iload_n 2, 1) := by decide +kernel
theorem dX7_film_8 : decode cX7_film 8 = .ok (.invokestatic 231, 3) := by decide +kernel
theorem dX7_film_11 : decode cX7_film 11 = .ok (.ifCond .ne 5, 3) := by decide +kernel
theorem dX7_film_14 : decode cX7_film 14 = .ok (.iconst (-1), 1) := by decide +kernel
theorem dX7_film_15 : decode cX7_film 15 = .ok (.ireturn, 1) := by decide +kernel
theorem dX7_film_16 : decode cX7_film 16 = .ok (.aload_n 0, 1) := by decide +kernel
theorem dX7_film_17 : decode cX7_film 17 = .ok (.iload_n 1, 1) := by decide +kernel
theorem dX7_film_18 : decode cX7_film 18 = .ok (.iload_n 2, 1) := by decide +kernel
theorem dX7_film_19 : decode cX7_film 19 = .ok (.iload_n 3, 1) := by decide +kernel
theorem dX7_film_20 : decode cX7_film 20 = .ok (.aload_n 0, 1) := by decide +kernel
theorem dX7_film_21 : decode cX7_film 21 = .ok (.getfield 77, 3) := by decide +kernel
theorem dX7_film_24 : decode cX7_film 24 = .ok (.invokevirtual 234, 3) := by decide +kernel
theorem dX7_film_27 : decode cX7_film 27 = .ok (.istore 4, 2) := by decide +kernel
theorem dX7_film_29 : decode cX7_film 29 = .ok (.iload 4, 2) := by decide +kernel
theorem dX7_film_31 : decode cX7_film 31 = .ok (.ifCond .ge 6, 3) := by decide +kernel
theorem dX7_film_34 : decode cX7_film 34 = .ok (.iload 4, 2) := by decide +kernel
theorem dX7_film_36 : decode cX7_film 36 = .ok (.ireturn, 1) := by decide +kernel
theorem dX7_film_37 : decode cX7_film 37 = .ok (.aload_n 0, 1) := by decide +kernel
theorem dX7_film_38 : decode cX7_film 38 = .ok (.aload_n 0, 1) := by decide +kernel
theorem dX7_film_39 : decode cX7_film 39 = .ok (.getfield 113, 3) := by decide +kernel
theorem dX7_film_42 : decode cX7_film 42 = .ok (.aload_n 0, 1) := by decide +kernel
theorem dX7_film_43 : decode cX7_film 43 = .ok (.getfield 116, 3) := by decide +kernel
theorem dX7_film_46 : decode cX7_film 46 = .ok (.invokevirtual 180, 3) := by decide +kernel
theorem dX7_film_49 : decode cX7_film 49 = .ok (.iconst 0, 1) := by decide +kernel
theorem dX7_film_50 : decode cX7_film 50 = .ok (.istore 5, 2) := by decide +kernel
theorem dX7_film_52 : decode cX7_film 52 = .ok (.iload 5, 2) := by decide +kernel
theorem dX7_film_54 : decode cX7_film 54 = .ok (.aload_n 0, 1) := by decide +kernel
theorem dX7_film_55 : decode cX7_film 55 = .ok (.getfield 77, 3) := by decide +kernel
theorem dX7_film_58 : decode cX7_film 58 = .ok (.if_icmp .ge 26, 3) := by decide +kernel
theorem dX7_film_61 : decode cX7_film 61 = .ok (.aload_n 0, 1) := by decide +kernel
theorem dX7_film_62 : decode cX7_film 62 = .ok (.iload_n 1, 1) := by decide +kernel
theorem dX7_film_63 : decode cX7_film 63 = .ok (.iload_n 3, 1) := by decide +kernel
theorem dX7_film_64 : decode cX7_film 64 = .ok (.iload 5, 2) := by decide +kernel
theorem dX7_film_66 : decode cX7_film 66 = .ok (.iadd, 1) := by decide +kernel
theorem dX7_film_67 : decode cX7_film 67 = .ok (.aload_n 0, 1) := by decide +kernel
theorem dX7_film_68 : decode cX7_film 68 = .ok (.getfield 40, 3) := by decide +kernel
theorem dX7_film_71 : decode cX7_film 71 = .ok (.iload 5, 2) := by decide +kernel
theorem dX7_film_73 : decode cX7_film 73 = .ok (.iaload, 1) := by decide +kernel
theorem dX7_film_74 : decode cX7_film 74 = .ok (.i2l, 1) := by decide +kernel
theorem dX7_film_75 : decode cX7_film 75 = .ok (.invokevirtual 242, 3) := by decide +kernel
theorem dX7_film_78 : decode cX7_film 78 = .ok (.iinc 5 1, 3) := by decide +kernel
theorem dX7_film_81 : decode cX7_film 81 = .ok (.goto (-29), 3) := by decide +kernel
theorem dX7_film_84 : decode cX7_film 84 = .ok (.aload_n 0, 1) := by decide +kernel
theorem dX7_film_85 : decode cX7_film 85 = .ok (.getfield 77, 3) := by decide +kernel
theorem dX7_film_88 : decode cX7_film 88 = .ok (.ireturn, 1) := by decide +kernel
theorem dX7_sheet_0 : decode cX7_sheet 0 = .ok (.iload_n 1, 1) := by decide +kernel
theorem dX7_sheet_1 : decode cX7_sheet 1 = .ok (.invokestatic 228, 3) := by decide +kernel
theorem dX7_sheet_4 : decode cX7_sheet 4 = .ok (.ifCond .eq 16, 3) := by decide +kernel
theorem dX7_sheet_7 : decode cX7_sheet 7 = .ok (.iload_n 2, 1) := by decide +kernel
theorem dX7_sheet_8 : decode cX7_sheet 8 = .ok (.invokestatic 231, 3) := by decide +kernel
theorem dX7_sheet_11 : decode cX7_sheet 11 = .ok (.ifCond .eq 9, 3) := by decide +kernel
theorem dX7_sheet_14 : decode cX7_sheet 14 = .ok (.iload_n 3, 1) := by decide +kernel
theorem dX7_sheet_15 : decode cX7_sheet 15 = .ok (.bipush 16, 2) := by decide +kernel
theorem dX7_sheet_17 : decode cX7_sheet 17 = .ok (.if_icmp .le 5, 3) := by decide +kernel
theorem dX7_sheet_20 : decode cX7_sheet 20 = .ok (.iconst (-1), 1) := by decide +kernel
theorem dX7_sheet_21 : decode cX7_sheet 21 = .ok (.ireturn, 1) := by decide +kernel
theorem dX7_sheet_22 : decode cX7_sheet 22 = .ok (.iload_n 3, 1) := by decide +kernel
theorem dX7_sheet_23 : decode cX7_sheet 23 = .ok (.ifCond .ge 6, 3) := by decide +kernel
theorem dX7_sheet_26 : decode cX7_sheet 26 = .ok (.bipush (-14), 2) := by decide +kernel
theorem dX7_sheet_28 : decode cX7_sheet 28 = .ok (.ireturn, 1) := by decide +kernel
theorem dX7_sheet_29 : decode cX7_sheet 29 = .ok (.aload_n 0, 1) := by decide +kernel
theorem dX7_sheet_30 : decode cX7_sheet 30 = .ok (.getfield 64, 3) := by decide +kernel
theorem dX7_sheet_33 : decode cX7_sheet 33 = .ok (.iload_n 1, 1) := by decide +kernel
theorem dX7_sheet_34 : decode cX7_sheet 34 = .ok (.iload_n 2, 1) := by decide +kernel
theorem dX7_sheet_35 : decode cX7_sheet 35 = .ok (.iastore, 1) := by decide +kernel
theorem dX7_sheet_36 : decode cX7_sheet 36 = .ok (.aload_n 0, 1) := by decide +kernel
theorem dX7_sheet_37 : decode cX7_sheet 37 = .ok (.getfield 67, 3) := by decide +kernel
theorem dX7_sheet_40 : decode cX7_sheet 40 = .ok (.iload_n 1, 1) := by decide +kernel
theorem dX7_sheet_41 : decode cX7_sheet 41 = .ok (.iload_n 3, 1) := by decide +kernel
theorem dX7_sheet_42 : decode cX7_sheet 42 = .ok (.iastore, 1) := by decide +kernel
theorem dX7_sheet_43 : decode cX7_sheet 43 = .ok (.iconst 0, 1) := by decide +kernel
theorem dX7_sheet_44 : decode cX7_sheet 44 = .ok (.istore 4, 2) := by decide +kernel
theorem dX7_sheet_46 : decode cX7_sheet 46 = .ok (.iload 4, 2) := by decide +kernel
theorem dX7_sheet_48 : decode cX7_sheet 48 = .ok (.bipush 16, 2) := by decide +kernel
theorem dX7_sheet_50 : decode cX7_sheet 50 = .ok (.if_icmp .ge 22, 3) := by decide +kernel
theorem dX7_sheet_53 : decode cX7_sheet 53 = .ok (.aload_n 0, 1) := by decide +kernel
theorem dX7_sheet_54 : decode cX7_sheet 54 = .ok (.getfield 70, 3) := by decide +kernel
theorem dX7_sheet_57 : decode cX7_sheet 57 = .ok (.bipush 16, 2) := by decide +kernel
theorem dX7_sheet_59 : decode cX7_sheet 59 = .ok (.iload_n 1, 1) := by decide +kernel
theorem dX7_sheet_60 : decode cX7_sheet 60 = .ok (.imul, 1) := by decide +kernel
theorem dX7_sheet_61 : decode cX7_sheet 61 = .ok (.iload 4, 2) := by decide +kernel
theorem dX7_sheet_63 : decode cX7_sheet 63 = .ok (.iadd, 1) := by decide +kernel
theorem dX7_sheet_64 : decode cX7_sheet 64 = .ok (.lconst 0, 1) := by decide +kernel
theorem dX7_sheet_65 : decode cX7_sheet 65 = .ok (.lastore, 1) := by decide +kernel
theorem dX7_sheet_66 : decode cX7_sheet 66 = .ok (.iinc 4 1, 3) := by decide +kernel
theorem dX7_sheet_69 : decode cX7_sheet 69 = .ok (.goto (-23), 3) := by decide +kernel
theorem dX7_sheet_72 : decode cX7_sheet 72 = .ok (.iload_n 3, 1) := by decide +kernel
theorem dX7_sheet_73 : decode cX7_sheet 73 = .ok (.ireturn, 1) := by decide +kernel
theorem dX7_drop_0 : decode cX7_drop 0 = .ok (.iload_n 1, 1) := by decide +kernel
theorem dX7_drop_1 : decode cX7_drop 1 = .ok (.invokestatic 228, 3) := by decide +kernel
theorem dX7_drop_4 : decode cX7_drop 4 = .ok (.ifCond .ne 5, 3) := by decide +kernel
theorem dX7_drop_7 : decode cX7_drop 7 = .ok (.iconst (-1), 1) := by decide +kernel
theorem dX7_drop_8 : decode cX7_drop 8 = .ok (.ireturn, 1) := by decide +kernel
theorem dX7_drop_9 : decode cX7_drop 9 = .ok (.aload_n 0, 1) := by decide +kernel
theorem dX7_drop_10 : decode cX7_drop 10 = .ok (.getfield 64, 3) := by decide +kernel
theorem dX7_drop_13 : decode cX7_drop 13 = .ok (.iload_n 1, 1) := by decide +kernel
theorem dX7_drop_14 : decode cX7_drop 14 = .ok (.iaload, 1) := by decide +kernel
theorem dX7_drop_15 : decode cX7_drop 15 = .ok (.ifCond .ge 6, 3) := by decide +kernel
theorem dX7_drop_18 : decode cX7_drop 18 = .ok (.bipush (-11), 2) := by decide +kernel
theorem dX7_drop_20 : decode cX7_drop 20 = .ok (.ireturn, 1) := by decide +kernel
theorem dX7_drop_21 : decode cX7_drop 21 = .ok (.aload_n 0, 1) := by decide +kernel
theorem dX7_drop_22 : decode cX7_drop 22 = .ok (.getfield 64, 3) := by decide +kernel
theorem dX7_drop_25 : decode cX7_drop 25 = .ok (.iload_n 1, 1) := by decide +kernel
theorem dX7_drop_26 : decode cX7_drop 26 = .ok (.iconst (-1), 1) := by decide +kernel
theorem dX7_drop_27 : decode cX7_drop 27 = .ok (.iastore, 1) := by decide +kernel
theorem dX7_drop_28 : decode cX7_drop 28 = .ok (.aload_n 0, 1) := by decide +kernel
theorem dX7_drop_29 : decode cX7_drop 29 = .ok (.getfield 67, 3) := by decide +kernel
theorem dX7_drop_32 : decode cX7_drop 32 = .ok (.iload_n 1, 1) := by decide +kernel
theorem dX7_drop_33 : decode cX7_drop 33 = .ok (.iaload, 1) := by decide +kernel
theorem dX7_drop_34 : decode cX7_drop 34 = .ok (.ireturn, 1) := by decide +kernel
theorem dX7_item_0 : decode cX7_item 0 = .ok (.iload_n 1, 1) := by decide +kernel
theorem dX7_item_1 : decode cX7_item 1 = .ok (.invokestatic 228, 3) := by decide +kernel
theorem dX7_item_4 : decode cX7_item 4 = .ok (.ifCond .eq 10, 3) := by decide +kernel
theorem dX7_item_7 : decode cX7_item 7 = .ok (.iload_n 2, 1) := by decide +kernel
theorem dX7_item_8 : decode cX7_item 8 = .ok (.invokestatic 231, 3) := by decide +kernel
theorem dX7_item_11 : decode cX7_item 11 = .ok (.ifCond .ne 5, 3) := by decide +kernel
theorem dX7_item_14 : decode cX7_item 14 = .ok (.iconst (-1), 1) := by decide +kernel
theorem dX7_item_15 : decode cX7_item 15 = .ok (.ireturn, 1) := by decide +kernel
theorem dX7_item_16 : decode cX7_item 16 = .ok (.aload_n 0, 1) := by decide +kernel
theorem dX7_item_17 : decode cX7_item 17 = .ok (.iload_n 1, 1) := by decide +kernel
theorem dX7_item_18 : decode cX7_item 18 = .ok (.iload_n 2, 1) := by decide +kernel
theorem dX7_item_19 : decode cX7_item 19 = .ok (.iload_n 3, 1) := by decide +kernel
theorem dX7_item_20 : decode cX7_item 20 = .ok (.iconst 1, 1) := by decide +kernel
theorem dX7_item_21 : decode cX7_item 21 = .ok (.invokevirtual 234, 3) := by decide +kernel
theorem dX7_item_24 : decode cX7_item 24 = .ok (.istore 6, 2) := by decide +kernel
theorem dX7_item_26 : decode cX7_item 26 = .ok (.iload 6, 2) := by decide +kernel
theorem dX7_item_28 : decode cX7_item 28 = .ok (.ifCond .ge 6, 3) := by decide +kernel
theorem dX7_item_31 : decode cX7_item 31 = .ok (.iload 6, 2) := by decide +kernel
theorem dX7_item_33 : decode cX7_item 33 = .ok (.ireturn, 1) := by decide +kernel
theorem dX7_item_34 : decode cX7_item 34 = .ok (.aload_n 0, 1) := by decide +kernel
theorem dX7_item_35 : decode cX7_item 35 = .ok (.iload_n 1, 1) := by decide +kernel
theorem dX7_item_36 : decode cX7_item 36 = .ok (.iload_n 3, 1) := by decide +kernel
theorem dX7_item_37 : decode cX7_item 37 = .ok (.lload 4, 2) := by decide +kernel
theorem dX7_item_39 : decode cX7_item 39 = .ok (.invokevirtual 242, 3) := by decide +kernel
theorem dX7_item_42 : decode cX7_item 42 = .ok (.iconst 1, 1) := by decide +kernel
theorem dX7_item_43 : decode cX7_item 43 = .ok (.ireturn, 1) := by decide +kernel
theorem dX7_copy_0 : decode cX7_copy 0 = .ok (.iload_n 1, 1) := by decide +kernel
theorem dX7_copy_1 : decode cX7_copy 1 = .ok (.invokestatic 228, 3) := by decide +kernel
theorem dX7_copy_4 : decode cX7_copy 4 = .ok (.ifCond .eq 10, 3) := by decide +kernel
theorem dX7_copy_7 : decode cX7_copy 7 = .ok (.iload_n 3, 1) := by decide +kernel
theorem dX7_copy_8 : decode cX7_copy 8 = .ok (.invokestatic 228, 3) := by decide +kernel
theorem dX7_copy_11 : decode cX7_copy 11 = .ok (.ifCond .ne 5, 3) := by decide +kernel
theorem dX7_copy_14 : decode cX7_copy 14 = .ok (.iconst (-1), 1) := by decide +kernel
theorem dX7_copy_15 : decode cX7_copy 15 = .ok (.ireturn, 1) := by decide +kernel
theorem dX7_copy_16 : decode cX7_copy 16 = .ok (.aload_n 0, 1) := by decide +kernel
theorem dX7_copy_17 : decode cX7_copy 17 = .ok (.getfield 64, 3) := by decide +kernel
theorem dX7_copy_20 : decode cX7_copy 20 = .ok (.iload_n 1, 1) := by decide +kernel
theorem dX7_copy_21 : decode cX7_copy 21 = .ok (.iaload, 1) := by decide +kernel
theorem dX7_copy_22 : decode cX7_copy 22 = .ok (.ifCond .lt 12, 3) := by decide +kernel
theorem dX7_copy_25 : decode cX7_copy 25 = .ok (.aload_n 0, 1) := by decide +kernel
theorem dX7_copy_26 : decode cX7_copy 26 = .ok (.getfield 64, 3) := by decide +kernel
theorem dX7_copy_29 : decode cX7_copy 29 = .ok (.iload_n 3, 1) := by decide +kernel
theorem dX7_copy_30 : decode cX7_copy 30 = .ok (.iaload, 1) := by decide +kernel
theorem dX7_copy_31 : decode cX7_copy 31 = .ok (.ifCond .ge 6, 3) := by decide +kernel
theorem dX7_copy_34 : decode cX7_copy 34 = .ok (.bipush (-11), 2) := by decide +kernel
theorem dX7_copy_36 : decode cX7_copy 36 = .ok (.ireturn, 1) := by decide +kernel
theorem dX7_copy_37 : decode cX7_copy 37 = .ok (.aload_n 0, 1) := by decide +kernel
theorem dX7_copy_38 : decode cX7_copy 38 = .ok (.getfield 64, 3) := by decide +kernel
theorem dX7_copy_41 : decode cX7_copy 41 = .ok (.iload_n 1, 1) := by decide +kernel
theorem dX7_copy_42 : decode cX7_copy 42 = .ok (.iaload, 1) := by decide +kernel
theorem dX7_copy_43 : decode cX7_copy 43 = .ok (.aload_n 0, 1) := by decide +kernel
theorem dX7_copy_44 : decode cX7_copy 44 = .ok (.getfield 64, 3) := by decide +kernel
theorem dX7_copy_47 : decode cX7_copy 47 = .ok (.iload_n 3, 1) := by decide +kernel
theorem dX7_copy_48 : decode cX7_copy 48 = .ok (.iaload, 1) := by decide +kernel
theorem dX7_copy_49 : decode cX7_copy 49 = .ok (.if_icmp .eq 6, 3) := by decide +kernel
theorem dX7_copy_52 : decode cX7_copy 52 = .ok (.bipush (-12), 2) := by decide +kernel
theorem dX7_copy_54 : decode cX7_copy 54 = .ok (.ireturn, 1) := by decide +kernel
theorem dX7_copy_55 : decode cX7_copy 55 = .ok (.iload 5, 2) := by decide +kernel
theorem dX7_copy_57 : decode cX7_copy 57 = .ok (.ifCond .lt 38, 3) := by decide +kernel
theorem dX7_copy_60 : decode cX7_copy 60 = .ok (.aload_n 0, 1) := by decide +kernel
theorem dX7_copy_61 : decode cX7_copy 61 = .ok (.iload_n 1, 1) := by decide +kernel
theorem dX7_copy_62 : decode cX7_copy 62 = .ok (.aload_n 0, 1) := by decide +kernel
theorem dX7_copy_63 : decode cX7_copy 63 = .ok (.getfield 64, 3) := by decide +kernel
theorem dX7_copy_66 : decode cX7_copy 66 = .ok (.iload_n 1, 1) := by decide +kernel
theorem dX7_copy_67 : decode cX7_copy 67 = .ok (.iaload, 1) := by decide +kernel
theorem dX7_copy_68 : decode cX7_copy 68 = .ok (.iload_n 2, 1) := by decide +kernel
theorem dX7_copy_69 : decode cX7_copy 69 = .ok (.iload 5, 2) := by decide +kernel
theorem dX7_copy_71 : decode cX7_copy 71 = .ok (.invokevirtual 234, 3) := by decide +kernel
theorem dX7_copy_74 : decode cX7_copy 74 = .ok (.ifCond .lt 21, 3) := by decide +kernel
theorem dX7_copy_77 : decode cX7_copy 77 = .ok (.aload_n 0, 1) := by decide +kernel
theorem dX7_copy_78 : decode cX7_copy 78 = .ok (.iload_n 3, 1) := by decide +kernel
theorem dX7_copy_79 : decode cX7_copy 79 = .ok (.aload_n 0, 1) := by decide +kernel
theorem dX7_copy_80 : decode cX7_copy 80 = .ok (.getfield 64, 3) := by decide +kernel
theorem dX7_copy_83 : decode cX7_copy 83 = .ok (.iload_n 3, 1) := by decide +kernel
theorem dX7_copy_84 : decode cX7_copy 84 = .ok (.iaload, 1) := by decide +kernel
theorem dX7_copy_85 : decode cX7_copy 85 = .ok (.iload 4, 2) := by decide +kernel
theorem dX7_copy_87 : decode cX7_copy 87 = .ok (.iload 5, 2) := by decide +kernel
theorem dX7_copy_89 : decode cX7_copy 89 = .ok (.invokevirtual 234, 3) := by decide +kernel
theorem dX7_copy_92 : decode cX7_copy 92 = .ok (.ifCond .ge 6, 3) := by decide +kernel
theorem dX7_copy_95 : decode cX7_copy 95 = .ok (.bipush (-13), 2) := by decide +kernel
theorem dX7_copy_97 : decode cX7_copy 97 = .ok (.ireturn, 1) := by decide +kernel
theorem dX7_copy_98 : decode cX7_copy 98 = .ok (.iconst 0, 1) := by decide +kernel
theorem dX7_copy_99 : decode cX7_copy 99 = .ok (.istore 6, 2) := by decide +kernel
theorem dX7_copy_101 : decode cX7_copy 101 = .ok (.iload 6, 2) := by decide +kernel
theorem dX7_copy_103 : decode cX7_copy 103 = .ok (.iload 5, 2) := by decide +kernel
theorem dX7_copy_105 : decode cX7_copy 105 = .ok (.if_icmp .ge 30, 3) := by decide +kernel
theorem dX7_copy_108 : decode cX7_copy 108 = .ok (.aload_n 0, 1) := by decide +kernel
theorem dX7_copy_109 : decode cX7_copy 109 = .ok (.getfield 74, 3) := by decide +kernel
theorem dX7_copy_112 : decode cX7_copy 112 = .ok (.iload 6, 2) := by decide +kernel
theorem dX7_copy_114 : decode cX7_copy 114 = .ok (.aload_n 0, 1) := by decide +kernel
theorem dX7_copy_115 : decode cX7_copy 115 = .ok (.getfield 70, 3) := by decide +kernel
theorem dX7_copy_118 : decode cX7_copy 118 = .ok (.bipush 16, 2) := by decide +kernel
theorem dX7_copy_120 : decode cX7_copy 120 = .ok (.iload_n 1, 1) := by decide +kernel
theorem dX7_copy_121 : decode cX7_copy 121 = .ok (.imul, 1) := by decide +kernel
theorem dX7_copy_122 : decode cX7_copy 122 = .ok (.iload_n 2, 1) := by decide +kernel
theorem dX7_copy_123 : decode cX7_copy 123 = .ok (.iadd, 1) := by decide +kernel
theorem dX7_copy_124 : decode cX7_copy 124 = .ok (.iload 6, 2) := by decide +kernel
theorem dX7_copy_126 : decode cX7_copy 126 = .ok (.iadd, 1) := by decide +kernel
theorem dX7_copy_127 : decode cX7_copy 127 = .ok (.laload, 1) := by decide +kernel
theorem dX7_copy_128 : decode cX7_copy 128 = .ok (.lastore, 1) := by decide +kernel
theorem dX7_copy_129 : decode cX7_copy 129 = .ok (.iinc 6 1, 3) := by decide +kernel
theorem dX7_copy_132 : decode cX7_copy 132 = .ok (.goto (-31), 3) := by decide +kernel
theorem dX7_copy_135 : decode cX7_copy 135 = .ok (.iconst 0, 1) := by decide +kernel
theorem dX7_copy_136 : decode cX7_copy 136 = .ok (.istore 6, 2) := by decide +kernel
theorem dX7_copy_138 : decode cX7_copy 138 = .ok (.iload 6, 2) := by decide +kernel
theorem dX7_copy_140 : decode cX7_copy 140 = .ok (.iload 5, 2) := by decide +kernel
theorem dX7_copy_142 : decode cX7_copy 142 = .ok (.if_icmp .ge 31, 3) := by decide +kernel
theorem dX7_copy_145 : decode cX7_copy 145 = .ok (.aload_n 0, 1) := by decide +kernel
theorem dX7_copy_146 : decode cX7_copy 146 = .ok (.getfield 70, 3) := by decide +kernel
theorem dX7_copy_149 : decode cX7_copy 149 = .ok (.bipush 16, 2) := by decide +kernel
theorem dX7_copy_151 : decode cX7_copy 151 = .ok (.iload_n 3, 1) := by decide +kernel
theorem dX7_copy_152 : decode cX7_copy 152 = .ok (.imul, 1) := by decide +kernel
theorem dX7_copy_153 : decode cX7_copy 153 = .ok (.iload 4, 2) := by decide +kernel
theorem dX7_copy_155 : decode cX7_copy 155 = .ok (.iadd, 1) := by decide +kernel
theorem dX7_copy_156 : decode cX7_copy 156 = .ok (.iload 6, 2) := by decide +kernel
theorem dX7_copy_158 : decode cX7_copy 158 = .ok (.iadd, 1) := by decide +kernel
theorem dX7_copy_159 : decode cX7_copy 159 = .ok (.aload_n 0, 1) := by decide +kernel
theorem dX7_copy_160 : decode cX7_copy 160 = .ok (.getfield 74, 3) := by decide +kernel
theorem dX7_copy_163 : decode cX7_copy 163 = .ok (.iload 6, 2) := by decide +kernel
theorem dX7_copy_165 : decode cX7_copy 165 = .ok (.laload, 1) := by decide +kernel
theorem dX7_copy_166 : decode cX7_copy 166 = .ok (.lastore, 1) := by decide +kernel
theorem dX7_copy_167 : decode cX7_copy 167 = .ok (.iinc 6 1, 3) := by decide +kernel
theorem dX7_copy_170 : decode cX7_copy 170 = .ok (.goto (-32), 3) := by decide +kernel
theorem dX7_copy_173 : decode cX7_copy 173 = .ok (.iload 5, 2) := by decide +kernel
theorem dX7_copy_175 : decode cX7_copy 175 = .ok (.ireturn, 1) := by decide +kernel
end
section
theorem dL_law_0 : decode cL_law 0 = .ok (.new 7, 3) := by decide +kernel
theorem dL_law_3 : decode cL_law 3 = .ok (.dup, 1) := by decide +kernel
theorem dL_law_4 : decode cL_law 4 = .ok (.invokespecial 9, 3) := by decide +kernel
theorem dL_law_7 : decode cL_law 7 = .ok (.astore_n 1, 1) := by decide +kernel
theorem dL_law_8 : decode cL_law 8 = .ok (.new 10, 3) := by decide +kernel
theorem dL_law_11 : decode cL_law 11 = .ok (.dup, 1) := by decide +kernel
theorem dL_law_12 : decode cL_law 12 = .ok (.invokespecial 12, 3) := by decide +kernel
theorem dL_law_15 : decode cL_law 15 = .ok (.astore_n 2, 1) := by decide +kernel
theorem dL_law_16 : decode cL_law 16 = .ok (.iconst 0, 1) := by decide +kernel
theorem dL_law_17 : decode cL_law 17 = .ok (.istore_n 3, 1) := by decide +kernel
theorem dL_law_18 : decode cL_law 18 = .ok (.iload_n 3, 1) := by decide +kernel
theorem dL_law_19 : decode cL_law 19 = .ok (.aload_n 0, 1) := by decide +kernel
theorem dL_law_20 : decode cL_law 20 = .ok (.arraylength, 1) := by decide +kernel
theorem dL_law_21 : decode cL_law 21 = .ok (.bipush 7, 2) := by decide +kernel
theorem dL_law_23 : decode cL_law 23 = .ok (.isub, 1) := by decide +kernel
theorem dL_law_24 : decode cL_law 24 = .ok (.if_icmp .gt 1269, 3) := by decide +kernel
theorem dL_law_27 : decode cL_law 27 = .ok (.aload_n 0, 1) := by decide +kernel
theorem dL_law_28 : decode cL_law 28 = .ok (.iload_n 3, 1) := by decide +kernel
theorem dL_law_29 : decode cL_law 29 = .ok (.iaload, 1) := by decide +kernel
theorem dL_law_30 : decode cL_law 30 = .ok (.bipush 63, 2) := by decide +kernel
theorem dL_law_32 : decode cL_law 32 = .ok (.iand, 1) := by decide +kernel
theorem dL_law_33 : decode cL_law 33 = .ok (.tableswitch 1254 0 34 #[155, 178, 221, 254, 297, 340, 373, 396, 419, 432, 455, 478, 491, 504, 527, 550, 593, 626, 639, 662, 715, 738, 751, 794, 808, 822, 855, 868, 881, 924, 999, 1042, 1085, 1108, 1191], 155) := by decide +kernel
theorem dL_law_188 : decode cL_law 188 = .ok (.aload_n 1, 1) := by decide +kernel
theorem dL_law_189 : decode cL_law 189 = .ok (.aload_n 0, 1) := by decide +kernel
theorem dL_law_190 : decode cL_law 190 = .ok (.iload_n 3, 1) := by decide +kernel
theorem dL_law_191 : decode cL_law 191 = .ok (.iconst 1, 1) := by decide +kernel
theorem dL_law_192 : decode cL_law 192 = .ok (.iadd, 1) := by decide +kernel
theorem dL_law_193 : decode cL_law 193 = .ok (.iaload, 1) := by decide +kernel
theorem dL_law_194 : decode cL_law 194 = .ok (.invokevirtual 13, 3) := by decide +kernel
theorem dL_law_197 : decode cL_law 197 = .ok (.aload_n 2, 1) := by decide +kernel
theorem dL_law_198 : decode cL_law 198 = .ok (.aload_n 0, 1) := by decide +kernel
theorem dL_law_199 : decode cL_law 199 = .ok (.iload_n 3, 1) := by decide +kernel
theorem dL_law_200 : decode cL_law 200 = .ok (.iconst 1, 1) := by decide +kernel
theorem dL_law_201 : decode cL_law 201 = .ok (.iadd, 1) := by decide +kernel
theorem dL_law_202 : decode cL_law 202 = .ok (.iaload, 1) := by decide +kernel
theorem dL_law_203 : decode cL_law 203 = .ok (.invokevirtual 17, 3) := by decide +kernel
theorem dL_law_206 : decode cL_law 206 = .ok (.if_icmp .eq 1081, 3) := by decide +kernel
theorem dL_law_209 : decode cL_law 209 = .ok (.iconst 0, 1) := by decide +kernel
theorem dL_law_210 : decode cL_law 210 = .ok (.ireturn, 1) := by decide +kernel
theorem dL_law_211 : decode cL_law 211 = .ok (.aload_n 1, 1) := by decide +kernel
theorem dL_law_212 : decode cL_law 212 = .ok (.aload_n 0, 1) := by decide +kernel
theorem dL_law_213 : decode cL_law 213 = .ok (.iload_n 3, 1) := by decide +kernel
theorem dL_law_214 : decode cL_law 214 = .ok (.iconst 1, 1) := by decide +kernel
theorem dL_law_215 : decode cL_law 215 = .ok (.iadd, 1) := by decide +kernel
theorem dL_law_216 : decode cL_law 216 = .ok (.iaload, 1) := by decide +kernel
theorem dL_law_217 : decode cL_law 217 = .ok (.aload_n 0, 1) := by decide +kernel
theorem dL_law_218 : decode cL_law 218 = .ok (.iload_n 3, 1) := by decide +kernel
theorem dL_law_219 : decode cL_law 219 = .ok (.iconst 2, 1) := by decide +kernel
theorem dL_law_220 : decode cL_law 220 = .ok (.iadd, 1) := by decide +kernel
theorem dL_law_221 : decode cL_law 221 = .ok (.iaload, 1) := by decide +kernel
theorem dL_law_222 : decode cL_law 222 = .ok (.aload_n 0, 1) := by decide +kernel
theorem dL_law_223 : decode cL_law 223 = .ok (.iload_n 3, 1) := by decide +kernel
theorem dL_law_224 : decode cL_law 224 = .ok (.iconst 3, 1) := by decide +kernel
theorem dL_law_225 : decode cL_law 225 = .ok (.iadd, 1) := by decide +kernel
theorem dL_law_226 : decode cL_law 226 = .ok (.iaload, 1) := by decide +kernel
theorem dL_law_227 : decode cL_law 227 = .ok (.invokevirtual 18, 3) := by decide +kernel
theorem dL_law_230 : decode cL_law 230 = .ok (.aload_n 2, 1) := by decide +kernel
theorem dL_law_231 : decode cL_law 231 = .ok (.aload_n 0, 1) := by decide +kernel
theorem dL_law_232 : decode cL_law 232 = .ok (.iload_n 3, 1) := by decide +kernel
theorem dL_law_233 : decode cL_law 233 = .ok (.iconst 1, 1) := by decide +kernel
theorem dL_law_234 : decode cL_law 234 = .ok (.iadd, 1) := by decide +kernel
theorem dL_law_235 : decode cL_law 235 = .ok (.iaload, 1) := by decide +kernel
theorem dL_law_236 : decode cL_law 236 = .ok (.aload_n 0, 1) := by decide +kernel
theorem dL_law_237 : decode cL_law 237 = .ok (.iload_n 3, 1) := by decide +kernel
theorem dL_law_238 : decode cL_law 238 = .ok (.iconst 2, 1) := by decide +kernel
theorem dL_law_239 : decode cL_law 239 = .ok (.iadd, 1) := by decide +kernel
theorem dL_law_240 : decode cL_law 240 = .ok (.iaload, 1) := by decide +kernel
theorem dL_law_241 : decode cL_law 241 = .ok (.aload_n 0, 1) := by decide +kernel
theorem dL_law_242 : decode cL_law 242 = .ok (.iload_n 3, 1) := by decide +kernel
theorem dL_law_243 : decode cL_law 243 = .ok (.iconst 3, 1) := by decide +kernel
theorem dL_law_244 : decode cL_law 244 = .ok (.iadd, 1) := by decide +kernel
theorem dL_law_245 : decode cL_law 245 = .ok (.iaload, 1) := by decide +kernel
theorem dL_law_246 : decode cL_law 246 = .ok (.invokevirtual 22, 3) := by decide +kernel
theorem dL_law_249 : decode cL_law 249 = .ok (.if_icmp .eq 1038, 3) := by decide +kernel
theorem dL_law_252 : decode cL_law 252 = .ok (.iconst 0, 1) := by decide +kernel
theorem dL_law_253 : decode cL_law 253 = .ok (.ireturn, 1) := by decide +kernel
theorem dL_law_254 : decode cL_law 254 = .ok (.aload_n 1, 1) := by decide +kernel
theorem dL_law_255 : decode cL_law 255 = .ok (.aload_n 0, 1) := by decide +kernel
theorem dL_law_256 : decode cL_law 256 = .ok (.iload_n 3, 1) := by decide +kernel
theorem dL_law_257 : decode cL_law 257 = .ok (.iconst 1, 1) := by decide +kernel
theorem dL_law_258 : decode cL_law 258 = .ok (.iadd, 1) := by decide +kernel
theorem dL_law_259 : decode cL_law 259 = .ok (.iaload, 1) := by decide +kernel
theorem dL_law_260 : decode cL_law 260 = .ok (.aload_n 0, 1) := by decide +kernel
theorem dL_law_261 : decode cL_law 261 = .ok (.iload_n 3, 1) := by decide +kernel
theorem dL_law_262 : decode cL_law 262 = .ok (.iconst 2, 1) := by decide +kernel
theorem dL_law_263 : decode cL_law 263 = .ok (.iadd, 1) := by decide +kernel
theorem dL_law_264 : decode cL_law 264 = .ok (.iaload, 1) := by decide +kernel
theorem dL_law_265 : decode cL_law 265 = .ok (.invokevirtual 23, 3) := by decide +kernel
theorem dL_law_268 : decode cL_law 268 = .ok (.aload_n 2, 1) := by decide +kernel
theorem dL_law_269 : decode cL_law 269 = .ok (.aload_n 0, 1) := by decide +kernel
theorem dL_law_270 : decode cL_law 270 = .ok (.iload_n 3, 1) := by decide +kernel
theorem dL_law_271 : decode cL_law 271 = .ok (.iconst 1, 1) := by decide +kernel
theorem dL_law_272 : decode cL_law 272 = .ok (.iadd, 1) := by decide +kernel
theorem dL_law_273 : decode cL_law 273 = .ok (.iaload, 1) := by decide +kernel
theorem dL_law_274 : decode cL_law 274 = .ok (.aload_n 0, 1) := by decide +kernel
theorem dL_law_275 : decode cL_law 275 = .ok (.iload_n 3, 1) := by decide +kernel
theorem dL_law_276 : decode cL_law 276 = .ok (.iconst 2, 1) := by decide +kernel
theorem dL_law_277 : decode cL_law 277 = .ok (.iadd, 1) := by decide +kernel
theorem dL_law_278 : decode cL_law 278 = .ok (.iaload, 1) := by decide +kernel
theorem dL_law_279 : decode cL_law 279 = .ok (.invokevirtual 27, 3) := by decide +kernel
theorem dL_law_282 : decode cL_law 282 = .ok (.if_icmp .eq 1005, 3) := by decide +kernel
theorem dL_law_285 : decode cL_law 285 = .ok (.iconst 0, 1) := by decide +kernel
theorem dL_law_286 : decode cL_law 286 = .ok (.ireturn, 1) := by decide +kernel
theorem dL_law_287 : decode cL_law 287 = .ok (.aload_n 1, 1) := by decide +kernel
theorem dL_law_288 : decode cL_law 288 = .ok (.aload_n 0, 1) := by decide +kernel
theorem dL_law_289 : decode cL_law 289 = .ok (.iload_n 3, 1) := by decide +kernel
theorem dL_law_290 : decode cL_law 290 = .ok (.iconst 1, 1) := by decide +kernel
theorem dL_law_291 : decode cL_law 291 = .ok (.iadd, 1) := by decide +kernel
theorem dL_law_292 : decode cL_law 292 = .ok (.iaload, 1) := by decide +kernel
theorem dL_law_293 : decode cL_law 293 = .ok (.aload_n 0, 1) := by decide +kernel
theorem dL_law_294 : decode cL_law 294 = .ok (.iload_n 3, 1) := by decide +kernel
theorem dL_law_295 : decode cL_law 295 = .ok (.iconst 2, 1) := by decide +kernel
theorem dL_law_296 : decode cL_law 296 = .ok (.iadd, 1) := by decide +kernel
theorem dL_law_297 : decode cL_law 297 = .ok (.iaload, 1) := by decide +kernel
theorem dL_law_298 : decode cL_law 298 = .ok (.aload_n 0, 1) := by decide +kernel
theorem dL_law_299 : decode cL_law 299 = .ok (.iload_n 3, 1) := by decide +kernel
theorem dL_law_300 : decode cL_law 300 = .ok (.iconst 3, 1) := by decide +kernel
theorem dL_law_301 : decode cL_law 301 = .ok (.iadd, 1) := by decide +kernel
theorem dL_law_302 : decode cL_law 302 = .ok (.iaload, 1) := by decide +kernel
theorem dL_law_303 : decode cL_law 303 = .ok (.invokevirtual 28, 3) := by decide +kernel
theorem dL_law_306 : decode cL_law 306 = .ok (.aload_n 2, 1) := by decide +kernel
theorem dL_law_307 : decode cL_law 307 = .ok (.aload_n 0, 1) := by decide +kernel
theorem dL_law_308 : decode cL_law 308 = .ok (.iload_n 3, 1) := by decide +kernel
theorem dL_law_309 : decode cL_law 309 = .ok (.iconst 1, 1) := by decide +kernel
theorem dL_law_310 : decode cL_law 310 = .ok (.iadd, 1) := by decide +kernel
theorem dL_law_311 : decode cL_law 311 = .ok (.iaload, 1) := by decide +kernel
theorem dL_law_312 : decode cL_law 312 = .ok (.aload_n 0, 1) := by decide +kernel
theorem dL_law_313 : decode cL_law 313 = .ok (.iload_n 3, 1) := by decide +kernel
theorem dL_law_314 : decode cL_law 314 = .ok (.iconst 2, 1) := by decide +kernel
theorem dL_law_315 : decode cL_law 315 = .ok (.iadd, 1) := by decide +kernel
theorem dL_law_316 : decode cL_law 316 = .ok (.iaload, 1) := by decide +kernel
theorem dL_law_317 : decode cL_law 317 = .ok (.aload_n 0, 1) := by decide +kernel
theorem dL_law_318 : decode cL_law 318 = .ok (.iload_n 3, 1) := by decide +kernel
theorem dL_law_319 : decode cL_law 319 = .ok (.iconst 3, 1) := by decide +kernel
theorem dL_law_320 : decode cL_law 320 = .ok (.iadd, 1) := by decide +kernel
theorem dL_law_321 : decode cL_law 321 = .ok (.iaload, 1) := by decide +kernel
theorem dL_law_322 : decode cL_law 322 = .ok (.invokevirtual 31, 3) := by decide +kernel
theorem dL_law_325 : decode cL_law 325 = .ok (.if_icmp .eq 962, 3) := by decide +kernel
theorem dL_law_328 : decode cL_law 328 = .ok (.iconst 0, 1) := by decide +kernel
theorem dL_law_329 : decode cL_law 329 = .ok (.ireturn, 1) := by decide +kernel
theorem dL_law_330 : decode cL_law 330 = .ok (.aload_n 1, 1) := by decide +kernel
theorem dL_law_331 : decode cL_law 331 = .ok (.aload_n 0, 1) := by decide +kernel
theorem dL_law_332 : decode cL_law 332 = .ok (.iload_n 3, 1) := by decide +kernel
theorem dL_law_333 : decode cL_law 333 = .ok (.iconst 1, 1) := by decide +kernel
theorem dL_law_334 : decode cL_law 334 = .ok (.iadd, 1) := by decide +kernel
theorem dL_law_335 : decode cL_law 335 = .ok (.iaload, 1) := by decide +kernel
theorem dL_law_336 : decode cL_law 336 = .ok (.aload_n 0, 1) := by decide +kernel
theorem dL_law_337 : decode cL_law 337 = .ok (.iload_n 3, 1) := by decide +kernel
theorem dL_law_338 : decode cL_law 338 = .ok (.iconst 2, 1) := by decide +kernel
theorem dL_law_339 : decode cL_law 339 = .ok (.iadd, 1) := by decide +kernel
theorem dL_law_340 : decode cL_law 340 = .ok (.iaload, 1) := by decide +kernel
theorem dL_law_341 : decode cL_law 341 = .ok (.aload_n 0, 1) := by decide +kernel
theorem dL_law_342 : decode cL_law 342 = .ok (.iload_n 3, 1) := by decide +kernel
theorem dL_law_343 : decode cL_law 343 = .ok (.iconst 3, 1) := by decide +kernel
theorem dL_law_344 : decode cL_law 344 = .ok (.iadd, 1) := by decide +kernel
theorem dL_law_345 : decode cL_law 345 = .ok (.iaload, 1) := by decide +kernel
theorem dL_law_346 : decode cL_law 346 = .ok (.invokevirtual 32, 3) := by decide +kernel
theorem dL_law_349 : decode cL_law 349 = .ok (.aload_n 2, 1) := by decide +kernel
theorem dL_law_350 : decode cL_law 350 = .ok (.aload_n 0, 1) := by decide +kernel
theorem dL_law_351 : decode cL_law 351 = .ok (.iload_n 3, 1) := by decide +kernel
theorem dL_law_352 : decode cL_law 352 = .ok (.iconst 1, 1) := by decide +kernel
theorem dL_law_353 : decode cL_law 353 = .ok (.iadd, 1) := by decide +kernel
theorem dL_law_354 : decode cL_law 354 = .ok (.iaload, 1) := by decide +kernel
theorem dL_law_355 : decode cL_law 355 = .ok (.aload_n 0, 1) := by decide +kernel
theorem dL_law_356 : decode cL_law 356 = .ok (.iload_n 3, 1) := by decide +kernel
theorem dL_law_357 : decode cL_law 357 = .ok (.iconst 2, 1) := by decide +kernel
theorem dL_law_358 : decode cL_law 358 = .ok (.iadd, 1) := by decide +kernel
theorem dL_law_359 : decode cL_law 359 = .ok (.iaload, 1) := by decide +kernel
theorem dL_law_360 : decode cL_law 360 = .ok (.aload_n 0, 1) := by decide +kernel
theorem dL_law_361 : decode cL_law 361 = .ok (.iload_n 3, 1) := by decide +kernel
theorem dL_law_362 : decode cL_law 362 = .ok (.iconst 3, 1) := by decide +kernel
theorem dL_law_363 : decode cL_law 363 = .ok (.iadd, 1) := by decide +kernel
theorem dL_law_364 : decode cL_law 364 = .ok (.iaload, 1) := by decide +kernel
theorem dL_law_365 : decode cL_law 365 = .ok (.invokevirtual 35, 3) := by decide +kernel
theorem dL_law_368 : decode cL_law 368 = .ok (.if_icmp .eq 919, 3) := by decide +kernel
theorem dL_law_371 : decode cL_law 371 = .ok (.iconst 0, 1) := by decide +kernel
theorem dL_law_372 : decode cL_law 372 = .ok (.ireturn, 1) := by decide +kernel
theorem dL_law_373 : decode cL_law 373 = .ok (.aload_n 1, 1) := by decide +kernel
theorem dL_law_374 : decode cL_law 374 = .ok (.aload_n 0, 1) := by decide +kernel
theorem dL_law_375 : decode cL_law 375 = .ok (.iload_n 3, 1) := by decide +kernel
theorem dL_law_376 : decode cL_law 376 = .ok (.iconst 1, 1) := by decide +kernel
theorem dL_law_377 : decode cL_law 377 = .ok (.iadd, 1) := by decide +kernel
theorem dL_law_378 : decode cL_law 378 = .ok (.iaload, 1) := by decide +kernel
theorem dL_law_379 : decode cL_law 379 = .ok (.aload_n 0, 1) := by decide +kernel
theorem dL_law_380 : decode cL_law 380 = .ok (.iload_n 3, 1) := by decide +kernel
theorem dL_law_381 : decode cL_law 381 = .ok (.iconst 2, 1) := by decide +kernel
theorem dL_law_382 : decode cL_law 382 = .ok (.iadd, 1) := by decide +kernel
theorem dL_law_383 : decode cL_law 383 = .ok (.iaload, 1) := by decide +kernel
theorem dL_law_384 : decode cL_law 384 = .ok (.invokevirtual 36, 3) := by decide +kernel
theorem dL_law_387 : decode cL_law 387 = .ok (.aload_n 2, 1) := by decide +kernel
theorem dL_law_388 : decode cL_law 388 = .ok (.aload_n 0, 1) := by decide +kernel
theorem dL_law_389 : decode cL_law 389 = .ok (.iload_n 3, 1) := by decide +kernel
theorem dL_law_390 : decode cL_law 390 = .ok (.iconst 1, 1) := by decide +kernel
theorem dL_law_391 : decode cL_law 391 = .ok (.iadd, 1) := by decide +kernel
theorem dL_law_392 : decode cL_law 392 = .ok (.iaload, 1) := by decide +kernel
theorem dL_law_393 : decode cL_law 393 = .ok (.aload_n 0, 1) := by decide +kernel
theorem dL_law_394 : decode cL_law 394 = .ok (.iload_n 3, 1) := by decide +kernel
theorem dL_law_395 : decode cL_law 395 = .ok (.iconst 2, 1) := by decide +kernel
theorem dL_law_396 : decode cL_law 396 = .ok (.iadd, 1) := by decide +kernel
theorem dL_law_397 : decode cL_law 397 = .ok (.iaload, 1) := by decide +kernel
theorem dL_law_398 : decode cL_law 398 = .ok (.invokevirtual 39, 3) := by decide +kernel
theorem dL_law_401 : decode cL_law 401 = .ok (.if_icmp .eq 886, 3) := by decide +kernel
theorem dL_law_404 : decode cL_law 404 = .ok (.iconst 0, 1) := by decide +kernel
theorem dL_law_405 : decode cL_law 405 = .ok (.ireturn, 1) := by decide +kernel
theorem dL_law_406 : decode cL_law 406 = .ok (.aload_n 1, 1) := by decide +kernel
theorem dL_law_407 : decode cL_law 407 = .ok (.aload_n 0, 1) := by decide +kernel
theorem dL_law_408 : decode cL_law 408 = .ok (.iload_n 3, 1) := by decide +kernel
theorem dL_law_409 : decode cL_law 409 = .ok (.iconst 1, 1) := by decide +kernel
theorem dL_law_410 : decode cL_law 410 = .ok (.iadd, 1) := by decide +kernel
theorem dL_law_411 : decode cL_law 411 = .ok (.iaload, 1) := by decide +kernel
theorem dL_law_412 : decode cL_law 412 = .ok (.invokevirtual 40, 3) := by decide +kernel
theorem dL_law_415 : decode cL_law 415 = .ok (.aload_n 2, 1) := by decide +kernel
theorem dL_law_416 : decode cL_law 416 = .ok (.aload_n 0, 1) := by decide +kernel
theorem dL_law_417 : decode cL_law 417 = .ok (.iload_n 3, 1) := by decide +kernel
theorem dL_law_418 : decode cL_law 418 = .ok (.iconst 1, 1) := by decide +kernel
theorem dL_law_419 : decode cL_law 419 = .ok (.iadd, 1) := by decide +kernel
theorem dL_law_420 : decode cL_law 420 = .ok (.iaload, 1) := by decide +kernel
theorem dL_law_421 : decode cL_law 421 = .ok (.invokevirtual 43, 3) := by decide +kernel
theorem dL_law_424 : decode cL_law 424 = .ok (.if_icmp .eq 863, 3) := by decide +kernel
theorem dL_law_427 : decode cL_law 427 = .ok (.iconst 0, 1) := by decide +kernel
theorem dL_law_428 : decode cL_law 428 = .ok (.ireturn, 1) := by decide +kernel
theorem dL_law_429 : decode cL_law 429 = .ok (.aload_n 1, 1) := by decide +kernel
theorem dL_law_430 : decode cL_law 430 = .ok (.aload_n 0, 1) := by decide +kernel
theorem dL_law_431 : decode cL_law 431 = .ok (.iload_n 3, 1) := by decide +kernel
theorem dL_law_432 : decode cL_law 432 = .ok (.iconst 1, 1) := by decide +kernel
theorem dL_law_433 : decode cL_law 433 = .ok (.iadd, 1) := by decide +kernel
theorem dL_law_434 : decode cL_law 434 = .ok (.iaload, 1) := by decide +kernel
theorem dL_law_435 : decode cL_law 435 = .ok (.invokevirtual 44, 3) := by decide +kernel
theorem dL_law_438 : decode cL_law 438 = .ok (.aload_n 2, 1) := by decide +kernel
theorem dL_law_439 : decode cL_law 439 = .ok (.aload_n 0, 1) := by decide +kernel
theorem dL_law_440 : decode cL_law 440 = .ok (.iload_n 3, 1) := by decide +kernel
theorem dL_law_441 : decode cL_law 441 = .ok (.iconst 1, 1) := by decide +kernel
theorem dL_law_442 : decode cL_law 442 = .ok (.iadd, 1) := by decide +kernel
theorem dL_law_443 : decode cL_law 443 = .ok (.iaload, 1) := by decide +kernel
theorem dL_law_444 : decode cL_law 444 = .ok (.invokevirtual 47, 3) := by decide +kernel
theorem dL_law_447 : decode cL_law 447 = .ok (.if_icmp .eq 840, 3) := by decide +kernel
theorem dL_law_450 : decode cL_law 450 = .ok (.iconst 0, 1) := by decide +kernel
theorem dL_law_451 : decode cL_law 451 = .ok (.ireturn, 1) := by decide +kernel
theorem dL_law_452 : decode cL_law 452 = .ok (.aload_n 1, 1) := by decide +kernel
theorem dL_law_453 : decode cL_law 453 = .ok (.invokevirtual 48, 3) := by decide +kernel
theorem dL_law_456 : decode cL_law 456 = .ok (.aload_n 2, 1) := by decide +kernel
theorem dL_law_457 : decode cL_law 457 = .ok (.invokevirtual 52, 3) := by decide +kernel
theorem dL_law_460 : decode cL_law 460 = .ok (.if_icmp .eq 827, 3) := by decide +kernel
theorem dL_law_463 : decode cL_law 463 = .ok (.iconst 0, 1) := by decide +kernel
theorem dL_law_464 : decode cL_law 464 = .ok (.ireturn, 1) := by decide +kernel
theorem dL_law_465 : decode cL_law 465 = .ok (.aload_n 1, 1) := by decide +kernel
theorem dL_law_466 : decode cL_law 466 = .ok (.aload_n 0, 1) := by decide +kernel
theorem dL_law_467 : decode cL_law 467 = .ok (.iload_n 3, 1) := by decide +kernel
theorem dL_law_468 : decode cL_law 468 = .ok (.iconst 1, 1) := by decide +kernel
theorem dL_law_469 : decode cL_law 469 = .ok (.iadd, 1) := by decide +kernel
theorem dL_law_470 : decode cL_law 470 = .ok (.iaload, 1) := by decide +kernel
theorem dL_law_471 : decode cL_law 471 = .ok (.invokevirtual 53, 3) := by decide +kernel
theorem dL_law_474 : decode cL_law 474 = .ok (.aload_n 2, 1) := by decide +kernel
theorem dL_law_475 : decode cL_law 475 = .ok (.aload_n 0, 1) := by decide +kernel
theorem dL_law_476 : decode cL_law 476 = .ok (.iload_n 3, 1) := by decide +kernel
theorem dL_law_477 : decode cL_law 477 = .ok (.iconst 1, 1) := by decide +kernel
theorem dL_law_478 : decode cL_law 478 = .ok (.iadd, 1) := by decide +kernel
theorem dL_law_479 : decode cL_law 479 = .ok (.iaload, 1) := by decide +kernel
theorem dL_law_480 : decode cL_law 480 = .ok (.invokevirtual 56, 3) := by decide +kernel
theorem dL_law_483 : decode cL_law 483 = .ok (.if_icmp .eq 804, 3) := by decide +kernel
theorem dL_law_486 : decode cL_law 486 = .ok (.iconst 0, 1) := by decide +kernel
theorem dL_law_487 : decode cL_law 487 = .ok (.ireturn, 1) := by decide +kernel
theorem dL_law_488 : decode cL_law 488 = .ok (.aload_n 1, 1) := by decide +kernel
theorem dL_law_489 : decode cL_law 489 = .ok (.aload_n 0, 1) := by decide +kernel
theorem dL_law_490 : decode cL_law 490 = .ok (.iload_n 3, 1) := by decide +kernel
theorem dL_law_491 : decode cL_law 491 = .ok (.iconst 1, 1) := by decide +kernel
theorem dL_law_492 : decode cL_law 492 = .ok (.iadd, 1) := by decide +kernel
theorem dL_law_493 : decode cL_law 493 = .ok (.iaload, 1) := by decide +kernel
theorem dL_law_494 : decode cL_law 494 = .ok (.invokevirtual 57, 3) := by decide +kernel
theorem dL_law_497 : decode cL_law 497 = .ok (.aload_n 2, 1) := by decide +kernel
theorem dL_law_498 : decode cL_law 498 = .ok (.aload_n 0, 1) := by decide +kernel
theorem dL_law_499 : decode cL_law 499 = .ok (.iload_n 3, 1) := by decide +kernel
theorem dL_law_500 : decode cL_law 500 = .ok (.iconst 1, 1) := by decide +kernel
theorem dL_law_501 : decode cL_law 501 = .ok (.iadd, 1) := by decide +kernel
theorem dL_law_502 : decode cL_law 502 = .ok (.iaload, 1) := by decide +kernel
theorem dL_law_503 : decode cL_law 503 = .ok (.invokevirtual 60, 3) := by decide +kernel
theorem dL_law_506 : decode cL_law 506 = .ok (.if_icmp .eq 781, 3) := by decide +kernel
theorem dL_law_509 : decode cL_law 509 = .ok (.iconst 0, 1) := by decide +kernel
theorem dL_law_510 : decode cL_law 510 = .ok (.ireturn, 1) := by decide +kernel
theorem dL_law_511 : decode cL_law 511 = .ok (.aload_n 1, 1) := by decide +kernel
theorem dL_law_512 : decode cL_law 512 = .ok (.invokevirtual 61, 3) := by decide +kernel
theorem dL_law_515 : decode cL_law 515 = .ok (.aload_n 2, 1) := by decide +kernel
theorem dL_law_516 : decode cL_law 516 = .ok (.invokevirtual 64, 3) := by decide +kernel
theorem dL_law_519 : decode cL_law 519 = .ok (.if_icmp .eq 768, 3) := by decide +kernel
theorem dL_law_522 : decode cL_law 522 = .ok (.iconst 0, 1) := by decide +kernel
theorem dL_law_523 : decode cL_law 523 = .ok (.ireturn, 1) := by decide +kernel
theorem dL_law_524 : decode cL_law 524 = .ok (.aload_n 1, 1) := by decide +kernel
theorem dL_law_525 : decode cL_law 525 = .ok (.invokevirtual 65, 3) := by decide +kernel
theorem dL_law_528 : decode cL_law 528 = .ok (.aload_n 2, 1) := by decide +kernel
theorem dL_law_529 : decode cL_law 529 = .ok (.invokevirtual 68, 3) := by decide +kernel
theorem dL_law_532 : decode cL_law 532 = .ok (.if_icmp .eq 755, 3) := by decide +kernel
theorem dL_law_535 : decode cL_law 535 = .ok (.iconst 0, 1) := by decide +kernel
theorem dL_law_536 : decode cL_law 536 = .ok (.ireturn, 1) := by decide +kernel
theorem dL_law_537 : decode cL_law 537 = .ok (.aload_n 1, 1) := by decide +kernel
theorem dL_law_538 : decode cL_law 538 = .ok (.aload_n 0, 1) := by decide +kernel
theorem dL_law_539 : decode cL_law 539 = .ok (.iload_n 3, 1) := by decide +kernel
theorem dL_law_540 : decode cL_law 540 = .ok (.iconst 1, 1) := by decide +kernel
theorem dL_law_541 : decode cL_law 541 = .ok (.iadd, 1) := by decide +kernel
theorem dL_law_542 : decode cL_law 542 = .ok (.iaload, 1) := by decide +kernel
theorem dL_law_543 : decode cL_law 543 = .ok (.invokevirtual 69, 3) := by decide +kernel
theorem dL_law_546 : decode cL_law 546 = .ok (.aload_n 2, 1) := by decide +kernel
theorem dL_law_547 : decode cL_law 547 = .ok (.aload_n 0, 1) := by decide +kernel
theorem dL_law_548 : decode cL_law 548 = .ok (.iload_n 3, 1) := by decide +kernel
theorem dL_law_549 : decode cL_law 549 = .ok (.iconst 1, 1) := by decide +kernel
theorem dL_law_550 : decode cL_law 550 = .ok (.iadd, 1) := by decide +kernel
theorem dL_law_551 : decode cL_law 551 = .ok (.iaload, 1) := by decide +kernel
theorem dL_law_552 : decode cL_law 552 = .ok (.invokevirtual 72, 3) := by decide +kernel
theorem dL_law_555 : decode cL_law 555 = .ok (.if_icmp .eq 732, 3) := by decide +kernel
theorem dL_law_558 : decode cL_law 558 = .ok (.iconst 0, 1) := by decide +kernel
theorem dL_law_559 : decode cL_law 559 = .ok (.ireturn, 1) := by decide +kernel
theorem dL_law_560 : decode cL_law 560 = .ok (.aload_n 1, 1) := by decide +kernel
theorem dL_law_561 : decode cL_law 561 = .ok (.aload_n 0, 1) := by decide +kernel
theorem dL_law_562 : decode cL_law 562 = .ok (.iload_n 3, 1) := by decide +kernel
theorem dL_law_563 : decode cL_law 563 = .ok (.iconst 1, 1) := by decide +kernel
theorem dL_law_564 : decode cL_law 564 = .ok (.iadd, 1) := by decide +kernel
theorem dL_law_565 : decode cL_law 565 = .ok (.iaload, 1) := by decide +kernel
theorem dL_law_566 : decode cL_law 566 = .ok (.invokevirtual 73, 3) := by decide +kernel
theorem dL_law_569 : decode cL_law 569 = .ok (.aload_n 2, 1) := by decide +kernel
theorem dL_law_570 : decode cL_law 570 = .ok (.aload_n 0, 1) := by decide +kernel
theorem dL_law_571 : decode cL_law 571 = .ok (.iload_n 3, 1) := by decide +kernel
theorem dL_law_572 : decode cL_law 572 = .ok (.iconst 1, 1) := by decide +kernel
theorem dL_law_573 : decode cL_law 573 = .ok (.iadd, 1) := by decide +kernel
theorem dL_law_574 : decode cL_law 574 = .ok (.iaload, 1) := by decide +kernel
theorem dL_law_575 : decode cL_law 575 = .ok (.invokevirtual 76, 3) := by decide +kernel
theorem dL_law_578 : decode cL_law 578 = .ok (.if_icmp .eq 709, 3) := by decide +kernel
theorem dL_law_581 : decode cL_law 581 = .ok (.iconst 0, 1) := by decide +kernel
theorem dL_law_582 : decode cL_law 582 = .ok (.ireturn, 1) := by decide +kernel
theorem dL_law_583 : decode cL_law 583 = .ok (.aload_n 1, 1) := by decide +kernel
theorem dL_law_584 : decode cL_law 584 = .ok (.aload_n 0, 1) := by decide +kernel
theorem dL_law_585 : decode cL_law 585 = .ok (.iload_n 3, 1) := by decide +kernel
theorem dL_law_586 : decode cL_law 586 = .ok (.iconst 1, 1) := by decide +kernel
theorem dL_law_587 : decode cL_law 587 = .ok (.iadd, 1) := by decide +kernel
theorem dL_law_588 : decode cL_law 588 = .ok (.iaload, 1) := by decide +kernel
theorem dL_law_589 : decode cL_law 589 = .ok (.aload_n 0, 1) := by decide +kernel
theorem dL_law_590 : decode cL_law 590 = .ok (.iload_n 3, 1) := by decide +kernel
theorem dL_law_591 : decode cL_law 591 = .ok (.iconst 2, 1) := by decide +kernel
theorem dL_law_592 : decode cL_law 592 = .ok (.iadd, 1) := by decide +kernel
theorem dL_law_593 : decode cL_law 593 = .ok (.iaload, 1) := by decide +kernel
theorem dL_law_594 : decode cL_law 594 = .ok (.aload_n 0, 1) := by decide +kernel
theorem dL_law_595 : decode cL_law 595 = .ok (.iload_n 3, 1) := by decide +kernel
theorem dL_law_596 : decode cL_law 596 = .ok (.iconst 3, 1) := by decide +kernel
theorem dL_law_597 : decode cL_law 597 = .ok (.iadd, 1) := by decide +kernel
theorem dL_law_598 : decode cL_law 598 = .ok (.iaload, 1) := by decide +kernel
theorem dL_law_599 : decode cL_law 599 = .ok (.invokevirtual 77, 3) := by decide +kernel
theorem dL_law_602 : decode cL_law 602 = .ok (.aload_n 2, 1) := by decide +kernel
theorem dL_law_603 : decode cL_law 603 = .ok (.aload_n 0, 1) := by decide +kernel
theorem dL_law_604 : decode cL_law 604 = .ok (.iload_n 3, 1) := by decide +kernel
theorem dL_law_605 : decode cL_law 605 = .ok (.iconst 1, 1) := by decide +kernel
theorem dL_law_606 : decode cL_law 606 = .ok (.iadd, 1) := by decide +kernel
theorem dL_law_607 : decode cL_law 607 = .ok (.iaload, 1) := by decide +kernel
theorem dL_law_608 : decode cL_law 608 = .ok (.aload_n 0, 1) := by decide +kernel
theorem dL_law_609 : decode cL_law 609 = .ok (.iload_n 3, 1) := by decide +kernel
theorem dL_law_610 : decode cL_law 610 = .ok (.iconst 2, 1) := by decide +kernel
theorem dL_law_611 : decode cL_law 611 = .ok (.iadd, 1) := by decide +kernel
theorem dL_law_612 : decode cL_law 612 = .ok (.iaload, 1) := by decide +kernel
theorem dL_law_613 : decode cL_law 613 = .ok (.aload_n 0, 1) := by decide +kernel
theorem dL_law_614 : decode cL_law 614 = .ok (.iload_n 3, 1) := by decide +kernel
theorem dL_law_615 : decode cL_law 615 = .ok (.iconst 3, 1) := by decide +kernel
theorem dL_law_616 : decode cL_law 616 = .ok (.iadd, 1) := by decide +kernel
theorem dL_law_617 : decode cL_law 617 = .ok (.iaload, 1) := by decide +kernel
theorem dL_law_618 : decode cL_law 618 = .ok (.invokevirtual 80, 3) := by decide +kernel
theorem dL_law_621 : decode cL_law 621 = .ok (.if_icmp .eq 666, 3) := by decide +kernel
theorem dL_law_624 : decode cL_law 624 = .ok (.iconst 0, 1) := by decide +kernel
theorem dL_law_625 : decode cL_law 625 = .ok (.ireturn, 1) := by decide +kernel
theorem dL_law_626 : decode cL_law 626 = .ok (.aload_n 1, 1) := by decide +kernel
theorem dL_law_627 : decode cL_law 627 = .ok (.aload_n 0, 1) := by decide +kernel
theorem dL_law_628 : decode cL_law 628 = .ok (.iload_n 3, 1) := by decide +kernel
theorem dL_law_629 : decode cL_law 629 = .ok (.iconst 1, 1) := by decide +kernel
theorem dL_law_630 : decode cL_law 630 = .ok (.iadd, 1) := by decide +kernel
theorem dL_law_631 : decode cL_law 631 = .ok (.iaload, 1) := by decide +kernel
theorem dL_law_632 : decode cL_law 632 = .ok (.aload_n 0, 1) := by decide +kernel
theorem dL_law_633 : decode cL_law 633 = .ok (.iload_n 3, 1) := by decide +kernel
theorem dL_law_634 : decode cL_law 634 = .ok (.iconst 2, 1) := by decide +kernel
theorem dL_law_635 : decode cL_law 635 = .ok (.iadd, 1) := by decide +kernel
theorem dL_law_636 : decode cL_law 636 = .ok (.iaload, 1) := by decide +kernel
theorem dL_law_637 : decode cL_law 637 = .ok (.invokevirtual 81, 3) := by decide +kernel
theorem dL_law_640 : decode cL_law 640 = .ok (.aload_n 2, 1) := by decide +kernel
theorem dL_law_641 : decode cL_law 641 = .ok (.aload_n 0, 1) := by decide +kernel
theorem dL_law_642 : decode cL_law 642 = .ok (.iload_n 3, 1) := by decide +kernel
theorem dL_law_643 : decode cL_law 643 = .ok (.iconst 1, 1) := by decide +kernel
theorem dL_law_644 : decode cL_law 644 = .ok (.iadd, 1) := by decide +kernel
theorem dL_law_645 : decode cL_law 645 = .ok (.iaload, 1) := by decide +kernel
theorem dL_law_646 : decode cL_law 646 = .ok (.aload_n 0, 1) := by decide +kernel
theorem dL_law_647 : decode cL_law 647 = .ok (.iload_n 3, 1) := by decide +kernel
theorem dL_law_648 : decode cL_law 648 = .ok (.iconst 2, 1) := by decide +kernel
theorem dL_law_649 : decode cL_law 649 = .ok (.iadd, 1) := by decide +kernel
theorem dL_law_650 : decode cL_law 650 = .ok (.iaload, 1) := by decide +kernel
theorem dL_law_651 : decode cL_law 651 = .ok (.invokevirtual 84, 3) := by decide +kernel
theorem dL_law_654 : decode cL_law 654 = .ok (.if_icmp .eq 633, 3) := by decide +kernel
theorem dL_law_657 : decode cL_law 657 = .ok (.iconst 0, 1) := by decide +kernel
theorem dL_law_658 : decode cL_law 658 = .ok (.ireturn, 1) := by decide +kernel
theorem dL_law_659 : decode cL_law 659 = .ok (.aload_n 1, 1) := by decide +kernel
theorem dL_law_660 : decode cL_law 660 = .ok (.invokevirtual 85, 3) := by decide +kernel
theorem dL_law_663 : decode cL_law 663 = .ok (.aload_n 2, 1) := by decide +kernel
theorem dL_law_664 : decode cL_law 664 = .ok (.invokevirtual 88, 3) := by decide +kernel
theorem dL_law_667 : decode cL_law 667 = .ok (.if_icmp .eq 620, 3) := by decide +kernel
theorem dL_law_670 : decode cL_law 670 = .ok (.iconst 0, 1) := by decide +kernel
theorem dL_law_671 : decode cL_law 671 = .ok (.ireturn, 1) := by decide +kernel
theorem dL_law_672 : decode cL_law 672 = .ok (.aload_n 1, 1) := by decide +kernel
theorem dL_law_673 : decode cL_law 673 = .ok (.aload_n 0, 1) := by decide +kernel
theorem dL_law_674 : decode cL_law 674 = .ok (.iload_n 3, 1) := by decide +kernel
theorem dL_law_675 : decode cL_law 675 = .ok (.iconst 1, 1) := by decide +kernel
theorem dL_law_676 : decode cL_law 676 = .ok (.iadd, 1) := by decide +kernel
theorem dL_law_677 : decode cL_law 677 = .ok (.iaload, 1) := by decide +kernel
theorem dL_law_678 : decode cL_law 678 = .ok (.invokevirtual 89, 3) := by decide +kernel
theorem dL_law_681 : decode cL_law 681 = .ok (.aload_n 2, 1) := by decide +kernel
theorem dL_law_682 : decode cL_law 682 = .ok (.aload_n 0, 1) := by decide +kernel
theorem dL_law_683 : decode cL_law 683 = .ok (.iload_n 3, 1) := by decide +kernel
theorem dL_law_684 : decode cL_law 684 = .ok (.iconst 1, 1) := by decide +kernel
theorem dL_law_685 : decode cL_law 685 = .ok (.iadd, 1) := by decide +kernel
theorem dL_law_686 : decode cL_law 686 = .ok (.iaload, 1) := by decide +kernel
theorem dL_law_687 : decode cL_law 687 = .ok (.invokevirtual 92, 3) := by decide +kernel
theorem dL_law_690 : decode cL_law 690 = .ok (.if_icmp .eq 597, 3) := by decide +kernel
theorem dL_law_693 : decode cL_law 693 = .ok (.iconst 0, 1) := by decide +kernel
theorem dL_law_694 : decode cL_law 694 = .ok (.ireturn, 1) := by decide +kernel
theorem dL_law_695 : decode cL_law 695 = .ok (.aload_n 1, 1) := by decide +kernel
theorem dL_law_696 : decode cL_law 696 = .ok (.aload_n 0, 1) := by decide +kernel
theorem dL_law_697 : decode cL_law 697 = .ok (.iload_n 3, 1) := by decide +kernel
theorem dL_law_698 : decode cL_law 698 = .ok (.iconst 1, 1) := by decide +kernel
theorem dL_law_699 : decode cL_law 699 = .ok (.iadd, 1) := by decide +kernel
theorem dL_law_700 : decode cL_law 700 = .ok (.iaload, 1) := by decide +kernel
theorem dL_law_701 : decode cL_law 701 = .ok (.aload_n 0, 1) := by decide +kernel
theorem dL_law_702 : decode cL_law 702 = .ok (.iload_n 3, 1) := by decide +kernel
theorem dL_law_703 : decode cL_law 703 = .ok (.iconst 2, 1) := by decide +kernel
theorem dL_law_704 : decode cL_law 704 = .ok (.iadd, 1) := by decide +kernel
theorem dL_law_705 : decode cL_law 705 = .ok (.iaload, 1) := by decide +kernel
theorem dL_law_706 : decode cL_law 706 = .ok (.aload_n 0, 1) := by decide +kernel
theorem dL_law_707 : decode cL_law 707 = .ok (.iload_n 3, 1) := by decide +kernel
theorem dL_law_708 : decode cL_law 708 = .ok (.iconst 3, 1) := by decide +kernel
theorem dL_law_709 : decode cL_law 709 = .ok (.iadd, 1) := by decide +kernel
theorem dL_law_710 : decode cL_law 710 = .ok (.iaload, 1) := by decide +kernel
theorem dL_law_711 : decode cL_law 711 = .ok (.aload_n 0, 1) := by decide +kernel
theorem dL_law_712 : decode cL_law 712 = .ok (.iload_n 3, 1) := by decide +kernel
theorem dL_law_713 : decode cL_law 713 = .ok (.iconst 4, 1) := by decide +kernel
theorem dL_law_714 : decode cL_law 714 = .ok (.iadd, 1) := by decide +kernel
theorem dL_law_715 : decode cL_law 715 = .ok (.iaload, 1) := by decide +kernel
theorem dL_law_716 : decode cL_law 716 = .ok (.invokevirtual 93, 3) := by decide +kernel
theorem dL_law_719 : decode cL_law 719 = .ok (.aload_n 2, 1) := by decide +kernel
theorem dL_law_720 : decode cL_law 720 = .ok (.aload_n 0, 1) := by decide +kernel
theorem dL_law_721 : decode cL_law 721 = .ok (.iload_n 3, 1) := by decide +kernel
theorem dL_law_722 : decode cL_law 722 = .ok (.iconst 1, 1) := by decide +kernel
theorem dL_law_723 : decode cL_law 723 = .ok (.iadd, 1) := by decide +kernel
theorem dL_law_724 : decode cL_law 724 = .ok (.iaload, 1) := by decide +kernel
theorem dL_law_725 : decode cL_law 725 = .ok (.aload_n 0, 1) := by decide +kernel
theorem dL_law_726 : decode cL_law 726 = .ok (.iload_n 3, 1) := by decide +kernel
theorem dL_law_727 : decode cL_law 727 = .ok (.iconst 2, 1) := by decide +kernel
theorem dL_law_728 : decode cL_law 728 = .ok (.iadd, 1) := by decide +kernel
theorem dL_law_729 : decode cL_law 729 = .ok (.iaload, 1) := by decide +kernel
theorem dL_law_730 : decode cL_law 730 = .ok (.aload_n 0, 1) := by decide +kernel
theorem dL_law_731 : decode cL_law 731 = .ok (.iload_n 3, 1) := by decide +kernel
theorem dL_law_732 : decode cL_law 732 = .ok (.iconst 3, 1) := by decide +kernel
theorem dL_law_733 : decode cL_law 733 = .ok (.iadd, 1) := by decide +kernel
theorem dL_law_734 : decode cL_law 734 = .ok (.iaload, 1) := by decide +kernel
theorem dL_law_735 : decode cL_law 735 = .ok (.aload_n 0, 1) := by decide +kernel
theorem dL_law_736 : decode cL_law 736 = .ok (.iload_n 3, 1) := by decide +kernel
theorem dL_law_737 : decode cL_law 737 = .ok (.iconst 4, 1) := by decide +kernel
theorem dL_law_738 : decode cL_law 738 = .ok (.iadd, 1) := by decide +kernel
theorem dL_law_739 : decode cL_law 739 = .ok (.iaload, 1) := by decide +kernel
theorem dL_law_740 : decode cL_law 740 = .ok (.invokevirtual 97, 3) := by decide +kernel
theorem dL_law_743 : decode cL_law 743 = .ok (.if_icmp .eq 544, 3) := by decide +kernel
theorem dL_law_746 : decode cL_law 746 = .ok (.iconst 0, 1) := by decide +kernel
theorem dL_law_747 : decode cL_law 747 = .ok (.ireturn, 1) := by decide +kernel
theorem dL_law_748 : decode cL_law 748 = .ok (.aload_n 1, 1) := by decide +kernel
theorem dL_law_749 : decode cL_law 749 = .ok (.aload_n 0, 1) := by decide +kernel
theorem dL_law_750 : decode cL_law 750 = .ok (.iload_n 3, 1) := by decide +kernel
theorem dL_law_751 : decode cL_law 751 = .ok (.iconst 1, 1) := by decide +kernel
theorem dL_law_752 : decode cL_law 752 = .ok (.iadd, 1) := by decide +kernel
theorem dL_law_753 : decode cL_law 753 = .ok (.iaload, 1) := by decide +kernel
theorem dL_law_754 : decode cL_law 754 = .ok (.invokevirtual 98, 3) := by decide +kernel
theorem dL_law_757 : decode cL_law 757 = .ok (.aload_n 2, 1) := by decide +kernel
theorem dL_law_758 : decode cL_law 758 = .ok (.aload_n 0, 1) := by decide +kernel
theorem dL_law_759 : decode cL_law 759 = .ok (.iload_n 3, 1) := by decide +kernel
theorem dL_law_760 : decode cL_law 760 = .ok (.iconst 1, 1) := by decide +kernel
theorem dL_law_761 : decode cL_law 761 = .ok (.iadd, 1) := by decide +kernel
theorem dL_law_762 : decode cL_law 762 = .ok (.iaload, 1) := by decide +kernel
theorem dL_law_763 : decode cL_law 763 = .ok (.invokevirtual 101, 3) := by decide +kernel
theorem dL_law_766 : decode cL_law 766 = .ok (.if_icmp .eq 521, 3) := by decide +kernel
theorem dL_law_769 : decode cL_law 769 = .ok (.iconst 0, 1) := by decide +kernel
theorem dL_law_770 : decode cL_law 770 = .ok (.ireturn, 1) := by decide +kernel
theorem dL_law_771 : decode cL_law 771 = .ok (.aload_n 1, 1) := by decide +kernel
theorem dL_law_772 : decode cL_law 772 = .ok (.invokevirtual 102, 3) := by decide +kernel
theorem dL_law_775 : decode cL_law 775 = .ok (.aload_n 2, 1) := by decide +kernel
theorem dL_law_776 : decode cL_law 776 = .ok (.invokevirtual 105, 3) := by decide +kernel
theorem dL_law_779 : decode cL_law 779 = .ok (.if_icmp .eq 508, 3) := by decide +kernel
theorem dL_law_782 : decode cL_law 782 = .ok (.iconst 0, 1) := by decide +kernel
theorem dL_law_783 : decode cL_law 783 = .ok (.ireturn, 1) := by decide +kernel
theorem dL_law_784 : decode cL_law 784 = .ok (.aload_n 1, 1) := by decide +kernel
theorem dL_law_785 : decode cL_law 785 = .ok (.aload_n 0, 1) := by decide +kernel
theorem dL_law_786 : decode cL_law 786 = .ok (.iload_n 3, 1) := by decide +kernel
theorem dL_law_787 : decode cL_law 787 = .ok (.iconst 1, 1) := by decide +kernel
theorem dL_law_788 : decode cL_law 788 = .ok (.iadd, 1) := by decide +kernel
theorem dL_law_789 : decode cL_law 789 = .ok (.iaload, 1) := by decide +kernel
theorem dL_law_790 : decode cL_law 790 = .ok (.aload_n 0, 1) := by decide +kernel
theorem dL_law_791 : decode cL_law 791 = .ok (.iload_n 3, 1) := by decide +kernel
theorem dL_law_792 : decode cL_law 792 = .ok (.iconst 2, 1) := by decide +kernel
theorem dL_law_793 : decode cL_law 793 = .ok (.iadd, 1) := by decide +kernel
theorem dL_law_794 : decode cL_law 794 = .ok (.iaload, 1) := by decide +kernel
theorem dL_law_795 : decode cL_law 795 = .ok (.aload_n 0, 1) := by decide +kernel
theorem dL_law_796 : decode cL_law 796 = .ok (.iload_n 3, 1) := by decide +kernel
theorem dL_law_797 : decode cL_law 797 = .ok (.iconst 3, 1) := by decide +kernel
theorem dL_law_798 : decode cL_law 798 = .ok (.iadd, 1) := by decide +kernel
theorem dL_law_799 : decode cL_law 799 = .ok (.iaload, 1) := by decide +kernel
theorem dL_law_800 : decode cL_law 800 = .ok (.invokevirtual 106, 3) := by decide +kernel
theorem dL_law_803 : decode cL_law 803 = .ok (.aload_n 2, 1) := by decide +kernel
theorem dL_law_804 : decode cL_law 804 = .ok (.aload_n 0, 1) := by decide +kernel
theorem dL_law_805 : decode cL_law 805 = .ok (.iload_n 3, 1) := by decide +kernel
theorem dL_law_806 : decode cL_law 806 = .ok (.iconst 1, 1) := by decide +kernel
theorem dL_law_807 : decode cL_law 807 = .ok (.iadd, 1) := by decide +kernel
theorem dL_law_808 : decode cL_law 808 = .ok (.iaload, 1) := by decide +kernel
theorem dL_law_809 : decode cL_law 809 = .ok (.aload_n 0, 1) := by decide +kernel
theorem dL_law_810 : decode cL_law 810 = .ok (.iload_n 3, 1) := by decide +kernel
theorem dL_law_811 : decode cL_law 811 = .ok (.iconst 2, 1) := by decide +kernel
theorem dL_law_812 : decode cL_law 812 = .ok (.iadd, 1) := by decide +kernel
theorem dL_law_813 : decode cL_law 813 = .ok (.iaload, 1) := by decide +kernel
theorem dL_law_814 : decode cL_law 814 = .ok (.aload_n 0, 1) := by decide +kernel
theorem dL_law_815 : decode cL_law 815 = .ok (.iload_n 3, 1) := by decide +kernel
theorem dL_law_816 : decode cL_law 816 = .ok (.iconst 3, 1) := by decide +kernel
theorem dL_law_817 : decode cL_law 817 = .ok (.iadd, 1) := by decide +kernel
theorem dL_law_818 : decode cL_law 818 = .ok (.iaload, 1) := by decide +kernel
theorem dL_law_819 : decode cL_law 819 = .ok (.invokevirtual 109, 3) := by decide +kernel
theorem dL_law_822 : decode cL_law 822 = .ok (.if_icmp .eq 465, 3) := by decide +kernel
theorem dL_law_825 : decode cL_law 825 = .ok (.iconst 0, 1) := by decide +kernel
theorem dL_law_826 : decode cL_law 826 = .ok (.ireturn, 1) := by decide +kernel
theorem dL_law_827 : decode cL_law 827 = .ok (.aload_n 1, 1) := by decide +kernel
theorem dL_law_828 : decode cL_law 828 = .ok (.invokevirtual 110, 3) := by decide +kernel
theorem dL_law_831 : decode cL_law 831 = .ok (.aload_n 2, 1) := by decide +kernel
theorem dL_law_832 : decode cL_law 832 = .ok (.invokevirtual 114, 3) := by decide +kernel
theorem dL_law_835 : decode cL_law 835 = .ok (.lcmp, 1) := by decide +kernel
theorem dL_law_836 : decode cL_law 836 = .ok (.ifCond .eq 451, 3) := by decide +kernel
theorem dL_law_839 : decode cL_law 839 = .ok (.iconst 0, 1) := by decide +kernel
theorem dL_law_840 : decode cL_law 840 = .ok (.ireturn, 1) := by decide +kernel
theorem dL_law_841 : decode cL_law 841 = .ok (.aload_n 1, 1) := by decide +kernel
theorem dL_law_842 : decode cL_law 842 = .ok (.invokevirtual 115, 3) := by decide +kernel
theorem dL_law_845 : decode cL_law 845 = .ok (.aload_n 2, 1) := by decide +kernel
theorem dL_law_846 : decode cL_law 846 = .ok (.invokevirtual 118, 3) := by decide +kernel
theorem dL_law_849 : decode cL_law 849 = .ok (.lcmp, 1) := by decide +kernel
theorem dL_law_850 : decode cL_law 850 = .ok (.ifCond .eq 437, 3) := by decide +kernel
theorem dL_law_853 : decode cL_law 853 = .ok (.iconst 0, 1) := by decide +kernel
theorem dL_law_854 : decode cL_law 854 = .ok (.ireturn, 1) := by decide +kernel
theorem dL_law_855 : decode cL_law 855 = .ok (.aload_n 1, 1) := by decide +kernel
theorem dL_law_856 : decode cL_law 856 = .ok (.aload_n 0, 1) := by decide +kernel
theorem dL_law_857 : decode cL_law 857 = .ok (.iload_n 3, 1) := by decide +kernel
theorem dL_law_858 : decode cL_law 858 = .ok (.iconst 1, 1) := by decide +kernel
theorem dL_law_859 : decode cL_law 859 = .ok (.iadd, 1) := by decide +kernel
theorem dL_law_860 : decode cL_law 860 = .ok (.iaload, 1) := by decide +kernel
theorem dL_law_861 : decode cL_law 861 = .ok (.aload_n 0, 1) := by decide +kernel
theorem dL_law_862 : decode cL_law 862 = .ok (.iload_n 3, 1) := by decide +kernel
theorem dL_law_863 : decode cL_law 863 = .ok (.iconst 2, 1) := by decide +kernel
theorem dL_law_864 : decode cL_law 864 = .ok (.iadd, 1) := by decide +kernel
theorem dL_law_865 : decode cL_law 865 = .ok (.iaload, 1) := by decide +kernel
theorem dL_law_866 : decode cL_law 866 = .ok (.invokevirtual 119, 3) := by decide +kernel
theorem dL_law_869 : decode cL_law 869 = .ok (.aload_n 2, 1) := by decide +kernel
theorem dL_law_870 : decode cL_law 870 = .ok (.aload_n 0, 1) := by decide +kernel
theorem dL_law_871 : decode cL_law 871 = .ok (.iload_n 3, 1) := by decide +kernel
theorem dL_law_872 : decode cL_law 872 = .ok (.iconst 1, 1) := by decide +kernel
theorem dL_law_873 : decode cL_law 873 = .ok (.iadd, 1) := by decide +kernel
theorem dL_law_874 : decode cL_law 874 = .ok (.iaload, 1) := by decide +kernel
theorem dL_law_875 : decode cL_law 875 = .ok (.aload_n 0, 1) := by decide +kernel
theorem dL_law_876 : decode cL_law 876 = .ok (.iload_n 3, 1) := by decide +kernel
theorem dL_law_877 : decode cL_law 877 = .ok (.iconst 2, 1) := by decide +kernel
theorem dL_law_878 : decode cL_law 878 = .ok (.iadd, 1) := by decide +kernel
theorem dL_law_879 : decode cL_law 879 = .ok (.iaload, 1) := by decide +kernel
theorem dL_law_880 : decode cL_law 880 = .ok (.invokevirtual 122, 3) := by decide +kernel
theorem dL_law_883 : decode cL_law 883 = .ok (.if_icmp .eq 404, 3) := by decide +kernel
theorem dL_law_886 : decode cL_law 886 = .ok (.iconst 0, 1) := by decide +kernel
theorem dL_law_887 : decode cL_law 887 = .ok (.ireturn, 1) := by decide +kernel
theorem dL_law_888 : decode cL_law 888 = .ok (.aload_n 1, 1) := by decide +kernel
theorem dL_law_889 : decode cL_law 889 = .ok (.invokevirtual 123, 3) := by decide +kernel
theorem dL_law_892 : decode cL_law 892 = .ok (.aload_n 2, 1) := by decide +kernel
theorem dL_law_893 : decode cL_law 893 = .ok (.invokevirtual 126, 3) := by decide +kernel
theorem dL_law_896 : decode cL_law 896 = .ok (.if_icmp .eq 391, 3) := by decide +kernel
theorem dL_law_899 : decode cL_law 899 = .ok (.iconst 0, 1) := by decide +kernel
theorem dL_law_900 : decode cL_law 900 = .ok (.ireturn, 1) := by decide +kernel
theorem dL_law_901 : decode cL_law 901 = .ok (.aload_n 1, 1) := by decide +kernel
theorem dL_law_902 : decode cL_law 902 = .ok (.invokevirtual 127, 3) := by decide +kernel
theorem dL_law_905 : decode cL_law 905 = .ok (.aload_n 2, 1) := by decide +kernel
theorem dL_law_906 : decode cL_law 906 = .ok (.invokevirtual 130, 3) := by decide +kernel
theorem dL_law_909 : decode cL_law 909 = .ok (.if_icmp .eq 378, 3) := by decide +kernel
theorem dL_law_912 : decode cL_law 912 = .ok (.iconst 0, 1) := by decide +kernel
theorem dL_law_913 : decode cL_law 913 = .ok (.ireturn, 1) := by decide +kernel
theorem dL_law_914 : decode cL_law 914 = .ok (.aload_n 1, 1) := by decide +kernel
theorem dL_law_915 : decode cL_law 915 = .ok (.aload_n 0, 1) := by decide +kernel
theorem dL_law_916 : decode cL_law 916 = .ok (.iload_n 3, 1) := by decide +kernel
theorem dL_law_917 : decode cL_law 917 = .ok (.iconst 1, 1) := by decide +kernel
theorem dL_law_918 : decode cL_law 918 = .ok (.iadd, 1) := by decide +kernel
theorem dL_law_919 : decode cL_law 919 = .ok (.iaload, 1) := by decide +kernel
theorem dL_law_920 : decode cL_law 920 = .ok (.aload_n 0, 1) := by decide +kernel
theorem dL_law_921 : decode cL_law 921 = .ok (.iload_n 3, 1) := by decide +kernel
theorem dL_law_922 : decode cL_law 922 = .ok (.iconst 2, 1) := by decide +kernel
theorem dL_law_923 : decode cL_law 923 = .ok (.iadd, 1) := by decide +kernel
theorem dL_law_924 : decode cL_law 924 = .ok (.iaload, 1) := by decide +kernel
theorem dL_law_925 : decode cL_law 925 = .ok (.aload_n 0, 1) := by decide +kernel
theorem dL_law_926 : decode cL_law 926 = .ok (.iload_n 3, 1) := by decide +kernel
theorem dL_law_927 : decode cL_law 927 = .ok (.iconst 3, 1) := by decide +kernel
theorem dL_law_928 : decode cL_law 928 = .ok (.iadd, 1) := by decide +kernel
theorem dL_law_929 : decode cL_law 929 = .ok (.iaload, 1) := by decide +kernel
theorem dL_law_930 : decode cL_law 930 = .ok (.invokevirtual 131, 3) := by decide +kernel
theorem dL_law_933 : decode cL_law 933 = .ok (.aload_n 2, 1) := by decide +kernel
theorem dL_law_934 : decode cL_law 934 = .ok (.aload_n 0, 1) := by decide +kernel
theorem dL_law_935 : decode cL_law 935 = .ok (.iload_n 3, 1) := by decide +kernel
theorem dL_law_936 : decode cL_law 936 = .ok (.iconst 1, 1) := by decide +kernel
theorem dL_law_937 : decode cL_law 937 = .ok (.iadd, 1) := by decide +kernel
theorem dL_law_938 : decode cL_law 938 = .ok (.iaload, 1) := by decide +kernel
theorem dL_law_939 : decode cL_law 939 = .ok (.aload_n 0, 1) := by decide +kernel
theorem dL_law_940 : decode cL_law 940 = .ok (.iload_n 3, 1) := by decide +kernel
theorem dL_law_941 : decode cL_law 941 = .ok (.iconst 2, 1) := by decide +kernel
theorem dL_law_942 : decode cL_law 942 = .ok (.iadd, 1) := by decide +kernel
theorem dL_law_943 : decode cL_law 943 = .ok (.iaload, 1) := by decide +kernel
theorem dL_law_944 : decode cL_law 944 = .ok (.aload_n 0, 1) := by decide +kernel
theorem dL_law_945 : decode cL_law 945 = .ok (.iload_n 3, 1) := by decide +kernel
theorem dL_law_946 : decode cL_law 946 = .ok (.iconst 3, 1) := by decide +kernel
theorem dL_law_947 : decode cL_law 947 = .ok (.iadd, 1) := by decide +kernel
theorem dL_law_948 : decode cL_law 948 = .ok (.iaload, 1) := by decide +kernel
theorem dL_law_949 : decode cL_law 949 = .ok (.invokevirtual 134, 3) := by decide +kernel
theorem dL_law_952 : decode cL_law 952 = .ok (.if_icmp .eq 335, 3) := by decide +kernel
theorem dL_law_955 : decode cL_law 955 = .ok (.iconst 0, 1) := by decide +kernel
theorem dL_law_956 : decode cL_law 956 = .ok (.ireturn, 1) := by decide +kernel
theorem dL_law_957 : decode cL_law 957 = .ok (.aload_n 1, 1) := by decide +kernel
theorem dL_law_958 : decode cL_law 958 = .ok (.aload_n 0, 1) := by decide +kernel
theorem dL_law_959 : decode cL_law 959 = .ok (.iload_n 3, 1) := by decide +kernel
theorem dL_law_960 : decode cL_law 960 = .ok (.iconst 1, 1) := by decide +kernel
theorem dL_law_961 : decode cL_law 961 = .ok (.iadd, 1) := by decide +kernel
theorem dL_law_962 : decode cL_law 962 = .ok (.iaload, 1) := by decide +kernel
theorem dL_law_963 : decode cL_law 963 = .ok (.aload_n 0, 1) := by decide +kernel
theorem dL_law_964 : decode cL_law 964 = .ok (.iload_n 3, 1) := by decide +kernel
theorem dL_law_965 : decode cL_law 965 = .ok (.iconst 2, 1) := by decide +kernel
theorem dL_law_966 : decode cL_law 966 = .ok (.iadd, 1) := by decide +kernel
theorem dL_law_967 : decode cL_law 967 = .ok (.iaload, 1) := by decide +kernel
theorem dL_law_968 : decode cL_law 968 = .ok (.aload_n 0, 1) := by decide +kernel
theorem dL_law_969 : decode cL_law 969 = .ok (.iload_n 3, 1) := by decide +kernel
theorem dL_law_970 : decode cL_law 970 = .ok (.iconst 3, 1) := by decide +kernel
theorem dL_law_971 : decode cL_law 971 = .ok (.iadd, 1) := by decide +kernel
theorem dL_law_972 : decode cL_law 972 = .ok (.iaload, 1) := by decide +kernel
theorem dL_law_973 : decode cL_law 973 = .ok (.aload_n 0, 1) := by decide +kernel
theorem dL_law_974 : decode cL_law 974 = .ok (.iload_n 3, 1) := by decide +kernel
theorem dL_law_975 : decode cL_law 975 = .ok (.iconst 4, 1) := by decide +kernel
theorem dL_law_976 : decode cL_law 976 = .ok (.iadd, 1) := by decide +kernel
theorem dL_law_977 : decode cL_law 977 = .ok (.iaload, 1) := by decide +kernel
theorem dL_law_978 : decode cL_law 978 = .ok (.aload_n 0, 1) := by decide +kernel
theorem dL_law_979 : decode cL_law 979 = .ok (.iload_n 3, 1) := by decide +kernel
theorem dL_law_980 : decode cL_law 980 = .ok (.iconst 5, 1) := by decide +kernel
theorem dL_law_981 : decode cL_law 981 = .ok (.iadd, 1) := by decide +kernel
theorem dL_law_982 : decode cL_law 982 = .ok (.iaload, 1) := by decide +kernel
theorem dL_law_983 : decode cL_law 983 = .ok (.aload_n 0, 1) := by decide +kernel
theorem dL_law_984 : decode cL_law 984 = .ok (.iload_n 3, 1) := by decide +kernel
theorem dL_law_985 : decode cL_law 985 = .ok (.bipush 6, 2) := by decide +kernel
theorem dL_law_987 : decode cL_law 987 = .ok (.iadd, 1) := by decide +kernel
theorem dL_law_988 : decode cL_law 988 = .ok (.iaload, 1) := by decide +kernel
theorem dL_law_989 : decode cL_law 989 = .ok (.invokevirtual 135, 3) := by decide +kernel
theorem dL_law_992 : decode cL_law 992 = .ok (.aload_n 2, 1) := by decide +kernel
theorem dL_law_993 : decode cL_law 993 = .ok (.aload_n 0, 1) := by decide +kernel
theorem dL_law_994 : decode cL_law 994 = .ok (.iload_n 3, 1) := by decide +kernel
theorem dL_law_995 : decode cL_law 995 = .ok (.iconst 1, 1) := by decide +kernel
theorem dL_law_996 : decode cL_law 996 = .ok (.iadd, 1) := by decide +kernel
theorem dL_law_997 : decode cL_law 997 = .ok (.iaload, 1) := by decide +kernel
theorem dL_law_998 : decode cL_law 998 = .ok (.aload_n 0, 1) := by decide +kernel
theorem dL_law_999 : decode cL_law 999 = .ok (.iload_n 3, 1) := by decide +kernel
theorem dL_law_1000 : decode cL_law 1000 = .ok (.iconst 2, 1) := by decide +kernel
theorem dL_law_1001 : decode cL_law 1001 = .ok (.iadd, 1) := by decide +kernel
theorem dL_law_1002 : decode cL_law 1002 = .ok (.iaload, 1) := by decide +kernel
theorem dL_law_1003 : decode cL_law 1003 = .ok (.aload_n 0, 1) := by decide +kernel
theorem dL_law_1004 : decode cL_law 1004 = .ok (.iload_n 3, 1) := by decide +kernel
theorem dL_law_1005 : decode cL_law 1005 = .ok (.iconst 3, 1) := by decide +kernel
theorem dL_law_1006 : decode cL_law 1006 = .ok (.iadd, 1) := by decide +kernel
theorem dL_law_1007 : decode cL_law 1007 = .ok (.iaload, 1) := by decide +kernel
theorem dL_law_1008 : decode cL_law 1008 = .ok (.aload_n 0, 1) := by decide +kernel
theorem dL_law_1009 : decode cL_law 1009 = .ok (.iload_n 3, 1) := by decide +kernel
theorem dL_law_1010 : decode cL_law 1010 = .ok (.iconst 4, 1) := by decide +kernel
theorem dL_law_1011 : decode cL_law 1011 = .ok (.iadd, 1) := by decide +kernel
theorem dL_law_1012 : decode cL_law 1012 = .ok (.iaload, 1) := by decide +kernel
theorem dL_law_1013 : decode cL_law 1013 = .ok (.aload_n 0, 1) := by decide +kernel
theorem dL_law_1014 : decode cL_law 1014 = .ok (.iload_n 3, 1) := by decide +kernel
theorem dL_law_1015 : decode cL_law 1015 = .ok (.iconst 5, 1) := by decide +kernel
theorem dL_law_1016 : decode cL_law 1016 = .ok (.iadd, 1) := by decide +kernel
theorem dL_law_1017 : decode cL_law 1017 = .ok (.iaload, 1) := by decide +kernel
theorem dL_law_1018 : decode cL_law 1018 = .ok (.aload_n 0, 1) := by decide +kernel
theorem dL_law_1019 : decode cL_law 1019 = .ok (.iload_n 3, 1) := by decide +kernel
theorem dL_law_1020 : decode cL_law 1020 = .ok (.bipush 6, 2) := by decide +kernel
theorem dL_law_1022 : decode cL_law 1022 = .ok (.iadd, 1) := by decide +kernel
theorem dL_law_1023 : decode cL_law 1023 = .ok (.iaload, 1) := by decide +kernel
theorem dL_law_1024 : decode cL_law 1024 = .ok (.invokevirtual 139, 3) := by decide +kernel
theorem dL_law_1027 : decode cL_law 1027 = .ok (.if_icmp .eq 260, 3) := by decide +kernel
theorem dL_law_1030 : decode cL_law 1030 = .ok (.iconst 0, 1) := by decide +kernel
theorem dL_law_1031 : decode cL_law 1031 = .ok (.ireturn, 1) := by decide +kernel
theorem dL_law_1032 : decode cL_law 1032 = .ok (.aload_n 1, 1) := by decide +kernel
theorem dL_law_1033 : decode cL_law 1033 = .ok (.aload_n 0, 1) := by decide +kernel
theorem dL_law_1034 : decode cL_law 1034 = .ok (.iload_n 3, 1) := by decide +kernel
theorem dL_law_1035 : decode cL_law 1035 = .ok (.iconst 1, 1) := by decide +kernel
theorem dL_law_1036 : decode cL_law 1036 = .ok (.iadd, 1) := by decide +kernel
theorem dL_law_1037 : decode cL_law 1037 = .ok (.iaload, 1) := by decide +kernel
theorem dL_law_1038 : decode cL_law 1038 = .ok (.aload_n 0, 1) := by decide +kernel
theorem dL_law_1039 : decode cL_law 1039 = .ok (.iload_n 3, 1) := by decide +kernel
theorem dL_law_1040 : decode cL_law 1040 = .ok (.iconst 2, 1) := by decide +kernel
theorem dL_law_1041 : decode cL_law 1041 = .ok (.iadd, 1) := by decide +kernel
theorem dL_law_1042 : decode cL_law 1042 = .ok (.iaload, 1) := by decide +kernel
theorem dL_law_1043 : decode cL_law 1043 = .ok (.aload_n 0, 1) := by decide +kernel
theorem dL_law_1044 : decode cL_law 1044 = .ok (.iload_n 3, 1) := by decide +kernel
theorem dL_law_1045 : decode cL_law 1045 = .ok (.iconst 3, 1) := by decide +kernel
theorem dL_law_1046 : decode cL_law 1046 = .ok (.iadd, 1) := by decide +kernel
theorem dL_law_1047 : decode cL_law 1047 = .ok (.iaload, 1) := by decide +kernel
theorem dL_law_1048 : decode cL_law 1048 = .ok (.invokevirtual 140, 3) := by decide +kernel
theorem dL_law_1051 : decode cL_law 1051 = .ok (.aload_n 2, 1) := by decide +kernel
theorem dL_law_1052 : decode cL_law 1052 = .ok (.aload_n 0, 1) := by decide +kernel
theorem dL_law_1053 : decode cL_law 1053 = .ok (.iload_n 3, 1) := by decide +kernel
theorem dL_law_1054 : decode cL_law 1054 = .ok (.iconst 1, 1) := by decide +kernel
theorem dL_law_1055 : decode cL_law 1055 = .ok (.iadd, 1) := by decide +kernel
theorem dL_law_1056 : decode cL_law 1056 = .ok (.iaload, 1) := by decide +kernel
theorem dL_law_1057 : decode cL_law 1057 = .ok (.aload_n 0, 1) := by decide +kernel
theorem dL_law_1058 : decode cL_law 1058 = .ok (.iload_n 3, 1) := by decide +kernel
theorem dL_law_1059 : decode cL_law 1059 = .ok (.iconst 2, 1) := by decide +kernel
theorem dL_law_1060 : decode cL_law 1060 = .ok (.iadd, 1) := by decide +kernel
theorem dL_law_1061 : decode cL_law 1061 = .ok (.iaload, 1) := by decide +kernel
theorem dL_law_1062 : decode cL_law 1062 = .ok (.aload_n 0, 1) := by decide +kernel
theorem dL_law_1063 : decode cL_law 1063 = .ok (.iload_n 3, 1) := by decide +kernel
theorem dL_law_1064 : decode cL_law 1064 = .ok (.iconst 3, 1) := by decide +kernel
theorem dL_law_1065 : decode cL_law 1065 = .ok (.iadd, 1) := by decide +kernel
theorem dL_law_1066 : decode cL_law 1066 = .ok (.iaload, 1) := by decide +kernel
theorem dL_law_1067 : decode cL_law 1067 = .ok (.invokevirtual 143, 3) := by decide +kernel
theorem dL_law_1070 : decode cL_law 1070 = .ok (.if_icmp .eq 217, 3) := by decide +kernel
theorem dL_law_1073 : decode cL_law 1073 = .ok (.iconst 0, 1) := by decide +kernel
theorem dL_law_1074 : decode cL_law 1074 = .ok (.ireturn, 1) := by decide +kernel
theorem dL_law_1075 : decode cL_law 1075 = .ok (.aload_n 1, 1) := by decide +kernel
theorem dL_law_1076 : decode cL_law 1076 = .ok (.aload_n 0, 1) := by decide +kernel
theorem dL_law_1077 : decode cL_law 1077 = .ok (.iload_n 3, 1) := by decide +kernel
theorem dL_law_1078 : decode cL_law 1078 = .ok (.iconst 1, 1) := by decide +kernel
theorem dL_law_1079 : decode cL_law 1079 = .ok (.iadd, 1) := by decide +kernel
theorem dL_law_1080 : decode cL_law 1080 = .ok (.iaload, 1) := by decide +kernel
theorem dL_law_1081 : decode cL_law 1081 = .ok (.aload_n 0, 1) := by decide +kernel
theorem dL_law_1082 : decode cL_law 1082 = .ok (.iload_n 3, 1) := by decide +kernel
theorem dL_law_1083 : decode cL_law 1083 = .ok (.iconst 2, 1) := by decide +kernel
theorem dL_law_1084 : decode cL_law 1084 = .ok (.iadd, 1) := by decide +kernel
theorem dL_law_1085 : decode cL_law 1085 = .ok (.iaload, 1) := by decide +kernel
theorem dL_law_1086 : decode cL_law 1086 = .ok (.aload_n 0, 1) := by decide +kernel
theorem dL_law_1087 : decode cL_law 1087 = .ok (.iload_n 3, 1) := by decide +kernel
theorem dL_law_1088 : decode cL_law 1088 = .ok (.iconst 3, 1) := by decide +kernel
theorem dL_law_1089 : decode cL_law 1089 = .ok (.iadd, 1) := by decide +kernel
theorem dL_law_1090 : decode cL_law 1090 = .ok (.iaload, 1) := by decide +kernel
theorem dL_law_1091 : decode cL_law 1091 = .ok (.invokevirtual 144, 3) := by decide +kernel
theorem dL_law_1094 : decode cL_law 1094 = .ok (.aload_n 2, 1) := by decide +kernel
theorem dL_law_1095 : decode cL_law 1095 = .ok (.aload_n 0, 1) := by decide +kernel
theorem dL_law_1096 : decode cL_law 1096 = .ok (.iload_n 3, 1) := by decide +kernel
theorem dL_law_1097 : decode cL_law 1097 = .ok (.iconst 1, 1) := by decide +kernel
theorem dL_law_1098 : decode cL_law 1098 = .ok (.iadd, 1) := by decide +kernel
theorem dL_law_1099 : decode cL_law 1099 = .ok (.iaload, 1) := by decide +kernel
theorem dL_law_1100 : decode cL_law 1100 = .ok (.aload_n 0, 1) := by decide +kernel
theorem dL_law_1101 : decode cL_law 1101 = .ok (.iload_n 3, 1) := by decide +kernel
theorem dL_law_1102 : decode cL_law 1102 = .ok (.iconst 2, 1) := by decide +kernel
theorem dL_law_1103 : decode cL_law 1103 = .ok (.iadd, 1) := by decide +kernel
theorem dL_law_1104 : decode cL_law 1104 = .ok (.iaload, 1) := by decide +kernel
theorem dL_law_1105 : decode cL_law 1105 = .ok (.aload_n 0, 1) := by decide +kernel
theorem dL_law_1106 : decode cL_law 1106 = .ok (.iload_n 3, 1) := by decide +kernel
theorem dL_law_1107 : decode cL_law 1107 = .ok (.iconst 3, 1) := by decide +kernel
theorem dL_law_1108 : decode cL_law 1108 = .ok (.iadd, 1) := by decide +kernel
theorem dL_law_1109 : decode cL_law 1109 = .ok (.iaload, 1) := by decide +kernel
theorem dL_law_1110 : decode cL_law 1110 = .ok (.invokevirtual 147, 3) := by decide +kernel
theorem dL_law_1113 : decode cL_law 1113 = .ok (.if_icmp .eq 174, 3) := by decide +kernel
theorem dL_law_1116 : decode cL_law 1116 = .ok (.iconst 0, 1) := by decide +kernel
theorem dL_law_1117 : decode cL_law 1117 = .ok (.ireturn, 1) := by decide +kernel
theorem dL_law_1118 : decode cL_law 1118 = .ok (.aload_n 1, 1) := by decide +kernel
theorem dL_law_1119 : decode cL_law 1119 = .ok (.aload_n 0, 1) := by decide +kernel
theorem dL_law_1120 : decode cL_law 1120 = .ok (.iload_n 3, 1) := by decide +kernel
theorem dL_law_1121 : decode cL_law 1121 = .ok (.iconst 1, 1) := by decide +kernel
theorem dL_law_1122 : decode cL_law 1122 = .ok (.iadd, 1) := by decide +kernel
theorem dL_law_1123 : decode cL_law 1123 = .ok (.iaload, 1) := by decide +kernel
theorem dL_law_1124 : decode cL_law 1124 = .ok (.invokevirtual 148, 3) := by decide +kernel
theorem dL_law_1127 : decode cL_law 1127 = .ok (.aload_n 2, 1) := by decide +kernel
theorem dL_law_1128 : decode cL_law 1128 = .ok (.aload_n 0, 1) := by decide +kernel
theorem dL_law_1129 : decode cL_law 1129 = .ok (.iload_n 3, 1) := by decide +kernel
theorem dL_law_1130 : decode cL_law 1130 = .ok (.iconst 1, 1) := by decide +kernel
theorem dL_law_1131 : decode cL_law 1131 = .ok (.iadd, 1) := by decide +kernel
theorem dL_law_1132 : decode cL_law 1132 = .ok (.iaload, 1) := by decide +kernel
theorem dL_law_1133 : decode cL_law 1133 = .ok (.invokevirtual 151, 3) := by decide +kernel
theorem dL_law_1136 : decode cL_law 1136 = .ok (.if_icmp .eq 151, 3) := by decide +kernel
theorem dL_law_1139 : decode cL_law 1139 = .ok (.iconst 0, 1) := by decide +kernel
theorem dL_law_1140 : decode cL_law 1140 = .ok (.ireturn, 1) := by decide +kernel
theorem dL_law_1141 : decode cL_law 1141 = .ok (.aload_n 1, 1) := by decide +kernel
theorem dL_law_1142 : decode cL_law 1142 = .ok (.aload_n 0, 1) := by decide +kernel
theorem dL_law_1143 : decode cL_law 1143 = .ok (.iload_n 3, 1) := by decide +kernel
theorem dL_law_1144 : decode cL_law 1144 = .ok (.iconst 1, 1) := by decide +kernel
theorem dL_law_1145 : decode cL_law 1145 = .ok (.iadd, 1) := by decide +kernel
theorem dL_law_1146 : decode cL_law 1146 = .ok (.iaload, 1) := by decide +kernel
theorem dL_law_1147 : decode cL_law 1147 = .ok (.aload_n 0, 1) := by decide +kernel
theorem dL_law_1148 : decode cL_law 1148 = .ok (.iload_n 3, 1) := by decide +kernel
theorem dL_law_1149 : decode cL_law 1149 = .ok (.iconst 2, 1) := by decide +kernel
theorem dL_law_1150 : decode cL_law 1150 = .ok (.iadd, 1) := by decide +kernel
theorem dL_law_1151 : decode cL_law 1151 = .ok (.iaload, 1) := by decide +kernel
theorem dL_law_1152 : decode cL_law 1152 = .ok (.aload_n 0, 1) := by decide +kernel
theorem dL_law_1153 : decode cL_law 1153 = .ok (.iload_n 3, 1) := by decide +kernel
theorem dL_law_1154 : decode cL_law 1154 = .ok (.iconst 3, 1) := by decide +kernel
theorem dL_law_1155 : decode cL_law 1155 = .ok (.iadd, 1) := by decide +kernel
theorem dL_law_1156 : decode cL_law 1156 = .ok (.iaload, 1) := by decide +kernel
theorem dL_law_1157 : decode cL_law 1157 = .ok (.aload_n 0, 1) := by decide +kernel
theorem dL_law_1158 : decode cL_law 1158 = .ok (.iload_n 3, 1) := by decide +kernel
theorem dL_law_1159 : decode cL_law 1159 = .ok (.iconst 4, 1) := by decide +kernel
theorem dL_law_1160 : decode cL_law 1160 = .ok (.iadd, 1) := by decide +kernel
theorem dL_law_1161 : decode cL_law 1161 = .ok (.iaload, 1) := by decide +kernel
theorem dL_law_1162 : decode cL_law 1162 = .ok (.i2l, 1) := by decide +kernel
theorem dL_law_1163 : decode cL_law 1163 = .ok (.bipush 32, 2) := by decide +kernel
theorem dL_law_1165 : decode cL_law 1165 = .ok (.lshl, 1) := by decide +kernel
theorem dL_law_1166 : decode cL_law 1166 = .ok (.aload_n 0, 1) := by decide +kernel
theorem dL_law_1167 : decode cL_law 1167 = .ok (.iload_n 3, 1) := by decide +kernel
theorem dL_law_1168 : decode cL_law 1168 = .ok (.iconst 5, 1) := by decide +kernel
theorem dL_law_1169 : decode cL_law 1169 = .ok (.iadd, 1) := by decide +kernel
theorem dL_law_1170 : decode cL_law 1170 = .ok (.iaload, 1) := by decide +kernel
theorem dL_law_1171 : decode cL_law 1171 = .ok (.i2l, 1) := by decide +kernel
theorem dL_law_1172 : decode cL_law 1172 = .ok (.ldc2_w 152, 3) := by decide +kernel
theorem dL_law_1175 : decode cL_law 1175 = .ok (.land, 1) := by decide +kernel
theorem dL_law_1176 : decode cL_law 1176 = .ok (.lor, 1) := by decide +kernel
theorem dL_law_1177 : decode cL_law 1177 = .ok (.invokevirtual 154, 3) := by decide +kernel
theorem dL_law_1180 : decode cL_law 1180 = .ok (.aload_n 2, 1) := by decide +kernel
theorem dL_law_1181 : decode cL_law 1181 = .ok (.aload_n 0, 1) := by decide +kernel
theorem dL_law_1182 : decode cL_law 1182 = .ok (.iload_n 3, 1) := by decide +kernel
theorem dL_law_1183 : decode cL_law 1183 = .ok (.iconst 1, 1) := by decide +kernel
theorem dL_law_1184 : decode cL_law 1184 = .ok (.iadd, 1) := by decide +kernel
theorem dL_law_1185 : decode cL_law 1185 = .ok (.iaload, 1) := by decide +kernel
theorem dL_law_1186 : decode cL_law 1186 = .ok (.aload_n 0, 1) := by decide +kernel
theorem dL_law_1187 : decode cL_law 1187 = .ok (.iload_n 3, 1) := by decide +kernel
theorem dL_law_1188 : decode cL_law 1188 = .ok (.iconst 2, 1) := by decide +kernel
theorem dL_law_1189 : decode cL_law 1189 = .ok (.iadd, 1) := by decide +kernel
theorem dL_law_1190 : decode cL_law 1190 = .ok (.iaload, 1) := by decide +kernel
theorem dL_law_1191 : decode cL_law 1191 = .ok (.aload_n 0, 1) := by decide +kernel
theorem dL_law_1192 : decode cL_law 1192 = .ok (.iload_n 3, 1) := by decide +kernel
theorem dL_law_1193 : decode cL_law 1193 = .ok (.iconst 3, 1) := by decide +kernel
theorem dL_law_1194 : decode cL_law 1194 = .ok (.iadd, 1) := by decide +kernel
theorem dL_law_1195 : decode cL_law 1195 = .ok (.iaload, 1) := by decide +kernel
theorem dL_law_1196 : decode cL_law 1196 = .ok (.aload_n 0, 1) := by decide +kernel
theorem dL_law_1197 : decode cL_law 1197 = .ok (.iload_n 3, 1) := by decide +kernel
theorem dL_law_1198 : decode cL_law 1198 = .ok (.iconst 4, 1) := by decide +kernel
theorem dL_law_1199 : decode cL_law 1199 = .ok (.iadd, 1) := by decide +kernel
theorem dL_law_1200 : decode cL_law 1200 = .ok (.iaload, 1) := by decide +kernel
theorem dL_law_1201 : decode cL_law 1201 = .ok (.i2l, 1) := by decide +kernel
theorem dL_law_1202 : decode cL_law 1202 = .ok (.bipush 32, 2) := by decide +kernel
theorem dL_law_1204 : decode cL_law 1204 = .ok (.lshl, 1) := by decide +kernel
theorem dL_law_1205 : decode cL_law 1205 = .ok (.aload_n 0, 1) := by decide +kernel
theorem dL_law_1206 : decode cL_law 1206 = .ok (.iload_n 3, 1) := by decide +kernel
theorem dL_law_1207 : decode cL_law 1207 = .ok (.iconst 5, 1) := by decide +kernel
theorem dL_law_1208 : decode cL_law 1208 = .ok (.iadd, 1) := by decide +kernel
theorem dL_law_1209 : decode cL_law 1209 = .ok (.iaload, 1) := by decide +kernel
theorem dL_law_1210 : decode cL_law 1210 = .ok (.i2l, 1) := by decide +kernel
theorem dL_law_1211 : decode cL_law 1211 = .ok (.ldc2_w 152, 3) := by decide +kernel
theorem dL_law_1214 : decode cL_law 1214 = .ok (.land, 1) := by decide +kernel
theorem dL_law_1215 : decode cL_law 1215 = .ok (.lor, 1) := by decide +kernel
theorem dL_law_1216 : decode cL_law 1216 = .ok (.invokevirtual 158, 3) := by decide +kernel
theorem dL_law_1219 : decode cL_law 1219 = .ok (.if_icmp .eq 68, 3) := by decide +kernel
theorem dL_law_1222 : decode cL_law 1222 = .ok (.iconst 0, 1) := by decide +kernel
theorem dL_law_1223 : decode cL_law 1223 = .ok (.ireturn, 1) := by decide +kernel
theorem dL_law_1224 : decode cL_law 1224 = .ok (.aload_n 1, 1) := by decide +kernel
theorem dL_law_1225 : decode cL_law 1225 = .ok (.aload_n 0, 1) := by decide +kernel
theorem dL_law_1226 : decode cL_law 1226 = .ok (.iload_n 3, 1) := by decide +kernel
theorem dL_law_1227 : decode cL_law 1227 = .ok (.iconst 1, 1) := by decide +kernel
theorem dL_law_1228 : decode cL_law 1228 = .ok (.iadd, 1) := by decide +kernel
theorem dL_law_1229 : decode cL_law 1229 = .ok (.iaload, 1) := by decide +kernel
theorem dL_law_1230 : decode cL_law 1230 = .ok (.aload_n 0, 1) := by decide +kernel
theorem dL_law_1231 : decode cL_law 1231 = .ok (.iload_n 3, 1) := by decide +kernel
theorem dL_law_1232 : decode cL_law 1232 = .ok (.iconst 2, 1) := by decide +kernel
theorem dL_law_1233 : decode cL_law 1233 = .ok (.iadd, 1) := by decide +kernel
theorem dL_law_1234 : decode cL_law 1234 = .ok (.iaload, 1) := by decide +kernel
theorem dL_law_1235 : decode cL_law 1235 = .ok (.aload_n 0, 1) := by decide +kernel
theorem dL_law_1236 : decode cL_law 1236 = .ok (.iload_n 3, 1) := by decide +kernel
theorem dL_law_1237 : decode cL_law 1237 = .ok (.iconst 3, 1) := by decide +kernel
theorem dL_law_1238 : decode cL_law 1238 = .ok (.iadd, 1) := by decide +kernel
theorem dL_law_1239 : decode cL_law 1239 = .ok (.iaload, 1) := by decide +kernel
theorem dL_law_1240 : decode cL_law 1240 = .ok (.aload_n 0, 1) := by decide +kernel
theorem dL_law_1241 : decode cL_law 1241 = .ok (.iload_n 3, 1) := by decide +kernel
theorem dL_law_1242 : decode cL_law 1242 = .ok (.iconst 4, 1) := by decide +kernel
theorem dL_law_1243 : decode cL_law 1243 = .ok (.iadd, 1) := by decide +kernel
theorem dL_law_1244 : decode cL_law 1244 = .ok (.iaload, 1) := by decide +kernel
theorem dL_law_1245 : decode cL_law 1245 = .ok (.aload_n 0, 1) := by decide +kernel
theorem dL_law_1246 : decode cL_law 1246 = .ok (.iload_n 3, 1) := by decide +kernel
theorem dL_law_1247 : decode cL_law 1247 = .ok (.iconst 5, 1) := by decide +kernel
theorem dL_law_1248 : decode cL_law 1248 = .ok (.iadd, 1) := by decide +kernel
theorem dL_law_1249 : decode cL_law 1249 = .ok (.iaload, 1) := by decide +kernel
theorem dL_law_1250 : decode cL_law 1250 = .ok (.invokevirtual 159, 3) := by decide +kernel
theorem dL_law_1253 : decode cL_law 1253 = .ok (.aload_n 2, 1) := by decide +kernel
theorem dL_law_1254 : decode cL_law 1254 = .ok (.aload_n 0, 1) := by decide +kernel
theorem dL_law_1255 : decode cL_law 1255 = .ok (.iload_n 3, 1) := by decide +kernel
theorem dL_law_1256 : decode cL_law 1256 = .ok (.iconst 1, 1) := by decide +kernel
theorem dL_law_1257 : decode cL_law 1257 = .ok (.iadd, 1) := by decide +kernel
theorem dL_law_1258 : decode cL_law 1258 = .ok (.iaload, 1) := by decide +kernel
theorem dL_law_1259 : decode cL_law 1259 = .ok (.aload_n 0, 1) := by decide +kernel
theorem dL_law_1260 : decode cL_law 1260 = .ok (.iload_n 3, 1) := by decide +kernel
theorem dL_law_1261 : decode cL_law 1261 = .ok (.iconst 2, 1) := by decide +kernel
theorem dL_law_1262 : decode cL_law 1262 = .ok (.iadd, 1) := by decide +kernel
theorem dL_law_1263 : decode cL_law 1263 = .ok (.iaload, 1) := by decide +kernel
theorem dL_law_1264 : decode cL_law 1264 = .ok (.aload_n 0, 1) := by decide +kernel
theorem dL_law_1265 : decode cL_law 1265 = .ok (.iload_n 3, 1) := by decide +kernel
theorem dL_law_1266 : decode cL_law 1266 = .ok (.iconst 3, 1) := by decide +kernel
theorem dL_law_1267 : decode cL_law 1267 = .ok (.iadd, 1) := by decide +kernel
theorem dL_law_1268 : decode cL_law 1268 = .ok (.iaload, 1) := by decide +kernel
theorem dL_law_1269 : decode cL_law 1269 = .ok (.aload_n 0, 1) := by decide +kernel
theorem dL_law_1270 : decode cL_law 1270 = .ok (.iload_n 3, 1) := by decide +kernel
theorem dL_law_1271 : decode cL_law 1271 = .ok (.iconst 4, 1) := by decide +kernel
theorem dL_law_1272 : decode cL_law 1272 = .ok (.iadd, 1) := by decide +kernel
theorem dL_law_1273 : decode cL_law 1273 = .ok (.iaload, 1) := by decide +kernel
theorem dL_law_1274 : decode cL_law 1274 = .ok (.aload_n 0, 1) := by decide +kernel
theorem dL_law_1275 : decode cL_law 1275 = .ok (.iload_n 3, 1) := by decide +kernel
theorem dL_law_1276 : decode cL_law 1276 = .ok (.iconst 5, 1) := by decide +kernel
theorem dL_law_1277 : decode cL_law 1277 = .ok (.iadd, 1) := by decide +kernel
theorem dL_law_1278 : decode cL_law 1278 = .ok (.iaload, 1) := by decide +kernel
theorem dL_law_1279 : decode cL_law 1279 = .ok (.invokevirtual 163, 3) := by decide +kernel
theorem dL_law_1282 : decode cL_law 1282 = .ok (.if_icmp .eq 5, 3) := by decide +kernel
theorem dL_law_1285 : decode cL_law 1285 = .ok (.iconst 0, 1) := by decide +kernel
theorem dL_law_1286 : decode cL_law 1286 = .ok (.ireturn, 1) := by decide +kernel
theorem dL_law_1287 : decode cL_law 1287 = .ok (.iinc 3 7, 3) := by decide +kernel
theorem dL_law_1290 : decode cL_law 1290 = .ok (.goto (-1272), 3) := by decide +kernel
theorem dL_law_1293 : decode cL_law 1293 = .ok (.iconst 1, 1) := by decide +kernel
theorem dL_law_1294 : decode cL_law 1294 = .ok (.ireturn, 1) := by decide +kernel
end
