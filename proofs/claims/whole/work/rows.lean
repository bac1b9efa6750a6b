section
-- ===== PART A: goes FIRST, ahead of the names: the tables' words, and 'selects' of the private methods out of them =====
/-- a private method of a class that the tables say can be made, by its rows of tables_1 -/
def lw_okq (q : MethodName × Nat) : Prop := (q.1.cls ≠ "java/lang/invoke/MethodHandle" ∧ q.1.cls ≠ "java/lang/invoke/VarHandle") ∧ Cond.instantiable q.1.cls q.2 ∈ tables_1 ∧ Cond.privateMethod q.1 ∈ tables_1 ∧ Cond.instanceMethod q.1 ∈ tables_1
theorem lw_p0 : lw_okq (⟨"CubeBodies$Held", "change", "(I)V"⟩, 5) := ⟨⟨by decide +kernel, by decide +kernel⟩, List.mem_of_getElem? (i := 24) (by decide +kernel), List.mem_of_getElem? (i := 187) (by decide +kernel), List.mem_of_getElem? (i := 188) (by decide +kernel)⟩
theorem lw_p1 : lw_okq (⟨"CubeBodies$Text", "append", "(I)I"⟩, 2) := ⟨⟨by decide +kernel, by decide +kernel⟩, List.mem_of_getElem? (i := 71) (by decide +kernel), List.mem_of_getElem? (i := 206) (by decide +kernel), List.mem_of_getElem? (i := 207) (by decide +kernel)⟩
theorem lw_p2 : lw_okq (⟨"CubeBodies$Text", "firstFault", "()I"⟩, 2) := ⟨⟨by decide +kernel, by decide +kernel⟩, List.mem_of_getElem? (i := 71) (by decide +kernel), List.mem_of_getElem? (i := 214) (by decide +kernel), List.mem_of_getElem? (i := 215) (by decide +kernel)⟩
theorem lw_p3 : lw_okq (⟨"CubeBodies$Text", "signAt", "(I)I"⟩, 2) := ⟨⟨by decide +kernel, by decide +kernel⟩, List.mem_of_getElem? (i := 71) (by decide +kernel), List.mem_of_getElem? (i := 218) (by decide +kernel), List.mem_of_getElem? (i := 219) (by decide +kernel)⟩
theorem lw_p4 : lw_okq (⟨"CubeBodies$Text", "digitsFrom", "(II)I"⟩, 2) := ⟨⟨by decide +kernel, by decide +kernel⟩, List.mem_of_getElem? (i := 71) (by decide +kernel), List.mem_of_getElem? (i := 225) (by decide +kernel), List.mem_of_getElem? (i := 226) (by decide +kernel)⟩
theorem lw_p5 : lw_okq (⟨"CubeBodies$Text", "perform", "(LCubeBodies$Held;)I"⟩, 2) := ⟨⟨by decide +kernel, by decide +kernel⟩, List.mem_of_getElem? (i := 71) (by decide +kernel), List.mem_of_getElem? (i := 229) (by decide +kernel), List.mem_of_getElem? (i := 230) (by decide +kernel)⟩
theorem lw_p6 : lw_okq (⟨"CubeBodies$Text", "performClause", "(LCubeBodies$Held;III)Z"⟩, 2) := ⟨⟨by decide +kernel, by decide +kernel⟩, List.mem_of_getElem? (i := 71) (by decide +kernel), List.mem_of_getElem? (i := 233) (by decide +kernel), List.mem_of_getElem? (i := 234) (by decide +kernel)⟩
theorem lw_p7 : lw_okq (⟨"CubeBodies$Text", "cornersAt", "(II)I"⟩, 2) := ⟨⟨by decide +kernel, by decide +kernel⟩, List.mem_of_getElem? (i := 71) (by decide +kernel), List.mem_of_getElem? (i := 237) (by decide +kernel), List.mem_of_getElem? (i := 238) (by decide +kernel)⟩
theorem lw_p8 : lw_okq (⟨"CubeBodies$Text", "numberAt", "(II)I"⟩, 2) := ⟨⟨by decide +kernel, by decide +kernel⟩, List.mem_of_getElem? (i := 71) (by decide +kernel), List.mem_of_getElem? (i := 245) (by decide +kernel), List.mem_of_getElem? (i := 246) (by decide +kernel)⟩
theorem lw_p9 : lw_okq (⟨"CubeBodies$Shape", "faceCount", "(I)I"⟩, 6) := ⟨⟨by decide +kernel, by decide +kernel⟩, List.mem_of_getElem? (i := 86) (by decide +kernel), List.mem_of_getElem? (i := 283) (by decide +kernel), List.mem_of_getElem? (i := 284) (by decide +kernel)⟩
theorem lw_p10 : lw_okq (⟨"CubeBodies$Shape", "measure", "(I)V"⟩, 6) := ⟨⟨by decide +kernel, by decide +kernel⟩, List.mem_of_getElem? (i := 86) (by decide +kernel), List.mem_of_getElem? (i := 287) (by decide +kernel), List.mem_of_getElem? (i := 288) (by decide +kernel)⟩
theorem lw_p11 : lw_okq (⟨"CubeBodies$Shape", "measureBy", "(I)V"⟩, 6) := ⟨⟨by decide +kernel, by decide +kernel⟩, List.mem_of_getElem? (i := 86) (by decide +kernel), List.mem_of_getElem? (i := 292) (by decide +kernel), List.mem_of_getElem? (i := 293) (by decide +kernel)⟩
theorem lw_p12 : lw_okq (⟨"CubeBodies$Shape", "isMeasuredFace", "(I)Z"⟩, 6) := ⟨⟨by decide +kernel, by decide +kernel⟩, List.mem_of_getElem? (i := 86) (by decide +kernel), List.mem_of_getElem? (i := 298) (by decide +kernel), List.mem_of_getElem? (i := 299) (by decide +kernel)⟩
theorem lw_p13 : lw_okq (⟨"CubeBodies$Shape", "isMeasuredTop", "(I)Z"⟩, 6) := ⟨⟨by decide +kernel, by decide +kernel⟩, List.mem_of_getElem? (i := 86) (by decide +kernel), List.mem_of_getElem? (i := 302) (by decide +kernel), List.mem_of_getElem? (i := 303) (by decide +kernel)⟩
theorem lw_p14 : lw_okq (⟨"CubeBodies$Shape", "edgeCount", "(I)I"⟩, 6) := ⟨⟨by decide +kernel, by decide +kernel⟩, List.mem_of_getElem? (i := 86) (by decide +kernel), List.mem_of_getElem? (i := 307) (by decide +kernel), List.mem_of_getElem? (i := 308) (by decide +kernel)⟩
theorem lw_p15 : lw_okq (⟨"CubeBodies$Shape", "sixfold", "(I)I"⟩, 6) := ⟨⟨by decide +kernel, by decide +kernel⟩, List.mem_of_getElem? (i := 86) (by decide +kernel), List.mem_of_getElem? (i := 326) (by decide +kernel), List.mem_of_getElem? (i := 327) (by decide +kernel)⟩
def lw_privs_1 : List (MethodName × Nat) := [(⟨"CubeBodies$Held", "change", "(I)V"⟩, 5), (⟨"CubeBodies$Text", "append", "(I)I"⟩, 2), (⟨"CubeBodies$Text", "firstFault", "()I"⟩, 2), (⟨"CubeBodies$Text", "signAt", "(I)I"⟩, 2), (⟨"CubeBodies$Text", "digitsFrom", "(II)I"⟩, 2), (⟨"CubeBodies$Text", "perform", "(LCubeBodies$Held;)I"⟩, 2), (⟨"CubeBodies$Text", "performClause", "(LCubeBodies$Held;III)Z"⟩, 2), (⟨"CubeBodies$Text", "cornersAt", "(II)I"⟩, 2), (⟨"CubeBodies$Text", "numberAt", "(II)I"⟩, 2), (⟨"CubeBodies$Shape", "faceCount", "(I)I"⟩, 6), (⟨"CubeBodies$Shape", "measure", "(I)V"⟩, 6), (⟨"CubeBodies$Shape", "measureBy", "(I)V"⟩, 6), (⟨"CubeBodies$Shape", "isMeasuredFace", "(I)Z"⟩, 6), (⟨"CubeBodies$Shape", "isMeasuredTop", "(I)Z"⟩, 6), (⟨"CubeBodies$Shape", "edgeCount", "(I)I"⟩, 6), (⟨"CubeBodies$Shape", "sixfold", "(I)I"⟩, 6)]
theorem lw_r1 : ∀ q ∈ lw_privs_1, lw_okq q := List.forall_mem_cons.mpr ⟨lw_p0, List.forall_mem_cons.mpr ⟨lw_p1, List.forall_mem_cons.mpr ⟨lw_p2, List.forall_mem_cons.mpr ⟨lw_p3, List.forall_mem_cons.mpr ⟨lw_p4, List.forall_mem_cons.mpr ⟨lw_p5, List.forall_mem_cons.mpr ⟨lw_p6, List.forall_mem_cons.mpr ⟨lw_p7, List.forall_mem_cons.mpr ⟨lw_p8, List.forall_mem_cons.mpr ⟨lw_p9, List.forall_mem_cons.mpr ⟨lw_p10, List.forall_mem_cons.mpr ⟨lw_p11, List.forall_mem_cons.mpr ⟨lw_p12, List.forall_mem_cons.mpr ⟨lw_p13, List.forall_mem_cons.mpr ⟨lw_p14, List.forall_mem_cons.mpr ⟨lw_p15, fun _ h => absurd h List.not_mem_nil⟩⟩⟩⟩⟩⟩⟩⟩⟩⟩⟩⟩⟩⟩⟩⟩
theorem lw_p16 : lw_okq (⟨"CubeBodies$Shape", "pointsIn", "(II)I"⟩, 6) := ⟨⟨by decide +kernel, by decide +kernel⟩, List.mem_of_getElem? (i := 86) (by decide +kernel), List.mem_of_getElem? (i := 330) (by decide +kernel), List.mem_of_getElem? (i := 331) (by decide +kernel)⟩
theorem lw_p17 : lw_okq (⟨"CubeBodies$Shape", "isInMeasured", "(IIII)Z"⟩, 6) := ⟨⟨by decide +kernel, by decide +kernel⟩, List.mem_of_getElem? (i := 86) (by decide +kernel), List.mem_of_getElem? (i := 334) (by decide +kernel), List.mem_of_getElem? (i := 335) (by decide +kernel)⟩
theorem lw_p18 : lw_okq (⟨"CubeBodies$Shape", "width", "(I)I"⟩, 6) := ⟨⟨by decide +kernel, by decide +kernel⟩, List.mem_of_getElem? (i := 86) (by decide +kernel), List.mem_of_getElem? (i := 338) (by decide +kernel), List.mem_of_getElem? (i := 339) (by decide +kernel)⟩
theorem lw_p19 : lw_okq (⟨"CubeBodies$Shape", "faceAt", "(II)I"⟩, 6) := ⟨⟨by decide +kernel, by decide +kernel⟩, List.mem_of_getElem? (i := 86) (by decide +kernel), List.mem_of_getElem? (i := 387) (by decide +kernel), List.mem_of_getElem? (i := 388) (by decide +kernel)⟩
theorem lw_p20 : lw_okq (⟨"CubeBodies$Shape", "isEdge", "(II)Z"⟩, 6) := ⟨⟨by decide +kernel, by decide +kernel⟩, List.mem_of_getElem? (i := 86) (by decide +kernel), List.mem_of_getElem? (i := 395) (by decide +kernel), List.mem_of_getElem? (i := 396) (by decide +kernel)⟩
theorem lw_p21 : lw_okq (⟨"CubeBodies$Shape", "isIn", "(IIIII)Z"⟩, 6) := ⟨⟨by decide +kernel, by decide +kernel⟩, List.mem_of_getElem? (i := 86) (by decide +kernel), List.mem_of_getElem? (i := 414) (by decide +kernel), List.mem_of_getElem? (i := 415) (by decide +kernel)⟩
theorem lw_p22 : lw_okq (⟨"CubeBodies$Shape", "fat", "(I)F"⟩, 6) := ⟨⟨by decide +kernel, by decide +kernel⟩, List.mem_of_getElem? (i := 86) (by decide +kernel), List.mem_of_getElem? (i := 422) (by decide +kernel), List.mem_of_getElem? (i := 423) (by decide +kernel)⟩
theorem lw_p23 : lw_okq (⟨"CubeBodies$Rows", "empty", "()I"⟩, 3) := ⟨⟨by decide +kernel, by decide +kernel⟩, List.mem_of_getElem? (i := 30) (by decide +kernel), List.mem_of_getElem? (i := 461) (by decide +kernel), List.mem_of_getElem? (i := 462) (by decide +kernel)⟩
theorem lw_p24 : lw_okq (⟨"CubeBodies$Rows", "append", "(III)I"⟩, 3) := ⟨⟨by decide +kernel, by decide +kernel⟩, List.mem_of_getElem? (i := 30) (by decide +kernel), List.mem_of_getElem? (i := 465) (by decide +kernel), List.mem_of_getElem? (i := 466) (by decide +kernel)⟩
theorem lw_p25 : lw_okq (⟨"CubeBodies", "allSeenIn", "(I)Z"⟩, 6) := ⟨⟨by decide +kernel, by decide +kernel⟩, List.mem_of_getElem? (i := 16) (by decide +kernel), List.mem_of_getElem? (i := 473) (by decide +kernel), List.mem_of_getElem? (i := 474) (by decide +kernel)⟩
theorem lw_p26 : lw_okq (⟨"CubeBodies$Rows", "whatAt", "(I)I"⟩, 3) := ⟨⟨by decide +kernel, by decide +kernel⟩, List.mem_of_getElem? (i := 30) (by decide +kernel), List.mem_of_getElem? (i := 477) (by decide +kernel), List.mem_of_getElem? (i := 478) (by decide +kernel)⟩
theorem lw_p27 : lw_okq (⟨"CubeBodies", "sightOf", "(II)I"⟩, 6) := ⟨⟨by decide +kernel, by decide +kernel⟩, List.mem_of_getElem? (i := 16) (by decide +kernel), List.mem_of_getElem? (i := 481) (by decide +kernel), List.mem_of_getElem? (i := 482) (by decide +kernel)⟩
theorem lw_p28 : lw_okq (⟨"CubeBodies$Rows", "numberAt", "(I)I"⟩, 3) := ⟨⟨by decide +kernel, by decide +kernel⟩, List.mem_of_getElem? (i := 30) (by decide +kernel), List.mem_of_getElem? (i := 485) (by decide +kernel), List.mem_of_getElem? (i := 486) (by decide +kernel)⟩
theorem lw_p29 : lw_okq (⟨"CubeBodies", "bodyAfterEvents", "()I"⟩, 6) := ⟨⟨by decide +kernel, by decide +kernel⟩, List.mem_of_getElem? (i := 16) (by decide +kernel), List.mem_of_getElem? (i := 514) (by decide +kernel), List.mem_of_getElem? (i := 515) (by decide +kernel)⟩
theorem lw_p30 : lw_okq (⟨"CubeBodies$Tape", "holdsRow", "()Z"⟩, 3) := ⟨⟨by decide +kernel, by decide +kernel⟩, List.mem_of_getElem? (i := 112) (by decide +kernel), List.mem_of_getElem? (i := 533) (by decide +kernel), List.mem_of_getElem? (i := 534) (by decide +kernel)⟩
theorem lw_p31 : lw_okq (⟨"CubeBodies$Tape", "hasPlace", "(I)Z"⟩, 3) := ⟨⟨by decide +kernel, by decide +kernel⟩, List.mem_of_getElem? (i := 112) (by decide +kernel), List.mem_of_getElem? (i := 537) (by decide +kernel), List.mem_of_getElem? (i := 538) (by decide +kernel)⟩
def lw_privs_2 : List (MethodName × Nat) := [(⟨"CubeBodies$Shape", "pointsIn", "(II)I"⟩, 6), (⟨"CubeBodies$Shape", "isInMeasured", "(IIII)Z"⟩, 6), (⟨"CubeBodies$Shape", "width", "(I)I"⟩, 6), (⟨"CubeBodies$Shape", "faceAt", "(II)I"⟩, 6), (⟨"CubeBodies$Shape", "isEdge", "(II)Z"⟩, 6), (⟨"CubeBodies$Shape", "isIn", "(IIIII)Z"⟩, 6), (⟨"CubeBodies$Shape", "fat", "(I)F"⟩, 6), (⟨"CubeBodies$Rows", "empty", "()I"⟩, 3), (⟨"CubeBodies$Rows", "append", "(III)I"⟩, 3), (⟨"CubeBodies", "allSeenIn", "(I)Z"⟩, 6), (⟨"CubeBodies$Rows", "whatAt", "(I)I"⟩, 3), (⟨"CubeBodies", "sightOf", "(II)I"⟩, 6), (⟨"CubeBodies$Rows", "numberAt", "(I)I"⟩, 3), (⟨"CubeBodies", "bodyAfterEvents", "()I"⟩, 6), (⟨"CubeBodies$Tape", "holdsRow", "()Z"⟩, 3), (⟨"CubeBodies$Tape", "hasPlace", "(I)Z"⟩, 3)]
theorem lw_r2 : ∀ q ∈ lw_privs_2, lw_okq q := List.forall_mem_cons.mpr ⟨lw_p16, List.forall_mem_cons.mpr ⟨lw_p17, List.forall_mem_cons.mpr ⟨lw_p18, List.forall_mem_cons.mpr ⟨lw_p19, List.forall_mem_cons.mpr ⟨lw_p20, List.forall_mem_cons.mpr ⟨lw_p21, List.forall_mem_cons.mpr ⟨lw_p22, List.forall_mem_cons.mpr ⟨lw_p23, List.forall_mem_cons.mpr ⟨lw_p24, List.forall_mem_cons.mpr ⟨lw_p25, List.forall_mem_cons.mpr ⟨lw_p26, List.forall_mem_cons.mpr ⟨lw_p27, List.forall_mem_cons.mpr ⟨lw_p28, List.forall_mem_cons.mpr ⟨lw_p29, List.forall_mem_cons.mpr ⟨lw_p30, List.forall_mem_cons.mpr ⟨lw_p31, fun _ h => absurd h List.not_mem_nil⟩⟩⟩⟩⟩⟩⟩⟩⟩⟩⟩⟩⟩⟩⟩⟩
theorem lw_p32 : lw_okq (⟨"CubeBodies$Tape", "itemAt", "(I)J"⟩, 3) := ⟨⟨by decide +kernel, by decide +kernel⟩, List.mem_of_getElem? (i := 112) (by decide +kernel), List.mem_of_getElem? (i := 541) (by decide +kernel), List.mem_of_getElem? (i := 542) (by decide +kernel)⟩
theorem lw_p33 : lw_okq (⟨"CubeBodies$Held", "copyFrom", "(LCubeBodies$Held;)V"⟩, 5) := ⟨⟨by decide +kernel, by decide +kernel⟩, List.mem_of_getElem? (i := 24) (by decide +kernel), List.mem_of_getElem? (i := 550) (by decide +kernel), List.mem_of_getElem? (i := 551) (by decide +kernel)⟩
theorem lw_p34 : lw_okq (⟨"CubeBodies$Rows", "copyFrom", "(LCubeBodies$Rows;)V"⟩, 3) := ⟨⟨by decide +kernel, by decide +kernel⟩, List.mem_of_getElem? (i := 30) (by decide +kernel), List.mem_of_getElem? (i := 554) (by decide +kernel), List.mem_of_getElem? (i := 555) (by decide +kernel)⟩
theorem lw_p35 : lw_okq (⟨"CubeBodies$Tape", "becomeRow", "(II)V"⟩, 3) := ⟨⟨by decide +kernel, by decide +kernel⟩, List.mem_of_getElem? (i := 112) (by decide +kernel), List.mem_of_getElem? (i := 573) (by decide +kernel), List.mem_of_getElem? (i := 574) (by decide +kernel)⟩
theorem lw_p36 : lw_okq (⟨"CubeBodies$Tape", "put", "(IJ)V"⟩, 3) := ⟨⟨by decide +kernel, by decide +kernel⟩, List.mem_of_getElem? (i := 112) (by decide +kernel), List.mem_of_getElem? (i := 581) (by decide +kernel), List.mem_of_getElem? (i := 582) (by decide +kernel)⟩
theorem lw_p37 : lw_okq (⟨"CubeBodies$Tape", "cut", "(J)J"⟩, 3) := ⟨⟨by decide +kernel, by decide +kernel⟩, List.mem_of_getElem? (i := 112) (by decide +kernel), List.mem_of_getElem? (i := 585) (by decide +kernel), List.mem_of_getElem? (i := 586) (by decide +kernel)⟩
theorem lw_p38 : lw_okq (⟨"CubeBodies$Tape", "hasRun", "(II)Z"⟩, 3) := ⟨⟨by decide +kernel, by decide +kernel⟩, List.mem_of_getElem? (i := 112) (by decide +kernel), List.mem_of_getElem? (i := 597) (by decide +kernel), List.mem_of_getElem? (i := 598) (by decide +kernel)⟩
theorem lw_p39 : lw_okq (⟨"CubeBodiesModel", "imageOf", "(II)I"⟩, 32) := ⟨⟨by decide +kernel, by decide +kernel⟩, List.mem_of_getElem? (i := 602) (by decide +kernel), List.mem_of_getElem? (i := 608) (by decide +kernel), List.mem_of_getElem? (i := 609) (by decide +kernel)⟩
theorem lw_p40 : lw_okq (⟨"CubeBodiesModel", "readsAll", "()Z"⟩, 32) := ⟨⟨by decide +kernel, by decide +kernel⟩, List.mem_of_getElem? (i := 602) (by decide +kernel), List.mem_of_getElem? (i := 747) (by decide +kernel), List.mem_of_getElem? (i := 748) (by decide +kernel)⟩
theorem lw_p41 : lw_okq (⟨"CubeBodiesModel", "readsClause", "()Z"⟩, 32) := ⟨⟨by decide +kernel, by decide +kernel⟩, List.mem_of_getElem? (i := 602) (by decide +kernel), List.mem_of_getElem? (i := 751) (by decide +kernel), List.mem_of_getElem? (i := 752) (by decide +kernel)⟩
theorem lw_p42 : lw_okq (⟨"CubeBodiesModel", "next", "()I"⟩, 32) := ⟨⟨by decide +kernel, by decide +kernel⟩, List.mem_of_getElem? (i := 602) (by decide +kernel), List.mem_of_getElem? (i := 755) (by decide +kernel), List.mem_of_getElem? (i := 756) (by decide +kernel)⟩
theorem lw_p43 : lw_okq (⟨"CubeBodiesModel", "readsDigits", "(ZI)I"⟩, 32) := ⟨⟨by decide +kernel, by decide +kernel⟩, List.mem_of_getElem? (i := 602) (by decide +kernel), List.mem_of_getElem? (i := 759) (by decide +kernel), List.mem_of_getElem? (i := 760) (by decide +kernel)⟩
theorem lw_p44 : lw_okq (⟨"CubeBodiesModel", "isDigit", "()Z"⟩, 32) := ⟨⟨by decide +kernel, by decide +kernel⟩, List.mem_of_getElem? (i := 602) (by decide +kernel), List.mem_of_getElem? (i := 763) (by decide +kernel), List.mem_of_getElem? (i := 764) (by decide +kernel)⟩
theorem lw_p45 : lw_okq (⟨"CubeBodiesModel", "does", "(I)I"⟩, 32) := ⟨⟨by decide +kernel, by decide +kernel⟩, List.mem_of_getElem? (i := 602) (by decide +kernel), List.mem_of_getElem? (i := 767) (by decide +kernel), List.mem_of_getElem? (i := 768) (by decide +kernel)⟩
theorem lw_p46 : lw_okq (⟨"CubeBodiesModel", "set", "(I)I"⟩, 32) := ⟨⟨by decide +kernel, by decide +kernel⟩, List.mem_of_getElem? (i := 602) (by decide +kernel), List.mem_of_getElem? (i := 771) (by decide +kernel), List.mem_of_getElem? (i := 772) (by decide +kernel)⟩
theorem lw_p47 : lw_okq (⟨"CubeBodiesModel", "likes", "(I)I"⟩, 32) := ⟨⟨by decide +kernel, by decide +kernel⟩, List.mem_of_getElem? (i := 602) (by decide +kernel), List.mem_of_getElem? (i := 785) (by decide +kernel), List.mem_of_getElem? (i := 786) (by decide +kernel)⟩
def lw_privs_3 : List (MethodName × Nat) := [(⟨"CubeBodies$Tape", "itemAt", "(I)J"⟩, 3), (⟨"CubeBodies$Held", "copyFrom", "(LCubeBodies$Held;)V"⟩, 5), (⟨"CubeBodies$Rows", "copyFrom", "(LCubeBodies$Rows;)V"⟩, 3), (⟨"CubeBodies$Tape", "becomeRow", "(II)V"⟩, 3), (⟨"CubeBodies$Tape", "put", "(IJ)V"⟩, 3), (⟨"CubeBodies$Tape", "cut", "(J)J"⟩, 3), (⟨"CubeBodies$Tape", "hasRun", "(II)Z"⟩, 3), (⟨"CubeBodiesModel", "imageOf", "(II)I"⟩, 32), (⟨"CubeBodiesModel", "readsAll", "()Z"⟩, 32), (⟨"CubeBodiesModel", "readsClause", "()Z"⟩, 32), (⟨"CubeBodiesModel", "next", "()I"⟩, 32), (⟨"CubeBodiesModel", "readsDigits", "(ZI)I"⟩, 32), (⟨"CubeBodiesModel", "isDigit", "()Z"⟩, 32), (⟨"CubeBodiesModel", "does", "(I)I"⟩, 32), (⟨"CubeBodiesModel", "set", "(I)I"⟩, 32), (⟨"CubeBodiesModel", "likes", "(I)I"⟩, 32)]
theorem lw_r3 : ∀ q ∈ lw_privs_3, lw_okq q := List.forall_mem_cons.mpr ⟨lw_p32, List.forall_mem_cons.mpr ⟨lw_p33, List.forall_mem_cons.mpr ⟨lw_p34, List.forall_mem_cons.mpr ⟨lw_p35, List.forall_mem_cons.mpr ⟨lw_p36, List.forall_mem_cons.mpr ⟨lw_p37, List.forall_mem_cons.mpr ⟨lw_p38, List.forall_mem_cons.mpr ⟨lw_p39, List.forall_mem_cons.mpr ⟨lw_p40, List.forall_mem_cons.mpr ⟨lw_p41, List.forall_mem_cons.mpr ⟨lw_p42, List.forall_mem_cons.mpr ⟨lw_p43, List.forall_mem_cons.mpr ⟨lw_p44, List.forall_mem_cons.mpr ⟨lw_p45, List.forall_mem_cons.mpr ⟨lw_p46, List.forall_mem_cons.mpr ⟨lw_p47, fun _ h => absurd h List.not_mem_nil⟩⟩⟩⟩⟩⟩⟩⟩⟩⟩⟩⟩⟩⟩⟩⟩
theorem lw_p48 : lw_okq (⟨"CubeBodiesModel", "stills", "(I)I"⟩, 32) := ⟨⟨by decide +kernel, by decide +kernel⟩, List.mem_of_getElem? (i := 602) (by decide +kernel), List.mem_of_getElem? (i := 789) (by decide +kernel), List.mem_of_getElem? (i := 790) (by decide +kernel)⟩
theorem lw_p49 : lw_okq (⟨"CubeBodiesModel", "far", "()I"⟩, 32) := ⟨⟨by decide +kernel, by decide +kernel⟩, List.mem_of_getElem? (i := 602) (by decide +kernel), List.mem_of_getElem? (i := 793) (by decide +kernel), List.mem_of_getElem? (i := 794) (by decide +kernel)⟩
theorem lw_p50 : lw_okq (⟨"CubeBodiesModel", "findFaces", "(I)I"⟩, 32) := ⟨⟨by decide +kernel, by decide +kernel⟩, List.mem_of_getElem? (i := 602) (by decide +kernel), List.mem_of_getElem? (i := 797) (by decide +kernel), List.mem_of_getElem? (i := 798) (by decide +kernel)⟩
theorem lw_p51 : lw_okq (⟨"CubeBodiesModel", "dimension", "(I)I"⟩, 32) := ⟨⟨by decide +kernel, by decide +kernel⟩, List.mem_of_getElem? (i := 602) (by decide +kernel), List.mem_of_getElem? (i := 825) (by decide +kernel), List.mem_of_getElem? (i := 826) (by decide +kernel)⟩
theorem lw_p52 : lw_okq (⟨"CubeBodiesModel", "fat", "()F"⟩, 32) := ⟨⟨by decide +kernel, by decide +kernel⟩, List.mem_of_getElem? (i := 602) (by decide +kernel), List.mem_of_getElem? (i := 884) (by decide +kernel), List.mem_of_getElem? (i := 885) (by decide +kernel)⟩
theorem lw_p53 : lw_okq (⟨"CubeBodiesModel", "centre", "(I)F"⟩, 32) := ⟨⟨by decide +kernel, by decide +kernel⟩, List.mem_of_getElem? (i := 602) (by decide +kernel), List.mem_of_getElem? (i := 889) (by decide +kernel), List.mem_of_getElem? (i := 890) (by decide +kernel)⟩
theorem lw_p54 : lw_okq (⟨"CubeBodiesModel", "isSeen", "(II)Z"⟩, 32) := ⟨⟨by decide +kernel, by decide +kernel⟩, List.mem_of_getElem? (i := 602) (by decide +kernel), List.mem_of_getElem? (i := 927) (by decide +kernel), List.mem_of_getElem? (i := 928) (by decide +kernel)⟩
theorem lw_p55 : lw_okq (⟨"CubeBodiesModel", "passesAll", "(Z)V"⟩, 32) := ⟨⟨by decide +kernel, by decide +kernel⟩, List.mem_of_getElem? (i := 602) (by decide +kernel), List.mem_of_getElem? (i := 969) (by decide +kernel), List.mem_of_getElem? (i := 970) (by decide +kernel)⟩
theorem lw_p56 : lw_okq (⟨"CubeBodiesModel", "passOne", "(I)I"⟩, 32) := ⟨⟨by decide +kernel, by decide +kernel⟩, List.mem_of_getElem? (i := 602) (by decide +kernel), List.mem_of_getElem? (i := 973) (by decide +kernel), List.mem_of_getElem? (i := 974) (by decide +kernel)⟩
theorem lw_p57 : lw_okq (⟨"CubeBodiesModel", "passes", "([II)V"⟩, 32) := ⟨⟨by decide +kernel, by decide +kernel⟩, List.mem_of_getElem? (i := 602) (by decide +kernel), List.mem_of_getElem? (i := 977) (by decide +kernel), List.mem_of_getElem? (i := 978) (by decide +kernel)⟩
def lw_privs_4 : List (MethodName × Nat) := [(⟨"CubeBodiesModel", "stills", "(I)I"⟩, 32), (⟨"CubeBodiesModel", "far", "()I"⟩, 32), (⟨"CubeBodiesModel", "findFaces", "(I)I"⟩, 32), (⟨"CubeBodiesModel", "dimension", "(I)I"⟩, 32), (⟨"CubeBodiesModel", "fat", "()F"⟩, 32), (⟨"CubeBodiesModel", "centre", "(I)F"⟩, 32), (⟨"CubeBodiesModel", "isSeen", "(II)Z"⟩, 32), (⟨"CubeBodiesModel", "passesAll", "(Z)V"⟩, 32), (⟨"CubeBodiesModel", "passOne", "(I)I"⟩, 32), (⟨"CubeBodiesModel", "passes", "([II)V"⟩, 32)]
theorem lw_r4 : ∀ q ∈ lw_privs_4, lw_okq q := List.forall_mem_cons.mpr ⟨lw_p48, List.forall_mem_cons.mpr ⟨lw_p49, List.forall_mem_cons.mpr ⟨lw_p50, List.forall_mem_cons.mpr ⟨lw_p51, List.forall_mem_cons.mpr ⟨lw_p52, List.forall_mem_cons.mpr ⟨lw_p53, List.forall_mem_cons.mpr ⟨lw_p54, List.forall_mem_cons.mpr ⟨lw_p55, List.forall_mem_cons.mpr ⟨lw_p56, List.forall_mem_cons.mpr ⟨lw_p57, fun _ h => absurd h List.not_mem_nil⟩⟩⟩⟩⟩⟩⟩⟩⟩⟩
def lw_privs : List (MethodName × Nat) := lw_privs_1 ++ (lw_privs_2 ++ (lw_privs_3 ++ (lw_privs_4)))
def lw_tbl : List Cond := k2_sels lw_privs ++ tables_1
theorem lw_privs_ok : ∀ q ∈ lw_privs, lw_okq q := by
  show ∀ q ∈ lw_privs_1 ++ (lw_privs_2 ++ (lw_privs_3 ++ (lw_privs_4))), lw_okq q
  exact List.forall_mem_append.mpr ⟨lw_r1, List.forall_mem_append.mpr ⟨lw_r2, List.forall_mem_append.mpr ⟨lw_r3, lw_r4⟩⟩⟩
/-- the streams that the claim lets the run draw from -/
abbrev lw_cs : List Choice := [Jvm.Choice.named "NaN.bits"]
theorem lw_bits : nanBits ∈ lw_cs := by first | decide | exact List.mem_cons_self | simp [lw_cs, nanBits]
end
section
def RX0 : String := "CubeBodies$Bits"
def TX0 : u_T := fun k => match k with
  | _ => ("", "", "", false)
def tyX0 : Nat → FieldType := fun k => match k with
  | _ => .int
theorem nmX0 : ∀ a, a < 0 → ∀ b, b < 0 → a ≠ b → (TX0 a).2.1 ≠ (TX0 b).2.1 := by decide +kernel
theorem tyX0_ok : ∀ k, k < 0 → parseFieldDescriptor (TX0 k).2.2.1 = some (tyX0 k) := by decide +kernel
abbrev cX0_ofFloat : ByteArray := prog_2_method_2_code
def yX0_ofFloat : MethodName := ⟨RX0, "ofFloat", "(F)I"⟩
abbrev cX0_ofDouble : ByteArray := prog_2_method_3_code
def yX0_ofDouble : MethodName := ⟨RX0, "ofDouble", "(D)J"⟩
abbrev cX0_exponentOf : ByteArray := prog_2_method_4_code
def yX0_exponentOf : MethodName := ⟨RX0, "exponentOf", "(D)I"⟩
abbrev cX0_fractionOf : ByteArray := prog_2_method_5_code
def yX0_fractionOf : MethodName := ⟨RX0, "fractionOf", "(DI)D"⟩
def RX1 : String := "CubeBodies$Cube"
def TX1 : u_T := fun k => match k with
  | _ => ("", "", "", false)
def tyX1 : Nat → FieldType := fun k => match k with
  | _ => .int
theorem nmX1 : ∀ a, a < 0 → ∀ b, b < 0 → a ≠ b → (TX1 a).2.1 ≠ (TX1 b).2.1 := by decide +kernel
theorem tyX1_ok : ∀ k, k < 0 → parseFieldDescriptor (TX1 k).2.2.1 = some (tyX1 k) := by decide +kernel
abbrev cX1_cornerBy : ByteArray := prog_3_method_2_code
def yX1_cornerBy : MethodName := ⟨RX1, "cornerBy", "(II)I"⟩
abbrev cX1_imageBy : ByteArray := prog_3_method_3_code
def yX1_imageBy : MethodName := ⟨RX1, "imageBy", "(II)I"⟩
abbrev cX1_formOf : ByteArray := prog_3_method_4_code
def yX1_formOf : MethodName := ⟨RX1, "formOf", "(I)I"⟩
abbrev cX1_classOf : ByteArray := prog_3_method_5_code
def yX1_classOf : MethodName := ⟨RX1, "classOf", "(I)I"⟩
abbrev cX1_classesWith : ByteArray := prog_3_method_6_code
def yX1_classesWith : MethodName := ⟨RX1, "classesWith", "(I)I"⟩
abbrev cX1_stillMoves : ByteArray := prog_3_method_7_code
def yX1_stillMoves : MethodName := ⟨RX1, "stillMoves", "(I)I"⟩
abbrev cX1_unlikeImages : ByteArray := prog_3_method_8_code
def yX1_unlikeImages : MethodName := ⟨RX1, "unlikeImages", "(I)I"⟩
abbrev cX1_distance : ByteArray := prog_3_method_9_code
def yX1_distance : MethodName := ⟨RX1, "distance", "(II)I"⟩
abbrev cX1_commonOverMoves : ByteArray := prog_3_method_10_code
def yX1_commonOverMoves : MethodName := ⟨RX1, "commonOverMoves", "(II)I"⟩
abbrev cX1_dimension : ByteArray := prog_3_method_11_code
def yX1_dimension : MethodName := ⟨RX1, "dimension", "(I)I"⟩
abbrev cX1_leastCorner : ByteArray := prog_3_method_12_code
def yX1_leastCorner : MethodName := ⟨RX1, "leastCorner", "(I)I"⟩
abbrev cX1_determinant : ByteArray := prog_3_method_13_code
def yX1_determinant : MethodName := ⟨RX1, "determinant", "(IIII)I"⟩
abbrev cX1_minor : ByteArray := prog_3_method_14_code
def yX1_minor : MethodName := ⟨RX1, "minor", "(IIIII)I"⟩
abbrev cX1_away : ByteArray := prog_3_method_15_code
def yX1_away : MethodName := ⟨RX1, "away", "(III)I"⟩
abbrev cX1_centre : ByteArray := prog_3_method_16_code
def yX1_centre : MethodName := ⟨RX1, "centre", "(II)F"⟩
abbrev cX1_spreadOf : ByteArray := prog_3_method_17_code
def yX1_spreadOf : MethodName := ⟨RX1, "spreadOf", "(I)D"⟩
def RX2 : String := "CubeBodies$Held"
def TX2 : u_T := fun k => match k with
  | 0 => ("CubeBodies$Held", "body", "I", false)
  | 1 => ("CubeBodies$Held", "kept", "I", false)
  | 2 => ("CubeBodies$Held", "seen", "LCubeBodies$Rows;", true)
  | 3 => ("CubeBodies$Held", "events", "LCubeBodies$Rows;", true)
  | _ => ("CubeBodies$Held", "book", "LCubeBodies$Rows;", true)
def tyX2 : Nat → FieldType := fun k => match k with
  | 0 => .int
  | 1 => .int
  | 2 => .object "CubeBodies$Rows"
  | 3 => .object "CubeBodies$Rows"
  | _ => .object "CubeBodies$Rows"
theorem nmX2 : ∀ a, a < 5 → ∀ b, b < 5 → a ≠ b → (TX2 a).2.1 ≠ (TX2 b).2.1 := by decide +kernel
theorem tyX2_ok : ∀ k, k < 5 → parseFieldDescriptor (TX2 k).2.2.1 = some (tyX2 k) := by decide +kernel
abbrev cX2_init : ByteArray := prog_4_method_1_code
def yX2_init : MethodName := ⟨RX2, "<init>", "()V"⟩
abbrev cX2_change : ByteArray := prog_4_method_2_code
def yX2_change : MethodName := ⟨RX2, "change", "(I)V"⟩
abbrev cX2_copyFrom : ByteArray := prog_4_method_3_code
def yX2_copyFrom : MethodName := ⟨RX2, "copyFrom", "(LCubeBodies$Held;)V"⟩
def RX3 : String := "CubeBodies$Rows"
def TX3 : u_T := fun k => match k with
  | 0 => ("CubeBodies$Rows", "whats", "[I", true)
  | 1 => ("CubeBodies$Rows", "numbers", "[I", true)
  | _ => ("CubeBodies$Rows", "size", "I", false)
def tyX3 : Nat → FieldType := fun k => match k with
  | 0 => .array .int
  | 1 => .array .int
  | _ => .int
theorem nmX3 : ∀ a, a < 3 → ∀ b, b < 3 → a ≠ b → (TX3 a).2.1 ≠ (TX3 b).2.1 := by decide +kernel
theorem tyX3_ok : ∀ k, k < 3 → parseFieldDescriptor (TX3 k).2.2.1 = some (tyX3 k) := by decide +kernel
abbrev cX3_init : ByteArray := prog_5_method_1_code
def yX3_init : MethodName := ⟨RX3, "<init>", "()V"⟩
abbrev cX3_empty : ByteArray := prog_5_method_2_code
def yX3_empty : MethodName := ⟨RX3, "empty", "()I"⟩
abbrev cX3_append : ByteArray := prog_5_method_3_code
def yX3_append : MethodName := ⟨RX3, "append", "(III)I"⟩
abbrev cX3_whatAt : ByteArray := prog_5_method_4_code
def yX3_whatAt : MethodName := ⟨RX3, "whatAt", "(I)I"⟩
abbrev cX3_numberAt : ByteArray := prog_5_method_5_code
def yX3_numberAt : MethodName := ⟨RX3, "numberAt", "(I)I"⟩
abbrev cX3_copyFrom : ByteArray := prog_5_method_6_code
def yX3_copyFrom : MethodName := ⟨RX3, "copyFrom", "(LCubeBodies$Rows;)V"⟩
def RX4 : String := "CubeBodies$Shape"
def TX4 : u_T := fun k => match k with
  | 0 => ("CubeBodies$Shape", "measured", "I", false)
  | 1 => ("CubeBodies$Shape", "leastWidth", "I", false)
  | 2 => ("CubeBodies$Shape", "most", "[I", true)
  | 3 => ("CubeBodies$Shape", "least", "[I", true)
  | 4 => ("CubeBodies$Shape", "isTop", "[I", true)
  | _ => ("CubeBodies$Shape", "knownPoints", "[I", true)
def tyX4 : Nat → FieldType := fun k => match k with
  | 0 => .int
  | 1 => .int
  | 2 => .array .int
  | 3 => .array .int
  | 4 => .array .int
  | _ => .array .int
theorem nmX4 : ∀ a, a < 6 → ∀ b, b < 6 → a ≠ b → (TX4 a).2.1 ≠ (TX4 b).2.1 := by decide +kernel
theorem tyX4_ok : ∀ k, k < 6 → parseFieldDescriptor (TX4 k).2.2.1 = some (tyX4 k) := by decide +kernel
abbrev cX4_init : ByteArray := prog_6_method_1_code
def yX4_init : MethodName := ⟨RX4, "<init>", "()V"⟩
abbrev cX4_cornerWeight : ByteArray := prog_6_method_2_code
def yX4_cornerWeight : MethodName := ⟨RX4, "cornerWeight", "(IIII)I"⟩
abbrev cX4_mostBy : ByteArray := prog_6_method_3_code
def yX4_mostBy : MethodName := ⟨RX4, "mostBy", "(IIII)I"⟩
abbrev cX4_thoseThatWeigh : ByteArray := prog_6_method_4_code
def yX4_thoseThatWeigh : MethodName := ⟨RX4, "thoseThatWeigh", "(IIIII)I"⟩
abbrev cX4_measure : ByteArray := prog_6_method_5_code
def yX4_measure : MethodName := ⟨RX4, "measure", "(I)V"⟩
abbrev cX4_measureBy : ByteArray := prog_6_method_6_code
def yX4_measureBy : MethodName := ⟨RX4, "measureBy", "(I)V"⟩
abbrev cX4_width : ByteArray := prog_6_method_7_code
def yX4_width : MethodName := ⟨RX4, "width", "(I)I"⟩
abbrev cX4_isEdge : ByteArray := prog_6_method_8_code
def yX4_isEdge : MethodName := ⟨RX4, "isEdge", "(II)Z"⟩
abbrev cX4_edgeCount : ByteArray := prog_6_method_9_code
def yX4_edgeCount : MethodName := ⟨RX4, "edgeCount", "(I)I"⟩
abbrev cX4_isMeasuredTop : ByteArray := prog_6_method_10_code
def yX4_isMeasuredTop : MethodName := ⟨RX4, "isMeasuredTop", "(I)Z"⟩
abbrev cX4_isMeasuredFace : ByteArray := prog_6_method_11_code
def yX4_isMeasuredFace : MethodName := ⟨RX4, "isMeasuredFace", "(I)Z"⟩
abbrev cX4_faceCount : ByteArray := prog_6_method_12_code
def yX4_faceCount : MethodName := ⟨RX4, "faceCount", "(I)I"⟩
abbrev cX4_faceAt : ByteArray := prog_6_method_13_code
def yX4_faceAt : MethodName := ⟨RX4, "faceAt", "(II)I"⟩
abbrev cX4_isIn : ByteArray := prog_6_method_14_code
def yX4_isIn : MethodName := ⟨RX4, "isIn", "(IIIII)Z"⟩
abbrev cX4_isInMeasured : ByteArray := prog_6_method_15_code
def yX4_isInMeasured : MethodName := ⟨RX4, "isInMeasured", "(IIII)Z"⟩
abbrev cX4_pointsIn : ByteArray := prog_6_method_16_code
def yX4_pointsIn : MethodName := ⟨RX4, "pointsIn", "(II)I"⟩
abbrev cX4_sixfold : ByteArray := prog_6_method_17_code
def yX4_sixfold : MethodName := ⟨RX4, "sixfold", "(I)I"⟩
abbrev cX4_fat : ByteArray := prog_6_method_18_code
def yX4_fat : MethodName := ⟨RX4, "fat", "(I)F"⟩
def RX5 : String := "CubeBodies$Tape"
def TX5 : u_T := fun k => match k with
  | 0 => ("CubeBodies$Tape", "items", "[J", true)
  | 1 => ("CubeBodies$Tape", "sort", "I", false)
  | _ => ("CubeBodies$Tape", "size", "I", false)
def tyX5 : Nat → FieldType := fun k => match k with
  | 0 => .array .long
  | 1 => .int
  | _ => .int
theorem nmX5 : ∀ a, a < 3 → ∀ b, b < 3 → a ≠ b → (TX5 a).2.1 ≠ (TX5 b).2.1 := by decide +kernel
theorem tyX5_ok : ∀ k, k < 3 → parseFieldDescriptor (TX5 k).2.2.1 = some (tyX5 k) := by decide +kernel
abbrev cX5_init : ByteArray := prog_7_method_1_code
def yX5_init : MethodName := ⟨RX5, "<init>", "()V"⟩
abbrev cX5_becomeRow : ByteArray := prog_7_method_2_code
def yX5_becomeRow : MethodName := ⟨RX5, "becomeRow", "(II)V"⟩
abbrev cX5_holdsRow : ByteArray := prog_7_method_3_code
def yX5_holdsRow : MethodName := ⟨RX5, "holdsRow", "()Z"⟩
abbrev cX5_hasPlace : ByteArray := prog_7_method_4_code
def yX5_hasPlace : MethodName := ⟨RX5, "hasPlace", "(I)Z"⟩
abbrev cX5_hasRun : ByteArray := prog_7_method_5_code
def yX5_hasRun : MethodName := ⟨RX5, "hasRun", "(II)Z"⟩
abbrev cX5_itemAt : ByteArray := prog_7_method_6_code
def yX5_itemAt : MethodName := ⟨RX5, "itemAt", "(I)J"⟩
abbrev cX5_put : ByteArray := prog_7_method_7_code
def yX5_put : MethodName := ⟨RX5, "put", "(IJ)V"⟩
abbrev cX5_cut : ByteArray := prog_7_method_8_code
def yX5_cut : MethodName := ⟨RX5, "cut", "(J)J"⟩
def RX6 : String := "CubeBodies$Text"
def TX6 : u_T := fun k => match k with
  | 0 => ("CubeBodies$Text", "signs", "[B", true)
  | _ => ("CubeBodies$Text", "size", "I", false)
def tyX6 : Nat → FieldType := fun k => match k with
  | 0 => .array .byte
  | _ => .int
theorem nmX6 : ∀ a, a < 2 → ∀ b, b < 2 → a ≠ b → (TX6 a).2.1 ≠ (TX6 b).2.1 := by decide +kernel
theorem tyX6_ok : ∀ k, k < 2 → parseFieldDescriptor (TX6 k).2.2.1 = some (tyX6 k) := by decide +kernel
abbrev cX6_init : ByteArray := prog_8_method_1_code
def yX6_init : MethodName := ⟨RX6, "<init>", "()V"⟩
abbrev cX6_append : ByteArray := prog_8_method_2_code
def yX6_append : MethodName := ⟨RX6, "append", "(I)I"⟩
abbrev cX6_signAt : ByteArray := prog_8_method_3_code
def yX6_signAt : MethodName := ⟨RX6, "signAt", "(I)I"⟩
abbrev cX6_mostDigits : ByteArray := prog_8_method_4_code
def yX6_mostDigits : MethodName := ⟨RX6, "mostDigits", "(I)I"⟩
abbrev cX6_digitsFrom : ByteArray := prog_8_method_5_code
def yX6_digitsFrom : MethodName := ⟨RX6, "digitsFrom", "(II)I"⟩
abbrev cX6_firstFault : ByteArray := prog_8_method_6_code
def yX6_firstFault : MethodName := ⟨RX6, "firstFault", "()I"⟩
abbrev cX6_perform : ByteArray := prog_8_method_7_code
def yX6_perform : MethodName := ⟨RX6, "perform", "(LCubeBodies$Held;)I"⟩
abbrev cX6_performClause : ByteArray := prog_8_method_8_code
def yX6_performClause : MethodName := ⟨RX6, "performClause", "(LCubeBodies$Held;III)Z"⟩
abbrev cX6_performCorners : ByteArray := prog_8_method_9_code
def yX6_performCorners : MethodName := ⟨RX6, "performCorners", "(LCubeBodies$Held;ZI)Z"⟩
abbrev cX6_performMove : ByteArray := prog_8_method_10_code
def yX6_performMove : MethodName := ⟨RX6, "performMove", "(LCubeBodies$Held;I)Z"⟩
abbrev cX6_cornersAt : ByteArray := prog_8_method_11_code
def yX6_cornersAt : MethodName := ⟨RX6, "cornersAt", "(II)I"⟩
abbrev cX6_numberAt : ByteArray := prog_8_method_12_code
def yX6_numberAt : MethodName := ⟨RX6, "numberAt", "(II)I"⟩
def RX7 : String := "CubeBodies"
def TX7 : u_T := fun k => match k with
  | 0 => ("CubeBodies", "now", "LCubeBodies$Held;", true)
  | 1 => ("CubeBodies", "then", "LCubeBodies$Held;", true)
  | 2 => ("CubeBodies", "hasImage", "Z", false)
  | 3 => ("CubeBodies", "text", "LCubeBodies$Text;", true)
  | 4 => ("CubeBodies", "shape", "LCubeBodies$Shape;", true)
  | _ => ("CubeBodies", "tapes", "[LCubeBodies$Tape;", true)
def tyX7 : Nat → FieldType := fun k => match k with
  | 0 => .object "CubeBodies$Held"
  | 1 => .object "CubeBodies$Held"
  | 2 => .boolean
  | 3 => .object "CubeBodies$Text"
  | 4 => .object "CubeBodies$Shape"
  | _ => .array (.object "CubeBodies$Tape")
theorem nmX7 : ∀ a, a < 6 → ∀ b, b < 6 → a ≠ b → (TX7 a).2.1 ≠ (TX7 b).2.1 := by decide +kernel
theorem tyX7_ok : ∀ k, k < 6 → parseFieldDescriptor (TX7 k).2.2.1 = some (tyX7 k) := by decide +kernel
abbrev cX7_init : ByteArray := prog_1_method_1_code
def yX7_init : MethodName := ⟨RX7, "<init>", "()V"⟩
abbrev cX7_corner : ByteArray := prog_1_method_2_code
def yX7_corner : MethodName := ⟨RX7, "corner", "(II)I"⟩
abbrev cX7_code : ByteArray := prog_1_method_3_code
def yX7_code : MethodName := ⟨RX7, "code", "(I)I"⟩
abbrev cX7_move : ByteArray := prog_1_method_4_code
def yX7_move : MethodName := ⟨RX7, "move", "(I)I"⟩
abbrev cX7_becomes : ByteArray := prog_1_method_5_code
def yX7_becomes : MethodName := ⟨RX7, "becomes", "(I)I"⟩
abbrev cX7_keep : ByteArray := prog_1_method_6_code
def yX7_keep : MethodName := ⟨RX7, "keep", "()I"⟩
abbrev cX7_feed : ByteArray := prog_1_method_7_code
def yX7_feed : MethodName := ⟨RX7, "feed", "(I)I"⟩
abbrev cX7_read : ByteArray := prog_1_method_8_code
def yX7_read : MethodName := ⟨RX7, "read", "()I"⟩
abbrev cX7_told : ByteArray := prog_1_method_9_code
def yX7_told : MethodName := ⟨RX7, "told", "(I)I"⟩
abbrev cX7_carried : ByteArray := prog_1_method_10_code
def yX7_carried : MethodName := ⟨RX7, "carried", "(II)I"⟩
abbrev cX7_imaged : ByteArray := prog_1_method_11_code
def yX7_imaged : MethodName := ⟨RX7, "imaged", "(I)I"⟩
abbrev cX7_form : ByteArray := prog_1_method_12_code
def yX7_form : MethodName := ⟨RX7, "form", "(I)I"⟩
abbrev cX7_classes : ByteArray := prog_1_method_13_code
def yX7_classes : MethodName := ⟨RX7, "classes", "(I)I"⟩
abbrev cX7_weighs : ByteArray := prog_1_method_14_code
def yX7_weighs : MethodName := ⟨RX7, "weighs", "(IIII)I"⟩
abbrev cX7_face : ByteArray := prog_1_method_15_code
def yX7_face : MethodName := ⟨RX7, "face", "(I)I"⟩
abbrev cX7_edge : ByteArray := prog_1_method_16_code
def yX7_edge : MethodName := ⟨RX7, "edge", "(II)I"⟩
abbrev cX7_points : ByteArray := prog_1_method_17_code
def yX7_points : MethodName := ⟨RX7, "points", "(I)I"⟩
abbrev cX7_holds : ByteArray := prog_1_method_18_code
def yX7_holds : MethodName := ⟨RX7, "holds", "(IIII)I"⟩
abbrev cX7_floats : ByteArray := prog_1_method_19_code
def yX7_floats : MethodName := ⟨RX7, "floats", "(I)I"⟩
abbrev cX7_spread : ByteArray := prog_1_method_20_code
def yX7_spread : MethodName := ⟨RX7, "spread", "()J"⟩
abbrev cX7_see : ByteArray := prog_1_method_21_code
def yX7_see : MethodName := ⟨RX7, "see", "(II)I"⟩
abbrev cX7_fits : ByteArray := prog_1_method_22_code
def yX7_fits : MethodName := ⟨RX7, "fits", "()I"⟩
abbrev cX7_allSeenIn : ByteArray := prog_1_method_23_code
def yX7_allSeenIn : MethodName := ⟨RX7, "allSeenIn", "(I)Z"⟩
abbrev cX7_sightOf : ByteArray := prog_1_method_24_code
def yX7_sightOf : MethodName := ⟨RX7, "sightOf", "(II)I"⟩
abbrev cX7_odds : ByteArray := prog_1_method_25_code
def yX7_odds : MethodName := ⟨RX7, "odds", "(II)J"⟩
abbrev cX7_mean : ByteArray := prog_1_method_26_code
def yX7_mean : MethodName := ⟨RX7, "mean", "(I)J"⟩
abbrev cX7_lowestOfMoves : ByteArray := prog_1_method_27_code
def yX7_lowestOfMoves : MethodName := ⟨RX7, "lowestOfMoves", "(II)J"⟩
abbrev cX7_commonDivisor : ByteArray := prog_1_method_28_code
def yX7_commonDivisor : MethodName := ⟨RX7, "commonDivisor", "(II)I"⟩
abbrev cX7_event : ByteArray := prog_1_method_29_code
def yX7_event : MethodName := ⟨RX7, "event", "(II)I"⟩
abbrev cX7_after : ByteArray := prog_1_method_30_code
def yX7_after : MethodName := ⟨RX7, "after", "(I)I"⟩
abbrev cX7_bodyAfterEvents : ByteArray := prog_1_method_31_code
def yX7_bodyAfterEvents : MethodName := ⟨RX7, "bodyAfterEvents", "()I"⟩
abbrev cX7_book : ByteArray := prog_1_method_32_code
def yX7_book : MethodName := ⟨RX7, "book", "(II)I"⟩
abbrev cX7_looked : ByteArray := prog_1_method_33_code
def yX7_looked : MethodName := ⟨RX7, "looked", "()I"⟩
abbrev cX7_judge : ByteArray := prog_1_method_34_code
def yX7_judge : MethodName := ⟨RX7, "judge", "(II)I"⟩
abbrev cX7_image : ByteArray := prog_1_method_35_code
def yX7_image : MethodName := ⟨RX7, "image", "()I"⟩
abbrev cX7_undo : ByteArray := prog_1_method_36_code
def yX7_undo : MethodName := ⟨RX7, "undo", "()I"⟩
abbrev cX7_count : ByteArray := prog_1_method_37_code
def yX7_count : MethodName := ⟨RX7, "count", "(I)I"⟩
abbrev cX7_tape : ByteArray := prog_1_method_38_code
def yX7_tape : MethodName := ⟨RX7, "tape", "(III)I"⟩
abbrev cX7_item : ByteArray := prog_1_method_39_code
def yX7_item : MethodName := ⟨RX7, "item", "(IIJ)I"⟩
abbrev cX7_peek : ByteArray := prog_1_method_40_code
def yX7_peek : MethodName := ⟨RX7, "peek", "(II)J"⟩
abbrev cX7_shift : ByteArray := prog_1_method_41_code
def yX7_shift : MethodName := ⟨RX7, "shift", "(IIIII)I"⟩
abbrev cX7_isCorner : ByteArray := prog_1_method_42_code
def yX7_isCorner : MethodName := ⟨RX7, "isCorner", "(I)Z"⟩
abbrev cX7_isMove : ByteArray := prog_1_method_43_code
def yX7_isMove : MethodName := ⟨RX7, "isMove", "(I)Z"⟩
abbrev cX7_isBit : ByteArray := prog_1_method_44_code
def yX7_isBit : MethodName := ⟨RX7, "isBit", "(I)Z"⟩
abbrev cX7_isWeight : ByteArray := prog_1_method_45_code
def yX7_isWeight : MethodName := ⟨RX7, "isWeight", "(I)Z"⟩
abbrev cX7_isTimes : ByteArray := prog_1_method_46_code
def yX7_isTimes : MethodName := ⟨RX7, "isTimes", "(I)Z"⟩
abbrev cX7_isPlace : ByteArray := prog_1_method_47_code
def yX7_isPlace : MethodName := ⟨RX7, "isPlace", "(I)Z"⟩
abbrev cX7_isTape : ByteArray := prog_1_method_48_code
def yX7_isTape : MethodName := ⟨RX7, "isTape", "(I)Z"⟩
abbrev cX7_bitOf : ByteArray := prog_1_method_49_code
def yX7_bitOf : MethodName := ⟨RX7, "bitOf", "(II)I"⟩
def RX8 : String := "CubeBodiesModel"
def TX8 : u_T := fun k => match k with
  | 0 => ("CubeBodiesModel", "comes", "[I", true)
  | 1 => ("CubeBodiesModel", "forms", "[I", true)
  | 2 => ("CubeBodiesModel", "numbers", "[I", true)
  | 3 => ("CubeBodiesModel", "firsts", "[I", true)
  | 4 => ("CubeBodiesModel", "seconds", "[I", true)
  | 5 => ("CubeBodiesModel", "isFace", "[Z", true)
  | 6 => ("CubeBodiesModel", "vectors", "[I", true)
  | 7 => ("CubeBodiesModel", "body", "I", false)
  | 8 => ("CubeBodiesModel", "kept", "I", false)
  | 9 => ("CubeBodiesModel", "text", "[I", true)
  | 10 => ("CubeBodiesModel", "signs", "[I", true)
  | 11 => ("CubeBodiesModel", "told", "[I", true)
  | 12 => ("CubeBodiesModel", "fed", "I", false)
  | 13 => ("CubeBodiesModel", "at", "I", false)
  | 14 => ("CubeBodiesModel", "clauses", "I", false)
  | 15 => ("CubeBodiesModel", "seenWhat", "[I", true)
  | 16 => ("CubeBodiesModel", "seenMuch", "[I", true)
  | 17 => ("CubeBodiesModel", "seen", "I", false)
  | 18 => ("CubeBodiesModel", "eventWhat", "[I", true)
  | 19 => ("CubeBodiesModel", "eventOf", "[I", true)
  | 20 => ("CubeBodiesModel", "bookCorner", "[I", true)
  | 21 => ("CubeBodiesModel", "bookIs", "[I", true)
  | 22 => ("CubeBodiesModel", "events", "I", false)
  | 23 => ("CubeBodiesModel", "booked", "I", false)
  | 24 => ("CubeBodiesModel", "image", "[I", true)
  | 25 => ("CubeBodiesModel", "cursor", "I", false)
  | 26 => ("CubeBodiesModel", "hasImage", "Z", false)
  | 27 => ("CubeBodiesModel", "isKeeping", "Z", false)
  | 28 => ("CubeBodiesModel", "sorts", "[I", true)
  | 29 => ("CubeBodiesModel", "sizes", "[I", true)
  | 30 => ("CubeBodiesModel", "items", "[J", true)
  | _ => ("CubeBodiesModel", "moved", "[J", true)
def tyX8 : Nat → FieldType := fun k => match k with
  | 0 => .array .int
  | 1 => .array .int
  | 2 => .array .int
  | 3 => .array .int
  | 4 => .array .int
  | 5 => .array .boolean
  | 6 => .array .int
  | 7 => .int
  | 8 => .int
  | 9 => .array .int
  | 10 => .array .int
  | 11 => .array .int
  | 12 => .int
  | 13 => .int
  | 14 => .int
  | 15 => .array .int
  | 16 => .array .int
  | 17 => .int
  | 18 => .array .int
  | 19 => .array .int
  | 20 => .array .int
  | 21 => .array .int
  | 22 => .int
  | 23 => .int
  | 24 => .array .int
  | 25 => .int
  | 26 => .boolean
  | 27 => .boolean
  | 28 => .array .int
  | 29 => .array .int
  | 30 => .array .long
  | _ => .array .long
theorem nmX8 : ∀ a, a < 32 → ∀ b, b < 32 → a ≠ b → (TX8 a).2.1 ≠ (TX8 b).2.1 := by decide +kernel
theorem tyX8_ok : ∀ k, k < 32 → parseFieldDescriptor (TX8 k).2.2.1 = some (tyX8 k) := by decide +kernel
abbrev cX8_isIn : ByteArray := prog_10_method_1_code
def yX8_isIn : MethodName := ⟨RX8, "isIn", "(III)Z"⟩
abbrev cX8_isCorner : ByteArray := prog_10_method_2_code
def yX8_isCorner : MethodName := ⟨RX8, "isCorner", "(I)Z"⟩
abbrev cX8_isMove : ByteArray := prog_10_method_3_code
def yX8_isMove : MethodName := ⟨RX8, "isMove", "(I)Z"⟩
abbrev cX8_bits : ByteArray := prog_10_method_4_code
def yX8_bits : MethodName := ⟨RX8, "bits", "(I)I"⟩
abbrev cX8_init : ByteArray := prog_10_method_5_code
def yX8_init : MethodName := ⟨RX8, "<init>", "()V"⟩
abbrev cX8_imageOf : ByteArray := prog_10_method_6_code
def yX8_imageOf : MethodName := ⟨RX8, "imageOf", "(II)I"⟩
abbrev cX8_likes : ByteArray := prog_10_method_7_code
def yX8_likes : MethodName := ⟨RX8, "likes", "(I)I"⟩
abbrev cX8_stills : ByteArray := prog_10_method_8_code
def yX8_stills : MethodName := ⟨RX8, "stills", "(I)I"⟩
abbrev cX8_weightAt : ByteArray := prog_10_method_9_code
def yX8_weightAt : MethodName := ⟨RX8, "weightAt", "(II)I"⟩
abbrev cX8_weighsAt : ByteArray := prog_10_method_10_code
def yX8_weighsAt : MethodName := ⟨RX8, "weighsAt", "(IIII)I"⟩
abbrev cX8_weighsCorner : ByteArray := prog_10_method_11_code
def yX8_weighsCorner : MethodName := ⟨RX8, "weighsCorner", "(II)I"⟩
abbrev cX8_mostOf : ByteArray := prog_10_method_12_code
def yX8_mostOf : MethodName := ⟨RX8, "mostOf", "(II)I"⟩
abbrev cX8_leastOf : ByteArray := prog_10_method_13_code
def yX8_leastOf : MethodName := ⟨RX8, "leastOf", "(II)I"⟩
abbrev cX8_heaviest : ByteArray := prog_10_method_14_code
def yX8_heaviest : MethodName := ⟨RX8, "heaviest", "(II)I"⟩
abbrev cX8_isNought : ByteArray := prog_10_method_15_code
def yX8_isNought : MethodName := ⟨RX8, "isNought", "(I)Z"⟩
abbrev cX8_findFaces : ByteArray := prog_10_method_16_code
def yX8_findFaces : MethodName := ⟨RX8, "findFaces", "(I)I"⟩
abbrev cX8_isEdge : ByteArray := prog_10_method_17_code
def yX8_isEdge : MethodName := ⟨RX8, "isEdge", "(III)Z"⟩
abbrev cX8_edgesOf : ByteArray := prog_10_method_18_code
def yX8_edgesOf : MethodName := ⟨RX8, "edgesOf", "(I)I"⟩
abbrev cX8_dimension : ByteArray := prog_10_method_19_code
def yX8_dimension : MethodName := ⟨RX8, "dimension", "(I)I"⟩
abbrev cX8_isWithin : ByteArray := prog_10_method_20_code
def yX8_isWithin : MethodName := ⟨RX8, "isWithin", "(IIIII)Z"⟩
abbrev cX8_pointsOf : ByteArray := prog_10_method_21_code
def yX8_pointsOf : MethodName := ⟨RX8, "pointsOf", "(II)I"⟩
abbrev cX8_sixfold : ByteArray := prog_10_method_22_code
def yX8_sixfold : MethodName := ⟨RX8, "sixfold", "(I)I"⟩
abbrev cX8_width : ByteArray := prog_10_method_23_code
def yX8_width : MethodName := ⟨RX8, "width", "(I)I"⟩
abbrev cX8_corner : ByteArray := prog_10_method_24_code
def yX8_corner : MethodName := ⟨RX8, "corner", "(II)I"⟩
abbrev cX8_code : ByteArray := prog_10_method_25_code
def yX8_code : MethodName := ⟨RX8, "code", "(I)I"⟩
abbrev cX8_move : ByteArray := prog_10_method_26_code
def yX8_move : MethodName := ⟨RX8, "move", "(I)I"⟩
abbrev cX8_becomes : ByteArray := prog_10_method_27_code
def yX8_becomes : MethodName := ⟨RX8, "becomes", "(I)I"⟩
abbrev cX8_keep : ByteArray := prog_10_method_28_code
def yX8_keep : MethodName := ⟨RX8, "keep", "()I"⟩
abbrev cX8_feed : ByteArray := prog_10_method_29_code
def yX8_feed : MethodName := ⟨RX8, "feed", "(I)I"⟩
abbrev cX8_next : ByteArray := prog_10_method_30_code
def yX8_next : MethodName := ⟨RX8, "next", "()I"⟩
abbrev cX8_isDigit : ByteArray := prog_10_method_31_code
def yX8_isDigit : MethodName := ⟨RX8, "isDigit", "()Z"⟩
abbrev cX8_readsDigits : ByteArray := prog_10_method_32_code
def yX8_readsDigits : MethodName := ⟨RX8, "readsDigits", "(ZI)I"⟩
abbrev cX8_readsClause : ByteArray := prog_10_method_33_code
def yX8_readsClause : MethodName := ⟨RX8, "readsClause", "()Z"⟩
abbrev cX8_readsAll : ByteArray := prog_10_method_34_code
def yX8_readsAll : MethodName := ⟨RX8, "readsAll", "()Z"⟩
abbrev cX8_does : ByteArray := prog_10_method_35_code
def yX8_does : MethodName := ⟨RX8, "does", "(I)I"⟩
abbrev cX8_set : ByteArray := prog_10_method_36_code
def yX8_set : MethodName := ⟨RX8, "set", "(I)I"⟩
abbrev cX8_read : ByteArray := prog_10_method_37_code
def yX8_read : MethodName := ⟨RX8, "read", "()I"⟩
abbrev cX8_far : ByteArray := prog_10_method_38_code
def yX8_far : MethodName := ⟨RX8, "far", "()I"⟩
abbrev cX8_told : ByteArray := prog_10_method_39_code
def yX8_told : MethodName := ⟨RX8, "told", "(I)I"⟩
abbrev cX8_carried : ByteArray := prog_10_method_40_code
def yX8_carried : MethodName := ⟨RX8, "carried", "(II)I"⟩
abbrev cX8_imaged : ByteArray := prog_10_method_41_code
def yX8_imaged : MethodName := ⟨RX8, "imaged", "(I)I"⟩
abbrev cX8_form : ByteArray := prog_10_method_42_code
def yX8_form : MethodName := ⟨RX8, "form", "(I)I"⟩
abbrev cX8_classes : ByteArray := prog_10_method_43_code
def yX8_classes : MethodName := ⟨RX8, "classes", "(I)I"⟩
abbrev cX8_weighs : ByteArray := prog_10_method_44_code
def yX8_weighs : MethodName := ⟨RX8, "weighs", "(IIII)I"⟩
abbrev cX8_face : ByteArray := prog_10_method_45_code
def yX8_face : MethodName := ⟨RX8, "face", "(I)I"⟩
abbrev cX8_edge : ByteArray := prog_10_method_46_code
def yX8_edge : MethodName := ⟨RX8, "edge", "(II)I"⟩
abbrev cX8_points : ByteArray := prog_10_method_47_code
def yX8_points : MethodName := ⟨RX8, "points", "(I)I"⟩
abbrev cX8_holds : ByteArray := prog_10_method_48_code
def yX8_holds : MethodName := ⟨RX8, "holds", "(IIII)I"⟩
abbrev cX8_centre : ByteArray := prog_10_method_49_code
def yX8_centre : MethodName := ⟨RX8, "centre", "(I)F"⟩
abbrev cX8_fat : ByteArray := prog_10_method_50_code
def yX8_fat : MethodName := ⟨RX8, "fat", "()F"⟩
abbrev cX8_floats : ByteArray := prog_10_method_51_code
def yX8_floats : MethodName := ⟨RX8, "floats", "(I)I"⟩
abbrev cX8_spread : ByteArray := prog_10_method_52_code
def yX8_spread : MethodName := ⟨RX8, "spread", "()J"⟩
abbrev cX8_see : ByteArray := prog_10_method_53_code
def yX8_see : MethodName := ⟨RX8, "see", "(II)I"⟩
abbrev cX8_isSeen : ByteArray := prog_10_method_54_code
def yX8_isSeen : MethodName := ⟨RX8, "isSeen", "(II)Z"⟩
abbrev cX8_fits : ByteArray := prog_10_method_55_code
def yX8_fits : MethodName := ⟨RX8, "fits", "()I"⟩
abbrev cX8_partOf : ByteArray := prog_10_method_56_code
def yX8_partOf : MethodName := ⟨RX8, "partOf", "(III)J"⟩
abbrev cX8_odds : ByteArray := prog_10_method_57_code
def yX8_odds : MethodName := ⟨RX8, "odds", "(II)J"⟩
abbrev cX8_mean : ByteArray := prog_10_method_58_code
def yX8_mean : MethodName := ⟨RX8, "mean", "(I)J"⟩
abbrev cX8_event : ByteArray := prog_10_method_59_code
def yX8_event : MethodName := ⟨RX8, "event", "(II)I"⟩
abbrev cX8_after : ByteArray := prog_10_method_60_code
def yX8_after : MethodName := ⟨RX8, "after", "(I)I"⟩
abbrev cX8_book : ByteArray := prog_10_method_61_code
def yX8_book : MethodName := ⟨RX8, "book", "(II)I"⟩
abbrev cX8_looked : ByteArray := prog_10_method_62_code
def yX8_looked : MethodName := ⟨RX8, "looked", "()I"⟩
abbrev cX8_judge : ByteArray := prog_10_method_63_code
def yX8_judge : MethodName := ⟨RX8, "judge", "(II)I"⟩
abbrev cX8_passOne : ByteArray := prog_10_method_64_code
def yX8_passOne : MethodName := ⟨RX8, "passOne", "(I)I"⟩
abbrev cX8_passes : ByteArray := prog_10_method_65_code
def yX8_passes : MethodName := ⟨RX8, "passes", "([II)V"⟩
abbrev cX8_passesAll : ByteArray := prog_10_method_66_code
def yX8_passesAll : MethodName := ⟨RX8, "passesAll", "(Z)V"⟩
abbrev cX8_image : ByteArray := prog_10_method_67_code
def yX8_image : MethodName := ⟨RX8, "image", "()I"⟩
abbrev cX8_undo : ByteArray := prog_10_method_68_code
def yX8_undo : MethodName := ⟨RX8, "undo", "()I"⟩
abbrev cX8_count : ByteArray := prog_10_method_69_code
def yX8_count : MethodName := ⟨RX8, "count", "(I)I"⟩
abbrev cX8_isTape : ByteArray := prog_10_method_70_code
def yX8_isTape : MethodName := ⟨RX8, "isTape", "(I)Z"⟩
abbrev cX8_lowest : ByteArray := prog_10_method_71_code
def yX8_lowest : MethodName := ⟨RX8, "lowest", "(IJ)J"⟩
abbrev cX8_tape : ByteArray := prog_10_method_72_code
def yX8_tape : MethodName := ⟨RX8, "tape", "(III)I"⟩
abbrev cX8_item : ByteArray := prog_10_method_73_code
def yX8_item : MethodName := ⟨RX8, "item", "(IIJ)I"⟩
abbrev cX8_peek : ByteArray := prog_10_method_74_code
def yX8_peek : MethodName := ⟨RX8, "peek", "(II)J"⟩
abbrev cX8_shift : ByteArray := prog_10_method_75_code
def yX8_shift : MethodName := ⟨RX8, "shift", "(IIIII)I"⟩
def RJxe99ae : String := "java/lang/Double"
def TJxe99ae : u_T := fun k => match k with
  | _ => ("", "", "", false)
def tyJxe99ae : Nat → FieldType := fun k => match k with
  | _ => .int
abbrev cJxe99ae_isNaN_b9ae7 : ByteArray := prog_11_method_6_code
def yJxe99ae_isNaN_b9ae7 : MethodName := ⟨RJxe99ae, "isNaN", "(D)Z"⟩
abbrev cJxe99ae_doubleToLongBits_ccdee : ByteArray := prog_11_method_23_code
def yJxe99ae_doubleToLongBits_ccdee : MethodName := ⟨RJxe99ae, "doubleToLongBits", "(D)J"⟩
def RJxf58ca : String := "java/lang/Float"
def TJxf58ca : u_T := fun k => match k with
  | _ => ("", "", "", false)
def tyJxf58ca : Nat → FieldType := fun k => match k with
  | _ => .int
abbrev cJxf58ca_isNaN_12338 : ByteArray := prog_12_method_6_code
def yJxf58ca_isNaN_12338 : MethodName := ⟨RJxf58ca, "isNaN", "(F)Z"⟩
abbrev cJxf58ca_floatToIntBits_5c35a : ByteArray := prog_12_method_24_code
def yJxf58ca_floatToIntBits_5c35a : MethodName := ⟨RJxf58ca, "floatToIntBits", "(F)I"⟩
def RJ6 : String := "java/lang/Integer"
def TJ6 : u_T := fun k => match k with
  | _ => ("", "", "", false)
def tyJ6 : Nat → FieldType := fun k => match k with
  | _ => .int
abbrev cJ6_bitCount_0f7a4 : ByteArray := prog_13_method_49_code
def yJ6_bitCount_0f7a4 : MethodName := ⟨RJ6, "bitCount", "(I)I"⟩
def RJ9 : String := "java/lang/Math"
def TJ9 : u_T := fun k => match k with
  | _ => ("", "", "", false)
def tyJ9 : Nat → FieldType := fun k => match k with
  | _ => .int
abbrev cJ9_max_7cf53 : ByteArray := prog_14_method_65_code
def yJ9_max_7cf53 : MethodName := ⟨RJ9, "max", "(II)I"⟩
abbrev cJ9_min_7cf53 : ByteArray := prog_14_method_69_code
def yJ9_min_7cf53 : MethodName := ⟨RJ9, "min", "(II)I"⟩
def RJ10 : String := "java/lang/System"
def TJ10 : u_T := fun k => match k with
  | _ => ("", "", "", false)
def tyJ10 : Nat → FieldType := fun k => match k with
  | _ => .int
def RL : String := "CubeBodiesLaw"
abbrev cL_law : ByteArray := code
def yL_law : MethodName := ⟨RL, "law", "([I)Z"⟩
abbrev vwCl : List vw_C := [(RX2, TX2, 5), (RX3, TX3, 3), (RX4, TX4, 6), (RX5, TX5, 3), (RX6, TX6, 2), (RX7, TX7, 6), (RX8, TX8, 32)]
end
section
/-! ===== the small machine: one world of cells, references by their places in it ===== -/
abbrev zS : Type := Nat × (Nat → Int32)
abbrev zM : Type := String × MethodName × ByteArray × Nat × Option FieldType × Nat
abbrev zW : Type := List va_E
def zGW : List Cond := lw_tbl.filter goodWord
def zisN : Cond → Bool
  | .fieldLinkNest .. => true
  | .methodLinkNest .. => true
  | _ => false
def zNW : List Cond := lw_tbl.filter zisN
theorem zin (i : Nat) {w : Cond} (h : lw_tbl[i]? = some w) (g : goodWord w = true) : w ∈ zGW := List.mem_filter.mpr ⟨List.mem_of_getElem? h, g⟩
theorem znin (i : Nat) {w : Cond} (h : lw_tbl[i]? = some w) (g : zisN w = true) : w ∈ zNW := List.mem_filter.mpr ⟨List.mem_of_getElem? h, g⟩
theorem zGW_good : ∀ w ∈ zGW, (w.onTables && w.keeps) = true ∨ ∃ ty, w = .arrayClass ty := fun _ h => good_of_word (List.mem_filter.mp h).2
theorem zNW_warm {s U : State} (hW : s.WarmedH U.vm) (h : ∀ w ∈ zNW, va_Nw w s) : ∀ w ∈ zNW, va_Nw w U := by
  intro w hw
  have h1 := h w hw
  have h2 := (List.mem_filter.mp hw).2
  cases w with
  | fieldLinkNest a i b n d k => exact va_Nw.warmF hW h1
  | methodLinkNest a i x k => exact va_Nw.warmM hW h1
  | _ => cases h2
theorem zNW_same {s U : State} (hv : s.vm = U.vm) (h : ∀ w ∈ zNW, va_Nw w s) : ∀ w ∈ zNW, va_Nw w U := by
  intro w hw
  have h1 := h w hw
  have h2 := (List.mem_filter.mp hw).2
  cases w with
  | fieldLinkNest a i b n d k => exact va_Nw.same rfl hv h1
  | methodLinkNest a i x k => exact va_Nw.same rfl hv h1
  | _ => cases h2
def ztys (cy : Nat → ClassId) : List (ClassId × FieldType) := [(cy 0, .int), (cy 1, .long), (cy 2, .byte), (cy 3, .boolean), (cy 4, .object "CubeBodies$Tape")]
/-- a value with places turned into addresses -/
def zcv (ad : Nat → Nat) (v : Value) : Value := match v with
  | .ref k => .ref (ad k)
  | x => x
def zce (ad : Nat → Nat) (cy : Nat → ClassId) (e : va_E) : va_E := match e with
  | .inl (t, n, .inl f) => .inl (cy t, n, .inl f)
  | .inl (t, n, .inr (.inl f)) => .inl (cy t, n, .inr (.inl f))
  | .inl (t, n, .inr (.inr (.inl f))) => .inl (cy t, n, .inr (.inr (.inl f)))
  | .inl (t, n, .inr (.inr (.inr (.inl f)))) => .inl (cy t, n, .inr (.inr (.inr (.inl f))))
  | .inl (t, n, .inr (.inr (.inr (.inr f)))) => .inl (cy t, n, .inr (.inr (.inr (.inr (fun j => (f j).map ad)))))
  | .inr (ci, fs) => .inr (ci, fs.map (zcv ad))
def zcw (ad : Nat → Nat) (cy : Nat → ClassId) (w : zW) : va_W := w.mapIdx (fun k e => (ad k, zce ad cy e))
def zcl (ad : Nat → Nat) (lv : List (Nat × Value)) : List (Nat × Value) := lv.map (fun q => (q.1, zcv ad q.2))
theorem zcv_cat (ad : Nat → Nat) (v : Value) : (zcv ad v).category = v.category := by cases v <;> rfl
theorem zcv_cats (ad : Nat → Nat) (l : List Value) : ((l.map (zcv ad)).map fun v => v.category) = l.map fun v => v.category := by
  rw [List.map_map]
  exact List.map_congr_left (fun v _ => zcv_cat ad v)
theorem zcw_get (ad : Nat → Nat) (cy : Nat → ClassId) (w : zW) (k : Nat) : (zcw ad cy w)[k]? = w[k]?.map (fun e => (ad k, zce ad cy e)) := by
  unfold zcw
  rw [List.getElem?_mapIdx]
theorem zcw_at {ad : Nat → Nat} {cy : Nat → ClassId} {w : zW} {k : Nat} {e : va_E} (h : w[k]? = some e) : (zcw ad cy w)[k]? = some (ad k, zce ad cy e) := by
  rw [zcw_get, h]; rfl
theorem zcw_len (ad : Nat → Nat) (cy : Nat → ClassId) (w : zW) : (zcw ad cy w).length = w.length := by
  unfold zcw
  exact List.length_mapIdx
theorem zcw_set (ad : Nat → Nat) (cy : Nat → ClassId) (w : zW) (k : Nat) (e : va_E) : zcw ad cy (w.set k e) = (zcw ad cy w).set k (ad k, zce ad cy e) := by
  apply List.ext_getElem?
  intro i
  rw [zcw_get, List.getElem?_set, List.getElem?_set, zcw_get, zcw_len]
  by_cases h : k = i
  · subst h
    by_cases h2 : k < w.length
    · simp [h2]
    · simp [h2]
  · simp [h]
theorem zcw_push (ad : Nat → Nat) (cy : Nat → ClassId) (w : zW) (e : va_E) : zcw ad cy (w ++ [e]) = zcw ad cy w ++ [(ad w.length, zce ad cy e)] := by
  unfold zcw
  rw [List.mapIdx_append]
  simp
/-- read-only arrays: the class's two tables, the script -/
def zORD : Nat → Int32 := fun j => ([0, 1, 2, 0, 2, 1, 1, 0, 2, 1, 2, 0, 2, 0, 1, 2, 1, 0] : List Int32).getD j 0
def zFRM : Nat → Int32 := fun j => ([0, 1, 3, 6, 7, 15, 22, 23, 24, 25, 27, 30, 31, 60, 61, 63, 105, 107, 111, 126, 127, 255] : List Int32).getD j 0
def zRoT (Z : zS) : Nat → Nat × (Nat → Int32)
  | 0 => (18, zORD)
  | 1 => (22, zFRM)
  | _ => Z
def zRo (Z : zS) (ad : Nat → Nat) (A : Nat → Prop) (s : State) (H : Heap) : Prop :=
  va_Z "CubeBodies$Cube" "ORDERS" "[I" (.ref (ad 1000)) A s H ∧ va_Z "CubeBodies$Cube" "FORMS" "[I" (.ref (ad 1001)) A s H ∧ ∀ j, j < 3 → va_T .int (ad (1000 + j)) (zRoT Z j).1 (fun i => .int ((zRoT Z j).2 i)) A s H
theorem zRo_moved {Z : zS} {ad : Nat → Nat} {A : Nat → Prop} {u U : State} {H : Heap} (hvm : u.vm.Alike U.vm) (h : zRo Z ad A u H) : zRo Z ad A U H :=
  ⟨h.1.moved hvm, h.2.1.moved hvm, fun j hj => (h.2.2 j hj).moved hvm⟩
theorem zRo_kept {Z : zS} {ad : Nat → Nat} {A : Nat → Prop} {u : State} {H H1 : Heap} (hq : ∀ a : Nat, a < H.size → ¬ A a → H1[a]? = H[a]?) (h : zRo Z ad A u H) : zRo Z ad A u H1 :=
  ⟨h.1.kept hq, h.2.1.kept hq, fun j hj => (h.2.2 j hj).kept hq⟩
theorem zRo_narrow {Z : zS} {ad : Nat → Nat} {A B : Nat → Prop} {u : State} {H : Heap} (hAB : ∀ q, B q → A q) (h : zRo Z ad A u H) : zRo Z ad B u H :=
  ⟨h.1.narrow hAB, h.2.1.narrow hAB, fun j hj => (h.2.2 j hj).narrow hAB⟩
theorem zRo_ad {Z : zS} {ad ad' : Nat → Nat} {A : Nat → Prop} {u : State} {H : Heap} (e : ∀ i, 1000 ≤ i → ad' i = ad i) (h : zRo Z ad A u H) : zRo Z ad' A u H := by
  refine ⟨?_, ?_, fun j hj => ?_⟩
  · rw [e 1000 (by omega)]; exact h.1
  · rw [e 1001 (by omega)]; exact h.2.1
  · rw [e (1000 + j) (by omega)]; exact h.2.2 j hj
/-- what a walk stands on -/
def zC (Z : zS) (M : zM) (d : Nat) (p : Program) (R : Room) (s : State) (m : MethodId) (args : Array Value) (meth : Method) (c : Code) (A : Nat → Prop) (D : va_G) (cy : Nat → ClassId) (ad0 : Nat → Nat) : Prop :=
  p.tables.exec = Jvm.exec ∧ c.code = M.2.2.1 ∧ c.maxLocals = M.2.2.2.1 ∧ s.vm.findClass M.1 = some m.cls ∧ (∀ w ∈ zGW, w.before args s = true) ∧ (∀ w ∈ zNW, va_Nw w s) ∧ va_AO "CubeBodies$Tape" s ∧ va_K D vwCl (ztys cy) s ∧ (∀ q, s.heap.size ≤ q → A q) ∧ zRo Z ad0 A s s.heap ∧ d ≤ R.frames ∧ 40 * d ≤ R.locals ∧ M.2.2.2.2.2 ≤ R.cells ∧ 800 * M.2.2.2.2.2 ≤ R.slots ∧ meth.name = M.2.1.name
/-- the world is held by the heap -/
def zI (M : zM) (N : Nat) (A : Nat → Prop) (D : va_G) (cy : Nat → ClassId) (ad0 ad : Nat → Nat) (s : State) (w : zW) (H : Heap) (locs : List Loc) : Prop :=
  va_P D vwCl (zcw ad cy w) H ∧ va_D A (zcw ad cy w) ∧ va_S A s.heap H locs ∧ N ≤ w.length ∧ w.length ≤ N + M.2.2.2.2.2 ∧ N + M.2.2.2.2.2 ≤ 1000 ∧ ∀ i, (i < N ∨ w.length ≤ i) → ad i = ad0 i
def zRet (M : zM) (pc : Nat) (r : List Value) : Prop :=
  (M.2.2.2.2.1 = none ∧ decode M.2.2.1 pc = .ok (.return_, 1) ∧ r = []) ∨
  (M.2.2.2.2.1 = some .int ∧ decode M.2.2.1 pc = .ok (.ireturn, 1) ∧ ∃ x, r = [.int x]) ∨
  (M.2.2.2.2.1 = some .boolean ∧ decode M.2.2.1 pc = .ok (.ireturn, 1) ∧ ∃ x, r = [.int x] ∧ (x = 0 ∨ x = 1)) ∨
  (M.2.2.2.2.1 = some .long ∧ decode M.2.2.1 pc = .ok (.lreturn, 1) ∧ ∃ x, r = [.long x]) ∨
  (M.2.2.2.2.1 = some .float ∧ decode M.2.2.1 pc = .ok (.freturn, 1) ∧ ∃ x, r = [.float x]) ∨
  (M.2.2.2.2.1 = some .double ∧ decode M.2.2.1 pc = .ok (.dreturn, 1) ∧ ∃ x, r = [.double x])
/-- from here the method comes to its end, with Q -/
def zG (Z : zS) (M : zM) (d : Nat) (Q : List Value → zW → Prop) (N : Nat) (pc : Nat) (lv : List (Nat × Value)) (st : List Value) (w : zW) : Prop :=
  ∀ (p : Program) (l : Launch) (e : Env) (R : Room) (s : State) (m : MethodId) (args : Array Value) (below : List Frame) (meth : Method) (c : Code) (A : Nat → Prop) (D : va_G) (cy : Nat → ClassId) (QQ : State → Prop) (ad0 : Nat → Nat),
    zC Z M d p R s m args meth c A D cy ad0 →
    (∀ (r : List Value) (w : zW) (ad : Nat → Nat) (H : Heap) (locs : List Loc) (pc : Nat) (ls : Array Slot), Q r w → w.length = N + M.2.2.2.2.2 → zI M N A D cy ad0 ad s w H locs → zRet M pc r → W p l e R s m args below meth c H locs M.2.2.2.2.2 (800 * M.2.2.2.2.2) QQ (F0 m pc ls (r.map (zcv ad)))) →
    ∀ (ad : Nat → Nat) (H : Heap) (locs : List Loc) (ls : Array Slot), zI M N A D cy ad0 ad s w H locs → lv_has ls M.2.2.2.1 (zcl ad lv) → W p l e R s m args below meth c H locs (w.length - N) (800 * (w.length - N)) QQ (F0 m pc ls (st.map (zcv ad)))
/-- a call: with these arguments, in this world, it answers r and leaves the world w' -/
def zF (Z : zS) (M : zM) (d : Nat) (As : List Value) (w : zW) (r : List Value) (w' : zW) : Prop := zG Z M d (fun r1 w1 => r1 = r ∧ w1 = w') w.length 0 (lv_args 0 As) [] w
def zMok (M : zM) : Prop := Cond.code M.2.1 M.2.2.1 M.2.2.2.1 M.2.2.2.2.1 ∈ zGW ∧ Cond.initialized M.2.1.cls ∈ zGW ∧ plainFor M.2.1 = true ∧ (M.2.1.cls ≠ "java/lang/invoke/MethodHandle" ∧ M.2.1.cls ≠ "java/lang/invoke/VarHandle") ∧ M.1 = M.2.1.cls ∧ M.2.2.2.1 ≤ 21
theorem zcl_args (ad : Nat → Nat) : ∀ (i : Nat) (As : List Value), lv_args i (As.map (zcv ad)) = zcl ad (lv_args i As)
  | _, [] => rfl
  | i, v :: vs => by
    show (i, zcv ad v) :: lv_args (if (zcv ad v).category = 2 then i + 2 else i + 1) (vs.map (zcv ad)) = _
    rw [zcv_cat, zcl_args ad _ vs]
    rfl
def zroom (M : zM) (d : Nat) : Room := { frames := d, cells := M.2.2.2.2.2, slots := 800 * M.2.2.2.2.2, locals := 40 * d }
def zPc (Z : zS) (As : List Value) (D : va_G) (cy : Nat → ClassId) (ad : Nat → Nat) (w : zW) (sz : Nat) : Array Value → State → Prop := fun a U =>
  a = (As.map (zcv ad)).toArray ∧ U.heap.size = sz ∧ va_P D vwCl (zcw ad cy w) U.heap ∧ va_D (fun _ => True) (zcw ad cy w) ∧ va_K D vwCl (ztys cy) U ∧ (∀ w ∈ zNW, va_Nw w U) ∧ va_AO "CubeBodies$Tape" U ∧ zRo Z ad (va_A (zcw ad cy w) sz) U U.heap
def zQc (M : zM) (Q : List Value → zW → Prop) (D : va_G) (cy : Nat → ClassId) (ad : Nat → Nat) (w : zW) (sz : Nat) : Array Value → State → Outcome → State → Prop := fun _ st o t =>
  (∃ (r : List Value) (w' : zW) (ad' : Nat → Nat), Q r w' ∧ w'.length = w.length + M.2.2.2.2.2 ∧ o = .returned (r.map (zcv ad')).head? ∧ r.length ≤ 1 ∧ (∀ i, (i < w.length ∨ w.length + M.2.2.2.2.2 ≤ i) → ad' i = ad i) ∧ va_P D vwCl (zcw ad' cy w') t.heap ∧ va_D (va_A (zcw ad cy w) sz) (zcw ad' cy w')) ∧ va_F (va_A (zcw ad cy w) sz) st t
set_option maxHeartbeats 4000000 in
theorem z_met {Z : zS} {M : zM} {d : Nat} {Q : List Value → zW → Prop} {As : List Value} {w : zW} (hM : zMok M) (hG : zG Z M d Q w.length 0 (lv_args 0 As) [] w) (l : Launch) (D : va_G) (cy : Nat → ClassId) (ad : Nat → Nat) (sz : Nat) (hfit : (lg_sl (As.map (zcv ad))).length ≤ M.2.2.2.1) (hw : w.length + M.2.2.2.2.2 ≤ 1000) :
    Met l M.2.1 (Cond.code M.2.1 M.2.2.1 M.2.2.2.1 M.2.2.2.2.1 :: zGW) (zroom M d) (zPc Z As D cy ad w sz) (zQc M Q D cy ad w sz) M.2.2.2.2.2 (800 * M.2.2.2.2.2) (va_A (zcw ad cy w) sz) := by
  refine va_MetF (cc := M.2.2.1) (maxL := M.2.2.2.1) (ret := M.2.2.2.2.1) hM.2.2.1 rfl ?_
  intro p e s m args below meth c s₁ B hml hv
  obtain ⟨rfl, hsz, hP, hD0, hK, hN, hAO, hRo⟩ := hv
  have hts := atoms_spec (ws := Cond.code M.2.1 M.2.2.1 M.2.2.2.1 M.2.2.2.2.1 :: zGW) B.pre
  have hown : s.vm.findClass M.1 = some m.cls := by rw [hM.2.2.2.2.1]; exact findClass_of_methodNamed B.named
  have hlocks := B.notSynchronized
  have hin : meth.name = M.2.1.name := (name_of_methodNamed B.named B.method).1
  subst hsz
  have hD := hD0.self (sz := s.heap.size)
  have hl := lv_entry (As.map (zcv ad)) (n := M.2.2.2.1) hfit
  rw [lg_entry_eq]
  generalize (lg_sl (As.map (zcv ad)) ++ List.replicate (M.2.2.2.1 - (lg_sl (As.map (zcv ad))).length) Slot.unset).toArray = ls at hl ⊢
  rw [zcl_args] at hl
  have hx := B.exec
  have hb := B.bytes
  have hr := B.returns
  have key := hG p l e (zroom M d) s m (As.map (zcv ad)).toArray below meth c (va_A (zcw ad cy w) s.heap.size) D cy (MQ below (zQc M Q D cy ad w s.heap.size) (As.map (zcv ad)).toArray s M.2.2.2.2.2 (800 * M.2.2.2.2.2) (va_A (zcw ad cy w) s.heap.size)) ad
    ⟨hx, hb, hml, hown, fun w h => hts w (List.mem_cons_of_mem _ h), hN, hAO, hK, fun q h => Or.inr h, hRo, Nat.le_refl _, Nat.le_refl _, Nat.le_refl _, Nat.le_refl _, hin⟩
    (by
      intro r w1 ad1 H locs pc ls1 hQ hlen hI hret
      obtain ⟨iP, iD, iS, i1, i2, i3, i4⟩ := hI
      have fin : ∀ (v : Option Value), r.length ≤ 1 → (r.map (zcv ad1)).head? = v → ∀ t : State, t.heap = H → s.WarmedH t.vm → zQc M Q D cy ad w s.heap.size (As.map (zcv ad)).toArray s (.returned v) t := by
        intro v h1 h2 t ht hW
        subst h2
        refine ⟨⟨r, w1, ad1, hQ, hlen, rfl, h1, ?_, by rw [ht]; exact iP, iD⟩, iS.F ht⟩
        intro i hi
        exact i4 i (by rw [hlen]; exact hi)
      rcases hret with ⟨e1, e2, rfl⟩ | ⟨e1, e2, x, rfl⟩ | ⟨e1, e2, x, rfl, e3⟩ | ⟨e1, e2, x, rfl⟩ | ⟨e1, e2, x, rfl⟩ | ⟨e1, e2, x, rfl⟩
      · exact W.vret hx hb (hr.trans e1) (fin none (by decide) rfl) iS.2.2 e2 hlocks
      · exact W.iret hx hb (hr.trans e1) (fin (some (.int x)) (Nat.le_refl _) rfl) iS.2.2 e2 hlocks
      · exact W.zret hx hb (hr.trans e1) (by rcases e3 with rfl | rfl <;> rfl) (fin (some (.int x)) (Nat.le_refl _) rfl) iS.2.2 e2 hlocks
      · exact W.lret hx hb (hr.trans e1) (fin (some (.long x)) (Nat.le_refl _) rfl) iS.2.2 e2 hlocks
      · exact W.fret hx hb (hr.trans e1) (fin (some (.float x)) (Nat.le_refl _) rfl) iS.2.2 e2 hlocks
      · exact W.dret hx hb (hr.trans e1) (fin (some (.double x)) (Nat.le_refl _) rfl) iS.2.2 e2 hlocks)
    ad s.heap [] ls ⟨hP, hD, va_S.rf, Nat.le_refl _, by omega, hw, fun _ _ => rfl⟩ hl
  rw [Nat.sub_self] at key
  exact key
end
section
/-! ===== rows of the small machine: an instruction a row ===== -/
def zok (n k : Nat) (v : Value) : Prop := ∀ i, v = .ref i → i < n ∨ n + k ≤ i
theorem zok0 (n : Nat) (v : Value) : zok n 0 v := fun i _ => (Nat.lt_or_ge i n).elim Or.inl (fun h => Or.inr h)
theorem zcv_same {n k : Nat} {ad ad' : Nat → Nat} (h : ∀ i, (i < n ∨ n + k ≤ i) → ad' i = ad i) {v : Value} (hv : zok n k v) : zcv ad' v = zcv ad v := by
  cases v with
  | ref i => exact congrArg Value.ref (h i (hv i rfl))
  | _ => rfl
theorem zcvs_same {n k : Nat} {ad ad' : Nat → Nat} (h : ∀ i, (i < n ∨ n + k ≤ i) → ad' i = ad i) {st : List Value} (hv : ∀ v ∈ st, zok n k v) : st.map (zcv ad') = st.map (zcv ad) :=
  List.map_congr_left (fun v hm => zcv_same h (hv v hm))
theorem zcl_same {n k : Nat} {ad ad' : Nat → Nat} (h : ∀ i, (i < n ∨ n + k ≤ i) → ad' i = ad i) {lv : List (Nat × Value)} (hv : ∀ q ∈ lv, zok n k q.2) : zcl ad' lv = zcl ad lv :=
  List.map_congr_left (fun q hm => by rw [zcv_same h (hv q hm)])
theorem zhead {r : List Value} (f : Value → Value) (h : r.length ≤ 1) : (r.map f).head?.toList = r.map f := by
  match r, h with
  | [], _ => rfl
  | [_], _ => rfl
/-- behind a call -/
theorem z_after {Z : zS} {M M' : zM} {d : Nat} {Q : List Value → zW → Prop} {N pc : Nat} {lv : List (Nat × Value)} {rest : List Value} {w w' : zW} {r : List Value}
    (hlv : ∀ q ∈ lv, zok w.length M'.2.2.2.2.2 q.2) (hst : ∀ v ∈ rest, zok w.length M'.2.2.2.2.2 v) (hroom : w.length + M'.2.2.2.2.2 ≤ N + M.2.2.2.2.2)
    (kk : w'.length = w.length + M'.2.2.2.2.2 → zG Z M d Q N (pc + 3) lv (r ++ rest) w')
    {p : Program} {l : Launch} {e : Env} {R : Room} {s : State} {m : MethodId} {args : Array Value} {below : List Frame} {meth : Method} {c : Code} {A : Nat → Prop} {D : va_G} {cy : Nat → ClassId} {QQ : State → Prop} {ad0 ad : Nat → Nat} {H : Heap} {locs : List Loc} {ls : Array Slot} {st0 : List Value} {a : Array Value}
    (C : zC Z M d p R s m args meth c A D cy ad0)
    (E : ∀ (r : List Value) (w : zW) (ad : Nat → Nat) (H : Heap) (locs : List Loc) (pc : Nat) (ls : Array Slot), Q r w → w.length = N + M.2.2.2.2.2 → zI M N A D cy ad0 ad s w H locs → zRet M pc r → W p l e R s m args below meth c H locs M.2.2.2.2.2 (800 * M.2.2.2.2.2) QQ (F0 m pc ls (r.map (zcv ad))))
    (I : zI M N A D cy ad0 ad s w H locs) (hl : lv_has ls M.2.2.2.1 (zcl ad lv))
    (hr : va_Run p l e R s m args below meth c H locs (w.length - N) (800 * (w.length - N)) M'.2.2.2.2.2 (800 * M'.2.2.2.2.2) (F0 m pc ls st0) (rest.map (zcv ad)) (zQc M' (fun r1 w1 => r1 = r ∧ w1 = w') D cy ad w H.size a) (va_A (zcw ad cy w) H.size)) :
    W p l e R s m args below meth c H locs (w.length - N) (800 * (w.length - N)) QQ (F0 m pc ls st0) := by
  obtain ⟨iP, iD, iS, i1, i2, i3, i4⟩ := id I
  have hFc : ∀ q, va_A (zcw ad cy w) H.size q → A q := by
    intro q h
    rcases h with ⟨k, e, h⟩ | h
    · exact iD.2 k (q, e) h
    · exact C.2.2.2.2.2.2.2.2.1 q (Nat.le_trans iS.1 h)
  intro T hT X
  obtain ⟨v, st₀, t, T', L, h0, X', hL, e1, e2, ⟨⟨r1, w1, ad1, ⟨rfl, rfl⟩, hlen, hv, hr1, had, hP', hD'⟩, hz, hk⟩, st⟩ := hr T hT X
  have hv : v = (r1.map (zcv ad1)).head? := by injection hv
  subst hv
  rw [h0] at hz hk
  have hS' : va_S A s.heap T'.heap (locs ++ L) := ⟨Nat.le_trans iS.1 (by rw [e1]; exact hz), fun q h1 h2 => by rw [e1, hk q (Nat.lt_of_lt_of_le h1 iS.1) (fun z => h2 (hFc q z))]; exact iS.2.1 q h1 h2, fun q hq => by
      rcases List.mem_append.mp hq with h | h
      · exact iS.2.2 q h
      · exact hFc _ (hL q h)⟩
  have I' : zI M N A D cy ad0 ad1 s w1 T'.heap (locs ++ L) := by
    refine ⟨by rw [e1]; exact hP', hD'.weaken (fun k q _ h => hFc q.1 h), hS', by omega, by omega, i3, fun i hi => ?_⟩
    rw [had i (by omega)]
    exact i4 i (by omega)
  have K := kk hlen p l e R s m args below meth c A D cy QQ ad0 C E ad1 T'.heap (locs ++ L) ls I' (by rw [zcl_same had hlv]; exact hl)
  have hc : w1.length - N = w.length - N + M'.2.2.2.2.2 := by omega
  rw [hc, Nat.mul_add, List.map_append, zcvs_same had hst] at K
  obtain ⟨t2, a1, b1⟩ := K T' rfl X'
  refine ⟨t2, st t2 ?_, b1⟩
  rw [zhead _ hr1]
  exact a1
def zLS (own : String) (idx : Nat) (M : zM) (n : Nat) : Prop := zMok M ∧ (parseMethodDescriptor M.2.1.desc).map (fun d => d.parameters.length) = some n ∧ Cond.static M.2.1 ∈ zGW ∧ (Cond.methodLink own idx M.2.1 ∈ zGW ∨ ∃ host, Cond.methodLinkNest own idx M.2.1 host ∈ zNW)
def zLV (own : String) (idx : Nat) (M : zM) (n : Nat) : Prop := zMok M ∧ (parseMethodDescriptor M.2.1.desc).map (fun d => d.parameters.length) = some n ∧ Cond.instanceMethod M.2.1 ∈ zGW ∧ Cond.selects M.2.1.cls M.2.1 M.2.1 ∈ zGW ∧ (Cond.methodLink own idx M.2.1 ∈ zGW ∨ ∃ host, Cond.methodLinkNest own idx M.2.1 host ∈ zNW)
def zLI (own : String) (idx : Nat) (M : zM) (n : Nat) : Prop := zMok M ∧ M.2.2.2.2.1 = none ∧ (parseMethodDescriptor M.2.1.desc).map (fun d => d.parameters.length) = some n ∧ M.2.1.name = "<init>" ∧ Cond.instanceMethod M.2.1 ∈ zGW ∧ (Cond.methodLink own idx M.2.1 ∈ zGW ∨ ∃ host, Cond.methodLinkNest own idx M.2.1 host ∈ zNW)
section ZC
variable {Z : zS} {M : zM} {d : Nat} {Q : List Value → zW → Prop} {N : Nat} {pc : Nat} {lv : List (Nat × Value)} {st rest : List Value} {w w' : zW} {M' : zM} {As : List Value} {r : List Value} {idx n : Nat}
theorem zfitA (ad : Nat → Nat) (As : List Value) : (lg_sl (As.map (zcv ad))).length = (lg_sl As).length := by
  induction As with
  | nil => rfl
  | cons v vs ih =>
    have e : ∀ (u : Value) (us : List Value), (lg_sl (u :: us)).length = (if u.category = 2 then 2 else 1) + (lg_sl us).length := by
      intro u us
      by_cases h : u.category = 2
      · simp [lg_sl, h]; omega
      · simp [lg_sl, h]; omega
    rw [List.map_cons, e, e, ih, zcv_cat]
/-- the callee's start, out of the caller's -/
theorem z_pre {p : Program} {R : Room} {s : State} {m : MethodId} {args : Array Value} {meth : Method} {c : Code} {A : Nat → Prop} {D : va_G} {cy : Nat → ClassId} {ad0 ad : Nat → Nat} {H : Heap} {locs : List Loc}
    (C : zC Z M d p R s m args meth c A D cy ad0) (I : zI M N A D cy ad0 ad s w H locs) : FrameBlind (zPc Z As D cy ad w H.size) ∧ ∀ U : State, U.heap = H → s.WarmedH U.vm → zPc Z As D cy ad w H.size (As.map (zcv ad)).toArray U := by
  obtain ⟨iP, iD, iS, i1, i2, i3, i4⟩ := id I
  obtain ⟨hx, hb, hml, hown, hts, hN, hAO, hK, hA, hRo, -⟩ := id C
  have hFc : ∀ q, va_A (zcw ad cy w) H.size q → A q := by
    intro q h
    rcases h with ⟨k, e, h⟩ | h
    · exact iD.2 k (q, e) h
    · exact hA q (Nat.le_trans iS.1 h)
  refine ⟨fun a U g mk q => ?_, fun U hU hW => ?_⟩
  · obtain ⟨q0, q1, qP, qD, qK, qN, qAO, qRo⟩ := q
    exact ⟨q0, q1, qP, qD, va_K.moved (u := U) (U := U.calling g mk a) (Vm.Alike.refl U.vm) qK, zNW_same (s := U) (U := U.calling g mk a) rfl qN, va_AO.moved (u := U) (U := U.calling g mk a) (Vm.Alike.refl U.vm) qAO, zRo_moved (u := U) (U := U.calling g mk a) (Vm.Alike.refl U.vm) qRo⟩
  · refine ⟨rfl, by rw [hU], by rw [hU]; exact iP, iD.weaken (fun _ _ _ _ => trivial), va_K.moved hW.alike hK, zNW_warm hW hN, hAO.moved hW.alike, ?_⟩
    rw [hU]
    refine zRo_moved hW.alike (zRo_ad (fun i hi => i4 i (by omega)) (zRo_narrow hFc (zRo_kept (fun a h1 h2 => iS.2.1 a h1 h2) hRo)))
theorem z_cB {R : Room} {s : State} {args : Array Value} {own : String} (hM' : zMok M') (hn : (parseMethodDescriptor M'.2.1.desc).map (fun d => d.parameters.length) = some n) (hts : ∀ w ∈ zGW, w.before args s = true) (hfr : d + 1 ≤ R.frames) (hlo : 40 * (d + 1) ≤ R.locals) (hl : Cond.methodLink own idx M'.2.1 ∈ zGW) :
    CallB R s args own idx M'.2.1 M'.2.2.1 M'.2.2.2.1 M'.2.2.2.2.1 (Cond.code M'.2.1 M'.2.2.1 M'.2.2.2.1 M'.2.2.2.2.1 :: zGW) (zroom M' d) M'.2.2.2.2.2 (800 * M'.2.2.2.2.2) n := by
  refine callB_of n hts (fun w hw => ?_) rfl rfl rfl (hts _ hM'.2.1) (hts _ hl) ⟨hM'.2.2.2.1.1, hM'.2.2.2.1.2, hn⟩ ⟨hfr, ?_⟩
  · rcases List.mem_cons.mp hw with rfl | h
    · exact ⟨hM'.1, zGW_good _ hM'.1⟩
    · exact ⟨h, zGW_good _ h⟩
  · have := hM'.2.2.2.2.2
    show 8 + (M'.2.2.2.1 + 11) + 40 * d ≤ R.locals
    omega
theorem z_cN {R : Room} {s : State} {args : Array Value} {own host : String} (hM' : zMok M') (hn : (parseMethodDescriptor M'.2.1.desc).map (fun d => d.parameters.length) = some n) (hts : ∀ w ∈ zGW, w.before args s = true) (hNw : ∀ w ∈ zNW, va_Nw w s) (hfr : d + 1 ≤ R.frames) (hlo : 40 * (d + 1) ≤ R.locals) (hl : Cond.methodLinkNest own idx M'.2.1 host ∈ zNW) :
    va_CN R s args own idx M'.2.1 host M'.2.2.1 M'.2.2.2.1 M'.2.2.2.2.1 (Cond.code M'.2.1 M'.2.2.1 M'.2.2.2.1 M'.2.2.2.2.1 :: zGW) (zroom M' d) M'.2.2.2.2.2 (800 * M'.2.2.2.2.2) n := by
  refine va_cnB n hts (fun w hw => ?_) rfl rfl rfl (hNw _ hl) (hts _ hM'.2.1) ⟨hM'.2.2.2.1.1, hM'.2.2.2.1.2, hn⟩ ⟨hfr, ?_⟩
  · rcases List.mem_cons.mp hw with rfl | h
    · exact ⟨hM'.1, zGW_good _ hM'.1⟩
    · exact ⟨h, zGW_good _ h⟩
  · have := hM'.2.2.2.2.2
    show 8 + (M'.2.2.2.1 + 11) + 40 * d ≤ R.locals
    omega
set_option maxHeartbeats 4000000 in
/-- a static call -/
theorem s_cs (hd : decode M.2.2.1 pc = .ok (.invokestatic idx, 3)) (L : zLS M.1 idx M' n) (hG : zF Z M' d As w r w') (hstk : st = As.reverse ++ rest) (hn : As.length = n) (hcat : (rest.map fun v => v.category).sum ≤ 8) (hfit : (lg_sl As).length ≤ M'.2.2.2.1) (hmc : M'.2.2.2.2.2 = 0)
    (kk : zG Z M (d + 1) Q N (pc + 3) lv (r ++ rest) w') : zG Z M (d + 1) Q N pc lv st w := by
  intro p l e R s m args below meth c A D cy QQ ad0 C E ad H locs ls I hl
  obtain ⟨iP, iD, iS, i1, i2, i3, i4⟩ := id I
  obtain ⟨hx, hb, hml, hown, hts, hN, hAO, hK, hA, hRo, hfr, hlo, hce, hsl, hnm⟩ := id C
  obtain ⟨hM', hpn, hstat, hlk⟩ := L
  have hMet := z_met hM' hG l D cy ad H.size (by rw [zfitA]; exact hfit) (by omega)
  have hroom : w.length + M'.2.2.2.2.2 ≤ N + M.2.2.2.2.2 := by omega
  refine z_after (M' := M') (rest := rest) (r := r) (w' := w') (a := (As.map (zcv ad)).toArray) (fun q _ => by rw [hmc]; exact zok0 _ _) (fun q _ => by rw [hmc]; exact zok0 _ _) hroom (fun _ => kk) C E I hl ?_
  have hs0 : st.map (zcv ad) = (As.map (zcv ad)).reverse ++ rest.map (zcv ad) := by rw [hstk, List.map_append, List.map_reverse]
  have hW : 2 * (F0 m pc ls (st.map (zcv ad))).monitorRoom + ((rest.map (zcv ad)).map fun v => v.category).sum ≤ 8 := lv_room (by rw [zcv_cats]; exact hcat)
  have hf : w.length - N + M'.2.2.2.2.2 ≤ R.cells ∧ 800 * (w.length - N) + 800 * M'.2.2.2.2.2 ≤ R.slots := by omega
  rcases hlk with hlk | ⟨host, hlk⟩
  · exact va_runS ⟨hx, hb, hml, hown, hts⟩ hMet ⟨z_cB hM' hpn hts hfr hlo hlk, hts _ hstat⟩ (z_pre C I) rfl (by rw [List.length_map]; exact hn) hl.1 hs0 hW hd hf
  · exact va_runSN ⟨hx, hb, hml, hown, hts⟩ hMet ⟨z_cN hM' hpn hts hN hfr hlo hlk, hts _ hstat, trivial⟩ (z_pre C I) rfl (by rw [List.length_map]; exact hn) hl.1 hs0 hW hd hf
set_option maxHeartbeats 4000000 in
/-- a call on an object of the world -/
theorem s_cv {b ci : Nat} {fs : List Value} {q : vw_C} (hd : decode M.2.2.1 pc = .ok (.invokevirtual idx, 3)) (L : zLV M.1 idx M' n) (hG : zF Z M' d (.ref b :: As) w r w') (hob : w[b]? = some (.inr (ci, fs))) (hci : vwCl[ci]? = some q) (hq : q.1 = M'.2.1.cls) (hstk : st = As.reverse ++ .ref b :: rest) (hn : As.length = n) (hcat : (rest.map fun v => v.category).sum ≤ 8) (hfit : (lg_sl (.ref b :: As)).length ≤ M'.2.2.2.1) (hmc : M'.2.2.2.2.2 = 0)
    (kk : zG Z M (d + 1) Q N (pc + 3) lv (r ++ rest) w') : zG Z M (d + 1) Q N pc lv st w := by
  intro p l e R s m args below meth c A D cy QQ ad0 C E ad H locs ls I hl
  obtain ⟨iP, iD, iS, i1, i2, i3, i4⟩ := id I
  obtain ⟨hx, hb, hml, hown, hts, hN, hAO, hK, hA, hRo, hfr, hlo, hce, hsl, hnm⟩ := id C
  obtain ⟨hM', hpn, hinst, hsel, hlk⟩ := L
  have hMet := z_met hM' hG l D cy ad H.size (by rw [zfitA]; exact hfit) (by omega)
  have hroom : w.length + M'.2.2.2.2.2 ≤ N + M.2.2.2.2.2 := by omega
  refine z_after (M' := M') (rest := rest) (r := r) (w' := w') (a := ((.ref b :: As).map (zcv ad)).toArray) (fun q _ => by rw [hmc]; exact zok0 _ _) (fun q _ => by rw [hmc]; exact zok0 _ _) hroom (fun _ => kk) C E I hl ?_
  have hs0 : st.map (zcv ad) = (As.map (zcv ad)).reverse ++ .ref (ad b) :: rest.map (zcv ad) := by rw [hstk, List.map_append, List.map_reverse]; rfl
  have hW : 2 * (F0 m pc ls (st.map (zcv ad))).monitorRoom + ((rest.map (zcv ad)).map fun v => v.category).sum ≤ 8 := lv_room (by rw [zcv_cats]; exact hcat)
  have hf : w.length - N + M'.2.2.2.2.2 ≤ R.cells ∧ 800 * (w.length - N) + 800 * M'.2.2.2.2.2 ≤ R.slots := by omega
  have hrec : ∃ cellB : Cell, H[ad b]? = some cellB ∧ cellB.vm.isStatics = false ∧ s.vm.findClass M'.2.1.cls = some cellB.cls := by
    rw [← hq]
    exact va_recv hK iP hci (zcw_at (ad := ad) (cy := cy) hob)
  have hp0 := z_pre (As := .ref b :: As) C I
  have hpV : PreV s H M'.2.1.cls (ad b) (zPc Z (.ref b :: As) D cy ad w H.size) (As.map (zcv ad)) := ⟨hp0.1, hrec, hp0.2⟩
  rcases hlk with hlk | ⟨host, hlk⟩
  · exact va_runV ⟨hx, hb, hml, hown, hts⟩ hMet ⟨z_cB hM' hpn hts hfr hlo hlk, hts _ hinst, hts _ hsel⟩ hpV rfl (by rw [List.length_map]; exact hn) hl.1 hs0 hW hd hf
  · exact va_runVN ⟨hx, hb, hml, hown, hts⟩ hMet ⟨z_cN hM' hpn hts hN hfr hlo hlk, hts _ hinst, hts _ hsel⟩ hpV rfl (by rw [List.length_map]; exact hn) hl.1 hs0 hW hd hf
set_option maxHeartbeats 4000000 in
/-- a constructor's call -/
theorem s_ci {b : Nat} (hd : decode M.2.2.1 pc = .ok (.invokespecial idx, 3)) (L : zLI M.1 idx M' n) (hG : zF Z M' d (.ref b :: As) w [] w') (hstk : st = As.reverse ++ .ref b :: rest) (hn : As.length = n) (hcat : (rest.map fun v => v.category).sum ≤ 8) (hfit : (lg_sl (.ref b :: As)).length ≤ M'.2.2.2.1) (hroom : w.length + M'.2.2.2.2.2 ≤ N + M.2.2.2.2.2) (hlv : ∀ q ∈ lv, zok w.length M'.2.2.2.2.2 q.2) (hst : ∀ v ∈ rest, zok w.length M'.2.2.2.2.2 v)
    (kk : w'.length = w.length + M'.2.2.2.2.2 → zG Z M (d + 1) Q N (pc + 3) lv rest w') : zG Z M (d + 1) Q N pc lv st w := by
  intro p l e R s m args below meth c A D cy QQ ad0 C E ad H locs ls I hl
  obtain ⟨iP, iD, iS, i1, i2, i3, i4⟩ := id I
  obtain ⟨hx, hb, hml, hown, hts, hN, hAO, hK, hA, hRo, hfr, hlo, hce, hsl, hnm⟩ := id C
  obtain ⟨hM', hno, hpn, hnam, hinst, hlk⟩ := L
  have hMet := z_met hM' hG l D cy ad H.size (by rw [zfitA]; exact hfit) (by omega)
  refine z_after (M' := M') (rest := rest) (r := []) (w' := w') (a := ((.ref b :: As).map (zcv ad)).toArray) hlv hst hroom kk C E I hl ?_
  have hs0 : st.map (zcv ad) = (As.map (zcv ad)).reverse ++ .ref (ad b) :: rest.map (zcv ad) := by rw [hstk, List.map_append, List.map_reverse]; rfl
  have hW : 2 * (F0 m pc ls (st.map (zcv ad))).monitorRoom + ((rest.map (zcv ad)).map fun v => v.category).sum ≤ 8 := lv_room (by rw [zcv_cats]; exact hcat)
  have hf : w.length - N + M'.2.2.2.2.2 ≤ R.cells ∧ 800 * (w.length - N) + 800 * M'.2.2.2.2.2 ≤ R.slots := by omega
  have hp0 := z_pre (As := .ref b :: As) C I
  rcases hlk with hlk | ⟨host, hlk⟩
  · have hcb := z_cB (d := d) (R := R) hM' hpn hts hfr hlo hlk
    rw [hno] at hcb hMet
    exact va_runI ⟨hx, hb, hml, hown, hts⟩ hMet ⟨hcb, hnam, hts _ hinst⟩ hp0 rfl (by rw [List.length_map]; exact hn) hl.1 hs0 hW hd hf
  · have hcb := z_cN (d := d) (R := R) hM' hpn hts hN hfr hlo hlk
    rw [hno] at hcb hMet
    exact va_runIN ⟨hx, hb, hml, hown, hts⟩ hMet ⟨hcb, hnam, hts _ hinst⟩ hp0 rfl (by rw [List.length_map]; exact hn) hl.1 hs0 hW hd hf
end ZC
end
section
/-! ===== rows of the small machine: plain instructions ===== -/
section ZA
variable {Z : zS} {M : zM} {d : Nat} {Q : List Value → zW → Prop} {N : Nat} {pc : Nat} {lv : List (Nat × Value)} {st : List Value} {w : zW}
theorem s_iconst {n : Int} {v : Int32} (hdg : decode M.2.2.1 pc = .ok (.iconst n, 1)) (hv : Int32.ofInt n = v)     (k : zG Z M d Q N (pc + 1) lv (.int v :: st) w) : zG Z M d Q N pc lv (st) w := by
  intro p l e R s m args below meth c A D cy QQ ad0 C E ad H locs ls I hl
  exact lv_iconst C.1 C.2.1 hdg hv (k p l e R s m args below meth c A D cy QQ ad0 C E ad H locs ls I hl)
theorem s_bipush {n : Int} {v : Int32} (hdg : decode M.2.2.1 pc = .ok (.bipush n, 2)) (hv : (Int8.ofInt n).toInt32 = v)     (k : zG Z M d Q N (pc + 2) lv (.int v :: st) w) : zG Z M d Q N pc lv (st) w := by
  intro p l e R s m args below meth c A D cy QQ ad0 C E ad H locs ls I hl
  exact lv_bipush C.1 C.2.1 hdg hv (k p l e R s m args below meth c A D cy QQ ad0 C E ad H locs ls I hl)
theorem s_sipush {n : Int} {v : Int32} (hdg : decode M.2.2.1 pc = .ok (.sipush n, 3)) (hv : (Int16.ofInt n).toInt32 = v)     (k : zG Z M d Q N (pc + 3) lv (.int v :: st) w) : zG Z M d Q N pc lv (st) w := by
  intro p l e R s m args below meth c A D cy QQ ad0 C E ad H locs ls I hl
  exact lv_sipush C.1 C.2.1 hdg hv (k p l e R s m args below meth c A D cy QQ ad0 C E ad H locs ls I hl)
theorem s_lconst {n : Fin 2} {v : Int64} (hdg : decode M.2.2.1 pc = .ok (.lconst n, 1)) (hv : Int64.ofNat (n : Nat) = v)     (k : zG Z M d Q N (pc + 1) lv (.long v :: st) w) : zG Z M d Q N pc lv (st) w := by
  intro p l e R s m args below meth c A D cy QQ ad0 C E ad H locs ls I hl
  exact lv_lconst C.1 C.2.1 hdg hv (k p l e R s m args below meth c A D cy QQ ad0 C E ad H locs ls I hl)
theorem s_iadd {x y : Int32} (hdg : decode M.2.2.1 pc = .ok (.iadd, 1))      (k : zG Z M d Q N (pc + 1) lv (.int (x + y) :: st) w) : zG Z M d Q N pc lv (.int y :: .int x :: st) w := by
  intro p l e R s m args below meth c A D cy QQ ad0 C E ad H locs ls I hl
  exact lv_iadd C.1 C.2.1 hdg (k p l e R s m args below meth c A D cy QQ ad0 C E ad H locs ls I hl)
theorem s_isub {x y : Int32} (hdg : decode M.2.2.1 pc = .ok (.isub, 1))      (k : zG Z M d Q N (pc + 1) lv (.int (x - y) :: st) w) : zG Z M d Q N pc lv (.int y :: .int x :: st) w := by
  intro p l e R s m args below meth c A D cy QQ ad0 C E ad H locs ls I hl
  exact lv_isub C.1 C.2.1 hdg (k p l e R s m args below meth c A D cy QQ ad0 C E ad H locs ls I hl)
theorem s_imul {x y : Int32} (hdg : decode M.2.2.1 pc = .ok (.imul, 1))      (k : zG Z M d Q N (pc + 1) lv (.int (x * y) :: st) w) : zG Z M d Q N pc lv (.int y :: .int x :: st) w := by
  intro p l e R s m args below meth c A D cy QQ ad0 C E ad H locs ls I hl
  exact lv_imul C.1 C.2.1 hdg (k p l e R s m args below meth c A D cy QQ ad0 C E ad H locs ls I hl)
theorem s_iand {x y : Int32} (hdg : decode M.2.2.1 pc = .ok (.iand, 1))      (k : zG Z M d Q N (pc + 1) lv (.int (x &&& y) :: st) w) : zG Z M d Q N pc lv (.int y :: .int x :: st) w := by
  intro p l e R s m args below meth c A D cy QQ ad0 C E ad H locs ls I hl
  exact lv_iand C.1 C.2.1 hdg (k p l e R s m args below meth c A D cy QQ ad0 C E ad H locs ls I hl)
theorem s_ior {x y : Int32} (hdg : decode M.2.2.1 pc = .ok (.ior, 1))      (k : zG Z M d Q N (pc + 1) lv (.int (x ||| y) :: st) w) : zG Z M d Q N pc lv (.int y :: .int x :: st) w := by
  intro p l e R s m args below meth c A D cy QQ ad0 C E ad H locs ls I hl
  exact lv_ior C.1 C.2.1 hdg (k p l e R s m args below meth c A D cy QQ ad0 C E ad H locs ls I hl)
theorem s_ixor {x y : Int32} (hdg : decode M.2.2.1 pc = .ok (.ixor, 1))      (k : zG Z M d Q N (pc + 1) lv (.int (x ^^^ y) :: st) w) : zG Z M d Q N pc lv (.int y :: .int x :: st) w := by
  intro p l e R s m args below meth c A D cy QQ ad0 C E ad H locs ls I hl
  exact lv_ixor C.1 C.2.1 hdg (k p l e R s m args below meth c A D cy QQ ad0 C E ad H locs ls I hl)
theorem s_idiv {x y : Int32} (hdg : decode M.2.2.1 pc = .ok (.idiv, 1)) (hne : ¬ y = 0)     (k : zG Z M d Q N (pc + 1) lv (.int (x / y) :: st) w) : zG Z M d Q N pc lv (.int y :: .int x :: st) w := by
  intro p l e R s m args below meth c A D cy QQ ad0 C E ad H locs ls I hl
  exact lv_idiv C.1 C.2.1 hdg hne (k p l e R s m args below meth c A D cy QQ ad0 C E ad H locs ls I hl)
theorem s_irem {x y : Int32} (hdg : decode M.2.2.1 pc = .ok (.irem, 1)) (hne : ¬ y = 0)     (k : zG Z M d Q N (pc + 1) lv (.int (x - x / y * y) :: st) w) : zG Z M d Q N pc lv (.int y :: .int x :: st) w := by
  intro p l e R s m args below meth c A D cy QQ ad0 C E ad H locs ls I hl
  exact lv_irem C.1 C.2.1 hdg hne (k p l e R s m args below meth c A D cy QQ ad0 C E ad H locs ls I hl)
theorem s_ineg {x : Int32} (hdg : decode M.2.2.1 pc = .ok (.ineg, 1))      (k : zG Z M d Q N (pc + 1) lv (.int (-x) :: st) w) : zG Z M d Q N pc lv (.int x :: st) w := by
  intro p l e R s m args below meth c A D cy QQ ad0 C E ad H locs ls I hl
  exact lv_ineg C.1 C.2.1 hdg (k p l e R s m args below meth c A D cy QQ ad0 C E ad H locs ls I hl)
theorem s_ladd {x y : Int64} (hdg : decode M.2.2.1 pc = .ok (.ladd, 1))      (k : zG Z M d Q N (pc + 1) lv (.long (x + y) :: st) w) : zG Z M d Q N pc lv (.long y :: .long x :: st) w := by
  intro p l e R s m args below meth c A D cy QQ ad0 C E ad H locs ls I hl
  exact lv_ladd C.1 C.2.1 hdg (k p l e R s m args below meth c A D cy QQ ad0 C E ad H locs ls I hl)
theorem s_land {x y : Int64} (hdg : decode M.2.2.1 pc = .ok (.land, 1))      (k : zG Z M d Q N (pc + 1) lv (.long (x &&& y) :: st) w) : zG Z M d Q N pc lv (.long y :: .long x :: st) w := by
  intro p l e R s m args below meth c A D cy QQ ad0 C E ad H locs ls I hl
  exact lv_land C.1 C.2.1 hdg (k p l e R s m args below meth c A D cy QQ ad0 C E ad H locs ls I hl)
theorem s_lor {x y : Int64} (hdg : decode M.2.2.1 pc = .ok (.lor, 1))      (k : zG Z M d Q N (pc + 1) lv (.long (x ||| y) :: st) w) : zG Z M d Q N pc lv (.long y :: .long x :: st) w := by
  intro p l e R s m args below meth c A D cy QQ ad0 C E ad H locs ls I hl
  exact lv_lor C.1 C.2.1 hdg (k p l e R s m args below meth c A D cy QQ ad0 C E ad H locs ls I hl)
theorem s_ishl {x y : Int32} (hdg : decode M.2.2.1 pc = .ok (.ishl, 1))      (k : zG Z M d Q N (pc + 1) lv (.int (x <<< (y &&& 31)) :: st) w) : zG Z M d Q N pc lv (.int y :: .int x :: st) w := by
  intro p l e R s m args below meth c A D cy QQ ad0 C E ad H locs ls I hl
  exact lv_ishl C.1 C.2.1 hdg (k p l e R s m args below meth c A D cy QQ ad0 C E ad H locs ls I hl)
theorem s_ishr {x y : Int32} (hdg : decode M.2.2.1 pc = .ok (.ishr, 1))      (k : zG Z M d Q N (pc + 1) lv (.int (x >>> (y &&& 31)) :: st) w) : zG Z M d Q N pc lv (.int y :: .int x :: st) w := by
  intro p l e R s m args below meth c A D cy QQ ad0 C E ad H locs ls I hl
  exact lv_ishr C.1 C.2.1 hdg (k p l e R s m args below meth c A D cy QQ ad0 C E ad H locs ls I hl)
theorem s_i2l {x : Int32} {v : Int64} (hdg : decode M.2.2.1 pc = .ok (.i2l, 1)) (hv : x.toInt64 = v)     (k : zG Z M d Q N (pc + 1) lv (.long v :: st) w) : zG Z M d Q N pc lv (.int x :: st) w := by
  intro p l e R s m args below meth c A D cy QQ ad0 C E ad H locs ls I hl
  exact lv_i2l C.1 C.2.1 hdg hv (k p l e R s m args below meth c A D cy QQ ad0 C E ad H locs ls I hl)
theorem s_l2i {x : Int64} {v : Int32} (hdg : decode M.2.2.1 pc = .ok (.l2i, 1)) (hv : x.toInt32 = v)     (k : zG Z M d Q N (pc + 1) lv (.int v :: st) w) : zG Z M d Q N pc lv (.long x :: st) w := by
  intro p l e R s m args below meth c A D cy QQ ad0 C E ad H locs ls I hl
  exact lv_l2i C.1 C.2.1 hdg hv (k p l e R s m args below meth c A D cy QQ ad0 C E ad H locs ls I hl)
theorem s_i2b {x : Int32} {v : Int32} (hdg : decode M.2.2.1 pc = .ok (.i2b, 1)) (hv : x.toInt8.toInt32 = v)     (k : zG Z M d Q N (pc + 1) lv (.int v :: st) w) : zG Z M d Q N pc lv (.int x :: st) w := by
  intro p l e R s m args below meth c A D cy QQ ad0 C E ad H locs ls I hl
  exact lv_i2b C.1 C.2.1 hdg hv (k p l e R s m args below meth c A D cy QQ ad0 C E ad H locs ls I hl)
theorem s_i2s {x : Int32} {v : Int32} (hdg : decode M.2.2.1 pc = .ok (.i2s, 1)) (hv : x.toInt16.toInt32 = v)     (k : zG Z M d Q N (pc + 1) lv (.int v :: st) w) : zG Z M d Q N pc lv (.int x :: st) w := by
  intro p l e R s m args below meth c A D cy QQ ad0 C E ad H locs ls I hl
  exact lv_i2s C.1 C.2.1 hdg hv (k p l e R s m args below meth c A D cy QQ ad0 C E ad H locs ls I hl)
theorem s_iushr {x y v : Int32} (hdg : decode M.2.2.1 pc = .ok (.iushr, 1)) (hv : (x.toUInt32 >>> (y.toUInt32 &&& Int32.toUInt32 31)).toInt32 = v)     (k : zG Z M d Q N (pc + 1) lv (.int v :: st) w) : zG Z M d Q N pc lv (.int y :: .int x :: st) w := by
  intro p l e R s m args below meth c A D cy QQ ad0 C E ad H locs ls I hl
  exact lv_iushr C.1 C.2.1 hdg hv (k p l e R s m args below meth c A D cy QQ ad0 C E ad H locs ls I hl)
theorem s_lshl {x v : Int64} {y : Int32} (hdg : decode M.2.2.1 pc = .ok (.lshl, 1)) (hv : x <<< (y.toInt64 &&& 63) = v)     (k : zG Z M d Q N (pc + 1) lv (.long v :: st) w) : zG Z M d Q N pc lv (.int y :: .long x :: st) w := by
  intro p l e R s m args below meth c A D cy QQ ad0 C E ad H locs ls I hl
  exact lv_lshl C.1 C.2.1 hdg hv (k p l e R s m args below meth c A D cy QQ ad0 C E ad H locs ls I hl)
theorem s_if_eq {x : Int32} {off : Int} {tgt : Nat} (hdg : decode M.2.2.1 pc = .ok (.ifCond .eq off, 3)) (ht : (pc : Int) + off = (tgt : Int))     (kt : x = 0 → zG Z M d Q N tgt lv (st) w) (kf : ¬ x = 0 → zG Z M d Q N (pc + 3) lv (st) w) : zG Z M d Q N pc lv (.int x :: st) w := by
  intro p l e R s m args below meth c A D cy QQ ad0 C E ad H locs ls I hl
  exact lv_if_eq C.1 C.2.1 hdg ht (fun z => kt z p l e R s m args below meth c A D cy QQ ad0 C E ad H locs ls I hl) (fun z => kf z p l e R s m args below meth c A D cy QQ ad0 C E ad H locs ls I hl)
theorem s_icmp_eq {x y : Int32} {off : Int} {tgt : Nat} (hdg : decode M.2.2.1 pc = .ok (.if_icmp .eq off, 3)) (ht : (pc : Int) + off = (tgt : Int))     (kt : x = y → zG Z M d Q N tgt lv (st) w) (kf : ¬ x = y → zG Z M d Q N (pc + 3) lv (st) w) : zG Z M d Q N pc lv (.int y :: .int x :: st) w := by
  intro p l e R s m args below meth c A D cy QQ ad0 C E ad H locs ls I hl
  exact lv_icmp_eq C.1 C.2.1 hdg ht (fun z => kt z p l e R s m args below meth c A D cy QQ ad0 C E ad H locs ls I hl) (fun z => kf z p l e R s m args below meth c A D cy QQ ad0 C E ad H locs ls I hl)
theorem s_if_ne {x : Int32} {off : Int} {tgt : Nat} (hdg : decode M.2.2.1 pc = .ok (.ifCond .ne off, 3)) (ht : (pc : Int) + off = (tgt : Int))     (kt : ¬ x = 0 → zG Z M d Q N tgt lv (st) w) (kf : x = 0 → zG Z M d Q N (pc + 3) lv (st) w) : zG Z M d Q N pc lv (.int x :: st) w := by
  intro p l e R s m args below meth c A D cy QQ ad0 C E ad H locs ls I hl
  exact lv_if_ne C.1 C.2.1 hdg ht (fun z => kt z p l e R s m args below meth c A D cy QQ ad0 C E ad H locs ls I hl) (fun z => kf z p l e R s m args below meth c A D cy QQ ad0 C E ad H locs ls I hl)
theorem s_icmp_ne {x y : Int32} {off : Int} {tgt : Nat} (hdg : decode M.2.2.1 pc = .ok (.if_icmp .ne off, 3)) (ht : (pc : Int) + off = (tgt : Int))     (kt : ¬ x = y → zG Z M d Q N tgt lv (st) w) (kf : x = y → zG Z M d Q N (pc + 3) lv (st) w) : zG Z M d Q N pc lv (.int y :: .int x :: st) w := by
  intro p l e R s m args below meth c A D cy QQ ad0 C E ad H locs ls I hl
  exact lv_icmp_ne C.1 C.2.1 hdg ht (fun z => kt z p l e R s m args below meth c A D cy QQ ad0 C E ad H locs ls I hl) (fun z => kf z p l e R s m args below meth c A D cy QQ ad0 C E ad H locs ls I hl)
theorem s_if_lt {x : Int32} {off : Int} {tgt : Nat} (hdg : decode M.2.2.1 pc = .ok (.ifCond .lt off, 3)) (ht : (pc : Int) + off = (tgt : Int))     (kt : x < 0 → zG Z M d Q N tgt lv (st) w) (kf : ¬ x < 0 → zG Z M d Q N (pc + 3) lv (st) w) : zG Z M d Q N pc lv (.int x :: st) w := by
  intro p l e R s m args below meth c A D cy QQ ad0 C E ad H locs ls I hl
  exact lv_if_lt C.1 C.2.1 hdg ht (fun z => kt z p l e R s m args below meth c A D cy QQ ad0 C E ad H locs ls I hl) (fun z => kf z p l e R s m args below meth c A D cy QQ ad0 C E ad H locs ls I hl)
theorem s_icmp_lt {x y : Int32} {off : Int} {tgt : Nat} (hdg : decode M.2.2.1 pc = .ok (.if_icmp .lt off, 3)) (ht : (pc : Int) + off = (tgt : Int))     (kt : x < y → zG Z M d Q N tgt lv (st) w) (kf : ¬ x < y → zG Z M d Q N (pc + 3) lv (st) w) : zG Z M d Q N pc lv (.int y :: .int x :: st) w := by
  intro p l e R s m args below meth c A D cy QQ ad0 C E ad H locs ls I hl
  exact lv_icmp_lt C.1 C.2.1 hdg ht (fun z => kt z p l e R s m args below meth c A D cy QQ ad0 C E ad H locs ls I hl) (fun z => kf z p l e R s m args below meth c A D cy QQ ad0 C E ad H locs ls I hl)
theorem s_if_ge {x : Int32} {off : Int} {tgt : Nat} (hdg : decode M.2.2.1 pc = .ok (.ifCond .ge off, 3)) (ht : (pc : Int) + off = (tgt : Int))     (kt : 0 ≤ x → zG Z M d Q N tgt lv (st) w) (kf : ¬ 0 ≤ x → zG Z M d Q N (pc + 3) lv (st) w) : zG Z M d Q N pc lv (.int x :: st) w := by
  intro p l e R s m args below meth c A D cy QQ ad0 C E ad H locs ls I hl
  exact lv_if_ge C.1 C.2.1 hdg ht (fun z => kt z p l e R s m args below meth c A D cy QQ ad0 C E ad H locs ls I hl) (fun z => kf z p l e R s m args below meth c A D cy QQ ad0 C E ad H locs ls I hl)
theorem s_icmp_ge {x y : Int32} {off : Int} {tgt : Nat} (hdg : decode M.2.2.1 pc = .ok (.if_icmp .ge off, 3)) (ht : (pc : Int) + off = (tgt : Int))     (kt : y ≤ x → zG Z M d Q N tgt lv (st) w) (kf : ¬ y ≤ x → zG Z M d Q N (pc + 3) lv (st) w) : zG Z M d Q N pc lv (.int y :: .int x :: st) w := by
  intro p l e R s m args below meth c A D cy QQ ad0 C E ad H locs ls I hl
  exact lv_icmp_ge C.1 C.2.1 hdg ht (fun z => kt z p l e R s m args below meth c A D cy QQ ad0 C E ad H locs ls I hl) (fun z => kf z p l e R s m args below meth c A D cy QQ ad0 C E ad H locs ls I hl)
theorem s_if_gt {x : Int32} {off : Int} {tgt : Nat} (hdg : decode M.2.2.1 pc = .ok (.ifCond .gt off, 3)) (ht : (pc : Int) + off = (tgt : Int))     (kt : 0 < x → zG Z M d Q N tgt lv (st) w) (kf : ¬ 0 < x → zG Z M d Q N (pc + 3) lv (st) w) : zG Z M d Q N pc lv (.int x :: st) w := by
  intro p l e R s m args below meth c A D cy QQ ad0 C E ad H locs ls I hl
  exact lv_if_gt C.1 C.2.1 hdg ht (fun z => kt z p l e R s m args below meth c A D cy QQ ad0 C E ad H locs ls I hl) (fun z => kf z p l e R s m args below meth c A D cy QQ ad0 C E ad H locs ls I hl)
theorem s_icmp_gt {x y : Int32} {off : Int} {tgt : Nat} (hdg : decode M.2.2.1 pc = .ok (.if_icmp .gt off, 3)) (ht : (pc : Int) + off = (tgt : Int))     (kt : y < x → zG Z M d Q N tgt lv (st) w) (kf : ¬ y < x → zG Z M d Q N (pc + 3) lv (st) w) : zG Z M d Q N pc lv (.int y :: .int x :: st) w := by
  intro p l e R s m args below meth c A D cy QQ ad0 C E ad H locs ls I hl
  exact lv_icmp_gt C.1 C.2.1 hdg ht (fun z => kt z p l e R s m args below meth c A D cy QQ ad0 C E ad H locs ls I hl) (fun z => kf z p l e R s m args below meth c A D cy QQ ad0 C E ad H locs ls I hl)
theorem s_if_le {x : Int32} {off : Int} {tgt : Nat} (hdg : decode M.2.2.1 pc = .ok (.ifCond .le off, 3)) (ht : (pc : Int) + off = (tgt : Int))     (kt : x ≤ 0 → zG Z M d Q N tgt lv (st) w) (kf : ¬ x ≤ 0 → zG Z M d Q N (pc + 3) lv (st) w) : zG Z M d Q N pc lv (.int x :: st) w := by
  intro p l e R s m args below meth c A D cy QQ ad0 C E ad H locs ls I hl
  exact lv_if_le C.1 C.2.1 hdg ht (fun z => kt z p l e R s m args below meth c A D cy QQ ad0 C E ad H locs ls I hl) (fun z => kf z p l e R s m args below meth c A D cy QQ ad0 C E ad H locs ls I hl)
theorem s_icmp_le {x y : Int32} {off : Int} {tgt : Nat} (hdg : decode M.2.2.1 pc = .ok (.if_icmp .le off, 3)) (ht : (pc : Int) + off = (tgt : Int))     (kt : x ≤ y → zG Z M d Q N tgt lv (st) w) (kf : ¬ x ≤ y → zG Z M d Q N (pc + 3) lv (st) w) : zG Z M d Q N pc lv (.int y :: .int x :: st) w := by
  intro p l e R s m args below meth c A D cy QQ ad0 C E ad H locs ls I hl
  exact lv_icmp_le C.1 C.2.1 hdg ht (fun z => kt z p l e R s m args below meth c A D cy QQ ad0 C E ad H locs ls I hl) (fun z => kf z p l e R s m args below meth c A D cy QQ ad0 C E ad H locs ls I hl)
theorem s_goto {off : Int} {tgt : Nat} (hdg : decode M.2.2.1 pc = .ok (.goto off, 3)) (ht : (pc : Int) + off = (tgt : Int)) (k : zG Z M d Q N tgt lv (st) w) : zG Z M d Q N pc lv (st) w := by
  intro p l e R s m args below meth c A D cy QQ ad0 C E ad H locs ls I hl
  exact lv_goto C.1 C.2.1 hdg ht (k p l e R s m args below meth c A D cy QQ ad0 C E ad H locs ls I hl)
theorem s_fconst0  (hdg : decode M.2.2.1 pc = .ok (.fconst 0, 1))      (k : zG Z M d Q N (pc + 1) lv (.float FP.fconst0 :: st) w) : zG Z M d Q N pc lv (st) w := by
  intro p l e R s m args below meth c A D cy QQ ad0 C E ad H locs ls I hl
  exact lv_fconst0 C.1 C.2.1 hdg (k p l e R s m args below meth c A D cy QQ ad0 C E ad H locs ls I hl)
theorem s_fconst1  (hdg : decode M.2.2.1 pc = .ok (.fconst 1, 1))      (k : zG Z M d Q N (pc + 1) lv (.float FP.fconst1 :: st) w) : zG Z M d Q N pc lv (st) w := by
  intro p l e R s m args below meth c A D cy QQ ad0 C E ad H locs ls I hl
  exact lv_fconst1 C.1 C.2.1 hdg (k p l e R s m args below meth c A D cy QQ ad0 C E ad H locs ls I hl)
theorem s_fconst2  (hdg : decode M.2.2.1 pc = .ok (.fconst 2, 1))      (k : zG Z M d Q N (pc + 1) lv (.float FP.fconst2 :: st) w) : zG Z M d Q N pc lv (st) w := by
  intro p l e R s m args below meth c A D cy QQ ad0 C E ad H locs ls I hl
  exact lv_fconst2 C.1 C.2.1 hdg (k p l e R s m args below meth c A D cy QQ ad0 C E ad H locs ls I hl)
theorem s_dconst0  (hdg : decode M.2.2.1 pc = .ok (.dconst 0, 1))      (k : zG Z M d Q N (pc + 1) lv (.double FP.dconst0 :: st) w) : zG Z M d Q N pc lv (st) w := by
  intro p l e R s m args below meth c A D cy QQ ad0 C E ad H locs ls I hl
  exact lv_dconst0 C.1 C.2.1 hdg (k p l e R s m args below meth c A D cy QQ ad0 C E ad H locs ls I hl)
theorem s_dconst1  (hdg : decode M.2.2.1 pc = .ok (.dconst 1, 1))      (k : zG Z M d Q N (pc + 1) lv (.double FP.dconst1 :: st) w) : zG Z M d Q N pc lv (st) w := by
  intro p l e R s m args below meth c A D cy QQ ad0 C E ad H locs ls I hl
  exact lv_dconst1 C.1 C.2.1 hdg (k p l e R s m args below meth c A D cy QQ ad0 C E ad H locs ls I hl)
theorem s_fadd {x y : UInt32} (hdg : decode M.2.2.1 pc = .ok (.fadd, 1)) (hne : vf_n32 (FP.fadd x y))     (k : zG Z M d Q N (pc + 1) lv (.float (FP.fadd x y) :: st) w) : zG Z M d Q N pc lv (.float y :: .float x :: st) w := by
  intro p l e R s m args below meth c A D cy QQ ad0 C E ad H locs ls I hl
  exact lv_fadd C.1 C.2.1 hdg hne (k p l e R s m args below meth c A D cy QQ ad0 C E ad H locs ls I hl)
theorem s_fdiv {x y : UInt32} (hdg : decode M.2.2.1 pc = .ok (.fdiv, 1)) (hne : vf_n32 (FP.fdiv x y))     (k : zG Z M d Q N (pc + 1) lv (.float (FP.fdiv x y) :: st) w) : zG Z M d Q N pc lv (.float y :: .float x :: st) w := by
  intro p l e R s m args below meth c A D cy QQ ad0 C E ad H locs ls I hl
  exact lv_fdiv C.1 C.2.1 hdg hne (k p l e R s m args below meth c A D cy QQ ad0 C E ad H locs ls I hl)
theorem s_fcmp {x y : UInt32} {op : CmpOp} (hdg : decode M.2.2.1 pc = .ok (.fcmp op, 1))      (k : zG Z M d Q N (pc + 1) lv (.int (Op.cmpValue (FP.fcmp x y) op) :: st) w) : zG Z M d Q N pc lv (.float y :: .float x :: st) w := by
  intro p l e R s m args below meth c A D cy QQ ad0 C E ad H locs ls I hl
  exact lv_fcmp C.1 C.2.1 hdg (k p l e R s m args below meth c A D cy QQ ad0 C E ad H locs ls I hl)
theorem s_i2f {x : Int32} (hdg : decode M.2.2.1 pc = .ok (.i2f, 1))      (k : zG Z M d Q N (pc + 1) lv (.float (FP.i2f x) :: st) w) : zG Z M d Q N pc lv (.int x :: st) w := by
  intro p l e R s m args below meth c A D cy QQ ad0 C E ad H locs ls I hl
  exact lv_i2f C.1 C.2.1 hdg (k p l e R s m args below meth c A D cy QQ ad0 C E ad H locs ls I hl)
theorem s_dadd {x y : UInt64} (hdg : decode M.2.2.1 pc = .ok (.dadd, 1)) (hne : vf_n64 (FP.dadd x y))     (k : zG Z M d Q N (pc + 1) lv (.double (FP.dadd x y) :: st) w) : zG Z M d Q N pc lv (.double y :: .double x :: st) w := by
  intro p l e R s m args below meth c A D cy QQ ad0 C E ad H locs ls I hl
  exact lv_dadd C.1 C.2.1 hdg hne (k p l e R s m args below meth c A D cy QQ ad0 C E ad H locs ls I hl)
theorem s_dsub {x y : UInt64} (hdg : decode M.2.2.1 pc = .ok (.dsub, 1)) (hne : vf_n64 (FP.dsub x y))     (k : zG Z M d Q N (pc + 1) lv (.double (FP.dsub x y) :: st) w) : zG Z M d Q N pc lv (.double y :: .double x :: st) w := by
  intro p l e R s m args below meth c A D cy QQ ad0 C E ad H locs ls I hl
  exact lv_dsub C.1 C.2.1 hdg hne (k p l e R s m args below meth c A D cy QQ ad0 C E ad H locs ls I hl)
theorem s_dmul {x y : UInt64} (hdg : decode M.2.2.1 pc = .ok (.dmul, 1)) (hne : vf_n64 (FP.dmul x y))     (k : zG Z M d Q N (pc + 1) lv (.double (FP.dmul x y) :: st) w) : zG Z M d Q N pc lv (.double y :: .double x :: st) w := by
  intro p l e R s m args below meth c A D cy QQ ad0 C E ad H locs ls I hl
  exact lv_dmul C.1 C.2.1 hdg hne (k p l e R s m args below meth c A D cy QQ ad0 C E ad H locs ls I hl)
theorem s_dcmp {x y : UInt64} {op : CmpOp} (hdg : decode M.2.2.1 pc = .ok (.dcmp op, 1))      (k : zG Z M d Q N (pc + 1) lv (.int (Op.cmpValue (FP.dcmp x y) op) :: st) w) : zG Z M d Q N pc lv (.double y :: .double x :: st) w := by
  intro p l e R s m args below meth c A D cy QQ ad0 C E ad H locs ls I hl
  exact lv_dcmp C.1 C.2.1 hdg (k p l e R s m args below meth c A D cy QQ ad0 C E ad H locs ls I hl)
theorem s_d2i {x : UInt64} (hdg : decode M.2.2.1 pc = .ok (.d2i, 1))      (k : zG Z M d Q N (pc + 1) lv (.int (FP.d2i x) :: st) w) : zG Z M d Q N pc lv (.double x :: st) w := by
  intro p l e R s m args below meth c A D cy QQ ad0 C E ad H locs ls I hl
  exact lv_d2i C.1 C.2.1 hdg (k p l e R s m args below meth c A D cy QQ ad0 C E ad H locs ls I hl)
theorem s_d2l {x : UInt64} (hdg : decode M.2.2.1 pc = .ok (.d2l, 1))      (k : zG Z M d Q N (pc + 1) lv (.long (FP.d2l x) :: st) w) : zG Z M d Q N pc lv (.double x :: st) w := by
  intro p l e R s m args below meth c A D cy QQ ad0 C E ad H locs ls I hl
  exact lv_d2l C.1 C.2.1 hdg (k p l e R s m args below meth c A D cy QQ ad0 C E ad H locs ls I hl)
theorem s_f2d {x : UInt32} (hdg : decode M.2.2.1 pc = .ok (.f2d, 1)) (hne : vf_n64 (FP.f2d x))     (k : zG Z M d Q N (pc + 1) lv (.double (FP.f2d x) :: st) w) : zG Z M d Q N pc lv (.float x :: st) w := by
  intro p l e R s m args below meth c A D cy QQ ad0 C E ad H locs ls I hl
  exact lv_f2d C.1 C.2.1 hdg hne (k p l e R s m args below meth c A D cy QQ ad0 C E ad H locs ls I hl)
theorem s_lookup {dflt : Int} {ps : Array (Int × Int)} {len : Nat} {x : Int32} {off : Int} {tgt : Nat} (hdg : decode M.2.2.1 pc = .ok (.lookupswitch dflt ps, len)) (hp : (ps.toList.zip (ps.toList.drop 1)).all (fun (a, next) => a.1 < next.1) = true) (ho : Op.lookupswitch.offset ps.toList dflt x.toInt = off) (ht : (pc : Int) + off = (tgt : Int))     (k : zG Z M d Q N tgt lv (st) w) : zG Z M d Q N pc lv (.int x :: st) w := by
  intro p l e R s m args below meth c A D cy QQ ad0 C E ad H locs ls I hl
  exact lv_lookup C.1 C.2.1 hdg hp ho ht (k p l e R s m args below meth c A D cy QQ ad0 C E ad H locs ls I hl)
theorem s_tableOut {dflt lo hi : Int} {offs : Array Int} {len : Nat} {x : Int32} {tgt : Nat} (hdg : decode M.2.2.1 pc = .ok (.tableswitch dflt lo hi offs, len)) (h : x.toInt < lo ∨ hi < x.toInt) (ht : (pc : Int) + dflt = (tgt : Int))     (k : zG Z M d Q N tgt lv (st) w) : zG Z M d Q N pc lv (.int x :: st) w := by
  intro p l e R s m args below meth c A D cy QQ ad0 C E ad H locs ls I hl
  exact lv_tableOut C.1 C.2.1 hdg h ht (k p l e R s m args below meth c A D cy QQ ad0 C E ad H locs ls I hl)
theorem s_tableIn {dflt lo hi : Int} {offs : Array Int} {len : Nat} {x : Int32} {off : Int} {tgt : Nat} (hdg : decode M.2.2.1 pc = .ok (.tableswitch dflt lo hi offs, len)) (h1 : ¬ x.toInt < lo) (h2 : ¬ hi < x.toInt) (ho : offs[(x.toInt - lo).toNat]? = some off) (ht : (pc : Int) + off = (tgt : Int))     (k : zG Z M d Q N tgt lv (st) w) : zG Z M d Q N pc lv (.int x :: st) w := by
  intro p l e R s m args below meth c A D cy QQ ad0 C E ad H locs ls I hl
  exact lv_tableIn C.1 C.2.1 hdg h1 h2 ho ht (k p l e R s m args below meth c A D cy QQ ad0 C E ad H locs ls I hl)
theorem s_lcmp {x y : Int64} (hdg : decode M.2.2.1 pc = .ok (.lcmp, 1))     (k : zG Z M d Q N (pc + 1) lv (.int (lg_cmp x y) :: st) w) : zG Z M d Q N pc lv (.long y :: .long x :: st) w := by
  intro p l e R s m args below meth c A D cy QQ ad0 C E ad H locs ls I hl
  exact W.lcmp C.1 C.2.1 hdg (k p l e R s m args below meth c A D cy QQ ad0 C E ad H locs ls I hl)
theorem s_dup {va : Value} (hd : decode M.2.2.1 pc = .ok (.dup, 1)) (hva : va.category = 1) (k : zG Z M d Q N (pc + 1) lv (va :: va :: st) w) : zG Z M d Q N pc lv (va :: st) w := by
  intro p l e R s m args below meth c A D cy QQ ad0 C E ad H locs ls I hl
  exact lv_dup C.1 C.2.1 hd (by rw [zcv_cat]; exact hva) (k p l e R s m args below meth c A D cy QQ ad0 C E ad H locs ls I hl)
theorem s_dup2 {va vb : Value} (hd : decode M.2.2.1 pc = .ok (.dup2, 1)) (hva : va.category = 1) (hvb : vb.category = 1) (k : zG Z M d Q N (pc + 1) lv (va :: vb :: va :: vb :: st) w) : zG Z M d Q N pc lv (va :: vb :: st) w := by
  intro p l e R s m args below meth c A D cy QQ ad0 C E ad H locs ls I hl
  exact lv_dup2_11 C.1 C.2.1 hd (by rw [zcv_cat]; exact hva) (by rw [zcv_cat]; exact hvb) (k p l e R s m args below meth c A D cy QQ ad0 C E ad H locs ls I hl)
theorem s_ldc {idx : Nat} {v : Int32} (hd : decode M.2.2.1 pc = .ok (.ldc idx, 2)) (hc : Cond.constant M.1 idx v ∈ zGW) (k : zG Z M d Q N (pc + 2) lv (.int v :: st) w) : zG Z M d Q N pc lv st w := by
  intro p l e R s m args below meth c A D cy QQ ad0 C E ad H locs ls I hl
  exact lv_ldc C.1 C.2.1 C.2.2.2.1 (C.2.2.2.2.1 _ hc) hd (k p l e R s m args below meth c A D cy QQ ad0 C E ad H locs ls I hl)
theorem s_ldcw {idx : Nat} {v : Int32} (hd : decode M.2.2.1 pc = .ok (.ldc_w idx, 3)) (hc : Cond.constant M.1 idx v ∈ zGW) (k : zG Z M d Q N (pc + 3) lv (.int v :: st) w) : zG Z M d Q N pc lv st w := by
  intro p l e R s m args below meth c A D cy QQ ad0 C E ad H locs ls I hl
  exact lv_ldcw C.1 C.2.1 C.2.2.2.1 (C.2.2.2.2.1 _ hc) hd (k p l e R s m args below meth c A D cy QQ ad0 C E ad H locs ls I hl)
theorem s_ldcf {idx : Nat} {v : UInt32} (hd : decode M.2.2.1 pc = .ok (.ldc idx, 2)) (hc : Cond.constantFloat M.1 idx v ∈ zGW) (k : zG Z M d Q N (pc + 2) lv (.float v :: st) w) : zG Z M d Q N pc lv st w := by
  intro p l e R s m args below meth c A D cy QQ ad0 C E ad H locs ls I hl
  exact lv_ldcf C.1 C.2.1 C.2.2.2.1 (C.2.2.2.2.1 _ hc) hd (k p l e R s m args below meth c A D cy QQ ad0 C E ad H locs ls I hl)
theorem s_ldc2 {idx : Nat} {v : Int64} (hd : decode M.2.2.1 pc = .ok (.ldc2_w idx, 3)) (hc : Cond.constantLong M.1 idx v ∈ zGW) (k : zG Z M d Q N (pc + 3) lv (.long v :: st) w) : zG Z M d Q N pc lv st w := by
  intro p l e R s m args below meth c A D cy QQ ad0 C E ad H locs ls I hl
  exact lv_ldc2 C.1 C.2.1 C.2.2.2.1 (C.2.2.2.2.1 _ hc) hd (k p l e R s m args below meth c A D cy QQ ad0 C E ad H locs ls I hl)
theorem s_ldc2d {idx : Nat} {v : UInt64} (hd : decode M.2.2.1 pc = .ok (.ldc2_w idx, 3)) (hc : Cond.constantDouble M.1 idx v ∈ zGW) (k : zG Z M d Q N (pc + 3) lv (.double v :: st) w) : zG Z M d Q N pc lv st w := by
  intro p l e R s m args below meth c A D cy QQ ad0 C E ad H locs ls I hl
  exact lv_ldc2d C.1 C.2.1 C.2.2.2.1 (C.2.2.2.2.1 _ hc) hd (k p l e R s m args below meth c A D cy QQ ad0 C E ad H locs ls I hl)
theorem zbq (a b : Nat) : Nat.beq a b = decide (a = b) := by
  by_cases h : a = b
  · subst h
    simp
  · rw [decide_eq_false h]
    cases hb : Nat.beq a b with
    | true => exact absurd (Nat.eq_of_beq_eq_true hb) h
    | false => rfl
def zlk : List (Nat × Value) → Nat → Option Value
  | [], _ => none
  | q :: l, i => match Nat.beq q.1 i with
    | true => some q.2
    | false => zlk l i
theorem zlk_mem {v : Value} {i : Nat} : ∀ {lv : List (Nat × Value)}, zlk lv i = some v → (i, v) ∈ lv
  | [], h => by cases h
  | q :: l, h => by
    unfold zlk at h
    cases hb : Nat.beq q.1 i with
    | true =>
      rw [hb] at h
      have e : q.1 = i := Nat.eq_of_beq_eq_true hb
      have e2 : q.2 = v := Option.some.inj h
      rw [← e, ← e2]
      exact List.mem_cons_self
    | false =>
      rw [hb] at h
      exact List.mem_cons_of_mem _ (zlk_mem h)
theorem zlk_has {ad : Nat → Nat} {ls : Array Slot} {nL i : Nat} {v : Value} (hl : lv_has ls nL (zcl ad lv)) (h : zlk lv i = some v) : ls[i]? = some (.val (zcv ad v)) :=
  hl.2.2 (i, zcv ad v) (List.mem_map.mpr ⟨(i, v), zlk_mem h, rfl⟩)
def zst : List (Nat × Value) → Nat → Value → List (Nat × Value)
  | [], i, v => [(i, v)]
  | q :: l, i, v => match Nat.beq q.1 i with
    | true => (i, v) :: l
    | false => q :: zst l i v
/-- the place i stands once at most -/
def zuq : List (Nat × Value) → Nat → Bool
  | [], _ => true
  | q :: l, i => match Nat.beq q.1 i with
    | true => l.all (fun z => !Nat.beq z.1 i)
    | false => zuq l i
theorem zst_mem {v : Value} {i : Nat} {q : Nat × Value} : ∀ {lv : List (Nat × Value)}, zuq lv i = true → q ∈ zst lv i v → q = (i, v) ∨ (q ∈ lv ∧ q.1 ≠ i)
  | [], _, h => by
    unfold zst at h
    exact Or.inl (List.mem_singleton.mp h)
  | z :: l, hu, h => by
    unfold zst at h
    unfold zuq at hu
    cases hb : Nat.beq z.1 i with
    | true =>
      rw [hb] at h hu
      rcases List.mem_cons.mp h with h | h
      · exact Or.inl h
      · have h1 := List.all_eq_true.mp hu q h
        refine Or.inr ⟨List.mem_cons_of_mem _ h, fun e => ?_⟩
        rw [e] at h1
        simp at h1
    | false =>
      rw [hb] at h hu
      rcases List.mem_cons.mp h with h | h
      · refine Or.inr ⟨by rw [h]; exact List.mem_cons_self, fun e => ?_⟩
        rw [h] at e
        rw [e] at hb
        simp at hb
      · rcases zst_mem hu h with h | h
        · exact Or.inl h
        · exact Or.inr ⟨List.mem_cons_of_mem _ h.1, h.2⟩
/-- nothing wide lies across the place i -/
def zk1 (lv : List (Nat × Value)) (i : Nat) : Bool := zuq lv i && lv.all (fun q => !(Nat.beq (q.1 + 1) i && Nat.beq q.2.category 2))
def zk2 (lv : List (Nat × Value)) (i : Nat) : Bool := zuq lv i && lv.all (fun q => !(Nat.beq (q.1 + 1) i && Nat.beq q.2.category 2) && !Nat.beq q.1 (i + 1))
theorem zst_has1 {ad : Nat → Nat} {ls : Array Slot} {nL i : Nat} {v : Value} (hk : zk1 lv i = true) (hl : lv_has ls nL ((i, zcv ad v) :: (zcl ad lv).filter (fun q => !(q.1 == i) && !(q.1 + 1 == i && q.2.category == 2)))) : lv_has ls nL (zcl ad (zst lv i v)) := by
  refine ⟨hl.1, hl.2.1, fun q hq => hl.2.2 q ?_⟩
  obtain ⟨z, hz, rfl⟩ := List.mem_map.mp hq
  unfold zk1 at hk
  rw [Bool.and_eq_true] at hk
  rcases zst_mem hk.1 hz with rfl | ⟨h1, h2⟩
  · exact List.mem_cons_self
  · refine List.mem_cons_of_mem _ (List.mem_filter.mpr ⟨List.mem_map.mpr ⟨z, h1, rfl⟩, ?_⟩)
    have h3 := List.all_eq_true.mp hk.2 z h1
    show (!(z.1 == i) && !(z.1 + 1 == i && (zcv ad z.2).category == 2)) = true
    rw [zcv_cat]
    have h4 : (z.1 == i) = false := by simpa using h2
    rw [h4]
    simp [zbq] at h3 ⊢
    exact h3
theorem zst_has2 {ad : Nat → Nat} {ls : Array Slot} {nL i : Nat} {v : Value} (hk : zk2 lv i = true) (hl : lv_has ls nL ((i, zcv ad v) :: (zcl ad lv).filter (fun q => !(q.1 == i) && (!(q.1 == i + 1) && !(q.1 + 1 == i && q.2.category == 2))))) : lv_has ls nL (zcl ad (zst lv i v)) := by
  refine ⟨hl.1, hl.2.1, fun q hq => hl.2.2 q ?_⟩
  obtain ⟨z, hz, rfl⟩ := List.mem_map.mp hq
  unfold zk2 at hk
  rw [Bool.and_eq_true] at hk
  rcases zst_mem hk.1 hz with rfl | ⟨h1, h2⟩
  · exact List.mem_cons_self
  · refine List.mem_cons_of_mem _ (List.mem_filter.mpr ⟨List.mem_map.mpr ⟨z, h1, rfl⟩, ?_⟩)
    have h3 := List.all_eq_true.mp hk.2 z h1
    show (!(z.1 == i) && (!(z.1 == i + 1) && !(z.1 + 1 == i && (zcv ad z.2).category == 2))) = true
    rw [zcv_cat]
    have h4 : (z.1 == i) = false := by simpa using h2
    rw [h4]
    simp [zbq] at h3 ⊢
    exact ⟨h3.2, h3.1⟩
/-- fewer locals -/
theorem s_take (n : Nat) (k : zG Z M d Q N pc (lv.take n) st w) : zG Z M d Q N pc lv st w := by
  intro p l e R s m args below meth c A D cy QQ ad0 C E ad H locs ls I hl
  exact k p l e R s m args below meth c A D cy QQ ad0 C E ad H locs ls I ⟨hl.1, hl.2.1, fun q hq => hl.2.2 q (by
    obtain ⟨z, hz, rfl⟩ := List.mem_map.mp hq
    exact List.mem_map.mpr ⟨z, List.mem_of_mem_take hz, rfl⟩)⟩
/-- other locals, all among these -/
theorem s_lv (lv' : List (Nat × Value)) (h : lv'.all (fun q => decide (zlk lv q.1 = some q.2)) = true ∨ ∀ q ∈ lv', zlk lv q.1 = some q.2) (k : zG Z M d Q N pc lv' st w) : zG Z M d Q N pc lv st w := by
  have h : ∀ q ∈ lv', zlk lv q.1 = some q.2 := by
    rcases h with h | h
    · exact fun q hq => of_decide_eq_true (List.all_eq_true.mp h q hq)
    · exact h
  intro p l e R s m args below meth c A D cy QQ ad0 C E ad H locs ls I hl
  exact k p l e R s m args below meth c A D cy QQ ad0 C E ad H locs ls I ⟨hl.1, hl.2.1, fun q hq => by
    obtain ⟨z, hz, rfl⟩ := List.mem_map.mp hq
    exact zlk_has hl (h z hz)⟩
theorem s_iload_n {k : Fin 4} {x : Int32} (hd : decode M.2.2.1 pc = .ok (.iload_n k, 1)) (hv : zlk lv k = some (.int x)) (kk : zG Z M d Q N (pc + 1) lv (.int x :: st) w) : zG Z M d Q N pc lv st w := by
  intro p l e R s m args below meth c A D cy QQ ad0 C E ad H locs ls I hl
  exact lv_iload_n C.1 C.2.1 hd rfl (zlk_has hl hv) (kk p l e R s m args below meth c A D cy QQ ad0 C E ad H locs ls I hl)
theorem s_iload {i : Nat} {x : Int32} (hd : decode M.2.2.1 pc = .ok (.iload i, 2)) (hv : zlk lv i = some (.int x)) (kk : zG Z M d Q N (pc + 2) lv (.int x :: st) w) : zG Z M d Q N pc lv st w := by
  intro p l e R s m args below meth c A D cy QQ ad0 C E ad H locs ls I hl
  exact lv_iload C.1 C.2.1 hd (zlk_has hl hv) (kk p l e R s m args below meth c A D cy QQ ad0 C E ad H locs ls I hl)
theorem s_lload_n {k : Fin 4} {x : Int64} (hd : decode M.2.2.1 pc = .ok (.lload_n k, 1)) (hv : zlk lv k = some (.long x)) (kk : zG Z M d Q N (pc + 1) lv (.long x :: st) w) : zG Z M d Q N pc lv st w := by
  intro p l e R s m args below meth c A D cy QQ ad0 C E ad H locs ls I hl
  exact lv_lload_n C.1 C.2.1 hd rfl (zlk_has hl hv) (kk p l e R s m args below meth c A D cy QQ ad0 C E ad H locs ls I hl)
theorem s_lload {i : Nat} {x : Int64} (hd : decode M.2.2.1 pc = .ok (.lload i, 2)) (hv : zlk lv i = some (.long x)) (kk : zG Z M d Q N (pc + 2) lv (.long x :: st) w) : zG Z M d Q N pc lv st w := by
  intro p l e R s m args below meth c A D cy QQ ad0 C E ad H locs ls I hl
  exact lv_lload C.1 C.2.1 hd (zlk_has hl hv) (kk p l e R s m args below meth c A D cy QQ ad0 C E ad H locs ls I hl)
theorem s_fload_n {k : Fin 4} {x : UInt32} (hd : decode M.2.2.1 pc = .ok (.fload_n k, 1)) (hv : zlk lv k = some (.float x)) (kk : zG Z M d Q N (pc + 1) lv (.float x :: st) w) : zG Z M d Q N pc lv st w := by
  intro p l e R s m args below meth c A D cy QQ ad0 C E ad H locs ls I hl
  exact lv_fload_n C.1 C.2.1 hd rfl (zlk_has hl hv) (kk p l e R s m args below meth c A D cy QQ ad0 C E ad H locs ls I hl)
theorem s_fload {i : Nat} {x : UInt32} (hd : decode M.2.2.1 pc = .ok (.fload i, 2)) (hv : zlk lv i = some (.float x)) (kk : zG Z M d Q N (pc + 2) lv (.float x :: st) w) : zG Z M d Q N pc lv st w := by
  intro p l e R s m args below meth c A D cy QQ ad0 C E ad H locs ls I hl
  exact lv_fload C.1 C.2.1 hd (zlk_has hl hv) (kk p l e R s m args below meth c A D cy QQ ad0 C E ad H locs ls I hl)
theorem s_dload_n {k : Fin 4} {x : UInt64} (hd : decode M.2.2.1 pc = .ok (.dload_n k, 1)) (hv : zlk lv k = some (.double x)) (kk : zG Z M d Q N (pc + 1) lv (.double x :: st) w) : zG Z M d Q N pc lv st w := by
  intro p l e R s m args below meth c A D cy QQ ad0 C E ad H locs ls I hl
  exact lv_dload_n C.1 C.2.1 hd rfl (zlk_has hl hv) (kk p l e R s m args below meth c A D cy QQ ad0 C E ad H locs ls I hl)
theorem s_dload {i : Nat} {x : UInt64} (hd : decode M.2.2.1 pc = .ok (.dload i, 2)) (hv : zlk lv i = some (.double x)) (kk : zG Z M d Q N (pc + 2) lv (.double x :: st) w) : zG Z M d Q N pc lv st w := by
  intro p l e R s m args below meth c A D cy QQ ad0 C E ad H locs ls I hl
  exact lv_dload C.1 C.2.1 hd (zlk_has hl hv) (kk p l e R s m args below meth c A D cy QQ ad0 C E ad H locs ls I hl)
theorem s_aload_n {k : Fin 4} {x : Nat} (hd : decode M.2.2.1 pc = .ok (.aload_n k, 1)) (hv : zlk lv k = some (.ref x)) (kk : zG Z M d Q N (pc + 1) lv (.ref x :: st) w) : zG Z M d Q N pc lv st w := by
  intro p l e R s m args below meth c A D cy QQ ad0 C E ad H locs ls I hl
  exact lv_aload_n C.1 C.2.1 hd rfl (zlk_has hl hv) (kk p l e R s m args below meth c A D cy QQ ad0 C E ad H locs ls I hl)
theorem s_aload {i : Nat} {x : Nat} (hd : decode M.2.2.1 pc = .ok (.aload i, 2)) (hv : zlk lv i = some (.ref x)) (kk : zG Z M d Q N (pc + 2) lv (.ref x :: st) w) : zG Z M d Q N pc lv st w := by
  intro p l e R s m args below meth c A D cy QQ ad0 C E ad H locs ls I hl
  exact lv_aload C.1 C.2.1 hd (zlk_has hl hv) (kk p l e R s m args below meth c A D cy QQ ad0 C E ad H locs ls I hl)
theorem s_istore_n {k : Fin 4} {x : Int32} (hd : decode M.2.2.1 pc = .ok (.istore_n k, 1)) (hn : (k : Nat) < M.2.2.2.1) (hk : zk1 lv k = true) (kk : zG Z M d Q N (pc + 1) (zst lv k (.int x)) st w) : zG Z M d Q N pc lv (.int x :: st) w := by
  intro p l e R s m args below meth c A D cy QQ ad0 C E ad H locs ls I hl
  exact lv_istore_n C.1 C.2.1 hd rfl hl hn rfl (fun ls2 hl2 => kk p l e R s m args below meth c A D cy QQ ad0 C E ad H locs ls2 I (zst_has1 hk hl2))
theorem s_istore {i : Nat} {x : Int32} (hd : decode M.2.2.1 pc = .ok (.istore i, 2)) (hn : i < M.2.2.2.1) (hk : zk1 lv i = true) (kk : zG Z M d Q N (pc + 2) (zst lv i (.int x)) st w) : zG Z M d Q N pc lv (.int x :: st) w := by
  intro p l e R s m args below meth c A D cy QQ ad0 C E ad H locs ls I hl
  exact lv_istore C.1 C.2.1 hd hl hn rfl (fun ls2 hl2 => kk p l e R s m args below meth c A D cy QQ ad0 C E ad H locs ls2 I (zst_has1 hk hl2))
theorem s_fstore_n {k : Fin 4} {x : UInt32} (hd : decode M.2.2.1 pc = .ok (.fstore_n k, 1)) (hn : (k : Nat) < M.2.2.2.1) (hk : zk1 lv k = true) (kk : zG Z M d Q N (pc + 1) (zst lv k (.float x)) st w) : zG Z M d Q N pc lv (.float x :: st) w := by
  intro p l e R s m args below meth c A D cy QQ ad0 C E ad H locs ls I hl
  exact lv_fstore_n C.1 C.2.1 hd rfl hl hn rfl (fun ls2 hl2 => kk p l e R s m args below meth c A D cy QQ ad0 C E ad H locs ls2 I (zst_has1 hk hl2))
theorem s_fstore {i : Nat} {x : UInt32} (hd : decode M.2.2.1 pc = .ok (.fstore i, 2)) (hn : i < M.2.2.2.1) (hk : zk1 lv i = true) (kk : zG Z M d Q N (pc + 2) (zst lv i (.float x)) st w) : zG Z M d Q N pc lv (.float x :: st) w := by
  intro p l e R s m args below meth c A D cy QQ ad0 C E ad H locs ls I hl
  exact lv_fstore C.1 C.2.1 hd hl hn rfl (fun ls2 hl2 => kk p l e R s m args below meth c A D cy QQ ad0 C E ad H locs ls2 I (zst_has1 hk hl2))
theorem s_astore_n {k : Fin 4} {x : Nat} (hd : decode M.2.2.1 pc = .ok (.astore_n k, 1)) (hn : (k : Nat) < M.2.2.2.1) (hk : zk1 lv k = true) (kk : zG Z M d Q N (pc + 1) (zst lv k (.ref x)) st w) : zG Z M d Q N pc lv (.ref x :: st) w := by
  intro p l e R s m args below meth c A D cy QQ ad0 C E ad H locs ls I hl
  exact lv_astore_n C.1 C.2.1 hd rfl hl hn rfl (fun ls2 hl2 => kk p l e R s m args below meth c A D cy QQ ad0 C E ad H locs ls2 I (zst_has1 hk hl2))
theorem s_astore {i : Nat} {x : Nat} (hd : decode M.2.2.1 pc = .ok (.astore i, 2)) (hn : i < M.2.2.2.1) (hk : zk1 lv i = true) (kk : zG Z M d Q N (pc + 2) (zst lv i (.ref x)) st w) : zG Z M d Q N pc lv (.ref x :: st) w := by
  intro p l e R s m args below meth c A D cy QQ ad0 C E ad H locs ls I hl
  exact lv_astore C.1 C.2.1 hd hl hn rfl (fun ls2 hl2 => kk p l e R s m args below meth c A D cy QQ ad0 C E ad H locs ls2 I (zst_has1 hk hl2))
theorem s_lstore_n {k : Fin 4} {x : Int64} (hd : decode M.2.2.1 pc = .ok (.lstore_n k, 1)) (hn : (k : Nat) + 1 < M.2.2.2.1) (hk : zk2 lv k = true) (kk : zG Z M d Q N (pc + 1) (zst lv k (.long x)) st w) : zG Z M d Q N pc lv (.long x :: st) w := by
  intro p l e R s m args below meth c A D cy QQ ad0 C E ad H locs ls I hl
  exact lv_lstore_n C.1 C.2.1 hd rfl hl hn rfl (fun ls2 hl2 => kk p l e R s m args below meth c A D cy QQ ad0 C E ad H locs ls2 I (zst_has2 hk hl2))
theorem s_lstore {i : Nat} {x : Int64} (hd : decode M.2.2.1 pc = .ok (.lstore i, 2)) (hn : i + 1 < M.2.2.2.1) (hk : zk2 lv i = true) (kk : zG Z M d Q N (pc + 2) (zst lv i (.long x)) st w) : zG Z M d Q N pc lv (.long x :: st) w := by
  intro p l e R s m args below meth c A D cy QQ ad0 C E ad H locs ls I hl
  exact lv_lstore C.1 C.2.1 hd hl hn rfl (fun ls2 hl2 => kk p l e R s m args below meth c A D cy QQ ad0 C E ad H locs ls2 I (zst_has2 hk hl2))
theorem s_dstore_n {k : Fin 4} {x : UInt64} (hd : decode M.2.2.1 pc = .ok (.dstore_n k, 1)) (hn : (k : Nat) + 1 < M.2.2.2.1) (hk : zk2 lv k = true) (kk : zG Z M d Q N (pc + 1) (zst lv k (.double x)) st w) : zG Z M d Q N pc lv (.double x :: st) w := by
  intro p l e R s m args below meth c A D cy QQ ad0 C E ad H locs ls I hl
  exact lv_dstore_n C.1 C.2.1 hd rfl hl hn rfl (fun ls2 hl2 => kk p l e R s m args below meth c A D cy QQ ad0 C E ad H locs ls2 I (zst_has2 hk hl2))
theorem s_dstore {i : Nat} {x : UInt64} (hd : decode M.2.2.1 pc = .ok (.dstore i, 2)) (hn : i + 1 < M.2.2.2.1) (hk : zk2 lv i = true) (kk : zG Z M d Q N (pc + 2) (zst lv i (.double x)) st w) : zG Z M d Q N pc lv (.double x :: st) w := by
  intro p l e R s m args below meth c A D cy QQ ad0 C E ad H locs ls I hl
  exact lv_dstore C.1 C.2.1 hd hl hn rfl (fun ls2 hl2 => kk p l e R s m args below meth c A D cy QQ ad0 C E ad H locs ls2 I (zst_has2 hk hl2))
theorem s_iinc {i : Nat} {n : Int} {x : Int32} (v : Int32) (hd : decode M.2.2.1 pc = .ok (.iinc i n, 3)) (hv : zlk lv i = some (.int x)) (hx : x + Int32.ofInt n = v) (hn : i < M.2.2.2.1) (hk : zk1 lv i = true) (kk : zG Z M d Q N (pc + 3) (zst lv i (.int v)) st w) : zG Z M d Q N pc lv st w := by
  intro p l e R s m args below meth c A D cy QQ ad0 C E ad H locs ls I hl
  have hm : (i, Value.int x) ∈ zcl ad lv := List.mem_map.mpr ⟨(i, .int x), zlk_mem hv, rfl⟩
  obtain ⟨k, hk2⟩ := List.getElem?_of_mem hm
  exact lv_iinc C.1 C.2.1 hd hl hk2 hx hn rfl (fun ls2 hl2 => kk p l e R s m args below meth c A D cy QQ ad0 C E ad H locs ls2 I (zst_has1 hk hl2))
/-- the end -/
theorem s_ret {r : List Value} (hr : zRet M pc r) (hq : Q r w) (hN : w.length = N + M.2.2.2.2.2) : zG Z M d Q N pc lv r w := by
  intro p l e R s m args below meth c A D cy QQ ad0 C E ad H locs ls I hl
  have h := E r w ad H locs pc ls hq hN I hr
  rw [hN, Nat.add_sub_cancel_left]
  exact h
theorem s_iret {x : Int32} (hd : decode M.2.2.1 pc = .ok (.ireturn, 1)) (hM : M.2.2.2.2.1 = some .int) (hq : Q [.int x] w) (hN : w.length = N + M.2.2.2.2.2) : zG Z M d Q N pc lv [.int x] w := s_ret (Or.inr (Or.inl ⟨hM, hd, x, rfl⟩)) hq hN
theorem s_zret {x : Int32} (hd : decode M.2.2.1 pc = .ok (.ireturn, 1)) (hM : M.2.2.2.2.1 = some .boolean) (hx : x = 0 ∨ x = 1) (hq : Q [.int x] w) (hN : w.length = N + M.2.2.2.2.2) : zG Z M d Q N pc lv [.int x] w := s_ret (Or.inr (Or.inr (Or.inl ⟨hM, hd, x, rfl, hx⟩))) hq hN
theorem s_lret {x : Int64} (hd : decode M.2.2.1 pc = .ok (.lreturn, 1)) (hM : M.2.2.2.2.1 = some .long) (hq : Q [.long x] w) (hN : w.length = N + M.2.2.2.2.2) : zG Z M d Q N pc lv [.long x] w := s_ret (Or.inr (Or.inr (Or.inr (Or.inl ⟨hM, hd, x, rfl⟩)))) hq hN
theorem s_fret {x : UInt32} (hd : decode M.2.2.1 pc = .ok (.freturn, 1)) (hM : M.2.2.2.2.1 = some .float) (hq : Q [.float x] w) (hN : w.length = N + M.2.2.2.2.2) : zG Z M d Q N pc lv [.float x] w := s_ret (Or.inr (Or.inr (Or.inr (Or.inr (Or.inl ⟨hM, hd, x, rfl⟩))))) hq hN
theorem s_dret {x : UInt64} (hd : decode M.2.2.1 pc = .ok (.dreturn, 1)) (hM : M.2.2.2.2.1 = some .double) (hq : Q [.double x] w) (hN : w.length = N + M.2.2.2.2.2) : zG Z M d Q N pc lv [.double x] w := s_ret (Or.inr (Or.inr (Or.inr (Or.inr (Or.inr ⟨hM, hd, x, rfl⟩))))) hq hN
theorem s_vret (hd : decode M.2.2.1 pc = .ok (.return_, 1)) (hM : M.2.2.2.2.1 = none) (hq : Q [] w) (hN : w.length = N + M.2.2.2.2.2) : zG Z M d Q N pc lv [] w := s_ret (Or.inl ⟨hM, hd, rfl⟩) hq hN
/-- a branch whose way is known -/
theorem s_conv {Q' : List Value → zW → Prop} (h : ∀ r w, Q' r w → Q r w) (k : zG Z M d Q' N pc lv st w) : zG Z M d Q N pc lv st w := by
  intro p l e R s m args below meth c A D cy QQ ad0 C E ad H locs ls I hl
  exact k p l e R s m args below meth c A D cy QQ ad0 C (fun r w ad H locs pc ls hq => E r w ad H locs pc ls (h r w hq)) ad H locs ls I hl
end ZA
end
section
/-! ===== rows of the small machine: cells ===== -/
def zTy (ci : Nat) : Nat → FieldType := match ci with
  | 0 => tyX2
  | 1 => tyX3
  | 2 => tyX4
  | 3 => tyX5
  | 4 => tyX6
  | 5 => tyX7
  | _ => tyX8
def zdef (ci : Nat) : List Value := match ci with
  | 0 => [.int 0, .int 0, .null, .null, .null]
  | 1 => [.null, .null, .int 0]
  | 2 => [.int 0, .int 0, .null, .null, .null, .null]
  | 3 => [.null, .int 0, .int 0]
  | 4 => [.null, .int 0]
  | 5 => [.null, .null, .int 0, .null, .null, .null]
  | _ => [.null, .null, .null, .null, .null, .null, .null, .int 0, .int 0, .null, .null, .null, .int 0, .int 0, .int 0, .null, .null, .int 0, .null, .null, .null, .null, .int 0, .int 0, .null, .int 0, .int 0, .int 0, .null, .null, .null, .null]
def zall (C : String) (T : u_T) (n : Nat) : Bool := (u_ws C T n).all (fun w => decide (w ∈ lw_tbl) && goodWord w)
theorem zall_in {C : String} {T : u_T} {n : Nat} (h : zall C T n = true) : ∀ w ∈ u_ws C T n, w ∈ zGW := fun w hw => by
  have h1 := List.all_eq_true.mp h w hw
  rw [Bool.and_eq_true] at h1
  exact List.mem_filter.mpr ⟨of_decide_eq_true h1.1, h1.2⟩
theorem zu2 : zall RX2 TX2 5 = true := by decide +kernel
theorem zu3 : zall RX3 TX3 3 = true := by decide +kernel
theorem zu4 : zall RX4 TX4 6 = true := by decide +kernel
theorem zu5 : zall RX5 TX5 3 = true := by decide +kernel
theorem zu6 : zall RX6 TX6 2 = true := by decide +kernel
theorem zu7 : zall RX7 TX7 6 = true := by decide +kernel
theorem zu8 : zall RX8 TX8 32 = true := by decide +kernel
theorem zd2 : ∀ j, j < 5 → defaultValue (tyX2 j) = vp_V (zdef 0) j := by decide +kernel
theorem zd3 : ∀ j, j < 3 → defaultValue (tyX3 j) = vp_V (zdef 1) j := by decide +kernel
theorem zd4 : ∀ j, j < 6 → defaultValue (tyX4 j) = vp_V (zdef 2) j := by decide +kernel
theorem zd5 : ∀ j, j < 3 → defaultValue (tyX5 j) = vp_V (zdef 3) j := by decide +kernel
theorem zd6 : ∀ j, j < 2 → defaultValue (tyX6 j) = vp_V (zdef 4) j := by decide +kernel
theorem zd7 : ∀ j, j < 6 → defaultValue (tyX7 j) = vp_V (zdef 5) j := by decide +kernel
theorem zd8 : ∀ j, j < 32 → defaultValue (tyX8 j) = vp_V (zdef 6) j := by decide +kernel
theorem zcls : ∀ (ci : Nat) (q : vw_C), vwCl[ci]? = some q → (∀ w ∈ u_ws q.1 q.2.1 q.2.2, w ∈ zGW) ∧ (∀ k, k < q.2.2 → parseFieldDescriptor (q.2.1 k).2.2.1 = some (zTy ci k)) ∧ (∀ a, a < q.2.2 → ∀ b, b < q.2.2 → a ≠ b → (q.2.1 a).2.1 ≠ (q.2.1 b).2.1) ∧ (∀ j, j < q.2.2 → defaultValue (zTy ci j) = vp_V (zdef ci) j) ∧ q.2.2 ≤ 32 ∧ ∀ ad, (zdef ci).map (zcv ad) = zdef ci
  | 0, q, h => by cases h; exact ⟨zall_in zu2, tyX2_ok, nmX2, zd2, by decide, fun _ => rfl⟩
  | 1, q, h => by cases h; exact ⟨zall_in zu3, tyX3_ok, nmX3, zd3, by decide, fun _ => rfl⟩
  | 2, q, h => by cases h; exact ⟨zall_in zu4, tyX4_ok, nmX4, zd4, by decide, fun _ => rfl⟩
  | 3, q, h => by cases h; exact ⟨zall_in zu5, tyX5_ok, nmX5, zd5, by decide, fun _ => rfl⟩
  | 4, q, h => by cases h; exact ⟨zall_in zu6, tyX6_ok, nmX6, zd6, by decide, fun _ => rfl⟩
  | 5, q, h => by cases h; exact ⟨zall_in zu7, tyX7_ok, nmX7, zd7, by decide, fun _ => rfl⟩
  | 6, q, h => by cases h; exact ⟨zall_in zu8, tyX8_ok, nmX8, zd8, by decide, fun _ => rfl⟩
  | n + 7, q, h => by simp [vwCl] at h
def zFl (own : String) (idx ci k : Nat) (fin : Bool) : Prop := ∃ q : vw_C, vwCl[ci]? = some q ∧ k < q.2.2 ∧ (q.2.1 k).2.2.2 = fin ∧ (q.2.1 k).1 = q.1 ∧ (Cond.fieldLink own idx (q.2.1 k).1 (q.2.1 k).2.1 (q.2.1 k).2.2.1 ∈ zGW ∨ ∃ host, Cond.fieldLinkNest own idx (q.2.1 k).1 (q.2.1 k).2.1 (q.2.1 k).2.2.1 host ∈ zNW)
def zcle (n : Nat) (e : va_E) : Prop := match e with
  | .inl (_, _, .inr (.inr (.inr (.inr f)))) => ∀ j i, f j = some i → i < n
  | .inl _ => True
  | .inr (_, fs) => ∀ v ∈ fs, ∀ i : Nat, v = Value.ref i → i < n
def zclw (w : zW) : Prop := ∀ e ∈ w, zcle w.length e
def zcln (n : Nat) (l : List Value) : Prop := ∀ v ∈ l, ∀ i : Nat, v = Value.ref i → i < n ∨ n + 1 ≤ i
theorem zcle_mono {n k : Nat} (h : n ≤ k) {e : va_E} (he : zcle n e) : zcle k e := by
  match e, he with
  | .inl (_, _, .inl f), _ => exact trivial
  | .inl (_, _, .inr (.inl f)), _ => exact trivial
  | .inl (_, _, .inr (.inr (.inl f))), _ => exact trivial
  | .inl (_, _, .inr (.inr (.inr (.inl f)))), _ => exact trivial
  | .inl (_, _, .inr (.inr (.inr (.inr f)))), he => exact fun j i hj => Nat.lt_of_lt_of_le (he j i hj) h
  | .inr (_, fs), he => exact fun v hv i hi => Nat.lt_of_lt_of_le (he v hv i hi) h
theorem zclw_push {w : zW} {e : va_E} (h : zclw w) (he : zcle (w.length + 1) e) : zclw (w ++ [e]) := by
  intro x hx
  rw [List.length_append]
  rcases List.mem_append.mp hx with h1 | h1
  · exact zcle_mono (Nat.le_add_right _ _) (h x h1)
  · rw [List.mem_singleton.mp h1]; exact he
theorem zclw_set {w : zW} {k : Nat} {e : va_E} (h : zclw w) (he : zcle w.length e) : zclw (w.set k e) := by
  intro x hx
  rw [List.length_set]
  rcases List.mem_or_eq_of_mem_set hx with h1 | h1
  · exact h x h1
  · rw [h1]; exact he
theorem zce_same {ad ad' : Nat → Nat} {n : Nat} {cy : Nat → ClassId} (h : ∀ i, i ≠ n → ad' i = ad i) {e : va_E} (he : zcle n e) : zce ad' cy e = zce ad cy e := by
  match e, he with
  | .inl (_, _, .inl f), _ => rfl
  | .inl (_, _, .inr (.inl f)), _ => rfl
  | .inl (_, _, .inr (.inr (.inl f))), _ => rfl
  | .inl (_, _, .inr (.inr (.inr (.inl f)))), _ => rfl
  | .inl (t, m, .inr (.inr (.inr (.inr f)))), he =>
    have e : (fun j => (f j).map ad') = (fun j => (f j).map ad) := by
      funext j
      cases hf : f j with
      | none => rfl
      | some i => exact congrArg some (h i (Nat.ne_of_lt (he j i hf)))
    show Sum.inl (cy t, m, Sum.inr (Sum.inr (Sum.inr (Sum.inr (fun j => (f j).map ad'))))) = _
    rw [e]
    rfl
  | .inr (ci, fs), he =>
    have e : fs.map (zcv ad') = fs.map (zcv ad) := List.map_congr_left (fun v hv => by
      cases v with
      | ref i => exact congrArg Value.ref (h i (Nat.ne_of_lt (he _ hv i rfl)))
      | _ => rfl)
    show Sum.inr (ci, fs.map (zcv ad')) = _
    rw [e]
    rfl
theorem zcw_same {ad ad' : Nat → Nat} {cy : Nat → ClassId} {w : zW} (h : ∀ i, i ≠ w.length → ad' i = ad i) (hw : zclw w) : zcw ad' cy w = zcw ad cy w := by
  apply List.ext_getElem?
  intro i
  rw [zcw_get, zcw_get]
  cases hi : w[i]? with
  | none => rfl
  | some e =>
    have hlt : i < w.length := (List.getElem?_eq_some_iff.mp hi).1
    show some (ad' i, zce ad' cy e) = some (ad i, zce ad cy e)
    rw [h i (Nat.ne_of_lt hlt), zce_same h (hw e (List.mem_of_getElem? hi))]
theorem zcln_same {n : Nat} {ad ad' : Nat → Nat} (h : ∀ i, i ≠ n → ad' i = ad i) {st : List Value} (hv : zcln n st) : st.map (zcv ad') = st.map (zcv ad) :=
  List.map_congr_left (fun v hm => by
    cases v with
    | ref i => exact congrArg Value.ref (h i (fun z => by have q := hv _ hm i rfl; rw [z] at q; omega))
    | _ => rfl)
theorem zcll_same {n : Nat} {ad ad' : Nat → Nat} (h : ∀ i, i ≠ n → ad' i = ad i) {lv : List (Nat × Value)} (hv : zcln n (lv.map (fun q => q.2))) : zcl ad' lv = zcl ad lv :=
  List.map_congr_left (fun q hm => by
    have h1 := hv q.2 (List.mem_map.mpr ⟨q, hm, rfl⟩)
    obtain ⟨a, v⟩ := q
    cases v with
    | ref i => exact congrArg (fun z => (a, Value.ref z)) (h i (fun z => by have q := h1 i rfl; rw [z] at q; omega))
    | _ => rfl)
section ZH
variable {Z : zS} {M : zM} {d : Nat} {Q : List Value → zW → Prop} {N : Nat} {pc : Nat} {lv : List (Nat × Value)} {st : List Value} {w : zW} {idx q ci k : Nat} {fs : List Value} {v : Value}
theorem s_get {fin : Bool} (hd : decode M.2.2.1 pc = .ok (.getfield idx, 3)) (L : zFl M.1 idx ci k fin) (hw : w[q]? = some (.inr (ci, fs))) (hv : fs[k]? = some v) (kk : zG Z M d Q N (pc + 3) lv (v :: st) w) : zG Z M d Q N pc lv (.ref q :: st) w := by
  intro p l e R s m args below meth c A D cy QQ ad0 C E ad H locs ls I hl
  obtain ⟨iP, iD, iS, i1, i2, i3, i4⟩ := id I
  obtain ⟨hx, hb, hml, hown, hts, hN, hAO, hK, hA, hRo, hfr, hlo, hce, hsl, hnm⟩ := id C
  obtain ⟨qc, hc, hk, -, -, hl1 | ⟨host, hl1⟩⟩ := L
  · exact va_get (Ts := zGW) hx hb hts (zcls ci qc hc).1 hown hK iP q (zcw_at hw) hc k hk (hts _ hl1) (fun _ h => h) (v := zcv ad v) (by rw [List.getElem?_map, hv]; rfl) hd (kk p l e R s m args below meth c A D cy QQ ad0 C E ad H locs ls I hl)
  · exact va_getN (Ts := zGW) hx hb hts (zcls ci qc hc).1 hown hK iP q (zcw_at hw) hc k hk (va_Nw.use rfl (hN _ hl1)) (fun _ h => h) (v := zcv ad v) (by rw [List.getElem?_map, hv]; rfl) hd (kk p l e R s m args below meth c A D cy QQ ad0 C E ad H locs ls I hl)
theorem s_put (hd : decode M.2.2.1 pc = .ok (.putfield idx, 3)) (L : zFl M.1 idx ci k false) (hw : w[q]? = some (.inr (ci, fs))) (hnf : ∀ ad : Nat → Nat, narrow (zTy ci k) (zcv ad v) = zcv ad v ∧ fits (zTy ci k) (zcv ad v) = true) (hk1 : k < fs.length) (kk : zG Z M d Q N (pc + 3) lv st (w.set q (.inr (ci, fs.set k v)))) : zG Z M d Q N pc lv (v :: .ref q :: st) w := by
  intro p l e R s m args below meth c A D cy QQ ad0 C E ad H locs ls I hl
  obtain ⟨iP, iD, iS, i1, i2, i3, i4⟩ := id I
  obtain ⟨hx, hb, hml, hown, hts, hN, hAO, hK, hA, hRo, hfr, hlo, hce, hsl, hnm⟩ := id C
  obtain ⟨qc, hc, hk, hfin, -, hl1⟩ := L
  obtain ⟨z1, z2, z3, z4, z5, z6⟩ := zcls ci qc hc
  have ee : zcw ad cy (w.set q (.inr (ci, fs.set k v))) = (zcw ad cy w).set q (ad q, .inr (ci, (fs.map (zcv ad)).set k (zcv ad v))) := by
    rw [zcw_set]
    show _ = (zcw ad cy w).set q (ad q, Sum.inr (ci, (fs.map (zcv ad)).set k (zcv ad v)))
    rw [← List.map_set]
    rfl
  have fin : ∀ (H1 : Heap) (locs1 : List Loc), va_P D vwCl ((zcw ad cy w).set q (ad q, .inr (ci, (fs.map (zcv ad)).set k (zcv ad v)))) H1 → va_D A ((zcw ad cy w).set q (ad q, .inr (ci, (fs.map (zcv ad)).set k (zcv ad v)))) → va_S A s.heap H1 locs1 → W p l e R s m args below meth c H1 locs1 (w.length - N) (800 * (w.length - N)) QQ (F0 m (pc + 3) ls (st.map (zcv ad))) := by
    intro H1 locs1 h1 h2 h3
    have K := kk p l e R s m args below meth c A D cy QQ ad0 C E ad H1 locs1 ls ⟨by rw [ee]; exact h1, by rw [ee]; exact h2, h3, by rw [List.length_set]; exact i1, by rw [List.length_set]; exact i2, i3, by rw [List.length_set]; exact i4⟩ hl
    rw [List.length_set] at K
    exact K
  rcases hl1 with hl1 | ⟨host, hl1⟩
  · exact va_put (Ts := zGW) hx hb hts z1 (zTy ci) z2 z3 hown hK iP iD iS q (zcw_at hw) hc k hk (hts _ hl1) (fun _ h => h) hfin (z2 k hk) (hnf ad).1 (hnf ad).2 (by rw [List.length_map]; exact hk1) hd fin
  · exact va_putN (Ts := zGW) hx hb hts z1 (zTy ci) z2 z3 hown hK iP iD iS q (zcw_at hw) hc k hk (va_Nw.use rfl (hN _ hl1)) (fun _ h => h) hfin (z2 k hk) (hnf ad).1 (hnf ad).2 (by rw [List.length_map]; exact hk1) hd fin
/-- a final field, in its own constructor -/
theorem s_putF (hd : decode M.2.2.1 pc = .ok (.putfield idx, 3)) (L : zFl M.1 idx ci k true) (hin : M.2.1.name = "<init>") (hC : ∀ qc : vw_C, vwCl[ci]? = some qc → qc.1 = M.1) (hw : w[q]? = some (.inr (ci, fs))) (hnf : ∀ ad : Nat → Nat, narrow (zTy ci k) (zcv ad v) = zcv ad v ∧ fits (zTy ci k) (zcv ad v) = true) (hk1 : k < fs.length) (hp : ∀ qc : vw_C, vwCl[ci]? = some qc → Cond.fieldLink M.1 idx (qc.2.1 k).1 (qc.2.1 k).2.1 (qc.2.1 k).2.2.1 ∈ zGW) (kk : zG Z M d Q N (pc + 3) lv st (w.set q (.inr (ci, fs.set k v)))) : zG Z M d Q N pc lv (v :: .ref q :: st) w := by
  intro p l e R s m args below meth c A D cy QQ ad0 C E ad H locs ls I hl
  obtain ⟨iP, iD, iS, i1, i2, i3, i4⟩ := id I
  obtain ⟨hx, hb, hml, hown, hts, hN, hAO, hK, hA, hRo, hfr, hlo, hce, hsl, hnm⟩ := id C
  obtain ⟨qc, hc, hk, hfin, hcl, -⟩ := L
  obtain ⟨z1, z2, z3, z4, z5, z6⟩ := zcls ci qc hc
  have ee : zcw ad cy (w.set q (.inr (ci, fs.set k v))) = (zcw ad cy w).set q (ad q, .inr (ci, (fs.map (zcv ad)).set k (zcv ad v))) := by
    rw [zcw_set]
    show _ = (zcw ad cy w).set q (ad q, Sum.inr (ci, (fs.map (zcv ad)).set k (zcv ad v)))
    rw [← List.map_set]
    rfl
  have fin : ∀ (H1 : Heap) (locs1 : List Loc), va_P D vwCl ((zcw ad cy w).set q (ad q, .inr (ci, (fs.map (zcv ad)).set k (zcv ad v)))) H1 → va_D A ((zcw ad cy w).set q (ad q, .inr (ci, (fs.map (zcv ad)).set k (zcv ad v)))) → va_S A s.heap H1 locs1 → W p l e R s m args below meth c H1 locs1 (w.length - N) (800 * (w.length - N)) QQ (F0 m (pc + 3) ls (st.map (zcv ad))) := by
    intro H1 locs1 h1 h2 h3
    have K := kk p l e R s m args below meth c A D cy QQ ad0 C E ad H1 locs1 ls ⟨by rw [ee]; exact h1, by rw [ee]; exact h2, h3, by rw [List.length_set]; exact i1, by rw [List.length_set]; exact i2, i3, by rw [List.length_set]; exact i4⟩ hl
    rw [List.length_set] at K
    exact K
  exact va_putF (Ts := zGW) hx hb hts z1 (zTy ci) z2 z3 hown hK iP iD iS q (zcw_at hw) hc k hk (hts _ (hp qc hc)) (fun _ h => h) hfin (hnm.trans hin) (hcl.trans (hC qc hc)) (z2 k hk) (hnf ad).1 (hnf ad).2 (by rw [List.length_map]; exact hk1) hd fin
/-- a new object -/
theorem s_new {qc : vw_C} (hd : decode M.2.2.1 pc = .ok (.new idx, 3)) (hc : vwCl[ci]? = some qc) (h1 : Cond.classLink M.1 idx qc.1 ∈ zGW) (h2 : Cond.instantiable qc.1 qc.2.2 ∈ zGW) (h3 : Cond.initialized qc.1 ∈ zGW) (hroom : w.length + 1 ≤ N + M.2.2.2.2.2) (hcw : zclw w) (hcv : zcln w.length (lv.map (fun q => q.2))) (hcs : zcln w.length st) (kk : zG Z M d Q N (pc + 3) lv (.ref w.length :: st) (w ++ [.inr (ci, zdef ci)])) : zG Z M d Q N pc lv st w := by
  intro p l e R s m args below meth c A D cy QQ ad0 C E ad H locs ls I hl
  obtain ⟨iP, iD, iS, i1, i2, i3, i4⟩ := id I
  obtain ⟨hx, hb, hml, hown, hts, hN, hAO, hK, hA, hRo, hfr, hlo, hce, hsl, hnm⟩ := id C
  obtain ⟨z1, z2, z3, z4, z5, z6⟩ := zcls ci qc hc
  refine va_new (Ts := zGW) (fs := zdef ci) hx hb hts z1 (zTy ci) z2 hown (hts _ h1) (hts _ h2) (hts _ h3) hK iP iD iS hA hc z4 (by omega) (by omega) hd (fun a H1 gP gD gS => ?_)
  have had : ∀ i, i ≠ w.length → (fun i => if i = w.length then a else ad i) i = ad i := fun i hi => if_neg hi
  have ee : zcw (fun i => if i = w.length then a else ad i) cy (w ++ [.inr (ci, zdef ci)]) = zcw ad cy w ++ [(a, .inr (ci, zdef ci))] := by
    rw [zcw_push, zcw_same had hcw]
    show zcw ad cy w ++ [((if w.length = w.length then a else ad w.length), Sum.inr (ci, (zdef ci).map (zcv _)))] = _
    rw [if_pos rfl, z6]
  have K := kk p l e R s m args below meth c A D cy QQ ad0 C E (fun i => if i = w.length then a else ad i) H1 locs ls ⟨by rw [ee]; exact gP, by rw [ee]; exact gD, gS, by rw [List.length_append]; show N ≤ w.length + 1; omega, by rw [List.length_append]; show w.length + 1 ≤ _; omega, i3, fun i hi => by
    rw [List.length_append] at hi
    have hi : i < N ∨ w.length + 1 ≤ i := hi
    rw [had i (by omega)]
    exact i4 i (by omega)⟩ (by rw [zcll_same had hcv]; exact hl)
  rw [List.length_append] at K
  have e1 : w.length + [(Sum.inr (ci, zdef ci) : va_E)].length - N = w.length - N + 1 := by
    show w.length + 1 - N = w.length - N + 1
    omega
  rw [e1, List.map_cons, zcln_same had hcs] at K
  have e2 : zcv (fun i => if i = w.length then a else ad i) (.ref w.length) = .ref a := by
    show Value.ref (if w.length = w.length then a else ad w.length) = _
    rw [if_pos rfl]
  rw [e2] at K
  exact W.widen (Nat.le_refl _) (by omega) K
theorem s_newaI {n : Int32} (n1 : Nat) (hd : decode M.2.2.1 pc = .ok (.newarray .int, 2)) (h1 : Cond.arrayClass (newarray.typeOf .int) ∈ zGW) (hn : ¬ n < 0) (hn1 : n.toNatClampNeg = n1) (hn2 : n1 ≤ 800) (hroom : w.length + 1 ≤ N + M.2.2.2.2.2) (hcw : zclw w) (hcv : zcln w.length (lv.map (fun q => q.2))) (hcs : zcln w.length st) (kk : zG Z M d Q N (pc + 2) lv (.ref w.length :: st) (w ++ [.inl (0, n1, .inl (fun _ => 0))])) : zG Z M d Q N pc lv (.int n :: st) w := by
  intro p l e R s m args below meth c A D cy QQ ad0 C E ad H locs ls I hl
  obtain ⟨iP, iD, iS, i1, i2, i3, i4⟩ := id I
  obtain ⟨hx, hb, hml, hown, hts, hN, hAO, hK, hA, hRo, hfr, hlo, hce, hsl, hnm⟩ := id C
  refine va_newa (atype := .int) (ty := .int) (a0 := (n1, .inl (fun _ => 0))) (N' := n1) hx hb (hts _ h1) rfl hK iP iD iS hA (fun _ => rfl) hn hn1 (Nat.le_trans (Nat.mul_le_mul hn2 (show componentBytes .int ≤ 8 by decide)) (by decide)) (by omega) (by omega) hd (fun a cA H1 gK gP gD gS => ?_)
  have hcA : cA = cy 0 := by
    have g1 := (gK.2 5 (cA, .int) rfl).2
    have g2 := (gK.2 0 (cy 0, .int) rfl).2
    exact Option.some.inj (Eq.trans (Eq.symm g1) g2)
  subst hcA
  have had : ∀ i, i ≠ w.length → (fun i => if i = w.length then a else ad i) i = ad i := fun i hi => if_neg hi
  have ee : zcw (fun i => if i = w.length then a else ad i) cy (w ++ [.inl (0, n1, .inl (fun _ => 0))]) = zcw ad cy w ++ [(a, .inl (cy 0, n1, .inl (fun _ => 0)))] := by
    rw [zcw_push, zcw_same had hcw]
    show zcw ad cy w ++ [((if w.length = w.length then a else ad w.length), Sum.inl (cy 0, n1, .inl (fun _ => 0)))] = _
    rw [if_pos rfl]
  have K := kk p l e R s m args below meth c A D cy QQ ad0 C E (fun i => if i = w.length then a else ad i) H1 locs ls ⟨by rw [ee]; exact gP, by rw [ee]; exact gD, gS, by rw [List.length_append]; show N ≤ w.length + 1; omega, by rw [List.length_append]; show w.length + 1 ≤ _; omega, i3, fun i hi => by
    rw [List.length_append] at hi
    have hi : i < N ∨ w.length + 1 ≤ i := hi
    rw [had i (by omega)]
    exact i4 i (by omega)⟩ (by rw [zcll_same had hcv]; exact hl)
  rw [List.length_append] at K
  have e1 : w.length + [(Sum.inl (0, n1, .inl (fun _ => 0)) : va_E)].length - N = w.length - N + 1 := by
    show w.length + 1 - N = w.length - N + 1
    omega
  rw [e1, List.map_cons, zcln_same had hcs] at K
  have e2 : zcv (fun i => if i = w.length then a else ad i) (.ref w.length) = .ref a := by
    show Value.ref (if w.length = w.length then a else ad w.length) = _
    rw [if_pos rfl]
  rw [e2] at K
  exact W.widen (Nat.le_refl _) (by omega) K
theorem s_newaJ {n : Int32} (n1 : Nat) (hd : decode M.2.2.1 pc = .ok (.newarray .long, 2)) (h1 : Cond.arrayClass (newarray.typeOf .long) ∈ zGW) (hn : ¬ n < 0) (hn1 : n.toNatClampNeg = n1) (hn2 : n1 ≤ 800) (hroom : w.length + 1 ≤ N + M.2.2.2.2.2) (hcw : zclw w) (hcv : zcln w.length (lv.map (fun q => q.2))) (hcs : zcln w.length st) (kk : zG Z M d Q N (pc + 2) lv (.ref w.length :: st) (w ++ [.inl (1, n1, .inr (.inl (fun _ => 0)))])) : zG Z M d Q N pc lv (.int n :: st) w := by
  intro p l e R s m args below meth c A D cy QQ ad0 C E ad H locs ls I hl
  obtain ⟨iP, iD, iS, i1, i2, i3, i4⟩ := id I
  obtain ⟨hx, hb, hml, hown, hts, hN, hAO, hK, hA, hRo, hfr, hlo, hce, hsl, hnm⟩ := id C
  refine va_newa (atype := .long) (ty := .long) (a0 := (n1, .inr (.inl (fun _ => 0)))) (N' := n1) hx hb (hts _ h1) rfl hK iP iD iS hA (fun _ => rfl) hn hn1 (Nat.le_trans (Nat.mul_le_mul hn2 (show componentBytes .long ≤ 8 by decide)) (by decide)) (by omega) (by omega) hd (fun a cA H1 gK gP gD gS => ?_)
  have hcA : cA = cy 1 := by
    have g1 := (gK.2 5 (cA, .long) rfl).2
    have g2 := (gK.2 1 (cy 1, .long) rfl).2
    exact Option.some.inj (Eq.trans (Eq.symm g1) g2)
  subst hcA
  have had : ∀ i, i ≠ w.length → (fun i => if i = w.length then a else ad i) i = ad i := fun i hi => if_neg hi
  have ee : zcw (fun i => if i = w.length then a else ad i) cy (w ++ [.inl (1, n1, .inr (.inl (fun _ => 0)))]) = zcw ad cy w ++ [(a, .inl (cy 1, n1, .inr (.inl (fun _ => 0))))] := by
    rw [zcw_push, zcw_same had hcw]
    show zcw ad cy w ++ [((if w.length = w.length then a else ad w.length), Sum.inl (cy 1, n1, .inr (.inl (fun _ => 0))))] = _
    rw [if_pos rfl]
  have K := kk p l e R s m args below meth c A D cy QQ ad0 C E (fun i => if i = w.length then a else ad i) H1 locs ls ⟨by rw [ee]; exact gP, by rw [ee]; exact gD, gS, by rw [List.length_append]; show N ≤ w.length + 1; omega, by rw [List.length_append]; show w.length + 1 ≤ _; omega, i3, fun i hi => by
    rw [List.length_append] at hi
    have hi : i < N ∨ w.length + 1 ≤ i := hi
    rw [had i (by omega)]
    exact i4 i (by omega)⟩ (by rw [zcll_same had hcv]; exact hl)
  rw [List.length_append] at K
  have e1 : w.length + [(Sum.inl (1, n1, .inr (.inl (fun _ => 0))) : va_E)].length - N = w.length - N + 1 := by
    show w.length + 1 - N = w.length - N + 1
    omega
  rw [e1, List.map_cons, zcln_same had hcs] at K
  have e2 : zcv (fun i => if i = w.length then a else ad i) (.ref w.length) = .ref a := by
    show Value.ref (if w.length = w.length then a else ad w.length) = _
    rw [if_pos rfl]
  rw [e2] at K
  exact W.widen (Nat.le_refl _) (by omega) K
theorem s_newaB {n : Int32} (n1 : Nat) (hd : decode M.2.2.1 pc = .ok (.newarray .byte, 2)) (h1 : Cond.arrayClass (newarray.typeOf .byte) ∈ zGW) (hn : ¬ n < 0) (hn1 : n.toNatClampNeg = n1) (hn2 : n1 ≤ 800) (hroom : w.length + 1 ≤ N + M.2.2.2.2.2) (hcw : zclw w) (hcv : zcln w.length (lv.map (fun q => q.2))) (hcs : zcln w.length st) (kk : zG Z M d Q N (pc + 2) lv (.ref w.length :: st) (w ++ [.inl (2, n1, .inl (fun _ => 0))])) : zG Z M d Q N pc lv (.int n :: st) w := by
  intro p l e R s m args below meth c A D cy QQ ad0 C E ad H locs ls I hl
  obtain ⟨iP, iD, iS, i1, i2, i3, i4⟩ := id I
  obtain ⟨hx, hb, hml, hown, hts, hN, hAO, hK, hA, hRo, hfr, hlo, hce, hsl, hnm⟩ := id C
  refine va_newa (atype := .byte) (ty := .byte) (a0 := (n1, .inl (fun _ => 0))) (N' := n1) hx hb (hts _ h1) rfl hK iP iD iS hA (fun _ => rfl) hn hn1 (Nat.le_trans (Nat.mul_le_mul hn2 (show componentBytes .byte ≤ 8 by decide)) (by decide)) (by omega) (by omega) hd (fun a cA H1 gK gP gD gS => ?_)
  have hcA : cA = cy 2 := by
    have g1 := (gK.2 5 (cA, .byte) rfl).2
    have g2 := (gK.2 2 (cy 2, .byte) rfl).2
    exact Option.some.inj (Eq.trans (Eq.symm g1) g2)
  subst hcA
  have had : ∀ i, i ≠ w.length → (fun i => if i = w.length then a else ad i) i = ad i := fun i hi => if_neg hi
  have ee : zcw (fun i => if i = w.length then a else ad i) cy (w ++ [.inl (2, n1, .inl (fun _ => 0))]) = zcw ad cy w ++ [(a, .inl (cy 2, n1, .inl (fun _ => 0)))] := by
    rw [zcw_push, zcw_same had hcw]
    show zcw ad cy w ++ [((if w.length = w.length then a else ad w.length), Sum.inl (cy 2, n1, .inl (fun _ => 0)))] = _
    rw [if_pos rfl]
  have K := kk p l e R s m args below meth c A D cy QQ ad0 C E (fun i => if i = w.length then a else ad i) H1 locs ls ⟨by rw [ee]; exact gP, by rw [ee]; exact gD, gS, by rw [List.length_append]; show N ≤ w.length + 1; omega, by rw [List.length_append]; show w.length + 1 ≤ _; omega, i3, fun i hi => by
    rw [List.length_append] at hi
    have hi : i < N ∨ w.length + 1 ≤ i := hi
    rw [had i (by omega)]
    exact i4 i (by omega)⟩ (by rw [zcll_same had hcv]; exact hl)
  rw [List.length_append] at K
  have e1 : w.length + [(Sum.inl (2, n1, .inl (fun _ => 0)) : va_E)].length - N = w.length - N + 1 := by
    show w.length + 1 - N = w.length - N + 1
    omega
  rw [e1, List.map_cons, zcln_same had hcs] at K
  have e2 : zcv (fun i => if i = w.length then a else ad i) (.ref w.length) = .ref a := by
    show Value.ref (if w.length = w.length then a else ad w.length) = _
    rw [if_pos rfl]
  rw [e2] at K
  exact W.widen (Nat.le_refl _) (by omega) K
theorem s_newaZ {n : Int32} (n1 : Nat) (hd : decode M.2.2.1 pc = .ok (.newarray .boolean, 2)) (h1 : Cond.arrayClass (newarray.typeOf .boolean) ∈ zGW) (hn : ¬ n < 0) (hn1 : n.toNatClampNeg = n1) (hn2 : n1 ≤ 800) (hroom : w.length + 1 ≤ N + M.2.2.2.2.2) (hcw : zclw w) (hcv : zcln w.length (lv.map (fun q => q.2))) (hcs : zcln w.length st) (kk : zG Z M d Q N (pc + 2) lv (.ref w.length :: st) (w ++ [.inl (3, n1, .inl (fun _ => 0))])) : zG Z M d Q N pc lv (.int n :: st) w := by
  intro p l e R s m args below meth c A D cy QQ ad0 C E ad H locs ls I hl
  obtain ⟨iP, iD, iS, i1, i2, i3, i4⟩ := id I
  obtain ⟨hx, hb, hml, hown, hts, hN, hAO, hK, hA, hRo, hfr, hlo, hce, hsl, hnm⟩ := id C
  refine va_newa (atype := .boolean) (ty := .boolean) (a0 := (n1, .inl (fun _ => 0))) (N' := n1) hx hb (hts _ h1) rfl hK iP iD iS hA (fun _ => rfl) hn hn1 (Nat.le_trans (Nat.mul_le_mul hn2 (show componentBytes .boolean ≤ 8 by decide)) (by decide)) (by omega) (by omega) hd (fun a cA H1 gK gP gD gS => ?_)
  have hcA : cA = cy 3 := by
    have g1 := (gK.2 5 (cA, .boolean) rfl).2
    have g2 := (gK.2 3 (cy 3, .boolean) rfl).2
    exact Option.some.inj (Eq.trans (Eq.symm g1) g2)
  subst hcA
  have had : ∀ i, i ≠ w.length → (fun i => if i = w.length then a else ad i) i = ad i := fun i hi => if_neg hi
  have ee : zcw (fun i => if i = w.length then a else ad i) cy (w ++ [.inl (3, n1, .inl (fun _ => 0))]) = zcw ad cy w ++ [(a, .inl (cy 3, n1, .inl (fun _ => 0)))] := by
    rw [zcw_push, zcw_same had hcw]
    show zcw ad cy w ++ [((if w.length = w.length then a else ad w.length), Sum.inl (cy 3, n1, .inl (fun _ => 0)))] = _
    rw [if_pos rfl]
  have K := kk p l e R s m args below meth c A D cy QQ ad0 C E (fun i => if i = w.length then a else ad i) H1 locs ls ⟨by rw [ee]; exact gP, by rw [ee]; exact gD, gS, by rw [List.length_append]; show N ≤ w.length + 1; omega, by rw [List.length_append]; show w.length + 1 ≤ _; omega, i3, fun i hi => by
    rw [List.length_append] at hi
    have hi : i < N ∨ w.length + 1 ≤ i := hi
    rw [had i (by omega)]
    exact i4 i (by omega)⟩ (by rw [zcll_same had hcv]; exact hl)
  rw [List.length_append] at K
  have e1 : w.length + [(Sum.inl (3, n1, .inl (fun _ => 0)) : va_E)].length - N = w.length - N + 1 := by
    show w.length + 1 - N = w.length - N + 1
    omega
  rw [e1, List.map_cons, zcln_same had hcs] at K
  have e2 : zcv (fun i => if i = w.length then a else ad i) (.ref w.length) = .ref a := by
    show Value.ref (if w.length = w.length then a else ad w.length) = _
    rw [if_pos rfl]
  rw [e2] at K
  exact W.widen (Nat.le_refl _) (by omega) K
end ZH
end
section
/-! ===== rows of the small machine: arrays, the JDK's own ===== -/
section ZR
variable {Z : zS} {M : zM} {d : Nat} {Q : List Value → zW → Prop} {N : Nat} {pc : Nat} {lv : List (Nat × Value)} {st : List Value} {w : zW} {idx q : Nat} {n : Nat} {i : Int32}
/-- a cell of the world is set -/
theorem z_set {q : Nat} {e1 : va_E} (kk : zG Z M d Q N pc lv st (w.set q e1))
    {p : Program} {l : Launch} {e : Env} {R : Room} {s : State} {m : MethodId} {args : Array Value} {below : List Frame} {meth : Method} {c : Code} {A : Nat → Prop} {D : va_G} {cy : Nat → ClassId} {QQ : State → Prop} {ad0 ad : Nat → Nat} {H : Heap} {locs : List Loc} {ls : Array Slot}
    (C : zC Z M d p R s m args meth c A D cy ad0)
    (E : ∀ (r : List Value) (w : zW) (ad : Nat → Nat) (H : Heap) (locs : List Loc) (pc : Nat) (ls : Array Slot), Q r w → w.length = N + M.2.2.2.2.2 → zI M N A D cy ad0 ad s w H locs → zRet M pc r → W p l e R s m args below meth c H locs M.2.2.2.2.2 (800 * M.2.2.2.2.2) QQ (F0 m pc ls (r.map (zcv ad))))
    (I : zI M N A D cy ad0 ad s w H locs) (hl : lv_has ls M.2.2.2.1 (zcl ad lv)) {H1 : Heap} {locs1 : List Loc}
    (h1 : va_P D vwCl ((zcw ad cy w).set q (ad q, zce ad cy e1)) H1) (h2 : va_D A ((zcw ad cy w).set q (ad q, zce ad cy e1))) (h3 : va_S A s.heap H1 locs1) :
    W p l e R s m args below meth c H1 locs1 (w.length - N) (800 * (w.length - N)) QQ (F0 m pc ls (st.map (zcv ad))) := by
  obtain ⟨iP, iD, iS, i1, i2, i3, i4⟩ := I
  have K := kk p l e R s m args below meth c A D cy QQ ad0 C E ad H1 locs1 ls ⟨by rw [zcw_set]; exact h1, by rw [zcw_set]; exact h2, h3, by rw [List.length_set]; exact i1, by rw [List.length_set]; exact i2, i3, by rw [List.length_set]; exact i4⟩ hl
  rw [List.length_set] at K
  exact K
theorem s_iald {f : Nat → Int32} (hd : decode M.2.2.1 pc = .ok (.iaload, 1)) (hw : w[q]? = some (.inl (0, n, .inl f))) (hin : vp_in i n) (kk : zG Z M d Q N (pc + 1) lv (.int (f i.toNatClampNeg) :: st) w) : zG Z M d Q N pc lv (.int i :: .ref q :: st) w := by
  intro p l e R s m args below meth c A D cy QQ ad0 C E ad H locs ls I hl
  obtain ⟨iP, iD, iS, i1, i2, i3, i4⟩ := id I
  obtain ⟨hx, hb, hml, hown, hts, hN, hAO, hK, hA, hRo, hfr, hlo, hce, hsl, hnm⟩ := id C
  exact va_iald hx hb hK iP q 0 (zcw_at hw) rfl hin hd (kk p l e R s m args below meth c A D cy QQ ad0 C E ad H locs ls I hl)
theorem s_lald {f : Nat → Int64} (hd : decode M.2.2.1 pc = .ok (.laload, 1)) (hw : w[q]? = some (.inl (1, n, .inr (.inl f)))) (hin : vp_in i n) (kk : zG Z M d Q N (pc + 1) lv (.long (f i.toNatClampNeg) :: st) w) : zG Z M d Q N pc lv (.int i :: .ref q :: st) w := by
  intro p l e R s m args below meth c A D cy QQ ad0 C E ad H locs ls I hl
  obtain ⟨iP, iD, iS, i1, i2, i3, i4⟩ := id I
  obtain ⟨hx, hb, hml, hown, hts, hN, hAO, hK, hA, hRo, hfr, hlo, hce, hsl, hnm⟩ := id C
  exact va_lald hx hb hK iP q 1 (zcw_at hw) rfl hin hd (kk p l e R s m args below meth c A D cy QQ ad0 C E ad H locs ls I hl)
theorem s_bald {f : Nat → Int32} (hd : decode M.2.2.1 pc = .ok (.baload, 1)) (hw : w[q]? = some (.inl (2, n, .inl f))) (hin : vp_in i n) (kk : zG Z M d Q N (pc + 1) lv (.int (f i.toNatClampNeg) :: st) w) : zG Z M d Q N pc lv (.int i :: .ref q :: st) w := by
  intro p l e R s m args below meth c A D cy QQ ad0 C E ad H locs ls I hl
  obtain ⟨iP, iD, iS, i1, i2, i3, i4⟩ := id I
  obtain ⟨hx, hb, hml, hown, hts, hN, hAO, hK, hA, hRo, hfr, hlo, hce, hsl, hnm⟩ := id C
  exact va_bald hx hb hK iP q 2 (zcw_at hw) rfl hin hd (kk p l e R s m args below meth c A D cy QQ ad0 C E ad H locs ls I hl)
theorem s_zald {f : Nat → Int32} (hd : decode M.2.2.1 pc = .ok (.baload, 1)) (hw : w[q]? = some (.inl (3, n, .inl f))) (hin : vp_in i n) (kk : zG Z M d Q N (pc + 1) lv (.int (f i.toNatClampNeg) :: st) w) : zG Z M d Q N pc lv (.int i :: .ref q :: st) w := by
  intro p l e R s m args below meth c A D cy QQ ad0 C E ad H locs ls I hl
  obtain ⟨iP, iD, iS, i1, i2, i3, i4⟩ := id I
  obtain ⟨hx, hb, hml, hown, hts, hN, hAO, hK, hA, hRo, hfr, hlo, hce, hsl, hnm⟩ := id C
  exact va_zald hx hb hK iP q 3 (zcw_at hw) rfl hin hd (kk p l e R s m args below meth c A D cy QQ ad0 C E ad H locs ls I hl)
theorem s_iast {f : Nat → Int32} {x : Int32} (hd : decode M.2.2.1 pc = .ok (.iastore, 1)) (hw : w[q]? = some (.inl (0, n, .inl f))) (hin : vp_in i n) (kk : zG Z M d Q N (pc + 1) lv st (w.set q (.inl (0, n, .inl (upd f i.toNatClampNeg x))))) : zG Z M d Q N pc lv (.int x :: .int i :: .ref q :: st) w := by
  intro p l e R s m args below meth c A D cy QQ ad0 C E ad H locs ls I hl
  obtain ⟨iP, iD, iS, i1, i2, i3, i4⟩ := id I
  obtain ⟨hx, hb, hml, hown, hts, hN, hAO, hK, hA, hRo, hfr, hlo, hce, hsl, hnm⟩ := id C
  exact va_iast hx hb hK iP iD iS q 0 (zcw_at hw) rfl hin hd (fun H1 locs1 h1 h2 h3 => z_set kk C E I hl h1 h2 h3)
theorem s_last {f : Nat → Int64} {x : Int64} (hd : decode M.2.2.1 pc = .ok (.lastore, 1)) (hw : w[q]? = some (.inl (1, n, .inr (.inl f)))) (hin : vp_in i n) (kk : zG Z M d Q N (pc + 1) lv st (w.set q (.inl (1, n, .inr (.inl (vp_updL f i.toNatClampNeg x)))))) : zG Z M d Q N pc lv (.long x :: .int i :: .ref q :: st) w := by
  intro p l e R s m args below meth c A D cy QQ ad0 C E ad H locs ls I hl
  obtain ⟨iP, iD, iS, i1, i2, i3, i4⟩ := id I
  obtain ⟨hx, hb, hml, hown, hts, hN, hAO, hK, hA, hRo, hfr, hlo, hce, hsl, hnm⟩ := id C
  exact va_last hx hb hK iP iD iS q 1 (zcw_at hw) rfl hin hd (fun H1 locs1 h1 h2 h3 => z_set kk C E I hl h1 h2 h3)
theorem s_bast {f : Nat → Int32} {x : Int32} (hd : decode M.2.2.1 pc = .ok (.bastore, 1)) (hw : w[q]? = some (.inl (2, n, .inl f))) (hin : vp_in i n) (kk : zG Z M d Q N (pc + 1) lv st (w.set q (.inl (2, n, .inl (upd f i.toNatClampNeg (vp_nar .byte x)))))) : zG Z M d Q N pc lv (.int x :: .int i :: .ref q :: st) w := by
  intro p l e R s m args below meth c A D cy QQ ad0 C E ad H locs ls I hl
  obtain ⟨iP, iD, iS, i1, i2, i3, i4⟩ := id I
  obtain ⟨hx, hb, hml, hown, hts, hN, hAO, hK, hA, hRo, hfr, hlo, hce, hsl, hnm⟩ := id C
  exact va_bast hx hb hK iP iD iS q 2 (zcw_at hw) rfl hin hd (fun H1 locs1 h1 h2 h3 => z_set kk C E I hl h1 h2 h3)
theorem s_zast {f : Nat → Int32} {x : Int32} (hd : decode M.2.2.1 pc = .ok (.bastore, 1)) (hw : w[q]? = some (.inl (3, n, .inl f))) (hin : vp_in i n) (kk : zG Z M d Q N (pc + 1) lv st (w.set q (.inl (3, n, .inl (upd f i.toNatClampNeg (vp_nar .boolean x)))))) : zG Z M d Q N pc lv (.int x :: .int i :: .ref q :: st) w := by
  intro p l e R s m args below meth c A D cy QQ ad0 C E ad H locs ls I hl
  obtain ⟨iP, iD, iS, i1, i2, i3, i4⟩ := id I
  obtain ⟨hx, hb, hml, hown, hts, hN, hAO, hK, hA, hRo, hfr, hlo, hce, hsl, hnm⟩ := id C
  exact va_zast hx hb hK iP iD iS q 3 (zcw_at hw) rfl hin hd (fun H1 locs1 h1 h2 h3 => z_set kk C E I hl h1 h2 h3)
theorem s_aald {f : Nat → Option Nat} {a : Nat} (hd : decode M.2.2.1 pc = .ok (.aaload, 1)) (hw : w[q]? = some (.inl (4, n, .inr (.inr (.inr (.inr f)))))) (hin : vp_in i n) (hf : f i.toNatClampNeg = some a) (kk : zG Z M d Q N (pc + 1) lv (.ref a :: st) w) : zG Z M d Q N pc lv (.int i :: .ref q :: st) w := by
  intro p l e R s m args below meth c A D cy QQ ad0 C E ad H locs ls I hl
  obtain ⟨iP, iD, iS, i1, i2, i3, i4⟩ := id I
  obtain ⟨hx, hb, hml, hown, hts, hN, hAO, hK, hA, hRo, hfr, hlo, hce, hsl, hnm⟩ := id C
  refine va_aldq hx hb hK iP q 4 (zcw_at hw) rfl hin hd ?_
  have K := kk p l e R s m args below meth c A D cy QQ ad0 C E ad H locs ls I hl
  show W p l e R s m args below meth c H locs (w.length - N) (800 * (w.length - N)) QQ (F0 m (pc + 1) ls (va_rf ((f i.toNatClampNeg).map ad) :: st.map (zcv ad)))
  rw [hf]
  exact K
theorem s_aast {f : Nat → Option Nat} {a : Nat} {vs : List Value} (hd : decode M.2.2.1 pc = .ok (.aastore, 1)) (hw : w[q]? = some (.inl (4, n, .inr (.inr (.inr (.inr f)))))) (ho : w[a]? = some (.inr (3, vs))) (hin : vp_in i n) (kk : zG Z M d Q N (pc + 1) lv st (w.set q (.inl (4, n, .inr (.inr (.inr (.inr (va_up f i.toNatClampNeg (some a))))))))) : zG Z M d Q N pc lv (.ref a :: .int i :: .ref q :: st) w := by
  intro p l e R s m args below meth c A D cy QQ ad0 C E ad H locs ls I hl
  obtain ⟨iP, iD, iS, i1, i2, i3, i4⟩ := id I
  obtain ⟨hx, hb, hml, hown, hts, hN, hAO, hK, hA, hRo, hfr, hlo, hce, hsl, hnm⟩ := id C
  refine va_astq (r := (RX5, TX5, 3)) hx hb hK iP iD iS q 4 a 3 (zcw_at hw) rfl (zcw_at ho) rfl hin hd (fun H1 locs1 h1 h2 h3 => ?_)
  have e1 : zce ad cy (.inl (4, n, .inr (.inr (.inr (.inr (va_up f i.toNatClampNeg (some a))))))) = .inl (cy 4, n, .inr (.inr (.inr (.inr (va_up (fun j => (f j).map ad) i.toNatClampNeg (some (ad a))))))) := by
    show Sum.inl (cy 4, n, Sum.inr (Sum.inr (Sum.inr (Sum.inr (fun j => (va_up f i.toNatClampNeg (some a) j).map ad))))) = _
    have e2 : (fun j => (va_up f i.toNatClampNeg (some a) j).map ad) = va_up (fun j => (f j).map ad) i.toNatClampNeg (some (ad a)) := by
      funext j
      unfold va_up
      by_cases hj : j = i.toNatClampNeg
      · simp [hj]
      · simp [hj]
    rw [e2]
  exact z_set kk C E I hl (by rw [e1]; exact h1) (by rw [e1]; exact h2) h3
theorem s_alenI {f : Nat → Int32} (v : Int32) (hd : decode M.2.2.1 pc = .ok (.arraylength, 1)) (hw : w[q]? = some (.inl (0, n, .inl f))) (hv : Int32.ofNat n = v) (kk : zG Z M d Q N (pc + 1) lv (.int v :: st) w) : zG Z M d Q N pc lv (.ref q :: st) w := by
  intro p l e R s m args below meth c A D cy QQ ad0 C E ad H locs ls I hl
  obtain ⟨iP, iD, iS, i1, i2, i3, i4⟩ := id I
  obtain ⟨hx, hb, hml, hown, hts, hN, hAO, hK, hA, hRo, hfr, hlo, hce, hsl, hnm⟩ := id C
  exact va_alen hx hb hK iP q 0 (zcw_at hw) (ty := .int) rfl hv hd (kk p l e R s m args below meth c A D cy QQ ad0 C E ad H locs ls I hl)
/-- read-only arrays -/
theorem s_rald {v : Int32} (j : Nat) (hd : decode M.2.2.1 pc = .ok (.iaload, 1)) (hq : q = 1000 + j) (hj : j < 3) (hin : vp_in i (zRoT Z j).1) (hv : (zRoT Z j).2 i.toNatClampNeg = v) (kk : zG Z M d Q N (pc + 1) lv (.int v :: st) w) : zG Z M d Q N pc lv (.int i :: .ref q :: st) w := by
  intro p l e R s m args below meth c A D cy QQ ad0 C E ad H locs ls I hl
  obtain ⟨iP, iD, iS, i1, i2, i3, i4⟩ := id I
  obtain ⟨hx, hb, hml, hown, hts, hN, hAO, hK, hA, hRo, hfr, hlo, hce, hsl, hnm⟩ := id C
  subst hq
  have h0 := hRo.2.2 j hj
  rw [← i4 (1000 + j) (by omega)] at h0
  exact va_ti hx hb h0 iS hin (v := .int v) (by rw [hv]) hd (kk p l e R s m args below meth c A D cy QQ ad0 C E ad H locs ls I hl)
theorem s_rlen (j : Nat) (v : Int32) (hd : decode M.2.2.1 pc = .ok (.arraylength, 1)) (hq : q = 1000 + j) (hj : j < 3) (hv : Int32.ofNat (zRoT Z j).1 = v) (kk : zG Z M d Q N (pc + 1) lv (.int v :: st) w) : zG Z M d Q N pc lv (.ref q :: st) w := by
  intro p l e R s m args below meth c A D cy QQ ad0 C E ad H locs ls I hl
  obtain ⟨iP, iD, iS, i1, i2, i3, i4⟩ := id I
  obtain ⟨hx, hb, hml, hown, hts, hN, hAO, hK, hA, hRo, hfr, hlo, hce, hsl, hnm⟩ := id C
  subst hq
  have h0 := hRo.2.2 j hj
  rw [← i4 (1000 + j) (by omega)] at h0
  exact va_tlen hx hb h0 iS hv hd (kk p l e R s m args below meth c A D cy QQ ad0 C E ad H locs ls I hl)
theorem s_ord (hd : decode M.2.2.1 pc = .ok (.getstatic idx, 3)) (L : Cond.fieldLink M.1 idx "CubeBodies$Cube" "ORDERS" "[I" ∈ zGW) (kk : zG Z M d Q N (pc + 3) lv (.ref 1000 :: st) w) : zG Z M d Q N pc lv st w := by
  intro p l e R s m args below meth c A D cy QQ ad0 C E ad H locs ls I hl
  obtain ⟨iP, iD, iS, i1, i2, i3, i4⟩ := id I
  obtain ⟨hx, hb, hml, hown, hts, hN, hAO, hK, hA, hRo, hfr, hlo, hce, hsl, hnm⟩ := id C
  have h0 := hRo.1
  rw [← i4 1000 (by omega)] at h0
  exact va_gets hx hb h0 iS hown (hts _ L) (fun _ h => h) hd (kk p l e R s m args below meth c A D cy QQ ad0 C E ad H locs ls I hl)
theorem s_frm (hd : decode M.2.2.1 pc = .ok (.getstatic idx, 3)) (L : Cond.fieldLink M.1 idx "CubeBodies$Cube" "FORMS" "[I" ∈ zGW ∨ ∃ host, Cond.fieldLinkNest M.1 idx "CubeBodies$Cube" "FORMS" "[I" host ∈ zNW) (kk : zG Z M d Q N (pc + 3) lv (.ref 1001 :: st) w) : zG Z M d Q N pc lv st w := by
  intro p l e R s m args below meth c A D cy QQ ad0 C E ad H locs ls I hl
  obtain ⟨iP, iD, iS, i1, i2, i3, i4⟩ := id I
  obtain ⟨hx, hb, hml, hown, hts, hN, hAO, hK, hA, hRo, hfr, hlo, hce, hsl, hnm⟩ := id C
  have h0 := hRo.2.1
  rw [← i4 1001 (by omega)] at h0
  rcases L with L | ⟨host, L⟩
  · exact va_gets hx hb h0 iS hown (hts _ L) (fun _ h => h) hd (kk p l e R s m args below meth c A D cy QQ ad0 C E ad H locs ls I hl)
  · exact va_getsN hx hb h0 iS hown (va_Nw.use rfl (hN _ L)) (fun _ h => h) hd (kk p l e R s m args below meth c A D cy QQ ad0 C E ad H locs ls I hl)
theorem s_objInit (hd : decode M.2.2.1 pc = .ok (.invokespecial idx, 3)) (L : Cond.methodLink M.1 idx Lib.objectInit ∈ zGW) (L2 : Cond.instanceMethod Lib.objectInit ∈ zGW) (L3 : Cond.code Lib.objectInit ⟨#[0xb1]⟩ 1 none ∈ zGW) (hcat : (st.map fun v => v.category).sum ≤ 8) (kk : zG Z M (d + 1) Q N (pc + 3) lv st w) : zG Z M (d + 1) Q N pc lv (.ref q :: st) w := by
  intro p l e R s m args below meth c A D cy QQ ad0 C E ad H locs ls I hl
  obtain ⟨iP, iD, iS, i1, i2, i3, i4⟩ := id I
  obtain ⟨hx, hb, hml, hown, hts, hN, hAO, hK, hA, hRo, hfr, hlo, hce, hsl, hnm⟩ := id C
  refine W.objInit (g := F0 m pc ls ((Value.ref q :: st).map (zcv ad))) hx hb hown (hts _ L) (hts _ L2) (hts _ L3) rfl (by rw [hml]; exact hl.1) (rest := st.map (zcv ad)) rfl hd (by omega) ?_ (kk p l e R s m args below meth c A D cy QQ ad0 C E ad H locs ls I hl)
  show 2 * 0 + ((st.map (zcv ad)).map fun v => v.category).sum + 12 ≤ R.locals
  rw [zcv_cats]
  omega
theorem s_min {x y : Int32} (hd : decode M.2.2.1 pc = .ok (.invokestatic idx, 3)) (L : Cond.methodLink M.1 idx Lib.Math.min.name ∈ zGW) (L2 : Cond.static Lib.Math.min.name ∈ zGW) (L3 : Cond.initialized "java/lang/Math" ∈ zGW) (L4 : Cond.code Lib.Math.min.name Lib.Math.min.code 2 (some .int) ∈ zGW) (hcat : (st.map fun v => v.category).sum ≤ 8) (kk : zG Z M (d + 1) Q N (pc + 3) lv (.int (if y < x then y else x) :: st) w) : zG Z M (d + 1) Q N pc lv (.int y :: .int x :: st) w := by
  intro p l e R s m args below meth c A D cy QQ ad0 C E ad H locs ls I hl
  obtain ⟨iP, iD, iS, i1, i2, i3, i4⟩ := id I
  obtain ⟨hx, hb, hml, hown, hts, hN, hAO, hK, hA, hRo, hfr, hlo, hce, hsl, hnm⟩ := id C
  exact va_mmin hx hb (by rw [hml]; exact hl.1.symm) hown (hts _ L) (hts _ L2) (hts _ L3) (hts _ L4) (by omega) (by rw [zcv_cats]; omega) (by omega) (by omega) hd (kk p l e R s m args below meth c A D cy QQ ad0 C E ad H locs ls I hl)
theorem s_max {x y : Int32} (hd : decode M.2.2.1 pc = .ok (.invokestatic idx, 3)) (L : Cond.methodLink M.1 idx Lib.Math.max.name ∈ zGW) (L2 : Cond.static Lib.Math.max.name ∈ zGW) (L3 : Cond.initialized "java/lang/Math" ∈ zGW) (L4 : Cond.code Lib.Math.max.name Lib.Math.max.code 2 (some .int) ∈ zGW) (hcat : (st.map fun v => v.category).sum ≤ 8) (kk : zG Z M (d + 1) Q N (pc + 3) lv (.int (if x < y then y else x) :: st) w) : zG Z M (d + 1) Q N pc lv (.int y :: .int x :: st) w := by
  intro p l e R s m args below meth c A D cy QQ ad0 C E ad H locs ls I hl
  obtain ⟨iP, iD, iS, i1, i2, i3, i4⟩ := id I
  obtain ⟨hx, hb, hml, hown, hts, hN, hAO, hK, hA, hRo, hfr, hlo, hce, hsl, hnm⟩ := id C
  exact va_mmax hx hb (by rw [hml]; exact hl.1.symm) hown (hts _ L) (hts _ L2) (hts _ L3) (hts _ L4) (by omega) (by rw [zcv_cats]; omega) (by omega) (by omega) hd (kk p l e R s m args below meth c A D cy QQ ad0 C E ad H locs ls I hl)
theorem s_f2bits {b : UInt32} (hd : decode M.2.2.1 pc = .ok (.invokestatic idx, 3)) (L : Cond.methodLink M.1 idx ⟨"java/lang/Float", "floatToRawIntBits", "(F)I"⟩ ∈ zGW) (L2 : Cond.native ⟨"java/lang/Float", "floatToRawIntBits", "(F)I"⟩ ∈ zGW) (L3 : Cond.static ⟨"java/lang/Float", "floatToRawIntBits", "(F)I"⟩ ∈ zGW) (L4 : Cond.initialized "java/lang/Float" ∈ zGW) (hcat : (st.map fun v => v.category).sum ≤ 8) (kk : zG Z M (d + 1) Q N (pc + 3) lv (.int b.toInt32 :: st) w) : zG Z M (d + 1) Q N pc lv (.float b :: st) w := by
  intro p l e R s m args below meth c A D cy QQ ad0 C E ad H locs ls I hl
  obtain ⟨iP, iD, iS, i1, i2, i3, i4⟩ := id I
  obtain ⟨hx, hb, hml, hown, hts, hN, hAO, hK, hA, hRo, hfr, hlo, hce, hsl, hnm⟩ := id C
  exact vn_f2i hx hb (by rw [hml]; exact hl.1.symm) hown (hts _ L) (hts _ L2) (hts _ L3) (hts _ L4) (by omega) (by rw [zcv_cats]; omega) hd (kk p l e R s m args below meth c A D cy QQ ad0 C E ad H locs ls I hl)
theorem s_d2bits {b : UInt64} (hd : decode M.2.2.1 pc = .ok (.invokestatic idx, 3)) (L : Cond.methodLink M.1 idx ⟨"java/lang/Double", "doubleToRawLongBits", "(D)J"⟩ ∈ zGW) (L2 : Cond.native ⟨"java/lang/Double", "doubleToRawLongBits", "(D)J"⟩ ∈ zGW) (L3 : Cond.static ⟨"java/lang/Double", "doubleToRawLongBits", "(D)J"⟩ ∈ zGW) (L4 : Cond.initialized "java/lang/Double" ∈ zGW) (hcat : (st.map fun v => v.category).sum ≤ 8) (kk : zG Z M (d + 1) Q N (pc + 3) lv (.long b.toInt64 :: st) w) : zG Z M (d + 1) Q N pc lv (.double b :: st) w := by
  intro p l e R s m args below meth c A D cy QQ ad0 C E ad H locs ls I hl
  obtain ⟨iP, iD, iS, i1, i2, i3, i4⟩ := id I
  obtain ⟨hx, hb, hml, hown, hts, hN, hAO, hK, hA, hRo, hfr, hlo, hce, hsl, hnm⟩ := id C
  exact vn_d2l hx hb (by rw [hml]; exact hl.1.symm) hown (hts _ L) (hts _ L2) (hts _ L3) (hts _ L4) (by omega) (by rw [zcv_cats]; omega) hd (kk p l e R s m args below meth c A D cy QQ ad0 C E ad H locs ls I hl)
theorem s_copyI {q0 q1 n0 n1 : Nat} {f g : Nat → Int32} {sp dp k : Int32} (hd : decode M.2.2.1 pc = .ok (.invokestatic idx, 3)) (L : Cond.methodLink M.1 idx arraycopyName ∈ zGW) (L2 : Cond.native arraycopyName ∈ zGW) (L3 : Cond.static arraycopyName ∈ zGW) (L4 : Cond.initialized "java/lang/System" ∈ zGW) (h0 : w[q0]? = some (.inl (0, n0, .inl f))) (h1 : w[q1]? = some (.inl (0, n1, .inl g))) (b1 : ¬ sp < 0) (b2 : ¬ dp < 0) (b3 : ¬ k < 0) (b4 : sp.toNatClampNeg + k.toNatClampNeg ≤ n0) (b5 : dp.toNatClampNeg + k.toNatClampNeg ≤ n1) (hcat : (st.map fun v => v.category).sum ≤ 8) (kk : zG Z M (d + 1) Q N (pc + 3) lv st (w.set q1 (.inl (0, n1, .inl (va_cpy f g sp.toNatClampNeg dp.toNatClampNeg k.toNatClampNeg))))) : zG Z M (d + 1) Q N pc lv (.int k :: .int dp :: .ref q1 :: .int sp :: .ref q0 :: st) w := by
  intro p l e R s m args below meth c A D cy QQ ad0 C E ad H locs ls I hl
  obtain ⟨iP, iD, iS, i1, i2, i3, i4⟩ := id I
  obtain ⟨hx, hb, hml, hown, hts, hN, hAO, hK, hA, hRo, hfr, hlo, hce, hsl, hnm⟩ := id C
  have hn : nativeFrameWords "java/lang/System" "arraycopy" 5 = 7 := by decide +kernel
  exact va_copyi hx hb (by rw [hml]; exact hl.1.symm) hown (hts _ L) (hts _ L2) (hts _ L3) (hts _ L4) hK iP iD iS q0 q1 0 0 (ty := .int) (zcw_at h0) (zcw_at h1) rfl rfl rfl b1 b2 b3 b4 b5 (fun _ _ => rfl) (by omega) (by rw [zcv_cats, hn]; omega) hd (fun H1 locs1 g1 g2 g3 => z_set kk C E I hl g1 g2 g3)
theorem s_copyL {q0 q1 n0 n1 : Nat} {f g : Nat → Int64} {sp dp k : Int32} (hd : decode M.2.2.1 pc = .ok (.invokestatic idx, 3)) (L : Cond.methodLink M.1 idx arraycopyName ∈ zGW) (L2 : Cond.native arraycopyName ∈ zGW) (L3 : Cond.static arraycopyName ∈ zGW) (L4 : Cond.initialized "java/lang/System" ∈ zGW) (h0 : w[q0]? = some (.inl (1, n0, .inr (.inl f)))) (h1 : w[q1]? = some (.inl (1, n1, .inr (.inl g)))) (b1 : ¬ sp < 0) (b2 : ¬ dp < 0) (b3 : ¬ k < 0) (b4 : sp.toNatClampNeg + k.toNatClampNeg ≤ n0) (b5 : dp.toNatClampNeg + k.toNatClampNeg ≤ n1) (hcat : (st.map fun v => v.category).sum ≤ 8) (kk : zG Z M (d + 1) Q N (pc + 3) lv st (w.set q1 (.inl (1, n1, .inr (.inl (va_cpy f g sp.toNatClampNeg dp.toNatClampNeg k.toNatClampNeg)))))) : zG Z M (d + 1) Q N pc lv (.int k :: .int dp :: .ref q1 :: .int sp :: .ref q0 :: st) w := by
  intro p l e R s m args below meth c A D cy QQ ad0 C E ad H locs ls I hl
  obtain ⟨iP, iD, iS, i1, i2, i3, i4⟩ := id I
  obtain ⟨hx, hb, hml, hown, hts, hN, hAO, hK, hA, hRo, hfr, hlo, hce, hsl, hnm⟩ := id C
  have hn : nativeFrameWords "java/lang/System" "arraycopy" 5 = 7 := by decide +kernel
  exact va_copyl hx hb (by rw [hml]; exact hl.1.symm) hown (hts _ L) (hts _ L2) (hts _ L3) (hts _ L4) hK iP iD iS q0 q1 1 1 (ty := .long) (zcw_at h0) (zcw_at h1) rfl rfl rfl b1 b2 b3 b4 b5 (fun _ _ => rfl) (by omega) (by rw [zcv_cats, hn]; omega) hd (fun H1 locs1 g1 g2 g3 => z_set kk C E I hl g1 g2 g3)
theorem s_anew {k : Int32} (n1 : Nat) (hd : decode M.2.2.1 pc = .ok (.anewarray idx, 3)) (L : Cond.classLink M.1 idx "CubeBodies$Tape" ∈ zGW) (hn : ¬ k < 0) (hn1 : k.toNatClampNeg = n1) (hn2 : n1 ≤ 800) (hroom : w.length + 1 ≤ N + M.2.2.2.2.2) (hcw : zclw w) (hcv : zcln w.length (lv.map (fun q => q.2))) (hcs : zcln w.length st) (kk : zG Z M d Q N (pc + 3) lv (.ref w.length :: st) (w ++ [.inl (4, n1, .inr (.inr (.inr (.inr (fun _ => none)))))])) : zG Z M d Q N pc lv (.int k :: st) w := by
  intro p l e R s m args below meth c A D cy QQ ad0 C E ad H locs ls I hl
  obtain ⟨iP, iD, iS, i1, i2, i3, i4⟩ := id I
  obtain ⟨hx, hb, hml, hown, hts, hN, hAO, hK, hA, hRo, hfr, hlo, hce, hsl, hnm⟩ := id C
  refine va_newq hx hb hown (hts _ L) hAO hK iP iD iS hA (N' := n1) hn hn1 (Nat.le_trans (Nat.mul_le_mul hn2 (Nat.le_refl 4)) (by decide)) (by omega) (by omega) hd (fun a cA H1 gK gP gD gS => ?_)
  have hcA : cA = cy 4 := by
    obtain ⟨-, -, -, -, -, g1⟩ := (gK.2 5 (cA, .object "CubeBodies$Tape") rfl).2
    obtain ⟨-, -, -, -, -, g2⟩ := (gK.2 4 (cy 4, .object "CubeBodies$Tape") rfl).2
    exact Option.some.inj (Eq.trans (Eq.symm g1) g2)
  subst hcA
  have had : ∀ i, i ≠ w.length → (fun i => if i = w.length then a else ad i) i = ad i := fun i hi => if_neg hi
  have ee : zcw (fun i => if i = w.length then a else ad i) cy (w ++ [.inl (4, n1, .inr (.inr (.inr (.inr (fun _ => none)))))]) = zcw ad cy w ++ [(a, .inl (cy 4, n1, .inr (.inr (.inr (.inr (fun _ => none))))))] := by
    rw [zcw_push, zcw_same had hcw]
    show zcw ad cy w ++ [((if w.length = w.length then a else ad w.length), Sum.inl (cy 4, n1, Sum.inr (Sum.inr (Sum.inr (Sum.inr (fun _ => none))))))] = _
    rw [if_pos rfl]
  have K := kk p l e R s m args below meth c A D cy QQ ad0 C E (fun i => if i = w.length then a else ad i) H1 locs ls ⟨by rw [ee]; exact gP, by rw [ee]; exact gD, gS, by rw [List.length_append]; show N ≤ w.length + 1; omega, by rw [List.length_append]; show w.length + 1 ≤ _; omega, i3, fun i hi => by
    rw [List.length_append] at hi
    have hi : i < N ∨ w.length + 1 ≤ i := hi
    rw [had i (by omega)]
    exact i4 i (by omega)⟩ (by rw [zcll_same had hcv]; exact hl)
  rw [List.length_append] at K
  have e1 : w.length + [(Sum.inl (4, n1, Sum.inr (Sum.inr (Sum.inr (Sum.inr (fun _ => none))))) : va_E)].length - N = w.length - N + 1 := by
    show w.length + 1 - N = w.length - N + 1
    omega
  rw [e1, List.map_cons, zcln_same had hcs] at K
  have e2 : zcv (fun i => if i = w.length then a else ad i) (.ref w.length) = .ref a := by
    show Value.ref (if w.length = w.length then a else ad w.length) = _
    rw [if_pos rfl]
  rw [e2] at K
  exact W.widen (Nat.le_refl _) (by omega) K
end ZR
end
section
/-! ===== the methods, and what links to them ===== -/
abbrev M_X7_init : zM := (RX7, yX7_init, cX7_init, 2, none, 40)
theorem k_X7_init : zMok M_X7_init := ⟨zin 77 (by decide +kernel) (by decide +kernel), zin 59 (by decide +kernel) (by decide +kernel), by decide +kernel, ⟨by decide +kernel, by decide +kernel⟩, rfl, by decide⟩
abbrev M_X2_init : zM := (RX2, yX2_init, cX2_init, 1, none, 9)
theorem k_X2_init : zMok M_X2_init := ⟨zin 85 (by decide +kernel) (by decide +kernel), zin 60 (by decide +kernel) (by decide +kernel), by decide +kernel, ⟨by decide +kernel, by decide +kernel⟩, rfl, by decide⟩
abbrev M_X3_init : zM := (RX3, yX3_init, cX3_init, 1, none, 2)
theorem k_X3_init : zMok M_X3_init := ⟨zin 91 (by decide +kernel) (by decide +kernel), zin 61 (by decide +kernel) (by decide +kernel), by decide +kernel, ⟨by decide +kernel, by decide +kernel⟩, rfl, by decide⟩
abbrev M_X6_init : zM := (RX6, yX6_init, cX6_init, 1, none, 1)
theorem k_X6_init : zMok M_X6_init := ⟨zin 132 (by decide +kernel) (by decide +kernel), zin 62 (by decide +kernel) (by decide +kernel), by decide +kernel, ⟨by decide +kernel, by decide +kernel⟩, rfl, by decide⟩
abbrev M_X4_init : zM := (RX4, yX4_init, cX4_init, 1, none, 4)
theorem k_X4_init : zMok M_X4_init := ⟨zin 147 (by decide +kernel) (by decide +kernel), zin 63 (by decide +kernel) (by decide +kernel), by decide +kernel, ⟨by decide +kernel, by decide +kernel⟩, rfl, by decide⟩
abbrev M_X5_init : zM := (RX5, yX5_init, cX5_init, 1, none, 1)
theorem k_X5_init : zMok M_X5_init := ⟨zin 173 (by decide +kernel) (by decide +kernel), zin 64 (by decide +kernel) (by decide +kernel), by decide +kernel, ⟨by decide +kernel, by decide +kernel⟩, rfl, by decide⟩
abbrev M_X7_corner : zM := (RX7, yX7_corner, cX7_corner, 4, (some .int), 0)
theorem k_X7_corner : zMok M_X7_corner := ⟨zin 210 (by decide +kernel) (by decide +kernel), zin 59 (by decide +kernel) (by decide +kernel), by decide +kernel, ⟨by decide +kernel, by decide +kernel⟩, rfl, by decide⟩
abbrev M_X7_isCorner : zM := (RX7, yX7_isCorner, cX7_isCorner, 1, (some .boolean), 0)
theorem k_X7_isCorner : zMok M_X7_isCorner := ⟨zin 213 (by decide +kernel) (by decide +kernel), zin 59 (by decide +kernel) (by decide +kernel), by decide +kernel, ⟨by decide +kernel, by decide +kernel⟩, rfl, by decide⟩
abbrev M_X7_isBit : zM := (RX7, yX7_isBit, cX7_isBit, 1, (some .boolean), 0)
theorem k_X7_isBit : zMok M_X7_isBit := ⟨zin 216 (by decide +kernel) (by decide +kernel), zin 59 (by decide +kernel) (by decide +kernel), by decide +kernel, ⟨by decide +kernel, by decide +kernel⟩, rfl, by decide⟩
abbrev M_X7_bitOf : zM := (RX7, yX7_bitOf, cX7_bitOf, 2, (some .int), 0)
theorem k_X7_bitOf : zMok M_X7_bitOf := ⟨zin 219 (by decide +kernel) (by decide +kernel), zin 59 (by decide +kernel) (by decide +kernel), by decide +kernel, ⟨by decide +kernel, by decide +kernel⟩, rfl, by decide⟩
abbrev M_X7_code : zM := (RX7, yX7_code, cX7_code, 3, (some .int), 0)
theorem k_X7_code : zMok M_X7_code := ⟨zin 223 (by decide +kernel) (by decide +kernel), zin 59 (by decide +kernel) (by decide +kernel), by decide +kernel, ⟨by decide +kernel, by decide +kernel⟩, rfl, by decide⟩
abbrev M_X7_move : zM := (RX7, yX7_move, cX7_move, 2, (some .int), 0)
theorem k_X7_move : zMok M_X7_move := ⟨zin 227 (by decide +kernel) (by decide +kernel), zin 59 (by decide +kernel) (by decide +kernel), by decide +kernel, ⟨by decide +kernel, by decide +kernel⟩, rfl, by decide⟩
abbrev M_X7_isMove : zM := (RX7, yX7_isMove, cX7_isMove, 1, (some .boolean), 0)
theorem k_X7_isMove : zMok M_X7_isMove := ⟨zin 230 (by decide +kernel) (by decide +kernel), zin 59 (by decide +kernel) (by decide +kernel), by decide +kernel, ⟨by decide +kernel, by decide +kernel⟩, rfl, by decide⟩
abbrev M_X1_imageBy : zM := (RX1, yX1_imageBy, cX1_imageBy, 4, (some .int), 0)
theorem k_X1_imageBy : zMok M_X1_imageBy := ⟨zin 233 (by decide +kernel) (by decide +kernel), zin 66 (by decide +kernel) (by decide +kernel), by decide +kernel, ⟨by decide +kernel, by decide +kernel⟩, rfl, by decide⟩
abbrev M_X1_cornerBy : zM := (RX1, yX1_cornerBy, cX1_cornerBy, 6, (some .int), 0)
theorem k_X1_cornerBy : zMok M_X1_cornerBy := ⟨zin 237 (by decide +kernel) (by decide +kernel), zin 66 (by decide +kernel) (by decide +kernel), by decide +kernel, ⟨by decide +kernel, by decide +kernel⟩, rfl, by decide⟩
abbrev M_X7_becomes : zM := (RX7, yX7_becomes, cX7_becomes, 2, (some .int), 0)
theorem k_X7_becomes : zMok M_X7_becomes := ⟨zin 243 (by decide +kernel) (by decide +kernel), zin 59 (by decide +kernel) (by decide +kernel), by decide +kernel, ⟨by decide +kernel, by decide +kernel⟩, rfl, by decide⟩
abbrev M_X2_change : zM := (RX2, yX2_change, cX2_change, 2, none, 0)
theorem k_X2_change : zMok M_X2_change := ⟨zin 247 (by decide +kernel) (by decide +kernel), zin 60 (by decide +kernel) (by decide +kernel), by decide +kernel, ⟨by decide +kernel, by decide +kernel⟩, rfl, by decide⟩
abbrev M_X1_formOf : zM := (RX1, yX1_formOf, cX1_formOf, 3, (some .int), 0)
theorem k_X1_formOf : zMok M_X1_formOf := ⟨zin 250 (by decide +kernel) (by decide +kernel), zin 66 (by decide +kernel) (by decide +kernel), by decide +kernel, ⟨by decide +kernel, by decide +kernel⟩, rfl, by decide⟩
abbrev M_X7_keep : zM := (RX7, yX7_keep, cX7_keep, 1, (some .int), 0)
theorem k_X7_keep : zMok M_X7_keep := ⟨zin 258 (by decide +kernel) (by decide +kernel), zin 59 (by decide +kernel) (by decide +kernel), by decide +kernel, ⟨by decide +kernel, by decide +kernel⟩, rfl, by decide⟩
abbrev M_X7_feed : zM := (RX7, yX7_feed, cX7_feed, 2, (some .int), 0)
theorem k_X7_feed : zMok M_X7_feed := ⟨zin 262 (by decide +kernel) (by decide +kernel), zin 59 (by decide +kernel) (by decide +kernel), by decide +kernel, ⟨by decide +kernel, by decide +kernel⟩, rfl, by decide⟩
abbrev M_X6_append : zM := (RX6, yX6_append, cX6_append, 2, (some .int), 0)
theorem k_X6_append : zMok M_X6_append := ⟨zin 266 (by decide +kernel) (by decide +kernel), zin 62 (by decide +kernel) (by decide +kernel), by decide +kernel, ⟨by decide +kernel, by decide +kernel⟩, rfl, by decide⟩
abbrev M_X7_read : zM := (RX7, yX7_read, cX7_read, 3, (some .int), 0)
theorem k_X7_read : zMok M_X7_read := ⟨zin 270 (by decide +kernel) (by decide +kernel), zin 59 (by decide +kernel) (by decide +kernel), by decide +kernel, ⟨by decide +kernel, by decide +kernel⟩, rfl, by decide⟩
abbrev M_X6_firstFault : zM := (RX6, yX6_firstFault, cX6_firstFault, 5, (some .int), 0)
theorem k_X6_firstFault : zMok M_X6_firstFault := ⟨zin 274 (by decide +kernel) (by decide +kernel), zin 62 (by decide +kernel) (by decide +kernel), by decide +kernel, ⟨by decide +kernel, by decide +kernel⟩, rfl, by decide⟩
abbrev M_X6_signAt : zM := (RX6, yX6_signAt, cX6_signAt, 2, (some .int), 0)
theorem k_X6_signAt : zMok M_X6_signAt := ⟨zin 278 (by decide +kernel) (by decide +kernel), zin 62 (by decide +kernel) (by decide +kernel), by decide +kernel, ⟨by decide +kernel, by decide +kernel⟩, rfl, by decide⟩
abbrev M_X6_mostDigits : zM := (RX6, yX6_mostDigits, cX6_mostDigits, 1, (some .int), 0)
theorem k_X6_mostDigits : zMok M_X6_mostDigits := ⟨zin 281 (by decide +kernel) (by decide +kernel), zin 62 (by decide +kernel) (by decide +kernel), by decide +kernel, ⟨by decide +kernel, by decide +kernel⟩, rfl, by decide⟩
abbrev M_X6_digitsFrom : zM := (RX6, yX6_digitsFrom, cX6_digitsFrom, 4, (some .int), 0)
theorem k_X6_digitsFrom : zMok M_X6_digitsFrom := ⟨zin 285 (by decide +kernel) (by decide +kernel), zin 62 (by decide +kernel) (by decide +kernel), by decide +kernel, ⟨by decide +kernel, by decide +kernel⟩, rfl, by decide⟩
abbrev M_X6_perform : zM := (RX6, yX6_perform, cX6_perform, 7, (some .int), 0)
theorem k_X6_perform : zMok M_X6_perform := ⟨zin 289 (by decide +kernel) (by decide +kernel), zin 62 (by decide +kernel) (by decide +kernel), by decide +kernel, ⟨by decide +kernel, by decide +kernel⟩, rfl, by decide⟩
abbrev M_X6_performClause : zM := (RX6, yX6_performClause, cX6_performClause, 5, (some .boolean), 0)
theorem k_X6_performClause : zMok M_X6_performClause := ⟨zin 293 (by decide +kernel) (by decide +kernel), zin 62 (by decide +kernel) (by decide +kernel), by decide +kernel, ⟨by decide +kernel, by decide +kernel⟩, rfl, by decide⟩
abbrev M_X6_cornersAt : zM := (RX6, yX6_cornersAt, cX6_cornersAt, 6, (some .int), 0)
theorem k_X6_cornersAt : zMok M_X6_cornersAt := ⟨zin 297 (by decide +kernel) (by decide +kernel), zin 62 (by decide +kernel) (by decide +kernel), by decide +kernel, ⟨by decide +kernel, by decide +kernel⟩, rfl, by decide⟩
abbrev M_X6_performCorners : zM := (RX6, yX6_performCorners, cX6_performCorners, 3, (some .boolean), 0)
theorem k_X6_performCorners : zMok M_X6_performCorners := ⟨zin 301 (by decide +kernel) (by decide +kernel), zin 62 (by decide +kernel) (by decide +kernel), by decide +kernel, ⟨by decide +kernel, by decide +kernel⟩, rfl, by decide⟩
abbrev M_X6_numberAt : zM := (RX6, yX6_numberAt, cX6_numberAt, 5, (some .int), 0)
theorem k_X6_numberAt : zMok M_X6_numberAt := ⟨zin 305 (by decide +kernel) (by decide +kernel), zin 62 (by decide +kernel) (by decide +kernel), by decide +kernel, ⟨by decide +kernel, by decide +kernel⟩, rfl, by decide⟩
abbrev M_X6_performMove : zM := (RX6, yX6_performMove, cX6_performMove, 2, (some .boolean), 0)
theorem k_X6_performMove : zMok M_X6_performMove := ⟨zin 308 (by decide +kernel) (by decide +kernel), zin 62 (by decide +kernel) (by decide +kernel), by decide +kernel, ⟨by decide +kernel, by decide +kernel⟩, rfl, by decide⟩
abbrev M_X7_told : zM := (RX7, yX7_told, cX7_told, 2, (some .int), 0)
theorem k_X7_told : zMok M_X7_told := ⟨zin 315 (by decide +kernel) (by decide +kernel), zin 59 (by decide +kernel) (by decide +kernel), by decide +kernel, ⟨by decide +kernel, by decide +kernel⟩, rfl, by decide⟩
abbrev M_J6_bitCount_0f7a4 : zM := (RJ6, yJ6_bitCount_0f7a4, cJ6_bitCount_0f7a4, 1, (some .int), 0)
theorem k_J6_bitCount_0f7a4 : zMok M_J6_bitCount_0f7a4 := ⟨zin 318 (by decide +kernel) (by decide +kernel), zin 68 (by decide +kernel) (by decide +kernel), by decide +kernel, ⟨by decide +kernel, by decide +kernel⟩, rfl, by decide⟩
abbrev M_X1_classOf : zM := (RX1, yX1_classOf, cX1_classOf, 3, (some .int), 0)
theorem k_X1_classOf : zMok M_X1_classOf := ⟨zin 325 (by decide +kernel) (by decide +kernel), zin 66 (by decide +kernel) (by decide +kernel), by decide +kernel, ⟨by decide +kernel, by decide +kernel⟩, rfl, by decide⟩
abbrev M_X1_unlikeImages : zM := (RX1, yX1_unlikeImages, cX1_unlikeImages, 2, (some .int), 0)
theorem k_X1_unlikeImages : zMok M_X1_unlikeImages := ⟨zin 331 (by decide +kernel) (by decide +kernel), zin 66 (by decide +kernel) (by decide +kernel), by decide +kernel, ⟨by decide +kernel, by decide +kernel⟩, rfl, by decide⟩
abbrev M_X1_stillMoves : zM := (RX1, yX1_stillMoves, cX1_stillMoves, 3, (some .int), 0)
theorem k_X1_stillMoves : zMok M_X1_stillMoves := ⟨zin 334 (by decide +kernel) (by decide +kernel), zin 66 (by decide +kernel) (by decide +kernel), by decide +kernel, ⟨by decide +kernel, by decide +kernel⟩, rfl, by decide⟩
abbrev M_X1_distance : zM := (RX1, yX1_distance, cX1_distance, 4, (some .int), 0)
theorem k_X1_distance : zMok M_X1_distance := ⟨zin 338 (by decide +kernel) (by decide +kernel), zin 66 (by decide +kernel) (by decide +kernel), by decide +kernel, ⟨by decide +kernel, by decide +kernel⟩, rfl, by decide⟩
abbrev M_X4_faceCount : zM := (RX4, yX4_faceCount, cX4_faceCount, 4, (some .int), 0)
theorem k_X4_faceCount : zMok M_X4_faceCount := ⟨zin 343 (by decide +kernel) (by decide +kernel), zin 63 (by decide +kernel) (by decide +kernel), by decide +kernel, ⟨by decide +kernel, by decide +kernel⟩, rfl, by decide⟩
abbrev M_X4_measure : zM := (RX4, yX4_measure, cX4_measure, 3, none, 0)
theorem k_X4_measure : zMok M_X4_measure := ⟨zin 347 (by decide +kernel) (by decide +kernel), zin 63 (by decide +kernel) (by decide +kernel), by decide +kernel, ⟨by decide +kernel, by decide +kernel⟩, rfl, by decide⟩
abbrev M_X4_measureBy : zM := (RX4, yX4_measureBy, cX4_measureBy, 9, none, 0)
theorem k_X4_measureBy : zMok M_X4_measureBy := ⟨zin 352 (by decide +kernel) (by decide +kernel), zin 63 (by decide +kernel) (by decide +kernel), by decide +kernel, ⟨by decide +kernel, by decide +kernel⟩, rfl, by decide⟩
abbrev M_X4_isMeasuredFace : zM := (RX4, yX4_isMeasuredFace, cX4_isMeasuredFace, 2, (some .boolean), 0)
theorem k_X4_isMeasuredFace : zMok M_X4_isMeasuredFace := ⟨zin 358 (by decide +kernel) (by decide +kernel), zin 63 (by decide +kernel) (by decide +kernel), by decide +kernel, ⟨by decide +kernel, by decide +kernel⟩, rfl, by decide⟩
abbrev M_X4_isMeasuredTop : zM := (RX4, yX4_isMeasuredTop, cX4_isMeasuredTop, 2, (some .boolean), 0)
theorem k_X4_isMeasuredTop : zMok M_X4_isMeasuredTop := ⟨zin 362 (by decide +kernel) (by decide +kernel), zin 63 (by decide +kernel) (by decide +kernel), by decide +kernel, ⟨by decide +kernel, by decide +kernel⟩, rfl, by decide⟩
abbrev M_X4_edgeCount : zM := (RX4, yX4_edgeCount, cX4_edgeCount, 4, (some .int), 0)
theorem k_X4_edgeCount : zMok M_X4_edgeCount := ⟨zin 367 (by decide +kernel) (by decide +kernel), zin 63 (by decide +kernel) (by decide +kernel), by decide +kernel, ⟨by decide +kernel, by decide +kernel⟩, rfl, by decide⟩
abbrev M_X1_dimension : zM := (RX1, yX1_dimension, cX1_dimension, 8, (some .int), 0)
theorem k_X1_dimension : zMok M_X1_dimension := ⟨zin 370 (by decide +kernel) (by decide +kernel), zin 66 (by decide +kernel) (by decide +kernel), by decide +kernel, ⟨by decide +kernel, by decide +kernel⟩, rfl, by decide⟩
abbrev M_X1_leastCorner : zM := (RX1, yX1_leastCorner, cX1_leastCorner, 2, (some .int), 0)
theorem k_X1_leastCorner : zMok M_X1_leastCorner := ⟨zin 373 (by decide +kernel) (by decide +kernel), zin 66 (by decide +kernel) (by decide +kernel), by decide +kernel, ⟨by decide +kernel, by decide +kernel⟩, rfl, by decide⟩
abbrev M_X1_determinant : zM := (RX1, yX1_determinant, cX1_determinant, 4, (some .int), 0)
theorem k_X1_determinant : zMok M_X1_determinant := ⟨zin 376 (by decide +kernel) (by decide +kernel), zin 66 (by decide +kernel) (by decide +kernel), by decide +kernel, ⟨by decide +kernel, by decide +kernel⟩, rfl, by decide⟩
abbrev M_X1_away : zM := (RX1, yX1_away, cX1_away, 3, (some .int), 0)
theorem k_X1_away : zMok M_X1_away := ⟨zin 379 (by decide +kernel) (by decide +kernel), zin 66 (by decide +kernel) (by decide +kernel), by decide +kernel, ⟨by decide +kernel, by decide +kernel⟩, rfl, by decide⟩
abbrev M_X1_minor : zM := (RX1, yX1_minor, cX1_minor, 5, (some .int), 0)
theorem k_X1_minor : zMok M_X1_minor := ⟨zin 382 (by decide +kernel) (by decide +kernel), zin 66 (by decide +kernel) (by decide +kernel), by decide +kernel, ⟨by decide +kernel, by decide +kernel⟩, rfl, by decide⟩
abbrev M_X4_sixfold : zM := (RX4, yX4_sixfold, cX4_sixfold, 2, (some .int), 0)
theorem k_X4_sixfold : zMok M_X4_sixfold := ⟨zin 386 (by decide +kernel) (by decide +kernel), zin 63 (by decide +kernel) (by decide +kernel), by decide +kernel, ⟨by decide +kernel, by decide +kernel⟩, rfl, by decide⟩
abbrev M_X4_pointsIn : zM := (RX4, yX4_pointsIn, cX4_pointsIn, 5, (some .int), 0)
theorem k_X4_pointsIn : zMok M_X4_pointsIn := ⟨zin 390 (by decide +kernel) (by decide +kernel), zin 63 (by decide +kernel) (by decide +kernel), by decide +kernel, ⟨by decide +kernel, by decide +kernel⟩, rfl, by decide⟩
abbrev M_X4_isInMeasured : zM := (RX4, yX4_isInMeasured, cX4_isInMeasured, 7, (some .boolean), 0)
theorem k_X4_isInMeasured : zMok M_X4_isInMeasured := ⟨zin 394 (by decide +kernel) (by decide +kernel), zin 63 (by decide +kernel) (by decide +kernel), by decide +kernel, ⟨by decide +kernel, by decide +kernel⟩, rfl, by decide⟩
abbrev M_X4_width : zM := (RX4, yX4_width, cX4_width, 2, (some .int), 0)
theorem k_X4_width : zMok M_X4_width := ⟨zin 398 (by decide +kernel) (by decide +kernel), zin 63 (by decide +kernel) (by decide +kernel), by decide +kernel, ⟨by decide +kernel, by decide +kernel⟩, rfl, by decide⟩
abbrev M_X7_carried : zM := (RX7, yX7_carried, cX7_carried, 3, (some .int), 0)
theorem k_X7_carried : zMok M_X7_carried := ⟨zin 402 (by decide +kernel) (by decide +kernel), zin 59 (by decide +kernel) (by decide +kernel), by decide +kernel, ⟨by decide +kernel, by decide +kernel⟩, rfl, by decide⟩
abbrev M_X7_imaged : zM := (RX7, yX7_imaged, cX7_imaged, 2, (some .int), 0)
theorem k_X7_imaged : zMok M_X7_imaged := ⟨zin 407 (by decide +kernel) (by decide +kernel), zin 59 (by decide +kernel) (by decide +kernel), by decide +kernel, ⟨by decide +kernel, by decide +kernel⟩, rfl, by decide⟩
abbrev M_X7_form : zM := (RX7, yX7_form, cX7_form, 2, (some .int), 0)
theorem k_X7_form : zMok M_X7_form := ⟨zin 411 (by decide +kernel) (by decide +kernel), zin 59 (by decide +kernel) (by decide +kernel), by decide +kernel, ⟨by decide +kernel, by decide +kernel⟩, rfl, by decide⟩
abbrev M_X7_classes : zM := (RX7, yX7_classes, cX7_classes, 2, (some .int), 0)
theorem k_X7_classes : zMok M_X7_classes := ⟨zin 416 (by decide +kernel) (by decide +kernel), zin 59 (by decide +kernel) (by decide +kernel), by decide +kernel, ⟨by decide +kernel, by decide +kernel⟩, rfl, by decide⟩
abbrev M_X1_classesWith : zM := (RX1, yX1_classesWith, cX1_classesWith, 3, (some .int), 0)
theorem k_X1_classesWith : zMok M_X1_classesWith := ⟨zin 419 (by decide +kernel) (by decide +kernel), zin 66 (by decide +kernel) (by decide +kernel), by decide +kernel, ⟨by decide +kernel, by decide +kernel⟩, rfl, by decide⟩
abbrev M_X7_weighs : zM := (RX7, yX7_weighs, cX7_weighs, 6, (some .int), 0)
theorem k_X7_weighs : zMok M_X7_weighs := ⟨zin 423 (by decide +kernel) (by decide +kernel), zin 59 (by decide +kernel) (by decide +kernel), by decide +kernel, ⟨by decide +kernel, by decide +kernel⟩, rfl, by decide⟩
abbrev M_X7_isWeight : zM := (RX7, yX7_isWeight, cX7_isWeight, 1, (some .boolean), 0)
theorem k_X7_isWeight : zMok M_X7_isWeight := ⟨zin 426 (by decide +kernel) (by decide +kernel), zin 59 (by decide +kernel) (by decide +kernel), by decide +kernel, ⟨by decide +kernel, by decide +kernel⟩, rfl, by decide⟩
abbrev M_X4_mostBy : zM := (RX4, yX4_mostBy, cX4_mostBy, 6, (some .int), 0)
theorem k_X4_mostBy : zMok M_X4_mostBy := ⟨zin 429 (by decide +kernel) (by decide +kernel), zin 63 (by decide +kernel) (by decide +kernel), by decide +kernel, ⟨by decide +kernel, by decide +kernel⟩, rfl, by decide⟩
abbrev M_X4_cornerWeight : zM := (RX4, yX4_cornerWeight, cX4_cornerWeight, 4, (some .int), 0)
theorem k_X4_cornerWeight : zMok M_X4_cornerWeight := ⟨zin 433 (by decide +kernel) (by decide +kernel), zin 63 (by decide +kernel) (by decide +kernel), by decide +kernel, ⟨by decide +kernel, by decide +kernel⟩, rfl, by decide⟩
abbrev M_X4_thoseThatWeigh : zM := (RX4, yX4_thoseThatWeigh, cX4_thoseThatWeigh, 7, (some .int), 0)
theorem k_X4_thoseThatWeigh : zMok M_X4_thoseThatWeigh := ⟨zin 439 (by decide +kernel) (by decide +kernel), zin 63 (by decide +kernel) (by decide +kernel), by decide +kernel, ⟨by decide +kernel, by decide +kernel⟩, rfl, by decide⟩
abbrev M_X7_face : zM := (RX7, yX7_face, cX7_face, 2, (some .int), 0)
theorem k_X7_face : zMok M_X7_face := ⟨zin 443 (by decide +kernel) (by decide +kernel), zin 59 (by decide +kernel) (by decide +kernel), by decide +kernel, ⟨by decide +kernel, by decide +kernel⟩, rfl, by decide⟩
abbrev M_X4_faceAt : zM := (RX4, yX4_faceAt, cX4_faceAt, 5, (some .int), 0)
theorem k_X4_faceAt : zMok M_X4_faceAt := ⟨zin 447 (by decide +kernel) (by decide +kernel), zin 63 (by decide +kernel) (by decide +kernel), by decide +kernel, ⟨by decide +kernel, by decide +kernel⟩, rfl, by decide⟩
abbrev M_X7_edge : zM := (RX7, yX7_edge, cX7_edge, 3, (some .int), 0)
theorem k_X7_edge : zMok M_X7_edge := ⟨zin 451 (by decide +kernel) (by decide +kernel), zin 59 (by decide +kernel) (by decide +kernel), by decide +kernel, ⟨by decide +kernel, by decide +kernel⟩, rfl, by decide⟩
abbrev M_X4_isEdge : zM := (RX4, yX4_isEdge, cX4_isEdge, 3, (some .boolean), 0)
theorem k_X4_isEdge : zMok M_X4_isEdge := ⟨zin 455 (by decide +kernel) (by decide +kernel), zin 63 (by decide +kernel) (by decide +kernel), by decide +kernel, ⟨by decide +kernel, by decide +kernel⟩, rfl, by decide⟩
abbrev M_X7_points : zM := (RX7, yX7_points, cX7_points, 2, (some .int), 0)
theorem k_X7_points : zMok M_X7_points := ⟨zin 459 (by decide +kernel) (by decide +kernel), zin 59 (by decide +kernel) (by decide +kernel), by decide +kernel, ⟨by decide +kernel, by decide +kernel⟩, rfl, by decide⟩
abbrev M_X7_isTimes : zM := (RX7, yX7_isTimes, cX7_isTimes, 1, (some .boolean), 0)
theorem k_X7_isTimes : zMok M_X7_isTimes := ⟨zin 462 (by decide +kernel) (by decide +kernel), zin 59 (by decide +kernel) (by decide +kernel), by decide +kernel, ⟨by decide +kernel, by decide +kernel⟩, rfl, by decide⟩
abbrev M_X7_holds : zM := (RX7, yX7_holds, cX7_holds, 5, (some .int), 0)
theorem k_X7_holds : zMok M_X7_holds := ⟨zin 467 (by decide +kernel) (by decide +kernel), zin 59 (by decide +kernel) (by decide +kernel), by decide +kernel, ⟨by decide +kernel, by decide +kernel⟩, rfl, by decide⟩
abbrev M_X7_isPlace : zM := (RX7, yX7_isPlace, cX7_isPlace, 1, (some .boolean), 0)
theorem k_X7_isPlace : zMok M_X7_isPlace := ⟨zin 470 (by decide +kernel) (by decide +kernel), zin 59 (by decide +kernel) (by decide +kernel), by decide +kernel, ⟨by decide +kernel, by decide +kernel⟩, rfl, by decide⟩
abbrev M_X4_isIn : zM := (RX4, yX4_isIn, cX4_isIn, 6, (some .boolean), 0)
theorem k_X4_isIn : zMok M_X4_isIn := ⟨zin 474 (by decide +kernel) (by decide +kernel), zin 63 (by decide +kernel) (by decide +kernel), by decide +kernel, ⟨by decide +kernel, by decide +kernel⟩, rfl, by decide⟩
abbrev M_X7_floats : zM := (RX7, yX7_floats, cX7_floats, 2, (some .int), 0)
theorem k_X7_floats : zMok M_X7_floats := ⟨zin 478 (by decide +kernel) (by decide +kernel), zin 59 (by decide +kernel) (by decide +kernel), by decide +kernel, ⟨by decide +kernel, by decide +kernel⟩, rfl, by decide⟩
abbrev M_X4_fat : zM := (RX4, yX4_fat, cX4_fat, 3, (some .float), 0)
theorem k_X4_fat : zMok M_X4_fat := ⟨zin 482 (by decide +kernel) (by decide +kernel), zin 63 (by decide +kernel) (by decide +kernel), by decide +kernel, ⟨by decide +kernel, by decide +kernel⟩, rfl, by decide⟩
abbrev M_X1_centre : zM := (RX1, yX1_centre, cX1_centre, 5, (some .float), 0)
theorem k_X1_centre : zMok M_X1_centre := ⟨zin 488 (by decide +kernel) (by decide +kernel), zin 66 (by decide +kernel) (by decide +kernel), by decide +kernel, ⟨by decide +kernel, by decide +kernel⟩, rfl, by decide⟩
abbrev M_X0_ofFloat : zM := (RX0, yX0_ofFloat, cX0_ofFloat, 2, (some .int), 0)
theorem k_X0_ofFloat : zMok M_X0_ofFloat := ⟨zin 491 (by decide +kernel) (by decide +kernel), zin 69 (by decide +kernel) (by decide +kernel), by decide +kernel, ⟨by decide +kernel, by decide +kernel⟩, rfl, by decide⟩
abbrev M_X0_exponentOf : zM := (RX0, yX0_exponentOf, cX0_exponentOf, 5, (some .int), 0)
theorem k_X0_exponentOf : zMok M_X0_exponentOf := ⟨zin 494 (by decide +kernel) (by decide +kernel), zin 69 (by decide +kernel) (by decide +kernel), by decide +kernel, ⟨by decide +kernel, by decide +kernel⟩, rfl, by decide⟩
abbrev M_X0_fractionOf : zM := (RX0, yX0_fractionOf, cX0_fractionOf, 6, (some .double), 0)
theorem k_X0_fractionOf : zMok M_X0_fractionOf := ⟨zin 498 (by decide +kernel) (by decide +kernel), zin 69 (by decide +kernel) (by decide +kernel), by decide +kernel, ⟨by decide +kernel, by decide +kernel⟩, rfl, by decide⟩
abbrev M_X7_spread : zM := (RX7, yX7_spread, cX7_spread, 1, (some .long), 0)
theorem k_X7_spread : zMok M_X7_spread := ⟨zin 503 (by decide +kernel) (by decide +kernel), zin 59 (by decide +kernel) (by decide +kernel), by decide +kernel, ⟨by decide +kernel, by decide +kernel⟩, rfl, by decide⟩
abbrev M_X1_spreadOf : zM := (RX1, yX1_spreadOf, cX1_spreadOf, 6, (some .double), 0)
theorem k_X1_spreadOf : zMok M_X1_spreadOf := ⟨zin 507 (by decide +kernel) (by decide +kernel), zin 66 (by decide +kernel) (by decide +kernel), by decide +kernel, ⟨by decide +kernel, by decide +kernel⟩, rfl, by decide⟩
abbrev M_X0_ofDouble : zM := (RX0, yX0_ofDouble, cX0_ofDouble, 3, (some .long), 0)
theorem k_X0_ofDouble : zMok M_X0_ofDouble := ⟨zin 512 (by decide +kernel) (by decide +kernel), zin 69 (by decide +kernel) (by decide +kernel), by decide +kernel, ⟨by decide +kernel, by decide +kernel⟩, rfl, by decide⟩
abbrev M_X7_see : zM := (RX7, yX7_see, cX7_see, 3, (some .int), 0)
theorem k_X7_see : zMok M_X7_see := ⟨zin 517 (by decide +kernel) (by decide +kernel), zin 59 (by decide +kernel) (by decide +kernel), by decide +kernel, ⟨by decide +kernel, by decide +kernel⟩, rfl, by decide⟩
abbrev M_X3_empty : zM := (RX3, yX3_empty, cX3_empty, 1, (some .int), 0)
theorem k_X3_empty : zMok M_X3_empty := ⟨zin 521 (by decide +kernel) (by decide +kernel), zin 61 (by decide +kernel) (by decide +kernel), by decide +kernel, ⟨by decide +kernel, by decide +kernel⟩, rfl, by decide⟩
abbrev M_X3_append : zM := (RX3, yX3_append, cX3_append, 4, (some .int), 0)
theorem k_X3_append : zMok M_X3_append := ⟨zin 525 (by decide +kernel) (by decide +kernel), zin 61 (by decide +kernel) (by decide +kernel), by decide +kernel, ⟨by decide +kernel, by decide +kernel⟩, rfl, by decide⟩
abbrev M_X7_fits : zM := (RX7, yX7_fits, cX7_fits, 3, (some .int), 0)
theorem k_X7_fits : zMok M_X7_fits := ⟨zin 529 (by decide +kernel) (by decide +kernel), zin 59 (by decide +kernel) (by decide +kernel), by decide +kernel, ⟨by decide +kernel, by decide +kernel⟩, rfl, by decide⟩
abbrev M_X7_allSeenIn : zM := (RX7, yX7_allSeenIn, cX7_allSeenIn, 3, (some .boolean), 0)
theorem k_X7_allSeenIn : zMok M_X7_allSeenIn := ⟨zin 533 (by decide +kernel) (by decide +kernel), zin 59 (by decide +kernel) (by decide +kernel), by decide +kernel, ⟨by decide +kernel, by decide +kernel⟩, rfl, by decide⟩
abbrev M_X3_whatAt : zM := (RX3, yX3_whatAt, cX3_whatAt, 2, (some .int), 0)
theorem k_X3_whatAt : zMok M_X3_whatAt := ⟨zin 537 (by decide +kernel) (by decide +kernel), zin 61 (by decide +kernel) (by decide +kernel), by decide +kernel, ⟨by decide +kernel, by decide +kernel⟩, rfl, by decide⟩
abbrev M_X7_sightOf : zM := (RX7, yX7_sightOf, cX7_sightOf, 3, (some .int), 0)
theorem k_X7_sightOf : zMok M_X7_sightOf := ⟨zin 541 (by decide +kernel) (by decide +kernel), zin 59 (by decide +kernel) (by decide +kernel), by decide +kernel, ⟨by decide +kernel, by decide +kernel⟩, rfl, by decide⟩
abbrev M_X3_numberAt : zM := (RX3, yX3_numberAt, cX3_numberAt, 2, (some .int), 0)
theorem k_X3_numberAt : zMok M_X3_numberAt := ⟨zin 545 (by decide +kernel) (by decide +kernel), zin 61 (by decide +kernel) (by decide +kernel), by decide +kernel, ⟨by decide +kernel, by decide +kernel⟩, rfl, by decide⟩
abbrev M_X7_odds : zM := (RX7, yX7_odds, cX7_odds, 3, (some .long), 0)
theorem k_X7_odds : zMok M_X7_odds := ⟨zin 549 (by decide +kernel) (by decide +kernel), zin 59 (by decide +kernel) (by decide +kernel), by decide +kernel, ⟨by decide +kernel, by decide +kernel⟩, rfl, by decide⟩
abbrev M_X1_commonOverMoves : zM := (RX1, yX1_commonOverMoves, cX1_commonOverMoves, 4, (some .int), 0)
theorem k_X1_commonOverMoves : zMok M_X1_commonOverMoves := ⟨zin 552 (by decide +kernel) (by decide +kernel), zin 66 (by decide +kernel) (by decide +kernel), by decide +kernel, ⟨by decide +kernel, by decide +kernel⟩, rfl, by decide⟩
abbrev M_X7_lowestOfMoves : zM := (RX7, yX7_lowestOfMoves, cX7_lowestOfMoves, 3, (some .long), 0)
theorem k_X7_lowestOfMoves : zMok M_X7_lowestOfMoves := ⟨zin 555 (by decide +kernel) (by decide +kernel), zin 59 (by decide +kernel) (by decide +kernel), by decide +kernel, ⟨by decide +kernel, by decide +kernel⟩, rfl, by decide⟩
abbrev M_X7_commonDivisor : zM := (RX7, yX7_commonDivisor, cX7_commonDivisor, 6, (some .int), 0)
theorem k_X7_commonDivisor : zMok M_X7_commonDivisor := ⟨zin 558 (by decide +kernel) (by decide +kernel), zin 59 (by decide +kernel) (by decide +kernel), by decide +kernel, ⟨by decide +kernel, by decide +kernel⟩, rfl, by decide⟩
abbrev M_X7_mean : zM := (RX7, yX7_mean, cX7_mean, 2, (some .long), 0)
theorem k_X7_mean : zMok M_X7_mean := ⟨zin 562 (by decide +kernel) (by decide +kernel), zin 59 (by decide +kernel) (by decide +kernel), by decide +kernel, ⟨by decide +kernel, by decide +kernel⟩, rfl, by decide⟩
abbrev M_X7_event : zM := (RX7, yX7_event, cX7_event, 3, (some .int), 0)
theorem k_X7_event : zMok M_X7_event := ⟨zin 566 (by decide +kernel) (by decide +kernel), zin 59 (by decide +kernel) (by decide +kernel), by decide +kernel, ⟨by decide +kernel, by decide +kernel⟩, rfl, by decide⟩
abbrev M_X7_after : zM := (RX7, yX7_after, cX7_after, 2, (some .int), 0)
theorem k_X7_after : zMok M_X7_after := ⟨zin 570 (by decide +kernel) (by decide +kernel), zin 59 (by decide +kernel) (by decide +kernel), by decide +kernel, ⟨by decide +kernel, by decide +kernel⟩, rfl, by decide⟩
abbrev M_X7_bodyAfterEvents : zM := (RX7, yX7_bodyAfterEvents, cX7_bodyAfterEvents, 4, (some .int), 0)
theorem k_X7_bodyAfterEvents : zMok M_X7_bodyAfterEvents := ⟨zin 574 (by decide +kernel) (by decide +kernel), zin 59 (by decide +kernel) (by decide +kernel), by decide +kernel, ⟨by decide +kernel, by decide +kernel⟩, rfl, by decide⟩
abbrev M_X7_book : zM := (RX7, yX7_book, cX7_book, 3, (some .int), 0)
theorem k_X7_book : zMok M_X7_book := ⟨zin 578 (by decide +kernel) (by decide +kernel), zin 59 (by decide +kernel) (by decide +kernel), by decide +kernel, ⟨by decide +kernel, by decide +kernel⟩, rfl, by decide⟩
abbrev M_X7_looked : zM := (RX7, yX7_looked, cX7_looked, 2, (some .int), 0)
theorem k_X7_looked : zMok M_X7_looked := ⟨zin 582 (by decide +kernel) (by decide +kernel), zin 59 (by decide +kernel) (by decide +kernel), by decide +kernel, ⟨by decide +kernel, by decide +kernel⟩, rfl, by decide⟩
abbrev M_X7_judge : zM := (RX7, yX7_judge, cX7_judge, 5, (some .int), 0)
theorem k_X7_judge : zMok M_X7_judge := ⟨zin 586 (by decide +kernel) (by decide +kernel), zin 59 (by decide +kernel) (by decide +kernel), by decide +kernel, ⟨by decide +kernel, by decide +kernel⟩, rfl, by decide⟩
abbrev M_X7_isTape : zM := (RX7, yX7_isTape, cX7_isTape, 1, (some .boolean), 0)
theorem k_X7_isTape : zMok M_X7_isTape := ⟨zin 589 (by decide +kernel) (by decide +kernel), zin 59 (by decide +kernel) (by decide +kernel), by decide +kernel, ⟨by decide +kernel, by decide +kernel⟩, rfl, by decide⟩
abbrev M_X5_holdsRow : zM := (RX5, yX5_holdsRow, cX5_holdsRow, 1, (some .boolean), 0)
theorem k_X5_holdsRow : zMok M_X5_holdsRow := ⟨zin 593 (by decide +kernel) (by decide +kernel), zin 64 (by decide +kernel) (by decide +kernel), by decide +kernel, ⟨by decide +kernel, by decide +kernel⟩, rfl, by decide⟩
abbrev M_X5_hasPlace : zM := (RX5, yX5_hasPlace, cX5_hasPlace, 2, (some .boolean), 0)
theorem k_X5_hasPlace : zMok M_X5_hasPlace := ⟨zin 597 (by decide +kernel) (by decide +kernel), zin 64 (by decide +kernel) (by decide +kernel), by decide +kernel, ⟨by decide +kernel, by decide +kernel⟩, rfl, by decide⟩
abbrev M_X5_itemAt : zM := (RX5, yX5_itemAt, cX5_itemAt, 2, (some .long), 0)
theorem k_X5_itemAt : zMok M_X5_itemAt := ⟨zin 601 (by decide +kernel) (by decide +kernel), zin 64 (by decide +kernel) (by decide +kernel), by decide +kernel, ⟨by decide +kernel, by decide +kernel⟩, rfl, by decide⟩
abbrev M_X7_image : zM := (RX7, yX7_image, cX7_image, 1, (some .int), 0)
theorem k_X7_image : zMok M_X7_image := ⟨zin 606 (by decide +kernel) (by decide +kernel), zin 59 (by decide +kernel) (by decide +kernel), by decide +kernel, ⟨by decide +kernel, by decide +kernel⟩, rfl, by decide⟩
abbrev M_X2_copyFrom : zM := (RX2, yX2_copyFrom, cX2_copyFrom, 2, none, 0)
theorem k_X2_copyFrom : zMok M_X2_copyFrom := ⟨zin 610 (by decide +kernel) (by decide +kernel), zin 60 (by decide +kernel) (by decide +kernel), by decide +kernel, ⟨by decide +kernel, by decide +kernel⟩, rfl, by decide⟩
abbrev M_X3_copyFrom : zM := (RX3, yX3_copyFrom, cX3_copyFrom, 2, none, 0)
theorem k_X3_copyFrom : zMok M_X3_copyFrom := ⟨zin 614 (by decide +kernel) (by decide +kernel), zin 61 (by decide +kernel) (by decide +kernel), by decide +kernel, ⟨by decide +kernel, by decide +kernel⟩, rfl, by decide⟩
abbrev M_X7_undo : zM := (RX7, yX7_undo, cX7_undo, 1, (some .int), 0)
theorem k_X7_undo : zMok M_X7_undo := ⟨zin 621 (by decide +kernel) (by decide +kernel), zin 59 (by decide +kernel) (by decide +kernel), by decide +kernel, ⟨by decide +kernel, by decide +kernel⟩, rfl, by decide⟩
abbrev M_X7_count : zM := (RX7, yX7_count, cX7_count, 2, (some .int), 0)
theorem k_X7_count : zMok M_X7_count := ⟨zin 625 (by decide +kernel) (by decide +kernel), zin 59 (by decide +kernel) (by decide +kernel), by decide +kernel, ⟨by decide +kernel, by decide +kernel⟩, rfl, by decide⟩
abbrev M_X7_tape : zM := (RX7, yX7_tape, cX7_tape, 4, (some .int), 0)
theorem k_X7_tape : zMok M_X7_tape := ⟨zin 629 (by decide +kernel) (by decide +kernel), zin 59 (by decide +kernel) (by decide +kernel), by decide +kernel, ⟨by decide +kernel, by decide +kernel⟩, rfl, by decide⟩
abbrev M_X5_becomeRow : zM := (RX5, yX5_becomeRow, cX5_becomeRow, 4, none, 0)
theorem k_X5_becomeRow : zMok M_X5_becomeRow := ⟨zin 633 (by decide +kernel) (by decide +kernel), zin 64 (by decide +kernel) (by decide +kernel), by decide +kernel, ⟨by decide +kernel, by decide +kernel⟩, rfl, by decide⟩
abbrev M_X7_item : zM := (RX7, yX7_item, cX7_item, 6, (some .int), 0)
theorem k_X7_item : zMok M_X7_item := ⟨zin 637 (by decide +kernel) (by decide +kernel), zin 59 (by decide +kernel) (by decide +kernel), by decide +kernel, ⟨by decide +kernel, by decide +kernel⟩, rfl, by decide⟩
abbrev M_X5_put : zM := (RX5, yX5_put, cX5_put, 4, none, 0)
theorem k_X5_put : zMok M_X5_put := ⟨zin 641 (by decide +kernel) (by decide +kernel), zin 64 (by decide +kernel) (by decide +kernel), by decide +kernel, ⟨by decide +kernel, by decide +kernel⟩, rfl, by decide⟩
abbrev M_X5_cut : zM := (RX5, yX5_cut, cX5_cut, 3, (some .long), 0)
theorem k_X5_cut : zMok M_X5_cut := ⟨zin 645 (by decide +kernel) (by decide +kernel), zin 64 (by decide +kernel) (by decide +kernel), by decide +kernel, ⟨by decide +kernel, by decide +kernel⟩, rfl, by decide⟩
abbrev M_X7_peek : zM := (RX7, yX7_peek, cX7_peek, 3, (some .long), 0)
theorem k_X7_peek : zMok M_X7_peek := ⟨zin 649 (by decide +kernel) (by decide +kernel), zin 59 (by decide +kernel) (by decide +kernel), by decide +kernel, ⟨by decide +kernel, by decide +kernel⟩, rfl, by decide⟩
abbrev M_X7_shift : zM := (RX7, yX7_shift, cX7_shift, 8, (some .int), 0)
theorem k_X7_shift : zMok M_X7_shift := ⟨zin 653 (by decide +kernel) (by decide +kernel), zin 59 (by decide +kernel) (by decide +kernel), by decide +kernel, ⟨by decide +kernel, by decide +kernel⟩, rfl, by decide⟩
abbrev M_X5_hasRun : zM := (RX5, yX5_hasRun, cX5_hasRun, 3, (some .boolean), 0)
theorem k_X5_hasRun : zMok M_X5_hasRun := ⟨zin 657 (by decide +kernel) (by decide +kernel), zin 64 (by decide +kernel) (by decide +kernel), by decide +kernel, ⟨by decide +kernel, by decide +kernel⟩, rfl, by decide⟩
abbrev M_X8_init : zM := (RX8, yX8_init, cX8_init, 6, none, 21)
theorem k_X8_init : zMok M_X8_init := ⟨zin 663 (by decide +kernel) (by decide +kernel), zin 65 (by decide +kernel) (by decide +kernel), by decide +kernel, ⟨by decide +kernel, by decide +kernel⟩, rfl, by decide⟩
abbrev M_X8_imageOf : zM := (RX8, yX8_imageOf, cX8_imageOf, 5, (some .int), 0)
theorem k_X8_imageOf : zMok M_X8_imageOf := ⟨zin 668 (by decide +kernel) (by decide +kernel), zin 65 (by decide +kernel) (by decide +kernel), by decide +kernel, ⟨by decide +kernel, by decide +kernel⟩, rfl, by decide⟩
abbrev M_X8_corner : zM := (RX8, yX8_corner, cX8_corner, 4, (some .int), 0)
theorem k_X8_corner : zMok M_X8_corner := ⟨zin 770 (by decide +kernel) (by decide +kernel), zin 65 (by decide +kernel) (by decide +kernel), by decide +kernel, ⟨by decide +kernel, by decide +kernel⟩, rfl, by decide⟩
abbrev M_X8_isCorner : zM := (RX8, yX8_isCorner, cX8_isCorner, 1, (some .boolean), 0)
theorem k_X8_isCorner : zMok M_X8_isCorner := ⟨zin 773 (by decide +kernel) (by decide +kernel), zin 65 (by decide +kernel) (by decide +kernel), by decide +kernel, ⟨by decide +kernel, by decide +kernel⟩, rfl, by decide⟩
abbrev M_X8_isIn : zM := (RX8, yX8_isIn, cX8_isIn, 3, (some .boolean), 0)
theorem k_X8_isIn : zMok M_X8_isIn := ⟨zin 776 (by decide +kernel) (by decide +kernel), zin 65 (by decide +kernel) (by decide +kernel), by decide +kernel, ⟨by decide +kernel, by decide +kernel⟩, rfl, by decide⟩
abbrev M_X8_code : zM := (RX8, yX8_code, cX8_code, 3, (some .int), 0)
theorem k_X8_code : zMok M_X8_code := ⟨zin 780 (by decide +kernel) (by decide +kernel), zin 65 (by decide +kernel) (by decide +kernel), by decide +kernel, ⟨by decide +kernel, by decide +kernel⟩, rfl, by decide⟩
abbrev M_X8_move : zM := (RX8, yX8_move, cX8_move, 2, (some .int), 0)
theorem k_X8_move : zMok M_X8_move := ⟨zin 784 (by decide +kernel) (by decide +kernel), zin 65 (by decide +kernel) (by decide +kernel), by decide +kernel, ⟨by decide +kernel, by decide +kernel⟩, rfl, by decide⟩
abbrev M_X8_isMove : zM := (RX8, yX8_isMove, cX8_isMove, 1, (some .boolean), 0)
theorem k_X8_isMove : zMok M_X8_isMove := ⟨zin 787 (by decide +kernel) (by decide +kernel), zin 65 (by decide +kernel) (by decide +kernel), by decide +kernel, ⟨by decide +kernel, by decide +kernel⟩, rfl, by decide⟩
abbrev M_X8_becomes : zM := (RX8, yX8_becomes, cX8_becomes, 2, (some .int), 0)
theorem k_X8_becomes : zMok M_X8_becomes := ⟨zin 791 (by decide +kernel) (by decide +kernel), zin 65 (by decide +kernel) (by decide +kernel), by decide +kernel, ⟨by decide +kernel, by decide +kernel⟩, rfl, by decide⟩
abbrev M_X8_keep : zM := (RX8, yX8_keep, cX8_keep, 1, (some .int), 0)
theorem k_X8_keep : zMok M_X8_keep := ⟨zin 795 (by decide +kernel) (by decide +kernel), zin 65 (by decide +kernel) (by decide +kernel), by decide +kernel, ⟨by decide +kernel, by decide +kernel⟩, rfl, by decide⟩
abbrev M_X8_feed : zM := (RX8, yX8_feed, cX8_feed, 2, (some .int), 0)
theorem k_X8_feed : zMok M_X8_feed := ⟨zin 799 (by decide +kernel) (by decide +kernel), zin 65 (by decide +kernel) (by decide +kernel), by decide +kernel, ⟨by decide +kernel, by decide +kernel⟩, rfl, by decide⟩
abbrev M_X8_read : zM := (RX8, yX8_read, cX8_read, 4, (some .int), 0)
theorem k_X8_read : zMok M_X8_read := ⟨zin 803 (by decide +kernel) (by decide +kernel), zin 65 (by decide +kernel) (by decide +kernel), by decide +kernel, ⟨by decide +kernel, by decide +kernel⟩, rfl, by decide⟩
abbrev M_X8_readsAll : zM := (RX8, yX8_readsAll, cX8_readsAll, 2, (some .boolean), 0)
theorem k_X8_readsAll : zMok M_X8_readsAll := ⟨zin 807 (by decide +kernel) (by decide +kernel), zin 65 (by decide +kernel) (by decide +kernel), by decide +kernel, ⟨by decide +kernel, by decide +kernel⟩, rfl, by decide⟩
abbrev M_X8_readsClause : zM := (RX8, yX8_readsClause, cX8_readsClause, 3, (some .boolean), 0)
theorem k_X8_readsClause : zMok M_X8_readsClause := ⟨zin 811 (by decide +kernel) (by decide +kernel), zin 65 (by decide +kernel) (by decide +kernel), by decide +kernel, ⟨by decide +kernel, by decide +kernel⟩, rfl, by decide⟩
abbrev M_X8_next : zM := (RX8, yX8_next, cX8_next, 1, (some .int), 0)
theorem k_X8_next : zMok M_X8_next := ⟨zin 815 (by decide +kernel) (by decide +kernel), zin 65 (by decide +kernel) (by decide +kernel), by decide +kernel, ⟨by decide +kernel, by decide +kernel⟩, rfl, by decide⟩
abbrev M_X8_readsDigits : zM := (RX8, yX8_readsDigits, cX8_readsDigits, 6, (some .int), 0)
theorem k_X8_readsDigits : zMok M_X8_readsDigits := ⟨zin 819 (by decide +kernel) (by decide +kernel), zin 65 (by decide +kernel) (by decide +kernel), by decide +kernel, ⟨by decide +kernel, by decide +kernel⟩, rfl, by decide⟩
abbrev M_X8_isDigit : zM := (RX8, yX8_isDigit, cX8_isDigit, 1, (some .boolean), 0)
theorem k_X8_isDigit : zMok M_X8_isDigit := ⟨zin 823 (by decide +kernel) (by decide +kernel), zin 65 (by decide +kernel) (by decide +kernel), by decide +kernel, ⟨by decide +kernel, by decide +kernel⟩, rfl, by decide⟩
abbrev M_X8_does : zM := (RX8, yX8_does, cX8_does, 3, (some .int), 0)
theorem k_X8_does : zMok M_X8_does := ⟨zin 827 (by decide +kernel) (by decide +kernel), zin 65 (by decide +kernel) (by decide +kernel), by decide +kernel, ⟨by decide +kernel, by decide +kernel⟩, rfl, by decide⟩
abbrev M_X8_set : zM := (RX8, yX8_set, cX8_set, 2, (some .int), 0)
theorem k_X8_set : zMok M_X8_set := ⟨zin 831 (by decide +kernel) (by decide +kernel), zin 65 (by decide +kernel) (by decide +kernel), by decide +kernel, ⟨by decide +kernel, by decide +kernel⟩, rfl, by decide⟩
abbrev M_X8_told : zM := (RX8, yX8_told, cX8_told, 2, (some .int), 0)
theorem k_X8_told : zMok M_X8_told := ⟨zin 838 (by decide +kernel) (by decide +kernel), zin 65 (by decide +kernel) (by decide +kernel), by decide +kernel, ⟨by decide +kernel, by decide +kernel⟩, rfl, by decide⟩
abbrev M_X8_bits : zM := (RX8, yX8_bits, cX8_bits, 3, (some .int), 0)
theorem k_X8_bits : zMok M_X8_bits := ⟨zin 841 (by decide +kernel) (by decide +kernel), zin 65 (by decide +kernel) (by decide +kernel), by decide +kernel, ⟨by decide +kernel, by decide +kernel⟩, rfl, by decide⟩
abbrev M_X8_likes : zM := (RX8, yX8_likes, cX8_likes, 4, (some .int), 0)
theorem k_X8_likes : zMok M_X8_likes := ⟨zin 845 (by decide +kernel) (by decide +kernel), zin 65 (by decide +kernel) (by decide +kernel), by decide +kernel, ⟨by decide +kernel, by decide +kernel⟩, rfl, by decide⟩
abbrev M_X8_stills : zM := (RX8, yX8_stills, cX8_stills, 4, (some .int), 0)
theorem k_X8_stills : zMok M_X8_stills := ⟨zin 849 (by decide +kernel) (by decide +kernel), zin 65 (by decide +kernel) (by decide +kernel), by decide +kernel, ⟨by decide +kernel, by decide +kernel⟩, rfl, by decide⟩
abbrev M_X8_far : zM := (RX8, yX8_far, cX8_far, 4, (some .int), 0)
theorem k_X8_far : zMok M_X8_far := ⟨zin 853 (by decide +kernel) (by decide +kernel), zin 65 (by decide +kernel) (by decide +kernel), by decide +kernel, ⟨by decide +kernel, by decide +kernel⟩, rfl, by decide⟩
abbrev M_X8_findFaces : zM := (RX8, yX8_findFaces, cX8_findFaces, 4, (some .int), 0)
theorem k_X8_findFaces : zMok M_X8_findFaces := ⟨zin 857 (by decide +kernel) (by decide +kernel), zin 65 (by decide +kernel) (by decide +kernel), by decide +kernel, ⟨by decide +kernel, by decide +kernel⟩, rfl, by decide⟩
abbrev M_X8_heaviest : zM := (RX8, yX8_heaviest, cX8_heaviest, 5, (some .int), 0)
theorem k_X8_heaviest : zMok M_X8_heaviest := ⟨zin 860 (by decide +kernel) (by decide +kernel), zin 65 (by decide +kernel) (by decide +kernel), by decide +kernel, ⟨by decide +kernel, by decide +kernel⟩, rfl, by decide⟩
abbrev M_X8_mostOf : zM := (RX8, yX8_mostOf, cX8_mostOf, 4, (some .int), 0)
theorem k_X8_mostOf : zMok M_X8_mostOf := ⟨zin 863 (by decide +kernel) (by decide +kernel), zin 65 (by decide +kernel) (by decide +kernel), by decide +kernel, ⟨by decide +kernel, by decide +kernel⟩, rfl, by decide⟩
abbrev M_X8_weighsCorner : zM := (RX8, yX8_weighsCorner, cX8_weighsCorner, 2, (some .int), 0)
theorem k_X8_weighsCorner : zMok M_X8_weighsCorner := ⟨zin 866 (by decide +kernel) (by decide +kernel), zin 65 (by decide +kernel) (by decide +kernel), by decide +kernel, ⟨by decide +kernel, by decide +kernel⟩, rfl, by decide⟩
abbrev M_X8_weighsAt : zM := (RX8, yX8_weighsAt, cX8_weighsAt, 4, (some .int), 0)
theorem k_X8_weighsAt : zMok M_X8_weighsAt := ⟨zin 869 (by decide +kernel) (by decide +kernel), zin 65 (by decide +kernel) (by decide +kernel), by decide +kernel, ⟨by decide +kernel, by decide +kernel⟩, rfl, by decide⟩
abbrev M_X8_weightAt : zM := (RX8, yX8_weightAt, cX8_weightAt, 2, (some .int), 0)
theorem k_X8_weightAt : zMok M_X8_weightAt := ⟨zin 872 (by decide +kernel) (by decide +kernel), zin 65 (by decide +kernel) (by decide +kernel), by decide +kernel, ⟨by decide +kernel, by decide +kernel⟩, rfl, by decide⟩
abbrev M_X8_isNought : zM := (RX8, yX8_isNought, cX8_isNought, 1, (some .boolean), 0)
theorem k_X8_isNought : zMok M_X8_isNought := ⟨zin 875 (by decide +kernel) (by decide +kernel), zin 65 (by decide +kernel) (by decide +kernel), by decide +kernel, ⟨by decide +kernel, by decide +kernel⟩, rfl, by decide⟩
abbrev M_X8_edgesOf : zM := (RX8, yX8_edgesOf, cX8_edgesOf, 4, (some .int), 0)
theorem k_X8_edgesOf : zMok M_X8_edgesOf := ⟨zin 878 (by decide +kernel) (by decide +kernel), zin 65 (by decide +kernel) (by decide +kernel), by decide +kernel, ⟨by decide +kernel, by decide +kernel⟩, rfl, by decide⟩
abbrev M_X8_isEdge : zM := (RX8, yX8_isEdge, cX8_isEdge, 5, (some .boolean), 0)
theorem k_X8_isEdge : zMok M_X8_isEdge := ⟨zin 881 (by decide +kernel) (by decide +kernel), zin 65 (by decide +kernel) (by decide +kernel), by decide +kernel, ⟨by decide +kernel, by decide +kernel⟩, rfl, by decide⟩
abbrev M_X8_dimension : zM := (RX8, yX8_dimension, cX8_dimension, 10, (some .int), 0)
theorem k_X8_dimension : zMok M_X8_dimension := ⟨zin 885 (by decide +kernel) (by decide +kernel), zin 65 (by decide +kernel) (by decide +kernel), by decide +kernel, ⟨by decide +kernel, by decide +kernel⟩, rfl, by decide⟩
abbrev M_X8_sixfold : zM := (RX8, yX8_sixfold, cX8_sixfold, 1, (some .int), 0)
theorem k_X8_sixfold : zMok M_X8_sixfold := ⟨zin 888 (by decide +kernel) (by decide +kernel), zin 65 (by decide +kernel) (by decide +kernel), by decide +kernel, ⟨by decide +kernel, by decide +kernel⟩, rfl, by decide⟩
abbrev M_X8_pointsOf : zM := (RX8, yX8_pointsOf, cX8_pointsOf, 4, (some .int), 0)
theorem k_X8_pointsOf : zMok M_X8_pointsOf := ⟨zin 891 (by decide +kernel) (by decide +kernel), zin 65 (by decide +kernel) (by decide +kernel), by decide +kernel, ⟨by decide +kernel, by decide +kernel⟩, rfl, by decide⟩
abbrev M_X8_isWithin : zM := (RX8, yX8_isWithin, cX8_isWithin, 7, (some .boolean), 0)
theorem k_X8_isWithin : zMok M_X8_isWithin := ⟨zin 894 (by decide +kernel) (by decide +kernel), zin 65 (by decide +kernel) (by decide +kernel), by decide +kernel, ⟨by decide +kernel, by decide +kernel⟩, rfl, by decide⟩
abbrev M_X8_width : zM := (RX8, yX8_width, cX8_width, 4, (some .int), 0)
theorem k_X8_width : zMok M_X8_width := ⟨zin 897 (by decide +kernel) (by decide +kernel), zin 65 (by decide +kernel) (by decide +kernel), by decide +kernel, ⟨by decide +kernel, by decide +kernel⟩, rfl, by decide⟩
abbrev M_X8_leastOf : zM := (RX8, yX8_leastOf, cX8_leastOf, 2, (some .int), 0)
theorem k_X8_leastOf : zMok M_X8_leastOf := ⟨zin 900 (by decide +kernel) (by decide +kernel), zin 65 (by decide +kernel) (by decide +kernel), by decide +kernel, ⟨by decide +kernel, by decide +kernel⟩, rfl, by decide⟩
abbrev M_X8_carried : zM := (RX8, yX8_carried, cX8_carried, 3, (some .int), 0)
theorem k_X8_carried : zMok M_X8_carried := ⟨zin 904 (by decide +kernel) (by decide +kernel), zin 65 (by decide +kernel) (by decide +kernel), by decide +kernel, ⟨by decide +kernel, by decide +kernel⟩, rfl, by decide⟩
abbrev M_X8_imaged : zM := (RX8, yX8_imaged, cX8_imaged, 2, (some .int), 0)
theorem k_X8_imaged : zMok M_X8_imaged := ⟨zin 908 (by decide +kernel) (by decide +kernel), zin 65 (by decide +kernel) (by decide +kernel), by decide +kernel, ⟨by decide +kernel, by decide +kernel⟩, rfl, by decide⟩
abbrev M_X8_form : zM := (RX8, yX8_form, cX8_form, 3, (some .int), 0)
theorem k_X8_form : zMok M_X8_form := ⟨zin 912 (by decide +kernel) (by decide +kernel), zin 65 (by decide +kernel) (by decide +kernel), by decide +kernel, ⟨by decide +kernel, by decide +kernel⟩, rfl, by decide⟩
abbrev M_X8_classes : zM := (RX8, yX8_classes, cX8_classes, 4, (some .int), 0)
theorem k_X8_classes : zMok M_X8_classes := ⟨zin 916 (by decide +kernel) (by decide +kernel), zin 65 (by decide +kernel) (by decide +kernel), by decide +kernel, ⟨by decide +kernel, by decide +kernel⟩, rfl, by decide⟩
abbrev M_X8_weighs : zM := (RX8, yX8_weighs, cX8_weighs, 6, (some .int), 0)
theorem k_X8_weighs : zMok M_X8_weighs := ⟨zin 920 (by decide +kernel) (by decide +kernel), zin 65 (by decide +kernel) (by decide +kernel), by decide +kernel, ⟨by decide +kernel, by decide +kernel⟩, rfl, by decide⟩
abbrev M_X8_face : zM := (RX8, yX8_face, cX8_face, 5, (some .int), 0)
theorem k_X8_face : zMok M_X8_face := ⟨zin 924 (by decide +kernel) (by decide +kernel), zin 65 (by decide +kernel) (by decide +kernel), by decide +kernel, ⟨by decide +kernel, by decide +kernel⟩, rfl, by decide⟩
abbrev M_X8_edge : zM := (RX8, yX8_edge, cX8_edge, 3, (some .int), 0)
theorem k_X8_edge : zMok M_X8_edge := ⟨zin 928 (by decide +kernel) (by decide +kernel), zin 65 (by decide +kernel) (by decide +kernel), by decide +kernel, ⟨by decide +kernel, by decide +kernel⟩, rfl, by decide⟩
abbrev M_X8_points : zM := (RX8, yX8_points, cX8_points, 2, (some .int), 0)
theorem k_X8_points : zMok M_X8_points := ⟨zin 932 (by decide +kernel) (by decide +kernel), zin 65 (by decide +kernel) (by decide +kernel), by decide +kernel, ⟨by decide +kernel, by decide +kernel⟩, rfl, by decide⟩
abbrev M_X8_holds : zM := (RX8, yX8_holds, cX8_holds, 5, (some .int), 0)
theorem k_X8_holds : zMok M_X8_holds := ⟨zin 936 (by decide +kernel) (by decide +kernel), zin 65 (by decide +kernel) (by decide +kernel), by decide +kernel, ⟨by decide +kernel, by decide +kernel⟩, rfl, by decide⟩
abbrev M_X8_floats : zM := (RX8, yX8_floats, cX8_floats, 2, (some .int), 0)
theorem k_X8_floats : zMok M_X8_floats := ⟨zin 940 (by decide +kernel) (by decide +kernel), zin 65 (by decide +kernel) (by decide +kernel), by decide +kernel, ⟨by decide +kernel, by decide +kernel⟩, rfl, by decide⟩
abbrev M_X8_fat : zM := (RX8, yX8_fat, cX8_fat, 2, (some .float), 0)
theorem k_X8_fat : zMok M_X8_fat := ⟨zin 944 (by decide +kernel) (by decide +kernel), zin 65 (by decide +kernel) (by decide +kernel), by decide +kernel, ⟨by decide +kernel, by decide +kernel⟩, rfl, by decide⟩
abbrev M_X8_centre : zM := (RX8, yX8_centre, cX8_centre, 4, (some .float), 0)
theorem k_X8_centre : zMok M_X8_centre := ⟨zin 949 (by decide +kernel) (by decide +kernel), zin 65 (by decide +kernel) (by decide +kernel), by decide +kernel, ⟨by decide +kernel, by decide +kernel⟩, rfl, by decide⟩
abbrev M_Jxf58ca_floatToIntBits_5c35a : zM := (RJxf58ca, yJxf58ca_floatToIntBits_5c35a, cJxf58ca_floatToIntBits_5c35a, 1, (some .int), 0)
theorem k_Jxf58ca_floatToIntBits_5c35a : zMok M_Jxf58ca_floatToIntBits_5c35a := ⟨zin 952 (by decide +kernel) (by decide +kernel), zin 70 (by decide +kernel) (by decide +kernel), by decide +kernel, ⟨by decide +kernel, by decide +kernel⟩, rfl, by decide⟩
abbrev M_Jxf58ca_isNaN_12338 : zM := (RJxf58ca, yJxf58ca_isNaN_12338, cJxf58ca_isNaN_12338, 1, (some .boolean), 0)
theorem k_Jxf58ca_isNaN_12338 : zMok M_Jxf58ca_isNaN_12338 := ⟨zin 955 (by decide +kernel) (by decide +kernel), zin 70 (by decide +kernel) (by decide +kernel), by decide +kernel, ⟨by decide +kernel, by decide +kernel⟩, rfl, by decide⟩
abbrev M_X8_spread : zM := (RX8, yX8_spread, cX8_spread, 6, (some .long), 0)
theorem k_X8_spread : zMok M_X8_spread := ⟨zin 963 (by decide +kernel) (by decide +kernel), zin 65 (by decide +kernel) (by decide +kernel), by decide +kernel, ⟨by decide +kernel, by decide +kernel⟩, rfl, by decide⟩
abbrev M_Jxe99ae_doubleToLongBits_ccdee : zM := (RJxe99ae, yJxe99ae_doubleToLongBits_ccdee, cJxe99ae_doubleToLongBits_ccdee, 2, (some .long), 0)
theorem k_Jxe99ae_doubleToLongBits_ccdee : zMok M_Jxe99ae_doubleToLongBits_ccdee := ⟨zin 968 (by decide +kernel) (by decide +kernel), zin 71 (by decide +kernel) (by decide +kernel), by decide +kernel, ⟨by decide +kernel, by decide +kernel⟩, rfl, by decide⟩
abbrev M_Jxe99ae_isNaN_b9ae7 : zM := (RJxe99ae, yJxe99ae_isNaN_b9ae7, cJxe99ae_isNaN_b9ae7, 2, (some .boolean), 0)
theorem k_Jxe99ae_isNaN_b9ae7 : zMok M_Jxe99ae_isNaN_b9ae7 := ⟨zin 971 (by decide +kernel) (by decide +kernel), zin 71 (by decide +kernel) (by decide +kernel), by decide +kernel, ⟨by decide +kernel, by decide +kernel⟩, rfl, by decide⟩
abbrev M_X8_see : zM := (RX8, yX8_see, cX8_see, 3, (some .int), 0)
theorem k_X8_see : zMok M_X8_see := ⟨zin 979 (by decide +kernel) (by decide +kernel), zin 65 (by decide +kernel) (by decide +kernel), by decide +kernel, ⟨by decide +kernel, by decide +kernel⟩, rfl, by decide⟩
abbrev M_X8_fits : zM := (RX8, yX8_fits, cX8_fits, 5, (some .int), 0)
theorem k_X8_fits : zMok M_X8_fits := ⟨zin 983 (by decide +kernel) (by decide +kernel), zin 65 (by decide +kernel) (by decide +kernel), by decide +kernel, ⟨by decide +kernel, by decide +kernel⟩, rfl, by decide⟩
abbrev M_X8_isSeen : zM := (RX8, yX8_isSeen, cX8_isSeen, 4, (some .boolean), 0)
theorem k_X8_isSeen : zMok M_X8_isSeen := ⟨zin 987 (by decide +kernel) (by decide +kernel), zin 65 (by decide +kernel) (by decide +kernel), by decide +kernel, ⟨by decide +kernel, by decide +kernel⟩, rfl, by decide⟩
abbrev M_X8_odds : zM := (RX8, yX8_odds, cX8_odds, 5, (some .long), 0)
theorem k_X8_odds : zMok M_X8_odds := ⟨zin 991 (by decide +kernel) (by decide +kernel), zin 65 (by decide +kernel) (by decide +kernel), by decide +kernel, ⟨by decide +kernel, by decide +kernel⟩, rfl, by decide⟩
abbrev M_X8_partOf : zM := (RX8, yX8_partOf, cX8_partOf, 6, (some .long), 0)
theorem k_X8_partOf : zMok M_X8_partOf := ⟨zin 994 (by decide +kernel) (by decide +kernel), zin 65 (by decide +kernel) (by decide +kernel), by decide +kernel, ⟨by decide +kernel, by decide +kernel⟩, rfl, by decide⟩
abbrev M_X8_mean : zM := (RX8, yX8_mean, cX8_mean, 4, (some .long), 0)
theorem k_X8_mean : zMok M_X8_mean := ⟨zin 998 (by decide +kernel) (by decide +kernel), zin 65 (by decide +kernel) (by decide +kernel), by decide +kernel, ⟨by decide +kernel, by decide +kernel⟩, rfl, by decide⟩
abbrev M_X8_event : zM := (RX8, yX8_event, cX8_event, 3, (some .int), 0)
theorem k_X8_event : zMok M_X8_event := ⟨zin 1002 (by decide +kernel) (by decide +kernel), zin 65 (by decide +kernel) (by decide +kernel), by decide +kernel, ⟨by decide +kernel, by decide +kernel⟩, rfl, by decide⟩
abbrev M_X8_after : zM := (RX8, yX8_after, cX8_after, 4, (some .int), 0)
theorem k_X8_after : zMok M_X8_after := ⟨zin 1006 (by decide +kernel) (by decide +kernel), zin 65 (by decide +kernel) (by decide +kernel), by decide +kernel, ⟨by decide +kernel, by decide +kernel⟩, rfl, by decide⟩
abbrev M_X8_book : zM := (RX8, yX8_book, cX8_book, 3, (some .int), 0)
theorem k_X8_book : zMok M_X8_book := ⟨zin 1010 (by decide +kernel) (by decide +kernel), zin 65 (by decide +kernel) (by decide +kernel), by decide +kernel, ⟨by decide +kernel, by decide +kernel⟩, rfl, by decide⟩
abbrev M_X8_looked : zM := (RX8, yX8_looked, cX8_looked, 2, (some .int), 0)
theorem k_X8_looked : zMok M_X8_looked := ⟨zin 1014 (by decide +kernel) (by decide +kernel), zin 65 (by decide +kernel) (by decide +kernel), by decide +kernel, ⟨by decide +kernel, by decide +kernel⟩, rfl, by decide⟩
abbrev M_X8_judge : zM := (RX8, yX8_judge, cX8_judge, 4, (some .int), 0)
theorem k_X8_judge : zMok M_X8_judge := ⟨zin 1018 (by decide +kernel) (by decide +kernel), zin 65 (by decide +kernel) (by decide +kernel), by decide +kernel, ⟨by decide +kernel, by decide +kernel⟩, rfl, by decide⟩
abbrev M_X8_isTape : zM := (RX8, yX8_isTape, cX8_isTape, 1, (some .boolean), 0)
theorem k_X8_isTape : zMok M_X8_isTape := ⟨zin 1021 (by decide +kernel) (by decide +kernel), zin 65 (by decide +kernel) (by decide +kernel), by decide +kernel, ⟨by decide +kernel, by decide +kernel⟩, rfl, by decide⟩
abbrev M_X8_image : zM := (RX8, yX8_image, cX8_image, 1, (some .int), 0)
theorem k_X8_image : zMok M_X8_image := ⟨zin 1025 (by decide +kernel) (by decide +kernel), zin 65 (by decide +kernel) (by decide +kernel), by decide +kernel, ⟨by decide +kernel, by decide +kernel⟩, rfl, by decide⟩
abbrev M_X8_passesAll : zM := (RX8, yX8_passesAll, cX8_passesAll, 2, none, 0)
theorem k_X8_passesAll : zMok M_X8_passesAll := ⟨zin 1029 (by decide +kernel) (by decide +kernel), zin 65 (by decide +kernel) (by decide +kernel), by decide +kernel, ⟨by decide +kernel, by decide +kernel⟩, rfl, by decide⟩
abbrev M_X8_passOne : zM := (RX8, yX8_passOne, cX8_passOne, 3, (some .int), 0)
theorem k_X8_passOne : zMok M_X8_passOne := ⟨zin 1033 (by decide +kernel) (by decide +kernel), zin 65 (by decide +kernel) (by decide +kernel), by decide +kernel, ⟨by decide +kernel, by decide +kernel⟩, rfl, by decide⟩
abbrev M_X8_passes : zM := (RX8, yX8_passes, cX8_passes, 4, none, 0)
theorem k_X8_passes : zMok M_X8_passes := ⟨zin 1037 (by decide +kernel) (by decide +kernel), zin 65 (by decide +kernel) (by decide +kernel), by decide +kernel, ⟨by decide +kernel, by decide +kernel⟩, rfl, by decide⟩
abbrev M_X8_undo : zM := (RX8, yX8_undo, cX8_undo, 1, (some .int), 0)
theorem k_X8_undo : zMok M_X8_undo := ⟨zin 1041 (by decide +kernel) (by decide +kernel), zin 65 (by decide +kernel) (by decide +kernel), by decide +kernel, ⟨by decide +kernel, by decide +kernel⟩, rfl, by decide⟩
abbrev M_X8_count : zM := (RX8, yX8_count, cX8_count, 2, (some .int), 0)
theorem k_X8_count : zMok M_X8_count := ⟨zin 1045 (by decide +kernel) (by decide +kernel), zin 65 (by decide +kernel) (by decide +kernel), by decide +kernel, ⟨by decide +kernel, by decide +kernel⟩, rfl, by decide⟩
abbrev M_X8_tape : zM := (RX8, yX8_tape, cX8_tape, 5, (some .int), 0)
theorem k_X8_tape : zMok M_X8_tape := ⟨zin 1049 (by decide +kernel) (by decide +kernel), zin 65 (by decide +kernel) (by decide +kernel), by decide +kernel, ⟨by decide +kernel, by decide +kernel⟩, rfl, by decide⟩
abbrev M_X8_item : zM := (RX8, yX8_item, cX8_item, 5, (some .int), 0)
theorem k_X8_item : zMok M_X8_item := ⟨zin 1053 (by decide +kernel) (by decide +kernel), zin 65 (by decide +kernel) (by decide +kernel), by decide +kernel, ⟨by decide +kernel, by decide +kernel⟩, rfl, by decide⟩
abbrev M_X8_lowest : zM := (RX8, yX8_lowest, cX8_lowest, 3, (some .long), 0)
theorem k_X8_lowest : zMok M_X8_lowest := ⟨zin 1056 (by decide +kernel) (by decide +kernel), zin 65 (by decide +kernel) (by decide +kernel), by decide +kernel, ⟨by decide +kernel, by decide +kernel⟩, rfl, by decide⟩
abbrev M_X8_peek : zM := (RX8, yX8_peek, cX8_peek, 3, (some .long), 0)
theorem k_X8_peek : zMok M_X8_peek := ⟨zin 1060 (by decide +kernel) (by decide +kernel), zin 65 (by decide +kernel) (by decide +kernel), by decide +kernel, ⟨by decide +kernel, by decide +kernel⟩, rfl, by decide⟩
abbrev M_X8_shift : zM := (RX8, yX8_shift, cX8_shift, 7, (some .int), 0)
theorem k_X8_shift : zMok M_X8_shift := ⟨zin 1064 (by decide +kernel) (by decide +kernel), zin 65 (by decide +kernel) (by decide +kernel), by decide +kernel, ⟨by decide +kernel, by decide +kernel⟩, rfl, by decide⟩
theorem g_L_9 : zLI RL 9 M_X7_init 0 := ⟨k_X7_init, rfl, by decide +kernel, rfl, zin 76 (by decide +kernel) (by decide +kernel), Or.inl (zin 75 (by decide +kernel) (by decide +kernel))⟩
theorem g_L_13 : zLV RL 13 M_X7_corner 2 := ⟨k_X7_corner, by decide +kernel, zin 208 (by decide +kernel) (by decide +kernel), zin 209 (by decide +kernel) (by decide +kernel), Or.inl (zin 207 (by decide +kernel) (by decide +kernel))⟩
theorem g_X7_46 : zLS RX7 46 M_X7_isCorner 1 := ⟨k_X7_isCorner, by decide +kernel, zin 212 (by decide +kernel) (by decide +kernel), Or.inl (zin 211 (by decide +kernel) (by decide +kernel))⟩
theorem g_X7_50 : zLS RX7 50 M_X7_isBit 1 := ⟨k_X7_isBit, by decide +kernel, zin 215 (by decide +kernel) (by decide +kernel), Or.inl (zin 214 (by decide +kernel) (by decide +kernel))⟩
theorem g_X7_57 : zLS RX7 57 M_X7_bitOf 2 := ⟨k_X7_bitOf, by decide +kernel, zin 218 (by decide +kernel) (by decide +kernel), Or.inl (zin 217 (by decide +kernel) (by decide +kernel))⟩
theorem g_L_18 : zLV RL 18 M_X7_code 1 := ⟨k_X7_code, by decide +kernel, zin 221 (by decide +kernel) (by decide +kernel), zin 222 (by decide +kernel) (by decide +kernel), Or.inl (zin 220 (by decide +kernel) (by decide +kernel))⟩
theorem g_L_23 : zLV RL 23 M_X7_move 1 := ⟨k_X7_move, by decide +kernel, zin 225 (by decide +kernel) (by decide +kernel), zin 226 (by decide +kernel) (by decide +kernel), Or.inl (zin 224 (by decide +kernel) (by decide +kernel))⟩
theorem g_X7_61 : zLS RX7 61 M_X7_isMove 1 := ⟨k_X7_isMove, by decide +kernel, zin 229 (by decide +kernel) (by decide +kernel), Or.inl (zin 228 (by decide +kernel) (by decide +kernel))⟩
theorem g_X1_19 : zLS RX1 19 M_X1_cornerBy 2 := ⟨k_X1_cornerBy, by decide +kernel, zin 236 (by decide +kernel) (by decide +kernel), Or.inl (zin 235 (by decide +kernel) (by decide +kernel))⟩
theorem g_L_27 : zLV RL 27 M_X7_becomes 1 := ⟨k_X7_becomes, by decide +kernel, zin 241 (by decide +kernel) (by decide +kernel), zin 242 (by decide +kernel) (by decide +kernel), Or.inl (zin 240 (by decide +kernel) (by decide +kernel))⟩
theorem g_X1_22 : zLS RX1 22 M_X1_imageBy 2 := ⟨k_X1_imageBy, by decide +kernel, zin 232 (by decide +kernel) (by decide +kernel), Or.inl (zin 251 (by decide +kernel) (by decide +kernel))⟩
theorem g_L_31 : zLV RL 31 M_X7_keep 0 := ⟨k_X7_keep, by decide +kernel, zin 256 (by decide +kernel) (by decide +kernel), zin 257 (by decide +kernel) (by decide +kernel), Or.inl (zin 255 (by decide +kernel) (by decide +kernel))⟩
theorem g_L_36 : zLV RL 36 M_X7_feed 1 := ⟨k_X7_feed, by decide +kernel, zin 260 (by decide +kernel) (by decide +kernel), zin 261 (by decide +kernel) (by decide +kernel), Or.inl (zin 259 (by decide +kernel) (by decide +kernel))⟩
theorem g_L_40 : zLV RL 40 M_X7_read 0 := ⟨k_X7_read, by decide +kernel, zin 268 (by decide +kernel) (by decide +kernel), zin 269 (by decide +kernel) (by decide +kernel), Or.inl (zin 267 (by decide +kernel) (by decide +kernel))⟩
theorem g_X6_19 : zLV RX6 19 M_X6_signAt 1 := ⟨k_X6_signAt, by decide +kernel, zin 277 (by decide +kernel) (by decide +kernel), zin 3 (by decide +kernel) (by decide +kernel), Or.inl (zin 275 (by decide +kernel) (by decide +kernel))⟩
theorem g_X6_23 : zLS RX6 23 M_X6_mostDigits 1 := ⟨k_X6_mostDigits, by decide +kernel, zin 280 (by decide +kernel) (by decide +kernel), Or.inl (zin 279 (by decide +kernel) (by decide +kernel))⟩
theorem g_X6_26 : zLV RX6 26 M_X6_digitsFrom 2 := ⟨k_X6_digitsFrom, by decide +kernel, zin 284 (by decide +kernel) (by decide +kernel), zin 4 (by decide +kernel) (by decide +kernel), Or.inl (zin 282 (by decide +kernel) (by decide +kernel))⟩
theorem g_X6_30 : zLV RX6 30 M_X6_performClause 4 := ⟨k_X6_performClause, by decide +kernel, zin 292 (by decide +kernel) (by decide +kernel), zin 6 (by decide +kernel) (by decide +kernel), Or.inl (zin 290 (by decide +kernel) (by decide +kernel))⟩
theorem g_X6_34 : zLV RX6 34 M_X6_cornersAt 2 := ⟨k_X6_cornersAt, by decide +kernel, zin 296 (by decide +kernel) (by decide +kernel), zin 7 (by decide +kernel) (by decide +kernel), Or.inl (zin 294 (by decide +kernel) (by decide +kernel))⟩
theorem g_X6_37 : zLS RX6 37 M_X6_performCorners 3 := ⟨k_X6_performCorners, by decide +kernel, zin 300 (by decide +kernel) (by decide +kernel), Or.inl (zin 299 (by decide +kernel) (by decide +kernel))⟩
theorem g_X6_41 : zLV RX6 41 M_X6_numberAt 2 := ⟨k_X6_numberAt, by decide +kernel, zin 304 (by decide +kernel) (by decide +kernel), zin 8 (by decide +kernel) (by decide +kernel), Or.inl (zin 302 (by decide +kernel) (by decide +kernel))⟩
theorem g_X6_44 : zLS RX6 44 M_X6_performMove 2 := ⟨k_X6_performMove, by decide +kernel, zin 307 (by decide +kernel) (by decide +kernel), Or.inl (zin 306 (by decide +kernel) (by decide +kernel))⟩
theorem g_L_44 : zLV RL 44 M_X7_told 1 := ⟨k_X7_told, by decide +kernel, zin 313 (by decide +kernel) (by decide +kernel), zin 314 (by decide +kernel) (by decide +kernel), Or.inl (zin 312 (by decide +kernel) (by decide +kernel))⟩
theorem g_X7_91 : zLS RX7 91 M_J6_bitCount_0f7a4 1 := ⟨k_J6_bitCount_0f7a4, by decide +kernel, zin 317 (by decide +kernel) (by decide +kernel), Or.inl (zin 316 (by decide +kernel) (by decide +kernel))⟩
theorem g_X1_30 : zLS RX1 30 M_X1_formOf 1 := ⟨k_X1_formOf, by decide +kernel, zin 249 (by decide +kernel) (by decide +kernel), Or.inl (zin 326 (by decide +kernel) (by decide +kernel))⟩
theorem g_X1_42 : zLS RX1 42 M_X1_stillMoves 1 := ⟨k_X1_stillMoves, by decide +kernel, zin 333 (by decide +kernel) (by decide +kernel), Or.inl (zin 332 (by decide +kernel) (by decide +kernel))⟩
theorem g_X1_37 : zLS RX1 37 M_J6_bitCount_0f7a4 1 := ⟨k_J6_bitCount_0f7a4, by decide +kernel, zin 317 (by decide +kernel) (by decide +kernel), Or.inl (zin 339 (by decide +kernel) (by decide +kernel))⟩
theorem g_X4_55 : zLV RX4 55 M_X4_measure 1 := ⟨k_X4_measure, by decide +kernel, zin 346 (by decide +kernel) (by decide +kernel), zin 10 (by decide +kernel) (by decide +kernel), Or.inl (zin 344 (by decide +kernel) (by decide +kernel))⟩
theorem g_X4_48 : zLV RX4 48 M_X4_measureBy 1 := ⟨k_X4_measureBy, by decide +kernel, zin 351 (by decide +kernel) (by decide +kernel), zin 11 (by decide +kernel) (by decide +kernel), Or.inl (zin 349 (by decide +kernel) (by decide +kernel))⟩
theorem g_X4_66 : zLV RX4 66 M_X4_isMeasuredFace 1 := ⟨k_X4_isMeasuredFace, by decide +kernel, zin 357 (by decide +kernel) (by decide +kernel), zin 12 (by decide +kernel) (by decide +kernel), Or.inl (zin 355 (by decide +kernel) (by decide +kernel))⟩
theorem g_X4_58 : zLV RX4 58 M_X4_isMeasuredTop 1 := ⟨k_X4_isMeasuredTop, by decide +kernel, zin 361 (by decide +kernel) (by decide +kernel), zin 13 (by decide +kernel) (by decide +kernel), Or.inl (zin 359 (by decide +kernel) (by decide +kernel))⟩
theorem g_X4_62 : zLS RX4 62 M_J6_bitCount_0f7a4 1 := ⟨k_J6_bitCount_0f7a4, by decide +kernel, zin 317 (by decide +kernel) (by decide +kernel), Or.inl (zin 363 (by decide +kernel) (by decide +kernel))⟩
theorem g_X1_45 : zLS RX1 45 M_X1_leastCorner 1 := ⟨k_X1_leastCorner, by decide +kernel, zin 372 (by decide +kernel) (by decide +kernel), Or.inl (zin 371 (by decide +kernel) (by decide +kernel))⟩
theorem g_X1_48 : zLS RX1 48 M_X1_determinant 4 := ⟨k_X1_determinant, by decide +kernel, zin 375 (by decide +kernel) (by decide +kernel), Or.inl (zin 374 (by decide +kernel) (by decide +kernel))⟩
theorem g_X1_52 : zLS RX1 52 M_X1_away 3 := ⟨k_X1_away, by decide +kernel, zin 378 (by decide +kernel) (by decide +kernel), Or.inl (zin 377 (by decide +kernel) (by decide +kernel))⟩
theorem g_X1_56 : zLS RX1 56 M_X1_minor 5 := ⟨k_X1_minor, by decide +kernel, zin 381 (by decide +kernel) (by decide +kernel), Or.inl (zin 380 (by decide +kernel) (by decide +kernel))⟩
theorem g_X4_73 : zLV RX4 73 M_X4_pointsIn 2 := ⟨k_X4_pointsIn, by decide +kernel, zin 389 (by decide +kernel) (by decide +kernel), zin 16 (by decide +kernel) (by decide +kernel), Or.inl (zin 387 (by decide +kernel) (by decide +kernel))⟩
theorem g_X4_69 : zLV RX4 69 M_X4_isInMeasured 4 := ⟨k_X4_isInMeasured, by decide +kernel, zin 393 (by decide +kernel) (by decide +kernel), zin 17 (by decide +kernel) (by decide +kernel), Or.inl (zin 391 (by decide +kernel) (by decide +kernel))⟩
theorem g_L_48 : zLV RL 48 M_X7_carried 2 := ⟨k_X7_carried, by decide +kernel, zin 400 (by decide +kernel) (by decide +kernel), zin 401 (by decide +kernel) (by decide +kernel), Or.inl (zin 399 (by decide +kernel) (by decide +kernel))⟩
theorem g_L_52 : zLV RL 52 M_X7_imaged 1 := ⟨k_X7_imaged, by decide +kernel, zin 405 (by decide +kernel) (by decide +kernel), zin 406 (by decide +kernel) (by decide +kernel), Or.inl (zin 404 (by decide +kernel) (by decide +kernel))⟩
theorem g_L_56 : zLV RL 56 M_X7_form 1 := ⟨k_X7_form, by decide +kernel, zin 409 (by decide +kernel) (by decide +kernel), zin 410 (by decide +kernel) (by decide +kernel), Or.inl (zin 408 (by decide +kernel) (by decide +kernel))⟩
theorem g_L_60 : zLV RL 60 M_X7_classes 1 := ⟨k_X7_classes, by decide +kernel, zin 414 (by decide +kernel) (by decide +kernel), zin 415 (by decide +kernel) (by decide +kernel), Or.inl (zin 413 (by decide +kernel) (by decide +kernel))⟩
theorem g_L_64 : zLV RL 64 M_X7_weighs 4 := ⟨k_X7_weighs, by decide +kernel, zin 421 (by decide +kernel) (by decide +kernel), zin 422 (by decide +kernel) (by decide +kernel), Or.inl (zin 420 (by decide +kernel) (by decide +kernel))⟩
theorem g_X7_136 : zLS RX7 136 M_X7_isWeight 1 := ⟨k_X7_isWeight, by decide +kernel, zin 425 (by decide +kernel) (by decide +kernel), Or.inl (zin 424 (by decide +kernel) (by decide +kernel))⟩
theorem g_X4_38 : zLS RX4 38 M_X4_cornerWeight 4 := ⟨k_X4_cornerWeight, by decide +kernel, zin 432 (by decide +kernel) (by decide +kernel), Or.inl (zin 431 (by decide +kernel) (by decide +kernel))⟩
theorem g_L_69 : zLV RL 69 M_X7_face 1 := ⟨k_X7_face, by decide +kernel, zin 441 (by decide +kernel) (by decide +kernel), zin 442 (by decide +kernel) (by decide +kernel), Or.inl (zin 440 (by decide +kernel) (by decide +kernel))⟩
theorem g_L_73 : zLV RL 73 M_X7_edge 2 := ⟨k_X7_edge, by decide +kernel, zin 449 (by decide +kernel) (by decide +kernel), zin 450 (by decide +kernel) (by decide +kernel), Or.inl (zin 448 (by decide +kernel) (by decide +kernel))⟩
theorem g_L_77 : zLV RL 77 M_X7_points 1 := ⟨k_X7_points, by decide +kernel, zin 457 (by decide +kernel) (by decide +kernel), zin 458 (by decide +kernel) (by decide +kernel), Or.inl (zin 456 (by decide +kernel) (by decide +kernel))⟩
theorem g_X7_154 : zLS RX7 154 M_X7_isTimes 1 := ⟨k_X7_isTimes, by decide +kernel, zin 461 (by decide +kernel) (by decide +kernel), Or.inl (zin 460 (by decide +kernel) (by decide +kernel))⟩
theorem g_L_81 : zLV RL 81 M_X7_holds 4 := ⟨k_X7_holds, by decide +kernel, zin 465 (by decide +kernel) (by decide +kernel), zin 466 (by decide +kernel) (by decide +kernel), Or.inl (zin 464 (by decide +kernel) (by decide +kernel))⟩
theorem g_X7_160 : zLS RX7 160 M_X7_isPlace 1 := ⟨k_X7_isPlace, by decide +kernel, zin 469 (by decide +kernel) (by decide +kernel), Or.inl (zin 468 (by decide +kernel) (by decide +kernel))⟩
theorem g_L_85 : zLV RL 85 M_X7_floats 1 := ⟨k_X7_floats, by decide +kernel, zin 476 (by decide +kernel) (by decide +kernel), zin 477 (by decide +kernel) (by decide +kernel), Or.inl (zin 475 (by decide +kernel) (by decide +kernel))⟩
theorem g_X4_76 : zLV RX4 76 M_X4_width 1 := ⟨k_X4_width, by decide +kernel, zin 397 (by decide +kernel) (by decide +kernel), zin 18 (by decide +kernel) (by decide +kernel), Or.inl (zin 483 (by decide +kernel) (by decide +kernel))⟩
theorem g_X4_79 : zLV RX4 79 M_X4_sixfold 1 := ⟨k_X4_sixfold, by decide +kernel, zin 385 (by decide +kernel) (by decide +kernel), zin 15 (by decide +kernel) (by decide +kernel), Or.inl (zin 484 (by decide +kernel) (by decide +kernel))⟩
theorem g_X0_7 : zLS RX0 7 M_X0_exponentOf 1 := ⟨k_X0_exponentOf, by decide +kernel, zin 493 (by decide +kernel) (by decide +kernel), Or.inl (zin 492 (by decide +kernel) (by decide +kernel))⟩
theorem g_X0_13 : zLS RX0 13 M_X0_fractionOf 2 := ⟨k_X0_fractionOf, by decide +kernel, zin 497 (by decide +kernel) (by decide +kernel), Or.inl (zin 496 (by decide +kernel) (by decide +kernel))⟩
theorem g_L_89 : zLV RL 89 M_X7_spread 0 := ⟨k_X7_spread, by decide +kernel, zin 501 (by decide +kernel) (by decide +kernel), zin 502 (by decide +kernel) (by decide +kernel), Or.inl (zin 500 (by decide +kernel) (by decide +kernel))⟩
theorem g_X1_60 : zLS RX1 60 M_X1_centre 2 := ⟨k_X1_centre, by decide +kernel, zin 487 (by decide +kernel) (by decide +kernel), Or.inl (zin 508 (by decide +kernel) (by decide +kernel))⟩
theorem g_L_94 : zLV RL 94 M_X7_see 2 := ⟨k_X7_see, by decide +kernel, zin 515 (by decide +kernel) (by decide +kernel), zin 516 (by decide +kernel) (by decide +kernel), Or.inl (zin 514 (by decide +kernel) (by decide +kernel))⟩
theorem g_L_98 : zLV RL 98 M_X7_fits 0 := ⟨k_X7_fits, by decide +kernel, zin 527 (by decide +kernel) (by decide +kernel), zin 528 (by decide +kernel) (by decide +kernel), Or.inl (zin 526 (by decide +kernel) (by decide +kernel))⟩
theorem g_X7_203 : zLV RX7 203 M_X7_allSeenIn 1 := ⟨k_X7_allSeenIn, by decide +kernel, zin 532 (by decide +kernel) (by decide +kernel), zin 25 (by decide +kernel) (by decide +kernel), Or.inl (zin 530 (by decide +kernel) (by decide +kernel))⟩
theorem g_X7_210 : zLV RX7 210 M_X7_sightOf 2 := ⟨k_X7_sightOf, by decide +kernel, zin 540 (by decide +kernel) (by decide +kernel), zin 27 (by decide +kernel) (by decide +kernel), Or.inl (zin 538 (by decide +kernel) (by decide +kernel))⟩
theorem g_L_102 : zLV RL 102 M_X7_odds 2 := ⟨k_X7_odds, by decide +kernel, zin 547 (by decide +kernel) (by decide +kernel), zin 548 (by decide +kernel) (by decide +kernel), Or.inl (zin 546 (by decide +kernel) (by decide +kernel))⟩
theorem g_X7_219 : zLS RX7 219 M_X7_lowestOfMoves 2 := ⟨k_X7_lowestOfMoves, by decide +kernel, zin 554 (by decide +kernel) (by decide +kernel), Or.inl (zin 553 (by decide +kernel) (by decide +kernel))⟩
theorem g_X7_223 : zLS RX7 223 M_X7_commonDivisor 2 := ⟨k_X7_commonDivisor, by decide +kernel, zin 557 (by decide +kernel) (by decide +kernel), Or.inl (zin 556 (by decide +kernel) (by decide +kernel))⟩
theorem g_L_107 : zLV RL 107 M_X7_mean 1 := ⟨k_X7_mean, by decide +kernel, zin 560 (by decide +kernel) (by decide +kernel), zin 561 (by decide +kernel) (by decide +kernel), Or.inl (zin 559 (by decide +kernel) (by decide +kernel))⟩
theorem g_L_112 : zLV RL 112 M_X7_event 2 := ⟨k_X7_event, by decide +kernel, zin 564 (by decide +kernel) (by decide +kernel), zin 565 (by decide +kernel) (by decide +kernel), Or.inl (zin 563 (by decide +kernel) (by decide +kernel))⟩
theorem g_L_116 : zLV RL 116 M_X7_after 1 := ⟨k_X7_after, by decide +kernel, zin 568 (by decide +kernel) (by decide +kernel), zin 569 (by decide +kernel) (by decide +kernel), Or.inl (zin 567 (by decide +kernel) (by decide +kernel))⟩
theorem g_X7_229 : zLV RX7 229 M_X7_bodyAfterEvents 0 := ⟨k_X7_bodyAfterEvents, by decide +kernel, zin 573 (by decide +kernel) (by decide +kernel), zin 29 (by decide +kernel) (by decide +kernel), Or.inl (zin 571 (by decide +kernel) (by decide +kernel))⟩
theorem g_L_120 : zLV RL 120 M_X7_book 2 := ⟨k_X7_book, by decide +kernel, zin 576 (by decide +kernel) (by decide +kernel), zin 577 (by decide +kernel) (by decide +kernel), Or.inl (zin 575 (by decide +kernel) (by decide +kernel))⟩
theorem g_L_124 : zLV RL 124 M_X7_looked 0 := ⟨k_X7_looked, by decide +kernel, zin 580 (by decide +kernel) (by decide +kernel), zin 581 (by decide +kernel) (by decide +kernel), Or.inl (zin 579 (by decide +kernel) (by decide +kernel))⟩
theorem g_L_128 : zLV RL 128 M_X7_judge 2 := ⟨k_X7_judge, by decide +kernel, zin 584 (by decide +kernel) (by decide +kernel), zin 585 (by decide +kernel) (by decide +kernel), Or.inl (zin 583 (by decide +kernel) (by decide +kernel))⟩
theorem g_X7_235 : zLS RX7 235 M_X7_isTape 1 := ⟨k_X7_isTape, by decide +kernel, zin 588 (by decide +kernel) (by decide +kernel), Or.inl (zin 587 (by decide +kernel) (by decide +kernel))⟩
theorem g_X5_20 : zLV RX5 20 M_X5_hasPlace 1 := ⟨k_X5_hasPlace, by decide +kernel, zin 596 (by decide +kernel) (by decide +kernel), zin 31 (by decide +kernel) (by decide +kernel), Or.inl (zin 602 (by decide +kernel) (by decide +kernel))⟩
theorem g_L_132 : zLV RL 132 M_X7_image 0 := ⟨k_X7_image, by decide +kernel, zin 604 (by decide +kernel) (by decide +kernel), zin 605 (by decide +kernel) (by decide +kernel), Or.inl (zin 603 (by decide +kernel) (by decide +kernel))⟩
theorem g_L_136 : zLV RL 136 M_X7_undo 0 := ⟨k_X7_undo, by decide +kernel, zin 619 (by decide +kernel) (by decide +kernel), zin 620 (by decide +kernel) (by decide +kernel), Or.inl (zin 618 (by decide +kernel) (by decide +kernel))⟩
theorem g_L_140 : zLV RL 140 M_X7_count 1 := ⟨k_X7_count, by decide +kernel, zin 623 (by decide +kernel) (by decide +kernel), zin 624 (by decide +kernel) (by decide +kernel), Or.inl (zin 622 (by decide +kernel) (by decide +kernel))⟩
theorem g_L_144 : zLV RL 144 M_X7_tape 3 := ⟨k_X7_tape, by decide +kernel, zin 627 (by decide +kernel) (by decide +kernel), zin 628 (by decide +kernel) (by decide +kernel), Or.inl (zin 626 (by decide +kernel) (by decide +kernel))⟩
theorem g_L_151 : zLV RL 151 M_X7_item 3 := ⟨k_X7_item, by decide +kernel, zin 635 (by decide +kernel) (by decide +kernel), zin 636 (by decide +kernel) (by decide +kernel), Or.inl (zin 634 (by decide +kernel) (by decide +kernel))⟩
theorem g_X5_24 : zLV RX5 24 M_X5_cut 1 := ⟨k_X5_cut, by decide +kernel, zin 644 (by decide +kernel) (by decide +kernel), zin 37 (by decide +kernel) (by decide +kernel), Or.inl (zin 642 (by decide +kernel) (by decide +kernel))⟩
theorem g_L_156 : zLV RL 156 M_X7_peek 2 := ⟨k_X7_peek, by decide +kernel, zin 647 (by decide +kernel) (by decide +kernel), zin 648 (by decide +kernel) (by decide +kernel), Or.inl (zin 646 (by decide +kernel) (by decide +kernel))⟩
theorem g_L_160 : zLV RL 160 M_X7_shift 5 := ⟨k_X7_shift, by decide +kernel, zin 651 (by decide +kernel) (by decide +kernel), zin 652 (by decide +kernel) (by decide +kernel), Or.inl (zin 650 (by decide +kernel) (by decide +kernel))⟩
theorem g_L_12 : zLI RL 12 M_X8_init 0 := ⟨k_X8_init, rfl, by decide +kernel, rfl, zin 662 (by decide +kernel) (by decide +kernel), Or.inl (zin 661 (by decide +kernel) (by decide +kernel))⟩
theorem g_X8_81 : zLV RX8 81 M_X8_imageOf 2 := ⟨k_X8_imageOf, by decide +kernel, zin 667 (by decide +kernel) (by decide +kernel), zin 39 (by decide +kernel) (by decide +kernel), Or.inl (zin 665 (by decide +kernel) (by decide +kernel))⟩
theorem g_L_17 : zLV RL 17 M_X8_corner 2 := ⟨k_X8_corner, by decide +kernel, zin 768 (by decide +kernel) (by decide +kernel), zin 769 (by decide +kernel) (by decide +kernel), Or.inl (zin 767 (by decide +kernel) (by decide +kernel))⟩
theorem g_X8_122 : zLS RX8 122 M_X8_isCorner 1 := ⟨k_X8_isCorner, by decide +kernel, zin 772 (by decide +kernel) (by decide +kernel), Or.inl (zin 771 (by decide +kernel) (by decide +kernel))⟩
theorem g_X8_5 : zLS RX8 5 M_X8_isIn 3 := ⟨k_X8_isIn, by decide +kernel, zin 775 (by decide +kernel) (by decide +kernel), Or.inl (zin 774 (by decide +kernel) (by decide +kernel))⟩
theorem g_L_22 : zLV RL 22 M_X8_code 1 := ⟨k_X8_code, by decide +kernel, zin 778 (by decide +kernel) (by decide +kernel), zin 779 (by decide +kernel) (by decide +kernel), Or.inl (zin 777 (by decide +kernel) (by decide +kernel))⟩
theorem g_L_26 : zLV RL 26 M_X8_move 1 := ⟨k_X8_move, by decide +kernel, zin 782 (by decide +kernel) (by decide +kernel), zin 783 (by decide +kernel) (by decide +kernel), Or.inl (zin 781 (by decide +kernel) (by decide +kernel))⟩
theorem g_X8_129 : zLS RX8 129 M_X8_isMove 1 := ⟨k_X8_isMove, by decide +kernel, zin 786 (by decide +kernel) (by decide +kernel), Or.inl (zin 785 (by decide +kernel) (by decide +kernel))⟩
theorem g_L_30 : zLV RL 30 M_X8_becomes 1 := ⟨k_X8_becomes, by decide +kernel, zin 789 (by decide +kernel) (by decide +kernel), zin 790 (by decide +kernel) (by decide +kernel), Or.inl (zin 788 (by decide +kernel) (by decide +kernel))⟩
theorem g_L_35 : zLV RL 35 M_X8_keep 0 := ⟨k_X8_keep, by decide +kernel, zin 793 (by decide +kernel) (by decide +kernel), zin 794 (by decide +kernel) (by decide +kernel), Or.inl (zin 792 (by decide +kernel) (by decide +kernel))⟩
theorem g_L_39 : zLV RL 39 M_X8_feed 1 := ⟨k_X8_feed, by decide +kernel, zin 797 (by decide +kernel) (by decide +kernel), zin 798 (by decide +kernel) (by decide +kernel), Or.inl (zin 796 (by decide +kernel) (by decide +kernel))⟩
theorem g_L_43 : zLV RL 43 M_X8_read 0 := ⟨k_X8_read, by decide +kernel, zin 801 (by decide +kernel) (by decide +kernel), zin 802 (by decide +kernel) (by decide +kernel), Or.inl (zin 800 (by decide +kernel) (by decide +kernel))⟩
theorem g_X8_171 : zLV RX8 171 M_X8_readsAll 0 := ⟨k_X8_readsAll, by decide +kernel, zin 806 (by decide +kernel) (by decide +kernel), zin 40 (by decide +kernel) (by decide +kernel), Or.inl (zin 804 (by decide +kernel) (by decide +kernel))⟩
theorem g_X8_156 : zLV RX8 156 M_X8_readsClause 0 := ⟨k_X8_readsClause, by decide +kernel, zin 810 (by decide +kernel) (by decide +kernel), zin 41 (by decide +kernel) (by decide +kernel), Or.inl (zin 808 (by decide +kernel) (by decide +kernel))⟩
theorem g_X8_141 : zLV RX8 141 M_X8_next 0 := ⟨k_X8_next, by decide +kernel, zin 814 (by decide +kernel) (by decide +kernel), zin 42 (by decide +kernel) (by decide +kernel), Or.inl (zin 812 (by decide +kernel) (by decide +kernel))⟩
theorem g_X8_152 : zLV RX8 152 M_X8_readsDigits 2 := ⟨k_X8_readsDigits, by decide +kernel, zin 818 (by decide +kernel) (by decide +kernel), zin 43 (by decide +kernel) (by decide +kernel), Or.inl (zin 816 (by decide +kernel) (by decide +kernel))⟩
theorem g_X8_145 : zLV RX8 145 M_X8_isDigit 0 := ⟨k_X8_isDigit, by decide +kernel, zin 822 (by decide +kernel) (by decide +kernel), zin 44 (by decide +kernel) (by decide +kernel), Or.inl (zin 820 (by decide +kernel) (by decide +kernel))⟩
theorem g_X8_174 : zLV RX8 174 M_X8_does 1 := ⟨k_X8_does, by decide +kernel, zin 826 (by decide +kernel) (by decide +kernel), zin 45 (by decide +kernel) (by decide +kernel), Or.inl (zin 824 (by decide +kernel) (by decide +kernel))⟩
theorem g_X8_159 : zLV RX8 159 M_X8_set 1 := ⟨k_X8_set, by decide +kernel, zin 830 (by decide +kernel) (by decide +kernel), zin 46 (by decide +kernel) (by decide +kernel), Or.inl (zin 828 (by decide +kernel) (by decide +kernel))⟩
theorem g_X8_162 : zLV RX8 162 M_X8_move 1 := ⟨k_X8_move, by decide +kernel, zin 782 (by decide +kernel) (by decide +kernel), zin 783 (by decide +kernel) (by decide +kernel), Or.inl (zin 832 (by decide +kernel) (by decide +kernel))⟩
theorem g_X8_165 : zLV RX8 165 M_X8_becomes 1 := ⟨k_X8_becomes, by decide +kernel, zin 789 (by decide +kernel) (by decide +kernel), zin 790 (by decide +kernel) (by decide +kernel), Or.inl (zin 833 (by decide +kernel) (by decide +kernel))⟩
theorem g_X8_168 : zLV RX8 168 M_X8_keep 0 := ⟨k_X8_keep, by decide +kernel, zin 793 (by decide +kernel) (by decide +kernel), zin 794 (by decide +kernel) (by decide +kernel), Or.inl (zin 834 (by decide +kernel) (by decide +kernel))⟩
theorem g_L_47 : zLV RL 47 M_X8_told 1 := ⟨k_X8_told, by decide +kernel, zin 836 (by decide +kernel) (by decide +kernel), zin 837 (by decide +kernel) (by decide +kernel), Or.inl (zin 835 (by decide +kernel) (by decide +kernel))⟩
theorem g_X8_105 : zLS RX8 105 M_X8_bits 1 := ⟨k_X8_bits, by decide +kernel, zin 840 (by decide +kernel) (by decide +kernel), Or.inl (zin 839 (by decide +kernel) (by decide +kernel))⟩
theorem g_X8_177 : zLV RX8 177 M_X8_likes 1 := ⟨k_X8_likes, by decide +kernel, zin 844 (by decide +kernel) (by decide +kernel), zin 47 (by decide +kernel) (by decide +kernel), Or.inl (zin 842 (by decide +kernel) (by decide +kernel))⟩
theorem g_X8_180 : zLV RX8 180 M_X8_stills 1 := ⟨k_X8_stills, by decide +kernel, zin 848 (by decide +kernel) (by decide +kernel), zin 48 (by decide +kernel) (by decide +kernel), Or.inl (zin 846 (by decide +kernel) (by decide +kernel))⟩
theorem g_X8_183 : zLV RX8 183 M_X8_far 0 := ⟨k_X8_far, by decide +kernel, zin 852 (by decide +kernel) (by decide +kernel), zin 49 (by decide +kernel) (by decide +kernel), Or.inl (zin 850 (by decide +kernel) (by decide +kernel))⟩
theorem g_X8_186 : zLV RX8 186 M_X8_findFaces 1 := ⟨k_X8_findFaces, by decide +kernel, zin 856 (by decide +kernel) (by decide +kernel), zin 50 (by decide +kernel) (by decide +kernel), Or.inl (zin 854 (by decide +kernel) (by decide +kernel))⟩
theorem g_X8_98 : zLS RX8 98 M_X8_heaviest 2 := ⟨k_X8_heaviest, by decide +kernel, zin 859 (by decide +kernel) (by decide +kernel), Or.inl (zin 858 (by decide +kernel) (by decide +kernel))⟩
theorem g_X8_95 : zLS RX8 95 M_X8_mostOf 2 := ⟨k_X8_mostOf, by decide +kernel, zin 862 (by decide +kernel) (by decide +kernel), Or.inl (zin 861 (by decide +kernel) (by decide +kernel))⟩
theorem g_X8_92 : zLS RX8 92 M_X8_weighsCorner 2 := ⟨k_X8_weighsCorner, by decide +kernel, zin 865 (by decide +kernel) (by decide +kernel), Or.inl (zin 864 (by decide +kernel) (by decide +kernel))⟩
theorem g_X8_88 : zLS RX8 88 M_X8_weighsAt 4 := ⟨k_X8_weighsAt, by decide +kernel, zin 868 (by decide +kernel) (by decide +kernel), Or.inl (zin 867 (by decide +kernel) (by decide +kernel))⟩
theorem g_X8_85 : zLS RX8 85 M_X8_weightAt 2 := ⟨k_X8_weightAt, by decide +kernel, zin 871 (by decide +kernel) (by decide +kernel), Or.inl (zin 870 (by decide +kernel) (by decide +kernel))⟩
theorem g_X8_101 : zLS RX8 101 M_X8_isNought 1 := ⟨k_X8_isNought, by decide +kernel, zin 874 (by decide +kernel) (by decide +kernel), Or.inl (zin 873 (by decide +kernel) (by decide +kernel))⟩
theorem g_X8_189 : zLS RX8 189 M_X8_edgesOf 1 := ⟨k_X8_edgesOf, by decide +kernel, zin 877 (by decide +kernel) (by decide +kernel), Or.inl (zin 876 (by decide +kernel) (by decide +kernel))⟩
theorem g_X8_109 : zLS RX8 109 M_X8_isEdge 3 := ⟨k_X8_isEdge, by decide +kernel, zin 880 (by decide +kernel) (by decide +kernel), Or.inl (zin 879 (by decide +kernel) (by decide +kernel))⟩
theorem g_X8_192 : zLV RX8 192 M_X8_dimension 1 := ⟨k_X8_dimension, by decide +kernel, zin 884 (by decide +kernel) (by decide +kernel), zin 51 (by decide +kernel) (by decide +kernel), Or.inl (zin 882 (by decide +kernel) (by decide +kernel))⟩
theorem g_X8_195 : zLS RX8 195 M_X8_sixfold 1 := ⟨k_X8_sixfold, by decide +kernel, zin 887 (by decide +kernel) (by decide +kernel), Or.inl (zin 886 (by decide +kernel) (by decide +kernel))⟩
theorem g_X8_116 : zLS RX8 116 M_X8_pointsOf 2 := ⟨k_X8_pointsOf, by decide +kernel, zin 890 (by decide +kernel) (by decide +kernel), Or.inl (zin 889 (by decide +kernel) (by decide +kernel))⟩
theorem g_X8_112 : zLS RX8 112 M_X8_isWithin 5 := ⟨k_X8_isWithin, by decide +kernel, zin 893 (by decide +kernel) (by decide +kernel), Or.inl (zin 892 (by decide +kernel) (by decide +kernel))⟩
theorem g_X8_198 : zLS RX8 198 M_X8_width 1 := ⟨k_X8_width, by decide +kernel, zin 896 (by decide +kernel) (by decide +kernel), Or.inl (zin 895 (by decide +kernel) (by decide +kernel))⟩
theorem g_X8_119 : zLS RX8 119 M_X8_leastOf 2 := ⟨k_X8_leastOf, by decide +kernel, zin 899 (by decide +kernel) (by decide +kernel), Or.inl (zin 898 (by decide +kernel) (by decide +kernel))⟩
theorem g_L_51 : zLV RL 51 M_X8_carried 2 := ⟨k_X8_carried, by decide +kernel, zin 902 (by decide +kernel) (by decide +kernel), zin 903 (by decide +kernel) (by decide +kernel), Or.inl (zin 901 (by decide +kernel) (by decide +kernel))⟩
theorem g_L_55 : zLV RL 55 M_X8_imaged 1 := ⟨k_X8_imaged, by decide +kernel, zin 906 (by decide +kernel) (by decide +kernel), zin 907 (by decide +kernel) (by decide +kernel), Or.inl (zin 905 (by decide +kernel) (by decide +kernel))⟩
theorem g_L_59 : zLV RL 59 M_X8_form 1 := ⟨k_X8_form, by decide +kernel, zin 910 (by decide +kernel) (by decide +kernel), zin 911 (by decide +kernel) (by decide +kernel), Or.inl (zin 909 (by decide +kernel) (by decide +kernel))⟩
theorem g_L_63 : zLV RL 63 M_X8_classes 1 := ⟨k_X8_classes, by decide +kernel, zin 914 (by decide +kernel) (by decide +kernel), zin 915 (by decide +kernel) (by decide +kernel), Or.inl (zin 913 (by decide +kernel) (by decide +kernel))⟩
theorem g_L_68 : zLV RL 68 M_X8_weighs 4 := ⟨k_X8_weighs, by decide +kernel, zin 918 (by decide +kernel) (by decide +kernel), zin 919 (by decide +kernel) (by decide +kernel), Or.inl (zin 917 (by decide +kernel) (by decide +kernel))⟩
theorem g_L_72 : zLV RL 72 M_X8_face 1 := ⟨k_X8_face, by decide +kernel, zin 922 (by decide +kernel) (by decide +kernel), zin 923 (by decide +kernel) (by decide +kernel), Or.inl (zin 921 (by decide +kernel) (by decide +kernel))⟩
theorem g_L_76 : zLV RL 76 M_X8_edge 2 := ⟨k_X8_edge, by decide +kernel, zin 926 (by decide +kernel) (by decide +kernel), zin 927 (by decide +kernel) (by decide +kernel), Or.inl (zin 925 (by decide +kernel) (by decide +kernel))⟩
theorem g_L_80 : zLV RL 80 M_X8_points 1 := ⟨k_X8_points, by decide +kernel, zin 930 (by decide +kernel) (by decide +kernel), zin 931 (by decide +kernel) (by decide +kernel), Or.inl (zin 929 (by decide +kernel) (by decide +kernel))⟩
theorem g_L_84 : zLV RL 84 M_X8_holds 4 := ⟨k_X8_holds, by decide +kernel, zin 934 (by decide +kernel) (by decide +kernel), zin 935 (by decide +kernel) (by decide +kernel), Or.inl (zin 933 (by decide +kernel) (by decide +kernel))⟩
theorem g_L_88 : zLV RL 88 M_X8_floats 1 := ⟨k_X8_floats, by decide +kernel, zin 938 (by decide +kernel) (by decide +kernel), zin 939 (by decide +kernel) (by decide +kernel), Or.inl (zin 937 (by decide +kernel) (by decide +kernel))⟩
theorem g_X8_202 : zLV RX8 202 M_X8_fat 0 := ⟨k_X8_fat, by decide +kernel, zin 943 (by decide +kernel) (by decide +kernel), zin 52 (by decide +kernel) (by decide +kernel), Or.inl (zin 941 (by decide +kernel) (by decide +kernel))⟩
theorem g_X8_206 : zLV RX8 206 M_X8_centre 1 := ⟨k_X8_centre, by decide +kernel, zin 948 (by decide +kernel) (by decide +kernel), zin 53 (by decide +kernel) (by decide +kernel), Or.inl (zin 946 (by decide +kernel) (by decide +kernel))⟩
theorem g_X8_210 : zLS RX8 210 M_Jxf58ca_floatToIntBits_5c35a 1 := ⟨k_Jxf58ca_floatToIntBits_5c35a, by decide +kernel, zin 951 (by decide +kernel) (by decide +kernel), Or.inl (zin 950 (by decide +kernel) (by decide +kernel))⟩
theorem g_Jxf58ca_59 : zLS RJxf58ca 59 M_Jxf58ca_isNaN_12338 1 := ⟨k_Jxf58ca_isNaN_12338, by decide +kernel, zin 954 (by decide +kernel) (by decide +kernel), Or.inl (zin 953 (by decide +kernel) (by decide +kernel))⟩
theorem g_L_93 : zLV RL 93 M_X8_spread 0 := ⟨k_X8_spread, by decide +kernel, zin 961 (by decide +kernel) (by decide +kernel), zin 962 (by decide +kernel) (by decide +kernel), Or.inl (zin 960 (by decide +kernel) (by decide +kernel))⟩
theorem g_X8_220 : zLS RX8 220 M_Jxe99ae_doubleToLongBits_ccdee 1 := ⟨k_Jxe99ae_doubleToLongBits_ccdee, by decide +kernel, zin 967 (by decide +kernel) (by decide +kernel), Or.inl (zin 966 (by decide +kernel) (by decide +kernel))⟩
theorem g_Jxe99ae_122 : zLS RJxe99ae 122 M_Jxe99ae_isNaN_b9ae7 1 := ⟨k_Jxe99ae_isNaN_b9ae7, by decide +kernel, zin 970 (by decide +kernel) (by decide +kernel), Or.inl (zin 969 (by decide +kernel) (by decide +kernel))⟩
theorem g_L_97 : zLV RL 97 M_X8_see 2 := ⟨k_X8_see, by decide +kernel, zin 977 (by decide +kernel) (by decide +kernel), zin 978 (by decide +kernel) (by decide +kernel), Or.inl (zin 976 (by decide +kernel) (by decide +kernel))⟩
theorem g_L_101 : zLV RL 101 M_X8_fits 0 := ⟨k_X8_fits, by decide +kernel, zin 981 (by decide +kernel) (by decide +kernel), zin 982 (by decide +kernel) (by decide +kernel), Or.inl (zin 980 (by decide +kernel) (by decide +kernel))⟩
theorem g_X8_229 : zLV RX8 229 M_X8_isSeen 2 := ⟨k_X8_isSeen, by decide +kernel, zin 986 (by decide +kernel) (by decide +kernel), zin 54 (by decide +kernel) (by decide +kernel), Or.inl (zin 984 (by decide +kernel) (by decide +kernel))⟩
theorem g_L_106 : zLV RL 106 M_X8_odds 2 := ⟨k_X8_odds, by decide +kernel, zin 989 (by decide +kernel) (by decide +kernel), zin 990 (by decide +kernel) (by decide +kernel), Or.inl (zin 988 (by decide +kernel) (by decide +kernel))⟩
theorem g_X8_233 : zLS RX8 233 M_X8_partOf 3 := ⟨k_X8_partOf, by decide +kernel, zin 993 (by decide +kernel) (by decide +kernel), Or.inl (zin 992 (by decide +kernel) (by decide +kernel))⟩
theorem g_L_111 : zLV RL 111 M_X8_mean 1 := ⟨k_X8_mean, by decide +kernel, zin 996 (by decide +kernel) (by decide +kernel), zin 997 (by decide +kernel) (by decide +kernel), Or.inl (zin 995 (by decide +kernel) (by decide +kernel))⟩
theorem g_L_115 : zLV RL 115 M_X8_event 2 := ⟨k_X8_event, by decide +kernel, zin 1000 (by decide +kernel) (by decide +kernel), zin 1001 (by decide +kernel) (by decide +kernel), Or.inl (zin 999 (by decide +kernel) (by decide +kernel))⟩
theorem g_L_119 : zLV RL 119 M_X8_after 1 := ⟨k_X8_after, by decide +kernel, zin 1004 (by decide +kernel) (by decide +kernel), zin 1005 (by decide +kernel) (by decide +kernel), Or.inl (zin 1003 (by decide +kernel) (by decide +kernel))⟩
theorem g_L_123 : zLV RL 123 M_X8_book 2 := ⟨k_X8_book, by decide +kernel, zin 1008 (by decide +kernel) (by decide +kernel), zin 1009 (by decide +kernel) (by decide +kernel), Or.inl (zin 1007 (by decide +kernel) (by decide +kernel))⟩
theorem g_L_127 : zLV RL 127 M_X8_looked 0 := ⟨k_X8_looked, by decide +kernel, zin 1012 (by decide +kernel) (by decide +kernel), zin 1013 (by decide +kernel) (by decide +kernel), Or.inl (zin 1011 (by decide +kernel) (by decide +kernel))⟩
theorem g_L_131 : zLV RL 131 M_X8_judge 2 := ⟨k_X8_judge, by decide +kernel, zin 1016 (by decide +kernel) (by decide +kernel), zin 1017 (by decide +kernel) (by decide +kernel), Or.inl (zin 1015 (by decide +kernel) (by decide +kernel))⟩
theorem g_X8_243 : zLS RX8 243 M_X8_isTape 1 := ⟨k_X8_isTape, by decide +kernel, zin 1020 (by decide +kernel) (by decide +kernel), Or.inl (zin 1019 (by decide +kernel) (by decide +kernel))⟩
theorem g_L_135 : zLV RL 135 M_X8_image 0 := ⟨k_X8_image, by decide +kernel, zin 1023 (by decide +kernel) (by decide +kernel), zin 1024 (by decide +kernel) (by decide +kernel), Or.inl (zin 1022 (by decide +kernel) (by decide +kernel))⟩
theorem g_X8_260 : zLV RX8 260 M_X8_passesAll 1 := ⟨k_X8_passesAll, by decide +kernel, zin 1028 (by decide +kernel) (by decide +kernel), zin 55 (by decide +kernel) (by decide +kernel), Or.inl (zin 1026 (by decide +kernel) (by decide +kernel))⟩
theorem g_X8_253 : zLV RX8 253 M_X8_passOne 1 := ⟨k_X8_passOne, by decide +kernel, zin 1032 (by decide +kernel) (by decide +kernel), zin 56 (by decide +kernel) (by decide +kernel), Or.inl (zin 1030 (by decide +kernel) (by decide +kernel))⟩
theorem g_X8_256 : zLV RX8 256 M_X8_passes 2 := ⟨k_X8_passes, by decide +kernel, zin 1036 (by decide +kernel) (by decide +kernel), zin 57 (by decide +kernel) (by decide +kernel), Or.inl (zin 1034 (by decide +kernel) (by decide +kernel))⟩
theorem g_L_139 : zLV RL 139 M_X8_undo 0 := ⟨k_X8_undo, by decide +kernel, zin 1039 (by decide +kernel) (by decide +kernel), zin 1040 (by decide +kernel) (by decide +kernel), Or.inl (zin 1038 (by decide +kernel) (by decide +kernel))⟩
theorem g_L_143 : zLV RL 143 M_X8_count 1 := ⟨k_X8_count, by decide +kernel, zin 1043 (by decide +kernel) (by decide +kernel), zin 1044 (by decide +kernel) (by decide +kernel), Or.inl (zin 1042 (by decide +kernel) (by decide +kernel))⟩
theorem g_L_148 : zLV RL 148 M_X8_tape 3 := ⟨k_X8_tape, by decide +kernel, zin 1047 (by decide +kernel) (by decide +kernel), zin 1048 (by decide +kernel) (by decide +kernel), Or.inl (zin 1046 (by decide +kernel) (by decide +kernel))⟩
theorem g_L_155 : zLV RL 155 M_X8_item 3 := ⟨k_X8_item, by decide +kernel, zin 1051 (by decide +kernel) (by decide +kernel), zin 1052 (by decide +kernel) (by decide +kernel), Or.inl (zin 1050 (by decide +kernel) (by decide +kernel))⟩
theorem g_X8_267 : zLS RX8 267 M_X8_lowest 2 := ⟨k_X8_lowest, by decide +kernel, zin 1055 (by decide +kernel) (by decide +kernel), Or.inl (zin 1054 (by decide +kernel) (by decide +kernel))⟩
theorem g_L_159 : zLV RL 159 M_X8_peek 2 := ⟨k_X8_peek, by decide +kernel, zin 1058 (by decide +kernel) (by decide +kernel), zin 1059 (by decide +kernel) (by decide +kernel), Or.inl (zin 1057 (by decide +kernel) (by decide +kernel))⟩
theorem g_L_164 : zLV RL 164 M_X8_shift 5 := ⟨k_X8_shift, by decide +kernel, zin 1062 (by decide +kernel) (by decide +kernel), zin 1063 (by decide +kernel) (by decide +kernel), Or.inl (zin 1061 (by decide +kernel) (by decide +kernel))⟩
theorem g_X7_13 : zLI RX7 13 M_X2_init 0 := ⟨k_X2_init, rfl, by decide +kernel, rfl, zin 84 (by decide +kernel) (by decide +kernel), Or.inr ⟨"CubeBodies", znin 83 (by decide +kernel) (by decide +kernel)⟩⟩
theorem g_X2_20 : zLI RX2 20 M_X3_init 0 := ⟨k_X3_init, rfl, by decide +kernel, rfl, zin 90 (by decide +kernel) (by decide +kernel), Or.inr ⟨"CubeBodies", znin 89 (by decide +kernel) (by decide +kernel)⟩⟩
theorem g_X7_27 : zLI RX7 27 M_X6_init 0 := ⟨k_X6_init, rfl, by decide +kernel, rfl, zin 131 (by decide +kernel) (by decide +kernel), Or.inr ⟨"CubeBodies", znin 130 (by decide +kernel) (by decide +kernel)⟩⟩
theorem g_X7_34 : zLI RX7 34 M_X4_init 0 := ⟨k_X4_init, rfl, by decide +kernel, rfl, zin 146 (by decide +kernel) (by decide +kernel), Or.inr ⟨"CubeBodies", znin 145 (by decide +kernel) (by decide +kernel)⟩⟩
theorem g_X7_45 : zLI RX7 45 M_X5_init 0 := ⟨k_X5_init, rfl, by decide +kernel, rfl, zin 172 (by decide +kernel) (by decide +kernel), Or.inr ⟨"CubeBodies", znin 171 (by decide +kernel) (by decide +kernel)⟩⟩
theorem g_X7_64 : zLS RX7 64 M_X1_imageBy 2 := ⟨k_X1_imageBy, by decide +kernel, zin 232 (by decide +kernel) (by decide +kernel), Or.inr ⟨"CubeBodies", znin 231 (by decide +kernel) (by decide +kernel)⟩⟩
theorem g_X1_15 : zLS RX1 15 M_X7_bitOf 2 := ⟨k_X7_bitOf, by decide +kernel, zin 218 (by decide +kernel) (by decide +kernel), Or.inr ⟨"CubeBodies", znin 234 (by decide +kernel) (by decide +kernel)⟩⟩
theorem g_X7_69 : zLV RX7 69 M_X2_change 1 := ⟨k_X2_change, by decide +kernel, zin 246 (by decide +kernel) (by decide +kernel), zin 0 (by decide +kernel) (by decide +kernel), Or.inr ⟨"CubeBodies", znin 244 (by decide +kernel) (by decide +kernel)⟩⟩
theorem g_X2_31 : zLS RX2 31 M_X1_formOf 1 := ⟨k_X1_formOf, by decide +kernel, zin 249 (by decide +kernel) (by decide +kernel), Or.inr ⟨"CubeBodies", znin 248 (by decide +kernel) (by decide +kernel)⟩⟩
theorem g_X7_76 : zLV RX7 76 M_X6_append 1 := ⟨k_X6_append, by decide +kernel, zin 265 (by decide +kernel) (by decide +kernel), zin 1 (by decide +kernel) (by decide +kernel), Or.inr ⟨"CubeBodies", znin 263 (by decide +kernel) (by decide +kernel)⟩⟩
theorem g_X7_80 : zLV RX7 80 M_X6_firstFault 0 := ⟨k_X6_firstFault, by decide +kernel, zin 273 (by decide +kernel) (by decide +kernel), zin 2 (by decide +kernel) (by decide +kernel), Or.inr ⟨"CubeBodies", znin 271 (by decide +kernel) (by decide +kernel)⟩⟩
theorem g_X7_84 : zLV RX7 84 M_X6_perform 1 := ⟨k_X6_perform, by decide +kernel, zin 288 (by decide +kernel) (by decide +kernel), zin 5 (by decide +kernel) (by decide +kernel), Or.inr ⟨"CubeBodies", znin 286 (by decide +kernel) (by decide +kernel)⟩⟩
theorem g_X6_69 : zLS RX6 69 M_X7_isCorner 1 := ⟨k_X7_isCorner, by decide +kernel, zin 212 (by decide +kernel) (by decide +kernel), Or.inr ⟨"CubeBodies", znin 298 (by decide +kernel) (by decide +kernel)⟩⟩
theorem g_X6_60 : zLS RX6 60 M_X7_isMove 1 := ⟨k_X7_isMove, by decide +kernel, zin 229 (by decide +kernel) (by decide +kernel), Or.inr ⟨"CubeBodies", znin 309 (by decide +kernel) (by decide +kernel)⟩⟩
theorem g_X6_64 : zLS RX6 64 M_X1_imageBy 2 := ⟨k_X1_imageBy, by decide +kernel, zin 232 (by decide +kernel) (by decide +kernel), Or.inr ⟨"CubeBodies", znin 310 (by decide +kernel) (by decide +kernel)⟩⟩
theorem g_X6_50 : zLV RX6 50 M_X2_change 1 := ⟨k_X2_change, by decide +kernel, zin 246 (by decide +kernel) (by decide +kernel), zin 0 (by decide +kernel) (by decide +kernel), Or.inr ⟨"CubeBodies", znin 311 (by decide +kernel) (by decide +kernel)⟩⟩
theorem g_X7_96 : zLS RX7 96 M_X1_formOf 1 := ⟨k_X1_formOf, by decide +kernel, zin 249 (by decide +kernel) (by decide +kernel), Or.inr ⟨"CubeBodies", znin 322 (by decide +kernel) (by decide +kernel)⟩⟩
theorem g_X7_99 : zLS RX7 99 M_X1_classOf 1 := ⟨k_X1_classOf, by decide +kernel, zin 324 (by decide +kernel) (by decide +kernel), Or.inr ⟨"CubeBodies", znin 323 (by decide +kernel) (by decide +kernel)⟩⟩
theorem g_X7_102 : zLS RX7 102 M_X1_unlikeImages 1 := ⟨k_X1_unlikeImages, by decide +kernel, zin 330 (by decide +kernel) (by decide +kernel), Or.inr ⟨"CubeBodies", znin 329 (by decide +kernel) (by decide +kernel)⟩⟩
theorem g_X7_105 : zLS RX7 105 M_X1_stillMoves 1 := ⟨k_X1_stillMoves, by decide +kernel, zin 333 (by decide +kernel) (by decide +kernel), Or.inr ⟨"CubeBodies", znin 335 (by decide +kernel) (by decide +kernel)⟩⟩
theorem g_X7_108 : zLS RX7 108 M_X1_distance 2 := ⟨k_X1_distance, by decide +kernel, zin 337 (by decide +kernel) (by decide +kernel), Or.inr ⟨"CubeBodies", znin 336 (by decide +kernel) (by decide +kernel)⟩⟩
theorem g_X7_111 : zLV RX7 111 M_X4_faceCount 1 := ⟨k_X4_faceCount, by decide +kernel, zin 342 (by decide +kernel) (by decide +kernel), zin 9 (by decide +kernel) (by decide +kernel), Or.inr ⟨"CubeBodies", znin 340 (by decide +kernel) (by decide +kernel)⟩⟩
theorem g_X7_114 : zLV RX7 114 M_X4_edgeCount 1 := ⟨k_X4_edgeCount, by decide +kernel, zin 366 (by decide +kernel) (by decide +kernel), zin 14 (by decide +kernel) (by decide +kernel), Or.inr ⟨"CubeBodies", znin 364 (by decide +kernel) (by decide +kernel)⟩⟩
theorem g_X7_117 : zLS RX7 117 M_X1_dimension 1 := ⟨k_X1_dimension, by decide +kernel, zin 369 (by decide +kernel) (by decide +kernel), Or.inr ⟨"CubeBodies", znin 368 (by decide +kernel) (by decide +kernel)⟩⟩
theorem g_X7_120 : zLV RX7 120 M_X4_sixfold 1 := ⟨k_X4_sixfold, by decide +kernel, zin 385 (by decide +kernel) (by decide +kernel), zin 15 (by decide +kernel) (by decide +kernel), Or.inr ⟨"CubeBodies", znin 383 (by decide +kernel) (by decide +kernel)⟩⟩
theorem g_X7_123 : zLV RX7 123 M_X4_width 1 := ⟨k_X4_width, by decide +kernel, zin 397 (by decide +kernel) (by decide +kernel), zin 18 (by decide +kernel) (by decide +kernel), Or.inr ⟨"CubeBodies", znin 395 (by decide +kernel) (by decide +kernel)⟩⟩
theorem g_X7_126 : zLS RX7 126 M_X1_cornerBy 2 := ⟨k_X1_cornerBy, by decide +kernel, zin 236 (by decide +kernel) (by decide +kernel), Or.inr ⟨"CubeBodies", znin 403 (by decide +kernel) (by decide +kernel)⟩⟩
theorem g_X7_133 : zLS RX7 133 M_X1_classesWith 1 := ⟨k_X1_classesWith, by decide +kernel, zin 418 (by decide +kernel) (by decide +kernel), Or.inr ⟨"CubeBodies", znin 417 (by decide +kernel) (by decide +kernel)⟩⟩
theorem g_X7_139 : zLS RX7 139 M_X4_mostBy 4 := ⟨k_X4_mostBy, by decide +kernel, zin 428 (by decide +kernel) (by decide +kernel), Or.inr ⟨"CubeBodies", znin 427 (by decide +kernel) (by decide +kernel)⟩⟩
theorem g_X4_34 : zLS RX4 34 M_X7_bitOf 2 := ⟨k_X7_bitOf, by decide +kernel, zin 218 (by decide +kernel) (by decide +kernel), Or.inr ⟨"CubeBodies", znin 430 (by decide +kernel) (by decide +kernel)⟩⟩
theorem g_X7_143 : zLS RX7 143 M_X4_thoseThatWeigh 5 := ⟨k_X4_thoseThatWeigh, by decide +kernel, zin 438 (by decide +kernel) (by decide +kernel), Or.inr ⟨"CubeBodies", znin 437 (by decide +kernel) (by decide +kernel)⟩⟩
theorem g_X7_147 : zLV RX7 147 M_X4_faceAt 2 := ⟨k_X4_faceAt, by decide +kernel, zin 446 (by decide +kernel) (by decide +kernel), zin 19 (by decide +kernel) (by decide +kernel), Or.inr ⟨"CubeBodies", znin 444 (by decide +kernel) (by decide +kernel)⟩⟩
theorem g_X7_150 : zLV RX7 150 M_X4_isEdge 2 := ⟨k_X4_isEdge, by decide +kernel, zin 454 (by decide +kernel) (by decide +kernel), zin 20 (by decide +kernel) (by decide +kernel), Or.inr ⟨"CubeBodies", znin 452 (by decide +kernel) (by decide +kernel)⟩⟩
theorem g_X7_157 : zLV RX7 157 M_X4_pointsIn 2 := ⟨k_X4_pointsIn, by decide +kernel, zin 389 (by decide +kernel) (by decide +kernel), zin 16 (by decide +kernel) (by decide +kernel), Or.inr ⟨"CubeBodies", znin 463 (by decide +kernel) (by decide +kernel)⟩⟩
theorem g_X7_163 : zLV RX7 163 M_X4_isIn 5 := ⟨k_X4_isIn, by decide +kernel, zin 473 (by decide +kernel) (by decide +kernel), zin 21 (by decide +kernel) (by decide +kernel), Or.inr ⟨"CubeBodies", znin 471 (by decide +kernel) (by decide +kernel)⟩⟩
theorem g_X7_167 : zLV RX7 167 M_X4_fat 1 := ⟨k_X4_fat, by decide +kernel, zin 481 (by decide +kernel) (by decide +kernel), zin 22 (by decide +kernel) (by decide +kernel), Or.inr ⟨"CubeBodies", znin 479 (by decide +kernel) (by decide +kernel)⟩⟩
theorem g_X7_171 : zLS RX7 171 M_X1_centre 2 := ⟨k_X1_centre, by decide +kernel, zin 487 (by decide +kernel) (by decide +kernel), Or.inr ⟨"CubeBodies", znin 486 (by decide +kernel) (by decide +kernel)⟩⟩
theorem g_X7_175 : zLS RX7 175 M_X0_ofFloat 1 := ⟨k_X0_ofFloat, by decide +kernel, zin 490 (by decide +kernel) (by decide +kernel), Or.inr ⟨"CubeBodies", znin 489 (by decide +kernel) (by decide +kernel)⟩⟩
theorem g_X7_183 : zLS RX7 183 M_X1_spreadOf 1 := ⟨k_X1_spreadOf, by decide +kernel, zin 506 (by decide +kernel) (by decide +kernel), Or.inr ⟨"CubeBodies", znin 505 (by decide +kernel) (by decide +kernel)⟩⟩
theorem g_X7_187 : zLS RX7 187 M_X0_ofDouble 1 := ⟨k_X0_ofDouble, by decide +kernel, zin 511 (by decide +kernel) (by decide +kernel), Or.inr ⟨"CubeBodies", znin 510 (by decide +kernel) (by decide +kernel)⟩⟩
theorem g_X7_195 : zLV RX7 195 M_X3_empty 0 := ⟨k_X3_empty, by decide +kernel, zin 520 (by decide +kernel) (by decide +kernel), zin 23 (by decide +kernel) (by decide +kernel), Or.inr ⟨"CubeBodies", znin 518 (by decide +kernel) (by decide +kernel)⟩⟩
theorem g_X7_200 : zLV RX7 200 M_X3_append 3 := ⟨k_X3_append, by decide +kernel, zin 524 (by decide +kernel) (by decide +kernel), zin 24 (by decide +kernel) (by decide +kernel), Or.inr ⟨"CubeBodies", znin 522 (by decide +kernel) (by decide +kernel)⟩⟩
theorem g_X7_207 : zLV RX7 207 M_X3_whatAt 1 := ⟨k_X3_whatAt, by decide +kernel, zin 536 (by decide +kernel) (by decide +kernel), zin 26 (by decide +kernel) (by decide +kernel), Or.inr ⟨"CubeBodies", znin 534 (by decide +kernel) (by decide +kernel)⟩⟩
theorem g_X7_213 : zLV RX7 213 M_X3_numberAt 1 := ⟨k_X3_numberAt, by decide +kernel, zin 544 (by decide +kernel) (by decide +kernel), zin 28 (by decide +kernel) (by decide +kernel), Or.inr ⟨"CubeBodies", znin 542 (by decide +kernel) (by decide +kernel)⟩⟩
theorem g_X7_216 : zLS RX7 216 M_X1_commonOverMoves 2 := ⟨k_X1_commonOverMoves, by decide +kernel, zin 551 (by decide +kernel) (by decide +kernel), Or.inr ⟨"CubeBodies", znin 550 (by decide +kernel) (by decide +kernel)⟩⟩
theorem g_X7_238 : zLV RX7 238 M_X5_holdsRow 0 := ⟨k_X5_holdsRow, by decide +kernel, zin 592 (by decide +kernel) (by decide +kernel), zin 30 (by decide +kernel) (by decide +kernel), Or.inr ⟨"CubeBodies", znin 590 (by decide +kernel) (by decide +kernel)⟩⟩
theorem g_X7_245 : zLV RX7 245 M_X5_hasPlace 1 := ⟨k_X5_hasPlace, by decide +kernel, zin 596 (by decide +kernel) (by decide +kernel), zin 31 (by decide +kernel) (by decide +kernel), Or.inr ⟨"CubeBodies", znin 594 (by decide +kernel) (by decide +kernel)⟩⟩
theorem g_X7_248 : zLV RX7 248 M_X5_itemAt 1 := ⟨k_X5_itemAt, by decide +kernel, zin 600 (by decide +kernel) (by decide +kernel), zin 32 (by decide +kernel) (by decide +kernel), Or.inr ⟨"CubeBodies", znin 598 (by decide +kernel) (by decide +kernel)⟩⟩
theorem g_X7_252 : zLV RX7 252 M_X2_copyFrom 1 := ⟨k_X2_copyFrom, by decide +kernel, zin 609 (by decide +kernel) (by decide +kernel), zin 33 (by decide +kernel) (by decide +kernel), Or.inr ⟨"CubeBodies", znin 607 (by decide +kernel) (by decide +kernel)⟩⟩
theorem g_X2_37 : zLV RX2 37 M_X3_copyFrom 1 := ⟨k_X3_copyFrom, by decide +kernel, zin 613 (by decide +kernel) (by decide +kernel), zin 34 (by decide +kernel) (by decide +kernel), Or.inr ⟨"CubeBodies", znin 611 (by decide +kernel) (by decide +kernel)⟩⟩
theorem g_X7_256 : zLV RX7 256 M_X5_becomeRow 2 := ⟨k_X5_becomeRow, by decide +kernel, zin 632 (by decide +kernel) (by decide +kernel), zin 35 (by decide +kernel) (by decide +kernel), Or.inr ⟨"CubeBodies", znin 630 (by decide +kernel) (by decide +kernel)⟩⟩
theorem g_X7_260 : zLV RX7 260 M_X5_put 2 := ⟨k_X5_put, by decide +kernel, zin 640 (by decide +kernel) (by decide +kernel), zin 36 (by decide +kernel) (by decide +kernel), Or.inr ⟨"CubeBodies", znin 638 (by decide +kernel) (by decide +kernel)⟩⟩
theorem g_X7_264 : zLV RX7 264 M_X5_hasRun 2 := ⟨k_X5_hasRun, by decide +kernel, zin 656 (by decide +kernel) (by decide +kernel), zin 38 (by decide +kernel) (by decide +kernel), Or.inr ⟨"CubeBodies", znin 654 (by decide +kernel) (by decide +kernel)⟩⟩
theorem f_X3_11 : zFl RX3 11 1 0 true := ⟨(RX3, TX3, 3), rfl, by decide, rfl, rfl, Or.inl (zin 93 (by decide +kernel) (by decide +kernel))⟩
theorem f_X3_15 : zFl RX3 15 1 1 true := ⟨(RX3, TX3, 3), rfl, by decide, rfl, rfl, Or.inl (zin 94 (by decide +kernel) (by decide +kernel))⟩
theorem f_X3_18 : zFl RX3 18 1 2 false := ⟨(RX3, TX3, 3), rfl, by decide, rfl, rfl, Or.inl (zin 95 (by decide +kernel) (by decide +kernel))⟩
theorem f_X2_9 : zFl RX2 9 0 0 false := ⟨(RX2, TX2, 5), rfl, by decide, rfl, rfl, Or.inl (zin 105 (by decide +kernel) (by decide +kernel))⟩
theorem f_X2_15 : zFl RX2 15 0 1 false := ⟨(RX2, TX2, 5), rfl, by decide, rfl, rfl, Or.inl (zin 108 (by decide +kernel) (by decide +kernel))⟩
theorem f_X2_21 : zFl RX2 21 0 2 true := ⟨(RX2, TX2, 5), rfl, by decide, rfl, rfl, Or.inl (zin 111 (by decide +kernel) (by decide +kernel))⟩
theorem f_X2_25 : zFl RX2 25 0 3 true := ⟨(RX2, TX2, 5), rfl, by decide, rfl, rfl, Or.inl (zin 113 (by decide +kernel) (by decide +kernel))⟩
theorem f_X2_28 : zFl RX2 28 0 4 true := ⟨(RX2, TX2, 5), rfl, by decide, rfl, rfl, Or.inl (zin 115 (by decide +kernel) (by decide +kernel))⟩
theorem f_X6_11 : zFl RX6 11 4 0 true := ⟨(RX6, TX6, 2), rfl, by decide, rfl, rfl, Or.inl (zin 134 (by decide +kernel) (by decide +kernel))⟩
theorem f_X6_15 : zFl RX6 15 4 1 false := ⟨(RX6, TX6, 2), rfl, by decide, rfl, rfl, Or.inl (zin 135 (by decide +kernel) (by decide +kernel))⟩
theorem f_X4_9 : zFl RX4 9 2 0 false := ⟨(RX4, TX4, 6), rfl, by decide, rfl, rfl, Or.inl (zin 149 (by decide +kernel) (by decide +kernel))⟩
theorem f_X4_15 : zFl RX4 15 2 1 false := ⟨(RX4, TX4, 6), rfl, by decide, rfl, rfl, Or.inl (zin 150 (by decide +kernel) (by decide +kernel))⟩
theorem f_X4_18 : zFl RX4 18 2 2 true := ⟨(RX4, TX4, 6), rfl, by decide, rfl, rfl, Or.inl (zin 151 (by decide +kernel) (by decide +kernel))⟩
theorem f_X4_22 : zFl RX4 22 2 3 true := ⟨(RX4, TX4, 6), rfl, by decide, rfl, rfl, Or.inl (zin 152 (by decide +kernel) (by decide +kernel))⟩
theorem f_X4_25 : zFl RX4 25 2 4 true := ⟨(RX4, TX4, 6), rfl, by decide, rfl, rfl, Or.inl (zin 153 (by decide +kernel) (by decide +kernel))⟩
theorem f_X4_28 : zFl RX4 28 2 5 true := ⟨(RX4, TX4, 6), rfl, by decide, rfl, rfl, Or.inl (zin 154 (by decide +kernel) (by decide +kernel))⟩
theorem f_X5_9 : zFl RX5 9 3 0 true := ⟨(RX5, TX5, 3), rfl, by decide, rfl, rfl, Or.inl (zin 175 (by decide +kernel) (by decide +kernel))⟩
theorem f_X5_13 : zFl RX5 13 3 1 false := ⟨(RX5, TX5, 3), rfl, by decide, rfl, rfl, Or.inl (zin 177 (by decide +kernel) (by decide +kernel))⟩
theorem f_X5_17 : zFl RX5 17 3 2 false := ⟨(RX5, TX5, 3), rfl, by decide, rfl, rfl, Or.inl (zin 179 (by decide +kernel) (by decide +kernel))⟩
theorem f_X7_14 : zFl RX7 14 5 0 true := ⟨(RX7, TX7, 6), rfl, by decide, rfl, rfl, Or.inl (zin 188 (by decide +kernel) (by decide +kernel))⟩
theorem f_X7_18 : zFl RX7 18 5 1 true := ⟨(RX7, TX7, 6), rfl, by decide, rfl, rfl, Or.inl (zin 189 (by decide +kernel) (by decide +kernel))⟩
theorem f_X7_21 : zFl RX7 21 5 2 false := ⟨(RX7, TX7, 6), rfl, by decide, rfl, rfl, Or.inl (zin 190 (by decide +kernel) (by decide +kernel))⟩
theorem f_X7_28 : zFl RX7 28 5 3 true := ⟨(RX7, TX7, 6), rfl, by decide, rfl, rfl, Or.inl (zin 191 (by decide +kernel) (by decide +kernel))⟩
theorem f_X7_35 : zFl RX7 35 5 4 true := ⟨(RX7, TX7, 6), rfl, by decide, rfl, rfl, Or.inl (zin 192 (by decide +kernel) (by decide +kernel))⟩
theorem f_X7_41 : zFl RX7 41 5 5 true := ⟨(RX7, TX7, 6), rfl, by decide, rfl, rfl, Or.inl (zin 193 (by decide +kernel) (by decide +kernel))⟩
theorem f_X8_15 : zFl RX8 15 6 0 true := ⟨(RX8, TX8, 32), rfl, by decide, rfl, rfl, Or.inl (zin 669 (by decide +kernel) (by decide +kernel))⟩
theorem f_X8_19 : zFl RX8 19 6 1 true := ⟨(RX8, TX8, 32), rfl, by decide, rfl, rfl, Or.inl (zin 670 (by decide +kernel) (by decide +kernel))⟩
theorem f_X8_22 : zFl RX8 22 6 2 true := ⟨(RX8, TX8, 32), rfl, by decide, rfl, rfl, Or.inl (zin 671 (by decide +kernel) (by decide +kernel))⟩
theorem f_X8_25 : zFl RX8 25 6 3 true := ⟨(RX8, TX8, 32), rfl, by decide, rfl, rfl, Or.inl (zin 672 (by decide +kernel) (by decide +kernel))⟩
theorem f_X8_28 : zFl RX8 28 6 4 true := ⟨(RX8, TX8, 32), rfl, by decide, rfl, rfl, Or.inl (zin 673 (by decide +kernel) (by decide +kernel))⟩
theorem f_X8_31 : zFl RX8 31 6 5 true := ⟨(RX8, TX8, 32), rfl, by decide, rfl, rfl, Or.inl (zin 674 (by decide +kernel) (by decide +kernel))⟩
theorem f_X8_35 : zFl RX8 35 6 6 true := ⟨(RX8, TX8, 32), rfl, by decide, rfl, rfl, Or.inl (zin 675 (by decide +kernel) (by decide +kernel))⟩
theorem f_X8_125 : zFl RX8 125 6 7 false := ⟨(RX8, TX8, 32), rfl, by decide, rfl, rfl, Or.inl (zin 676 (by decide +kernel) (by decide +kernel))⟩
theorem f_X8_132 : zFl RX8 132 6 8 false := ⟨(RX8, TX8, 32), rfl, by decide, rfl, rfl, Or.inl (zin 677 (by decide +kernel) (by decide +kernel))⟩
theorem f_X8_38 : zFl RX8 38 6 9 true := ⟨(RX8, TX8, 32), rfl, by decide, rfl, rfl, Or.inl (zin 678 (by decide +kernel) (by decide +kernel))⟩
theorem f_X8_41 : zFl RX8 41 6 10 true := ⟨(RX8, TX8, 32), rfl, by decide, rfl, rfl, Or.inl (zin 679 (by decide +kernel) (by decide +kernel))⟩
theorem f_X8_44 : zFl RX8 44 6 11 true := ⟨(RX8, TX8, 32), rfl, by decide, rfl, rfl, Or.inl (zin 680 (by decide +kernel) (by decide +kernel))⟩
theorem f_X8_135 : zFl RX8 135 6 12 false := ⟨(RX8, TX8, 32), rfl, by decide, rfl, rfl, Or.inl (zin 681 (by decide +kernel) (by decide +kernel))⟩
theorem f_X8_138 : zFl RX8 138 6 13 false := ⟨(RX8, TX8, 32), rfl, by decide, rfl, rfl, Or.inl (zin 682 (by decide +kernel) (by decide +kernel))⟩
theorem f_X8_149 : zFl RX8 149 6 14 false := ⟨(RX8, TX8, 32), rfl, by decide, rfl, rfl, Or.inl (zin 683 (by decide +kernel) (by decide +kernel))⟩
theorem f_X8_47 : zFl RX8 47 6 15 true := ⟨(RX8, TX8, 32), rfl, by decide, rfl, rfl, Or.inl (zin 684 (by decide +kernel) (by decide +kernel))⟩
theorem f_X8_50 : zFl RX8 50 6 16 true := ⟨(RX8, TX8, 32), rfl, by decide, rfl, rfl, Or.inl (zin 685 (by decide +kernel) (by decide +kernel))⟩
theorem f_X8_226 : zFl RX8 226 6 17 false := ⟨(RX8, TX8, 32), rfl, by decide, rfl, rfl, Or.inl (zin 686 (by decide +kernel) (by decide +kernel))⟩
theorem f_X8_53 : zFl RX8 53 6 18 true := ⟨(RX8, TX8, 32), rfl, by decide, rfl, rfl, Or.inl (zin 687 (by decide +kernel) (by decide +kernel))⟩
theorem f_X8_56 : zFl RX8 56 6 19 true := ⟨(RX8, TX8, 32), rfl, by decide, rfl, rfl, Or.inl (zin 688 (by decide +kernel) (by decide +kernel))⟩
theorem f_X8_59 : zFl RX8 59 6 20 true := ⟨(RX8, TX8, 32), rfl, by decide, rfl, rfl, Or.inl (zin 689 (by decide +kernel) (by decide +kernel))⟩
theorem f_X8_62 : zFl RX8 62 6 21 true := ⟨(RX8, TX8, 32), rfl, by decide, rfl, rfl, Or.inl (zin 690 (by decide +kernel) (by decide +kernel))⟩
theorem f_X8_237 : zFl RX8 237 6 22 false := ⟨(RX8, TX8, 32), rfl, by decide, rfl, rfl, Or.inl (zin 691 (by decide +kernel) (by decide +kernel))⟩
theorem f_X8_240 : zFl RX8 240 6 23 false := ⟨(RX8, TX8, 32), rfl, by decide, rfl, rfl, Or.inl (zin 692 (by decide +kernel) (by decide +kernel))⟩
theorem f_X8_65 : zFl RX8 65 6 24 true := ⟨(RX8, TX8, 32), rfl, by decide, rfl, rfl, Or.inl (zin 693 (by decide +kernel) (by decide +kernel))⟩
theorem f_X8_250 : zFl RX8 250 6 25 false := ⟨(RX8, TX8, 32), rfl, by decide, rfl, rfl, Or.inl (zin 694 (by decide +kernel) (by decide +kernel))⟩
theorem f_X8_264 : zFl RX8 264 6 26 false := ⟨(RX8, TX8, 32), rfl, by decide, rfl, rfl, Or.inl (zin 695 (by decide +kernel) (by decide +kernel))⟩
theorem f_X8_246 : zFl RX8 246 6 27 false := ⟨(RX8, TX8, 32), rfl, by decide, rfl, rfl, Or.inl (zin 696 (by decide +kernel) (by decide +kernel))⟩
theorem f_X8_68 : zFl RX8 68 6 28 true := ⟨(RX8, TX8, 32), rfl, by decide, rfl, rfl, Or.inl (zin 697 (by decide +kernel) (by decide +kernel))⟩
theorem f_X8_71 : zFl RX8 71 6 29 true := ⟨(RX8, TX8, 32), rfl, by decide, rfl, rfl, Or.inl (zin 698 (by decide +kernel) (by decide +kernel))⟩
theorem f_X8_74 : zFl RX8 74 6 30 true := ⟨(RX8, TX8, 32), rfl, by decide, rfl, rfl, Or.inl (zin 699 (by decide +kernel) (by decide +kernel))⟩
theorem f_X8_78 : zFl RX8 78 6 31 true := ⟨(RX8, TX8, 32), rfl, by decide, rfl, rfl, Or.inl (zin 700 (by decide +kernel) (by decide +kernel))⟩
theorem f_X7_206 : zFl RX7 206 1 2 false := ⟨(RX3, TX3, 3), rfl, by decide, rfl, rfl, Or.inr ⟨"CubeBodies", znin 96 (by decide +kernel) (by decide +kernel)⟩⟩
theorem f_X7_53 : zFl RX7 53 0 0 false := ⟨(RX2, TX2, 5), rfl, by decide, rfl, rfl, Or.inr ⟨"CubeBodies", znin 106 (by decide +kernel) (by decide +kernel)⟩⟩
theorem f_X6_54 : zFl RX6 54 0 0 false := ⟨(RX2, TX2, 5), rfl, by decide, rfl, rfl, Or.inr ⟨"CubeBodies", znin 107 (by decide +kernel) (by decide +kernel)⟩⟩
theorem f_X7_73 : zFl RX7 73 0 1 false := ⟨(RX2, TX2, 5), rfl, by decide, rfl, rfl, Or.inr ⟨"CubeBodies", znin 109 (by decide +kernel) (by decide +kernel)⟩⟩
theorem f_X6_57 : zFl RX6 57 0 1 false := ⟨(RX2, TX2, 5), rfl, by decide, rfl, rfl, Or.inr ⟨"CubeBodies", znin 110 (by decide +kernel) (by decide +kernel)⟩⟩
theorem f_X7_191 : zFl RX7 191 0 2 true := ⟨(RX2, TX2, 5), rfl, by decide, rfl, rfl, Or.inr ⟨"CubeBodies", znin 112 (by decide +kernel) (by decide +kernel)⟩⟩
theorem f_X7_226 : zFl RX7 226 0 3 true := ⟨(RX2, TX2, 5), rfl, by decide, rfl, rfl, Or.inr ⟨"CubeBodies", znin 114 (by decide +kernel) (by decide +kernel)⟩⟩
theorem f_X7_232 : zFl RX7 232 0 4 true := ⟨(RX2, TX2, 5), rfl, by decide, rfl, rfl, Or.inr ⟨"CubeBodies", znin 116 (by decide +kernel) (by decide +kernel)⟩⟩
theorem f_X7_88 : zFl RX7 88 4 1 false := ⟨(RX6, TX6, 2), rfl, by decide, rfl, rfl, Or.inr ⟨"CubeBodies", znin 136 (by decide +kernel) (by decide +kernel)⟩⟩
theorem f_X7_267 : zFl RX7 267 3 0 true := ⟨(RX5, TX5, 3), rfl, by decide, rfl, rfl, Or.inr ⟨"CubeBodies", znin 176 (by decide +kernel) (by decide +kernel)⟩⟩
theorem f_X7_242 : zFl RX7 242 3 1 false := ⟨(RX5, TX5, 3), rfl, by decide, rfl, rfl, Or.inr ⟨"CubeBodies", znin 178 (by decide +kernel) (by decide +kernel)⟩⟩
end
