section
-- ===== PART A: goes FIRST, ahead of the names: the tables' words, and 'selects' of the private methods out of them =====
/-- a private method of a class that the tables say can be made, by its rows of tables_1 -/
def lw_okq (q : MethodName × Nat) : Prop := (q.1.cls ≠ "java/lang/invoke/MethodHandle" ∧ q.1.cls ≠ "java/lang/invoke/VarHandle") ∧ Cond.instantiable q.1.cls q.2 ∈ tables_1 ∧ Cond.privateMethod q.1 ∈ tables_1 ∧ Cond.instanceMethod q.1 ∈ tables_1
theorem lw_p0 : lw_okq (⟨"CubeBodies$Held", "change", "(I)V"⟩, 5) := ⟨⟨by decide +kernel, by decide +kernel⟩, List.mem_of_getElem? (i := 24) (by decide +kernel), List.mem_of_getElem? (i := 187) (by decide +kernel), List.mem_of_getElem? (i := 188) (by decide +kernel)⟩
theorem lw_p1 : lw_okq (⟨"CubeBodies$Text", "append", "(I)I"⟩, 2) := ⟨⟨by decide +kernel, by decide +kernel⟩, List.mem_of_getElem? (i := 71) (by decide +kernel), List.mem_of_getElem? (i := 206) (by decide +kernel), List.mem_of_getElem? (i := 207) (by decide +kernel)⟩
theorem lw_p2 : lw_okq (⟨"CubeBodies$Text", "firstFault", "()I"⟩, 2) := ⟨⟨by decide +kernel, by decide +kernel⟩, List.mem_of_getElem? (i := 71) (by decide +kernel), List.mem_of_getElem? (i := 214) (by decide +kernel), List.mem_of_getElem? (i := 215) (by decide +kernel)⟩
theorem lw_p3 : lw_okq (⟨"CubeBodies$Text", "signAt", "(I)I"⟩, 2) := ⟨⟨by decide +kernel, by decide +kernel⟩, List.mem_of_getElem? (i := 71) (by decide +kernel), List.mem_of_getElem? (i := 218) (by decide +kernel), List.mem_of_getElem? (i := 219) (by decide +kernel)⟩
theorem lw_p4 : lw_okq (⟨"CubeBodies$Text", "digitsFrom", "(II)I"⟩, 2) := ⟨⟨by decide +kernel, by decide +kernel⟩, List.mem_of_getElem? (i := 71) (by decide +kernel), List.mem_of_getElem? (i := 225) (by decide +kernel), List.mem_of_getElem? (i := 226) (by decide +kernel)⟩
theorem lw_p5 : lw_okq (⟨"CubeBodies$Text", "perform", "(LCubeBodies$Held;)I"⟩, 2) := ⟨⟨by decide +kernel, by decide +kernel⟩, List.mem_of_getElem? (i := 71) (by decide +kernel), List.mem_of_getElem? (i := 229) (by decide +kernel), List.mem_of_getElem? (i := 230) (by decide +kernel)⟩
theorem lw_p6 : lw_okq (⟨"CubeBodies$Text", "performClause", "(LCubeBodies$Held;III)Z"⟩, 2) := ⟨⟨by decide +kernel, by decide +kernel⟩, List.mem_of_getElem? (i := 71) (by decide +kernel), List.mem_of_getElem? (i := 233) (by decide +kernel), List.mem_of_getElem? (i := 234) (by decide +kernel)⟩
theorem lw_p7 : lw_okq (⟨"CubeBodies$Text", "cornersAt", "(II)I"⟩, 2) := ⟨⟨by decide +kernel, by decide +kernel⟩, List.mem_of_getElem? (i := 71) (by decide +kernel), List.mem_of_getElem? (i := 237) (by decide +kernel), List.mem_of_getElem? (i := 238) (by decide +kernel)⟩
theorem lw_p8 : lw_okq (⟨"CubeBodies$Text", "numberAt", "(II)I"⟩, 2) := ⟨⟨by decide +kernel, by decide +kernel⟩, List.mem_of_getElem? (i := 71) (by decide +kernel), List.mem_of_getElem? (i := 245) (by decide +kernel), List.mem_of_getElem? (i := 246) (by decide +kernel)⟩
theorem lw_p9 : lw_okq (⟨"CubeBodies$Shape", "faceCount", "(I)I"⟩, 6) := ⟨⟨by decide +kernel, by decide +kernel⟩, List.mem_of_getElem? (i := 86) (by decide +kernel), List.mem_of_getElem? (i := 283) (by decide +kernel), List.mem_of_getElem? (i := 284) (by decide +kernel)⟩
theorem lw_p10 : lw_okq (⟨"CubeBodies$Shape", "measure", "(I)V"⟩, 6) := ⟨⟨by decide +kernel, by decide +kernel⟩, List.mem_of_getElem? (i := 86) (by decide +kernel), List.mem_of_getElem? (i := 287) (by decide +kernel), List.mem_of_getElem? (i := 288) (by decide +kernel)⟩
theorem lw_p11 : lw_okq (⟨"CubeBodies$Shape", "measureBy", "(I)V"⟩, 6) := ⟨⟨by decide +kernel, by decide +kernel⟩, List.mem_of_getElem? (i := 86) (by decide +kernel), List.mem_of_getElem? (i := 292) (by decide +kernel), List.mem_of_getElem? (i := 293) (by decide +kernel)⟩
theorem lw_p12 : lw_okq (⟨"CubeBodies$Shape", "isMeasuredFace", "(I)Z"⟩, 6) := ⟨⟨by decide +kernel, by decide +kernel⟩, List.mem_of_getElem? (i := 86) (by decide +kernel), List.mem_of_getElem? (i := 298) (by decide +kernel), List.mem_of_getElem? (i := 299) (by decide +kernel)⟩
theorem lw_p13 : lw_okq (⟨"CubeBodies$Shape", "isMeasuredTop", "(I)Z"⟩, 6) := ⟨⟨by decide +kernel, by decide +kernel⟩, List.mem_of_getElem? (i := 86) (by decide +kernel), List.mem_of_getElem? (i := 302) (by decide +kernel), List.mem_of_getElem? (i := 303) (by decide +kernel)⟩
theorem lw_p14 : lw_okq (⟨"CubeBodies$Shape", "edgeCount", "(I)I"⟩, 6) := ⟨⟨by decide +kernel, by decide +kernel⟩, List.mem_of_getElem? (i := 86) (by decide +kernel), List.mem_of_getElem? (i := 307) (by decide +kernel), List.mem_of_getElem? (i := 308) (by decide +kernel)⟩
theorem lw_p15 : lw_okq (⟨"CubeBodies$Shape", "sixfold", "(I)I"⟩, 6) := ⟨⟨by decide +kernel, by decide +kernel⟩, List.mem_of_getElem? (i := 86) (by decide +kernel), List.mem_of_getElem? (i := 326) (by decide +kernel), List.mem_of_getElem? (i := 327) (by decide +kernel)⟩
def lw_privs_1 : List (MethodName × Nat) := [(⟨"CubeBodies$Held", "change", "(I)V"⟩, 5), (⟨"CubeBodies$Text", "append", "(I)I"⟩, 2), (⟨"CubeBodies$Text", "firstFault", "()I"⟩, 2), (⟨"CubeBodies$Text", "signAt", "(I)I"⟩, 2), (⟨"CubeBodies$Text", "digitsFrom", "(II)I"⟩, 2), (⟨"CubeBodies$Text", "perform", "(LCubeBodies$Held;)I"⟩, 2), (⟨"CubeBodies$Text", "performClause", "(LCubeBodies$Held;III)Z"⟩, 2), (⟨"CubeBodies$Text", "cornersAt", "(II)I"⟩, 2), (⟨"CubeBodies$Text", "numberAt", "(II)I"⟩, 2), (⟨"CubeBodies$Shape", "faceCount", "(I)I"⟩, 6), (⟨"CubeBodies$Shape", "measure", "(I)V"⟩, 6), (⟨"CubeBodies$Shape", "measureBy", "(I)V"⟩, 6), (⟨"CubeBodies$Shape", "isMeasuredFace", "(I)Z"⟩, 6), (⟨"CubeBodies$Shape", "isMeasuredTop", "(I)Z"⟩, 6), (⟨"CubeBodies$Shape", "edgeCount", "(I)I"⟩, 6), (⟨"CubeBodies$Shape", "sixfold", "(I)I"⟩, 6)]
theorem lw_r1 : ∀ q ∈ lw_privs_1, lw_okq q := List.forall_mem_cons.mpr ⟨lw_p0, List.forall_mem_cons.mpr ⟨lw_p1, List.forall_mem_cons.mpr ⟨lw_p2, List.forall_mem_cons.mpr ⟨lw_p3, List.forall_mem_cons.mpr ⟨lw_p4, List.forall_mem_cons.mpr ⟨lw_p5, List.forall_mem_cons.mpr ⟨lw_p6, List.forall_mem_cons.mpr ⟨lw_p7, List.forall_mem_cons.mpr ⟨lw_p8, List.forall_mem_cons.mpr ⟨lw_p9, List.forall_mem_cons.mpr ⟨lw_p10, List.forall_mem_cons.mpr ⟨lw_p11, List.forall_mem_cons.mpr ⟨lw_p12, List.forall_mem_cons.mpr ⟨lw_p13, List.forall_mem_cons.mpr ⟨lw_p14, List.forall_mem_cons.mpr ⟨lw_p15, fun _ h => absurd h List.not_mem_nil⟩⟩⟩⟩⟩⟩⟩⟩⟩⟩⟩⟩⟩⟩⟩⟩
theorem lw_p16 : lw_okq (⟨"CubeBodies$Shape", "pointsIn", "(II)I"⟩, 6) := ⟨⟨by decide +kernel, by decide +kernel⟩, List.mem_of_getElem? (i := 86) (by decide +kernel), List.mem_of_getElem? (i := 330) (by decide +kernel), List.mem_of_getElem? (i := 331) (by decide +kernel)⟩
theorem lw_p17 : lw_okq (⟨"CubeBodies$Shape", "isInMeasured", "(IIII)Z"⟩, 6) := ⟨⟨by decide +kernel, by decide +kernel⟩, List.mem_of_getElem? (i := 86) (by decide +kernel), List.mem_of_getElem? (i := 334) (by decide +kernel), List.mem_of_getElem? (i := 335) (by decide +kernel)⟩
theorem lw_p18 : lw_okq (⟨"CubeBodies$Shape", "width", "(I)I"⟩, 6) := ⟨⟨by decide +kernel, by decide +kernel⟩, List.mem_of_getElem? (i := 86) (by decide +kernel), List.mem_of_getElem? (i := 338) (by decide +kernel), List.mem_of_getElem? (i := 339) (by decide +kernel)⟩
theorem lw_p19 : lw_okq (⟨"CubeBodies$Shape", "faceAt", "(II)I"⟩, 6) := ⟨⟨by decide +kernel, by decide +kernel⟩, List.mem_of_getElem? (i := 86) (by decide +kernel), List.mem_of_getElem? (i := 387) (by decide +kernel), List.mem_of_getElem? (i := 388) (by decide +kernel)⟩
theorem lw_p20 : lw_okq (⟨"CubeBodies$Shape", "isEdge", "(II)Z"⟩, 6) := ⟨⟨by decide +kernel, by decide +kernel⟩, List.mem_of_getElem? (i := 86) (by decide +kernel), List.mem_of_getElem? (i := 395) (by decide +kernel), List.mem_of_getElem? (i := 396) (by decide +kernel)⟩
theorem lw_p21 : lw_okq (⟨"CubeBodies$Shape", "isIn", "(IIIII)Z"⟩, 6) := ⟨⟨by decide +kernel, by decide +kernel⟩, List.mem_of_getElem? (i := 86) (by decide +kernel), List.mem_of_getElem? (i := 414) (by decide +kernel), List.mem_of_getElem? (i := 415) (by decide +kernel)⟩
theorem lw_p22 : lw_okq (⟨"CubeBodies$Shape", "fat", "(I)F"⟩, 6) := ⟨⟨by decide +kernel, by decide +kernel⟩, List.mem_of_getElem? (i := 86) (by decide +kernel), List.mem_of_getElem? (i := 422) (by decide +kernel), List.mem_of_getElem? (i := 423) (by decide +kernel)⟩
theorem lw_p23 : lw_okq (⟨"CubeBodies$Rows", "empty", "()I"⟩, 3) := ⟨⟨by decide +kernel, by decide +kernel⟩, List.mem_of_getElem? (i := 30) (by decide +kernel), List.mem_of_getElem? (i := 461) (by decide +kernel), List.mem_of_getElem? (i := 462) (by decide +kernel)⟩
theorem lw_p24 : lw_okq (⟨"CubeBodies$Rows", "append", "(III)I"⟩, 3) := ⟨⟨by decide +kernel, by decide +kernel⟩, List.mem_of_getElem? (i := 30) (by decide +kernel), List.mem_of_getElem? (i := 465) (by decide +kernel), List.mem_of_getElem? (i := 466) (by decide +kernel)⟩
theorem lw_p25 : lw_okq (⟨"CubeBodies", "allSeenIn", "(I)Z"⟩, 6) := ⟨⟨by decide +kernel, by decide +kernel⟩, List.mem_of_getElem? (i := 16) (by decide +kernel), List.mem_of_getElem? (i := 473) (by decide +kernel), List.mem_of_getElem? (i := 474) (by decide +kernel)⟩
theorem lw_p26 : lw_okq (⟨"CubeBodies$Rows", "whatAt", "(I)I"⟩, 3) := ⟨⟨by decide +kernel, by decide +kernel⟩, List.mem_of_getElem? (i := 30) (by decide +kernel), List.mem_of_getElem? (i := 477) (by decide +kernel), List.mem_of_getElem? (i := 478) (by decide +kernel)⟩
theorem lw_p27 : lw_okq (⟨"CubeBodies", "sightOf", "(II)I"⟩, 6) := ⟨⟨by decide +kernel, by decide +kernel⟩, List.mem_of_getElem? (i := 16) (by decide +kernel), List.mem_of_getElem? (i := 481) (by decide +kernel), List.mem_of_getElem? (i := 482) (by decide +kernel)⟩
theorem lw_p28 : lw_okq (⟨"CubeBodies$Rows", "numberAt", "(I)I"⟩, 3) := ⟨⟨by decide +kernel, by decide +kernel⟩, List.mem_of_getElem? (i := 30) (by decide +kernel), List.mem_of_getElem? (i := 485) (by decide +kernel), List.mem_of_getElem? (i := 486) (by decide +kernel)⟩
theorem lw_p29 : lw_okq (⟨"CubeBodies", "bodyAfterEvents", "()I"⟩, 6) := ⟨⟨by decide +kernel, by decide +kernel⟩, List.mem_of_getElem? (i := 16) (by decide +kernel), List.mem_of_getElem? (i := 514) (by decide +kernel), List.mem_of_getElem? (i := 515) (by decide +kernel)⟩
theorem lw_p30 : lw_okq (⟨"CubeBodies$Tape", "holdsRow", "()Z"⟩, 3) := ⟨⟨by decide +kernel, by decide +kernel⟩, List.mem_of_getElem? (i := 112) (by decide +kernel), List.mem_of_getElem? (i := 533) (by decide +kernel), List.mem_of_getElem? (i := 534) (by decide +kernel)⟩
theorem lw_p31 : lw_okq (⟨"CubeBodies$Tape", "hasPlace", "(I)Z"⟩, 3) := ⟨⟨by decide +kernel, by decide +kernel⟩, List.mem_of_getElem? (i := 112) (by decide +kernel), List.mem_of_getElem? (i := 537) (by decide +kernel), List.mem_of_getElem? (i := 538) (by decide +kernel)⟩
def lw_privs_2 : List (MethodName × Nat) := [(⟨"CubeBodies$Shape", "pointsIn", "(II)I"⟩, 6), (⟨"CubeBodies$Shape", "isInMeasured", "(IIII)Z"⟩, 6), (⟨"CubeBodies$Shape", "width", "(I)I"⟩, 6), (⟨"CubeBodies$Shape", "faceAt", "(II)I"⟩, 6), (⟨"CubeBodies$Shape", "isEdge", "(II)Z"⟩, 6), (⟨"CubeBodies$Shape", "isIn", "(IIIII)Z"⟩, 6), (⟨"CubeBodies$Shape", "fat", "(I)F"⟩, 6), (⟨"CubeBodies$Rows", "empty", "()I"⟩, 3), (⟨"CubeBodies$Rows", "append", "(III)I"⟩, 3), (⟨"CubeBodies", "allSeenIn", "(I)Z"⟩, 6), (⟨"CubeBodies$Rows", "whatAt", "(I)I"⟩, 3), (⟨"CubeBodies", "sightOf", "(II)I"⟩, 6), (⟨"CubeBodies$Rows", "numberAt", "(I)I"⟩, 3), (⟨"CubeBodies", "bodyAfterEvents", "()I"⟩, 6), (⟨"CubeBodies$Tape", "holdsRow", "()Z"⟩, 3), (⟨"CubeBodies$Tape", "hasPlace", "(I)Z"⟩, 3)]
theorem lw_r2 : ∀ q ∈ lw_privs_2, lw_okq q := List.forall_mem_cons.mpr ⟨lw_p16, List.forall_mem_cons.mpr ⟨lw_p17, List.forall_mem_cons.mpr ⟨lw_p18, List.forall_mem_cons.mpr ⟨lw_p19, List.forall_mem_cons.mpr ⟨lw_p20, List.forall_mem_cons.mpr ⟨lw_p21, List.forall_mem_cons.mpr ⟨lw_p22, List.forall_mem_cons.mpr ⟨lw_p23, List.forall_mem_cons.mpr ⟨lw_p24, List.forall_mem_cons.mpr ⟨lw_p25, List.forall_mem_cons.mpr ⟨lw_p26, List.forall_mem_cons.mpr ⟨lw_p27, List.forall_mem_cons.mpr ⟨lw_p28, List.forall_mem_cons.mpr ⟨lw_p29, List.forall_mem_cons.mpr ⟨lw_p30, List.forall_mem_cons.mpr ⟨lw_p31, fun _ h => absurd h List.not_mem_nil⟩⟩⟩⟩⟩⟩⟩⟩⟩⟩⟩⟩⟩⟩⟩⟩
theorem lw_p32 : lw_okq (⟨"CubeBodies$Tape", "itemAt", "(I)J"⟩, 3) := ⟨⟨by decide +kernel, by decide +kernel⟩, List.mem_of_getElem? (i := 112) (by decide +kernel), List.mem_of_getElem? (i := 541) (by decide +kernel), List.mem_of_getElem? (i := 542) (by decide +kernel)⟩
theorem lw_p33 : lw_okq (⟨"CubeBodies$Held", "copyFrom", "(LCubeBodies$Held;)V"⟩, 5) := ⟨⟨by decide +kernel, by decide +kernel⟩, List.mem_of_getElem? (i := 24) (by decide +kernel), List.mem_of_getElem? (i := 550) (by decide +kernel), List.mem_of_getElem? (i := 551) (by decide +kernel)⟩
theorem lw_p34 : lw_okq (⟨"CubeBodies$Rows", "copyFrom", "(LCubeBodies$Rows;)V"⟩, 3) := ⟨⟨by decide +kernel, by decide +kernel⟩, List.mem_of_getElem? (i := 30) (by decide +kernel), List.mem_of_getElem? (i := 554) (by decide +kernel), List.mem_of_getElem? (i := 555) (by decide +kernel)⟩
theorem lw_p35 : lw_okq (⟨"CubeBodies$Tape", "becomeRow", "(II)V"⟩, 3) := ⟨⟨by decide +kernel, by decide +kernel⟩, List.mem_of_getElem? (i := 112) (by decide +kernel), List.mem_of_getElem? (i := 573) (by decide +kernel), List.mem_of_getElem? (i := 574) (by decide +kernel)⟩
theorem lw_p36 : lw_okq (⟨"CubeBodies$Tape", "put", "(IJ)V"⟩, 3) := ⟨⟨by decide +kernel, by decide +kernel⟩, List.mem_of_getElem? (i := 112) (by decide +kernel), List.mem_of_getElem? (i := 581) (by decide +kernel), List.mem_of_getElem? (i := 582) (by decide +kernel)⟩
theorem lw_p37 : lw_okq (⟨"CubeBodies$Tape", "cut", "(J)J"⟩, 3) := ⟨⟨by decide +kernel, by decide +kernel⟩, List.mem_of_getElem? (i := 112) (by decide +kernel), List.mem_of_getElem? (i := 585) (by decide +kernel), List.mem_of_getElem? (i := 586) (by decide +kernel)⟩
theorem lw_p38 : lw_okq (⟨"CubeBodies$Tape", "hasRun", "(II)Z"⟩, 3) := ⟨⟨by decide +kernel, by decide +kernel⟩, List.mem_of_getElem? (i := 112) (by decide +kernel), List.mem_of_getElem? (i := 597) (by decide +kernel), List.mem_of_getElem? (i := 598) (by decide +kernel)⟩
theorem lw_p39 : lw_okq (⟨"CubeBodiesModel", "imageOf", "(II)I"⟩, 32) := ⟨⟨by decide +kernel, by decide +kernel⟩, List.mem_of_getElem? (i := 602) (by decide +kernel), List.mem_of_getElem? (i := 608) (by decide +kernel), List.mem_of_getElem? (i := 609) (by decide +kernel)⟩
theorem lw_p40 : lw_okq (⟨"CubeBodiesModel", "readsAll", "()Z"⟩, 32) := ⟨⟨by decide +kernel, by decide +kernel⟩, List.mem_of_getElem? (i := 602) (by decide +kernel), List.mem_of_getElem? (i := 747) (by decide +kernel), List.mem_of_getElem? (i := 748) (by decide +kernel)⟩
theorem lw_p41 : lw_okq (⟨"CubeBodiesModel", "readsClause", "()Z"⟩, 32) := ⟨⟨by decide +kernel, by decide +kernel⟩, List.mem_of_getElem? (i := 602) (by decide +kernel), List.mem_of_getElem? (i := 751) (by decide +kernel), List.mem_of_getElem? (i := 752) (by decide +kernel)⟩
theorem lw_p42 : lw_okq (⟨"CubeBodiesModel", "next", "()I"⟩, 32) := ⟨⟨by decide +kernel, by decide +kernel⟩, List.mem_of_getElem? (i := 602) (by decide +kernel), List.mem_of_getElem? (i := 755) (by decide +kernel), List.mem_of_getElem? (i := 756) (by decide +kernel)⟩
theorem lw_p43 : lw_okq (⟨"CubeBodiesModel", "readsDigits", "(ZI)I"⟩, 32) := ⟨⟨by decide +kernel, by decide +kernel⟩, List.mem_of_getElem? (i := 602) (by decide +kernel), List.mem_of_getElem? (i := 759) (by decide +kernel), List.mem_of_getElem? (i := 760) (by decide +kernel)⟩
theorem lw_p44 : lw_okq (⟨"CubeBodiesModel", "isDigit", "()Z"⟩, 32) := ⟨⟨by decide +kernel, by decide +kernel⟩, List.mem_of_getElem? (i := 602) (by decide +kernel), List.mem_of_getElem? (i := 763) (by decide +kernel), List.mem_of_getElem? (i := 764) (by decide +kernel)⟩
theorem lw_p45 : lw_okq (⟨"CubeBodiesModel", "does", "(I)I"⟩, 32) := ⟨⟨by decide +kernel, by decide +kernel⟩, List.mem_of_getElem? (i := 602) (by decide +kernel), List.mem_of_getElem? (i := 767) (by decide +kernel), List.mem_of_getElem? (i := 768) (by decide +kernel)⟩
theorem lw_p46 : lw_okq (⟨"CubeBodiesModel", "set", "(I)I"⟩, 32) := ⟨⟨by decide +kernel, by decide +kernel⟩, List.mem_of_getElem? (i := 602) (by decide +kernel), List.mem_of_getElem? (i := 771) (by decide +kernel), List.mem_of_getElem? (i := 772) (by decide +kernel)⟩
theorem lw_p47 : lw_okq (⟨"CubeBodiesModel", "likes", "(I)I"⟩, 32) := ⟨⟨by decide +kernel, by decide +kernel⟩, List.mem_of_getElem? (i := 602) (by decide +kernel), List.mem_of_getElem? (i := 785) (by decide +kernel), List.mem_of_getElem? (i := 786) (by decide +kernel)⟩
def lw_privs_3 : List (MethodName × Nat) := [(⟨"CubeBodies$Tape", "itemAt", "(I)J"⟩, 3), (⟨"CubeBodies$Held", "copyFrom", "(LCubeBodies$Held;)V"⟩, 5), (⟨"CubeBodies$Rows", "copyFrom", "(LCubeBodies$Rows;)V"⟩, 3), (⟨"CubeBodies$Tape", "becomeRow", "(II)V"⟩, 3), (⟨"CubeBodies$Tape", "put", "(IJ)V"⟩, 3), (⟨"CubeBodies$Tape", "cut", "(J)J"⟩, 3), (⟨"CubeBodies$Tape", "hasRun", "(II)Z"⟩, 3), (⟨"CubeBodiesModel", "imageOf", "(II)I"⟩, 32), (⟨"CubeBodiesModel", "readsAll", "()Z"⟩, 32), (⟨"CubeBodiesModel", "readsClause", "()Z"⟩, 32), (⟨"CubeBodiesModel", "next", "()I"⟩, 32), (⟨"CubeBodiesModel", "readsDigits", "(ZI)I"⟩, 32), (⟨"CubeBodiesModel", "isDigit", "()Z"⟩, 32), (⟨"CubeBodiesModel", "does", "(I)I"⟩, 32), (⟨"CubeBodiesModel", "set", "(I)I"⟩, 32), (⟨"CubeBodiesModel", "likes", "(I)I"⟩, 32)]
theorem lw_r3 : ∀ q ∈ lw_privs_3, lw_okq q := List.forall_mem_cons.mpr ⟨lw_p32, List.forall_mem_cons.mpr ⟨lw_p33, List.forall_mem_cons.mpr ⟨lw_p34, List.forall_mem_cons.mpr ⟨lw_p35, List.forall_mem_cons.mpr ⟨lw_p36, List.forall_mem_cons.mpr ⟨lw_p37, List.forall_mem_cons.mpr ⟨lw_p38, List.forall_mem_cons.mpr ⟨lw_p39, List.forall_mem_cons.mpr ⟨lw_p40, List.forall_mem_cons.mpr ⟨lw_p41, List.forall_mem_cons.mpr ⟨lw_p42, List.forall_mem_cons.mpr ⟨lw_p43, List.forall_mem_cons.mpr ⟨lw_p44, List.forall_mem_cons.mpr ⟨lw_p45, List.forall_mem_cons.mpr ⟨lw_p46, List.forall_mem_cons.mpr ⟨lw_p47, fun _ h => absurd h List.not_mem_nil⟩⟩⟩⟩⟩⟩⟩⟩⟩⟩⟩⟩⟩⟩⟩⟩
theorem lw_p48 : lw_okq (⟨"CubeBodiesModel", "stills", "(I)I"⟩, 32) := ⟨⟨by decide +kernel, by decide +kernel⟩, List.mem_of_getElem? (i := 602) (by decide +kernel), List.mem_of_getElem? (i := 789) (by decide +kernel), List.mem_of_getElem? (i := 790) (by decide +kernel)⟩
theorem lw_p49 : lw_okq (⟨"CubeBodiesModel", "far", "()I"⟩, 32) := ⟨⟨by decide +kernel, by decide +kernel⟩, List.mem_of_getElem? (i := 602) (by decide +kernel), List.mem_of_getElem? (i := 793) (by decide +kernel), List.mem_of_getElem? (i := 794) (by decide +kernel)⟩
theorem lw_p50 : lw_okq (⟨"CubeBodiesModel", "findFaces", "(I)I"⟩, 32) := ⟨⟨by decide +kernel, by decide +kernel⟩, List.mem_of_getElem? (i := 602) (by decide +kernel), List.mem_of_getElem? (i := 797) (by decide +kernel), List.mem_of_getElem? (i := 798) (by decide +kernel)⟩
theorem lw_p51 : lw_okq (⟨"CubeBodiesModel", "dimension", "(I)I"⟩, 32) := ⟨⟨by decide +kernel, by decide +kernel⟩, List.mem_of_getElem? (i := 602) (by decide +kernel), List.mem_of_getElem? (i := 825) (by decide +kernel), List.mem_of_getElem? (i := 826) (by decide +kernel)⟩
theorem lw_p52 : lw_okq (⟨"CubeBodiesModel", "fat", "()F"⟩, 32) := ⟨⟨by decide +kernel, by decide +kernel⟩, List.mem_of_getElem? (i := 602) (by decide +kernel), List.mem_of_getElem? (i := 884) (by decide +kernel), List.mem_of_getElem? (i := 885) (by decide +kernel)⟩
theorem lw_p53 : lw_okq (⟨"CubeBodiesModel", "centre", "(I)F"⟩, 32) := ⟨⟨by decide +kernel, by decide +kernel⟩, List.mem_of_getElem? (i := 602) (by decide +kernel), List.mem_of_getElem? (i := 889) (by decide +kernel), List.mem_of_getElem? (i := 890) (by decide +kernel)⟩
theorem lw_p54 : lw_okq (⟨"CubeBodiesModel", "isSeen", "(II)Z"⟩, 32) := ⟨⟨by decide +kernel, by decide +kernel⟩, List.mem_of_getElem? (i := 602) (by decide +kernel), List.mem_of_getElem? (i := 927) (by decide +kernel), List.mem_of_getElem? (i := 928) (by decide +kernel)⟩
theorem lw_p55 : lw_okq (⟨"CubeBodiesModel", "passesAll", "(Z)V"⟩, 32) := ⟨⟨by decide +kernel, by decide +kernel⟩, List.mem_of_getElem? (i := 602) (by decide +kernel), List.mem_of_getElem? (i := 969) (by decide +kernel), List.mem_of_getElem? (i := 970) (by decide +kernel)⟩
theorem lw_p56 : lw_okq (⟨"CubeBodiesModel", "passOne", "(I)I"⟩, 32) := ⟨⟨by decide +kernel, by decide +kernel⟩, List.mem_of_getElem? (i := 602) (by decide +kernel), List.mem_of_getElem? (i := 973) (by decide +kernel), List.mem_of_getElem? (i := 974) (by decide +kernel)⟩
theorem lw_p57 : lw_okq (⟨"CubeBodiesModel", "passes", "([II)V"⟩, 32) := ⟨⟨by decide +kernel, by decide +kernel⟩, List.mem_of_getElem? (i := 602) (by decide +kernel), List.mem_of_getElem? (i := 977) (by decide +kernel), List.mem_of_getElem? (i := 978) (by decide +kernel)⟩
def lw_privs_4 : List (MethodName × Nat) := [(⟨"CubeBodiesModel", "stills", "(I)I"⟩, 32), (⟨"CubeBodiesModel", "far", "()I"⟩, 32), (⟨"CubeBodiesModel", "findFaces", "(I)I"⟩, 32), (⟨"CubeBodiesModel", "dimension", "(I)I"⟩, 32), (⟨"CubeBodiesModel", "fat", "()F"⟩, 32), (⟨"CubeBodiesModel", "centre", "(I)F"⟩, 32), (⟨"CubeBodiesModel", "isSeen", "(II)Z"⟩, 32), (⟨"CubeBodiesModel", "passesAll", "(Z)V"⟩, 32), (⟨"CubeBodiesModel", "passOne", "(I)I"⟩, 32), (⟨"CubeBodiesModel", "passes", "([II)V"⟩, 32)]
theorem lw_r4 : ∀ q ∈ lw_privs_4, lw_okq q := List.forall_mem_cons.mpr ⟨lw_p48, List.forall_mem_cons.mpr ⟨lw_p49, List.forall_mem_cons.mpr ⟨lw_p50, List.forall_mem_cons.mpr ⟨lw_p51, List.forall_mem_cons.mpr ⟨lw_p52, List.forall_mem_cons.mpr ⟨lw_p53, List.forall_mem_cons.mpr ⟨lw_p54, List.forall_mem_cons.mpr ⟨lw_p55, List.forall_mem_cons.mpr ⟨lw_p56, List.forall_mem_cons.mpr ⟨lw_p57, fun _ h => absurd h List.not_mem_nil⟩⟩⟩⟩⟩⟩⟩⟩⟩⟩
def lw_privs : List (MethodName × Nat) := lw_privs_1 ++ (lw_privs_2 ++ (lw_privs_3 ++ (lw_privs_4)))
def lw_tbl : List Cond := k2_sels lw_privs ++ tables_1
theorem lw_privs_ok : ∀ q ∈ lw_privs, lw_okq q := by
  show ∀ q ∈ lw_privs_1 ++ (lw_privs_2 ++ (lw_privs_3 ++ (lw_privs_4))), lw_okq q
  exact List.forall_mem_append.mpr ⟨lw_r1, List.forall_mem_append.mpr ⟨lw_r2, List.forall_mem_append.mpr ⟨lw_r3, lw_r4⟩⟩⟩
/-- the streams that the claim lets the run draw from -/
abbrev lw_cs : List Choice := [Jvm.Choice.named "NaN.bits"]
theorem lw_bits : nanBits ∈ lw_cs := by first | decide | exact List.mem_cons_self | simp [lw_cs, nanBits]
end
section
def RX0 : String := "CubeBodies$Bits"
def TX0 : u_T := fun k => match k with
  | _ => ("", "", "", false)
def tyX0 : Nat → FieldType := fun k => match k with
  | _ => .int
theorem nmX0 : ∀ a, a < 0 → ∀ b, b < 0 → a ≠ b → (TX0 a).2.1 ≠ (TX0 b).2.1 := by decide +kernel
theorem tyX0_ok : ∀ k, k < 0 → parseFieldDescriptor (TX0 k).2.2.1 = some (tyX0 k) := by decide +kernel
abbrev cX0_ofFloat : ByteArray := prog_2_method_2_code
def yX0_ofFloat : MethodName := ⟨RX0, "ofFloat", "(F)I"⟩
abbrev cX0_ofDouble : ByteArray := prog_2_method_3_code
def yX0_ofDouble : MethodName := ⟨RX0, "ofDouble", "(D)J"⟩
abbrev cX0_exponentOf : ByteArray := prog_2_method_4_code
def yX0_exponentOf : MethodName := ⟨RX0, "exponentOf", "(D)I"⟩
abbrev cX0_fractionOf : ByteArray := prog_2_method_5_code
def yX0_fractionOf : MethodName := ⟨RX0, "fractionOf", "(DI)D"⟩
def RX1 : String := "CubeBodies$Cube"
def TX1 : u_T := fun k => match k with
  | _ => ("", "", "", false)
def tyX1 : Nat → FieldType := fun k => match k with
  | _ => .int
theorem nmX1 : ∀ a, a < 0 → ∀ b, b < 0 → a ≠ b → (TX1 a).2.1 ≠ (TX1 b).2.1 := by decide +kernel
theorem tyX1_ok : ∀ k, k < 0 → parseFieldDescriptor (TX1 k).2.2.1 = some (tyX1 k) := by decide +kernel
abbrev cX1_cornerBy : ByteArray := prog_3_method_2_code
def yX1_cornerBy : MethodName := ⟨RX1, "cornerBy", "(II)I"⟩
abbrev cX1_imageBy : ByteArray := prog_3_method_3_code
def yX1_imageBy : MethodName := ⟨RX1, "imageBy", "(II)I"⟩
abbrev cX1_formOf : ByteArray := prog_3_method_4_code
def yX1_formOf : MethodName := ⟨RX1, "formOf", "(I)I"⟩
abbrev cX1_classOf : ByteArray := prog_3_method_5_code
def yX1_classOf : MethodName := ⟨RX1, "classOf", "(I)I"⟩
abbrev cX1_classesWith : ByteArray := prog_3_method_6_code
def yX1_classesWith : MethodName := ⟨RX1, "classesWith", "(I)I"⟩
abbrev cX1_stillMoves : ByteArray := prog_3_method_7_code
def yX1_stillMoves : MethodName := ⟨RX1, "stillMoves", "(I)I"⟩
abbrev cX1_unlikeImages : ByteArray := prog_3_method_8_code
def yX1_unlikeImages : MethodName := ⟨RX1, "unlikeImages", "(I)I"⟩
abbrev cX1_distance : ByteArray := prog_3_method_9_code
def yX1_distance : MethodName := ⟨RX1, "distance", "(II)I"⟩
abbrev cX1_commonOverMoves : ByteArray := prog_3_method_10_code
def yX1_commonOverMoves : MethodName := ⟨RX1, "commonOverMoves", "(II)I"⟩
abbrev cX1_dimension : ByteArray := prog_3_method_11_code
def yX1_dimension : MethodName := ⟨RX1, "dimension", "(I)I"⟩
abbrev cX1_leastCorner : ByteArray := prog_3_method_12_code
def yX1_leastCorner : MethodName := ⟨RX1, "leastCorner", "(I)I"⟩
abbrev cX1_determinant : ByteArray := prog_3_method_13_code
def yX1_determinant : MethodName := ⟨RX1, "determinant", "(IIII)I"⟩
abbrev cX1_minor : ByteArray := prog_3_method_14_code
def yX1_minor : MethodName := ⟨RX1, "minor", "(IIIII)I"⟩
abbrev cX1_away : ByteArray := prog_3_method_15_code
def yX1_away : MethodName := ⟨RX1, "away", "(III)I"⟩
abbrev cX1_centre : ByteArray := prog_3_method_16_code
def yX1_centre : MethodName := ⟨RX1, "centre", "(II)F"⟩
abbrev cX1_spreadOf : ByteArray := prog_3_method_17_code
def yX1_spreadOf : MethodName := ⟨RX1, "spreadOf", "(I)D"⟩
def RX2 : String := "CubeBodies$Held"
def TX2 : u_T := fun k => match k with
  | 0 => ("CubeBodies$Held", "body", "I", false)
  | 1 => ("CubeBodies$Held", "kept", "I", false)
  | 2 => ("CubeBodies$Held", "seen", "LCubeBodies$Rows;", true)
  | 3 => ("CubeBodies$Held", "events", "LCubeBodies$Rows;", true)
  | _ => ("CubeBodies$Held", "book", "LCubeBodies$Rows;", true)
def tyX2 : Nat → FieldType := fun k => match k with
  | 0 => .int
  | 1 => .int
  | 2 => .object "CubeBodies$Rows"
  | 3 => .object "CubeBodies$Rows"
  | _ => .object "CubeBodies$Rows"
theorem nmX2 : ∀ a, a < 5 → ∀ b, b < 5 → a ≠ b → (TX2 a).2.1 ≠ (TX2 b).2.1 := by decide +kernel
theorem tyX2_ok : ∀ k, k < 5 → parseFieldDescriptor (TX2 k).2.2.1 = some (tyX2 k) := by decide +kernel
abbrev cX2_init : ByteArray := prog_4_method_1_code
def yX2_init : MethodName := ⟨RX2, "<init>", "()V"⟩
abbrev cX2_change : ByteArray := prog_4_method_2_code
def yX2_change : MethodName := ⟨RX2, "change", "(I)V"⟩
abbrev cX2_copyFrom : ByteArray := prog_4_method_3_code
def yX2_copyFrom : MethodName := ⟨RX2, "copyFrom", "(LCubeBodies$Held;)V"⟩
def RX3 : String := "CubeBodies$Rows"
def TX3 : u_T := fun k => match k with
  | 0 => ("CubeBodies$Rows", "whats", "[I", true)
  | 1 => ("CubeBodies$Rows", "numbers", "[I", true)
  | _ => ("CubeBodies$Rows", "size", "I", false)
def tyX3 : Nat → FieldType := fun k => match k with
  | 0 => .array .int
  | 1 => .array .int
  | _ => .int
theorem nmX3 : ∀ a, a < 3 → ∀ b, b < 3 → a ≠ b → (TX3 a).2.1 ≠ (TX3 b).2.1 := by decide +kernel
theorem tyX3_ok : ∀ k, k < 3 → parseFieldDescriptor (TX3 k).2.2.1 = some (tyX3 k) := by decide +kernel
abbrev cX3_init : ByteArray := prog_5_method_1_code
def yX3_init : MethodName := ⟨RX3, "<init>", "()V"⟩
abbrev cX3_empty : ByteArray := prog_5_method_2_code
def yX3_empty : MethodName := ⟨RX3, "empty", "()I"⟩
abbrev cX3_append : ByteArray := prog_5_method_3_code
def yX3_append : MethodName := ⟨RX3, "append", "(III)I"⟩
abbrev cX3_whatAt : ByteArray := prog_5_method_4_code
def yX3_whatAt : MethodName := ⟨RX3, "whatAt", "(I)I"⟩
abbrev cX3_numberAt : ByteArray := prog_5_method_5_code
def yX3_numberAt : MethodName := ⟨RX3, "numberAt", "(I)I"⟩
abbrev cX3_copyFrom : ByteArray := prog_5_method_6_code
def yX3_copyFrom : MethodName := ⟨RX3, "copyFrom", "(LCubeBodies$Rows;)V"⟩
def RX4 : String := "CubeBodies$Shape"
def TX4 : u_T := fun k => match k with
  | 0 => ("CubeBodies$Shape", "measured", "I", false)
  | 1 => ("CubeBodies$Shape", "leastWidth", "I", false)
  | 2 => ("CubeBodies$Shape", "most", "[I", true)
  | 3 => ("CubeBodies$Shape", "least", "[I", true)
  | 4 => ("CubeBodies$Shape", "isTop", "[I", true)
  | _ => ("CubeBodies$Shape", "knownPoints", "[I", true)
def tyX4 : Nat → FieldType := fun k => match k with
  | 0 => .int
  | 1 => .int
  | 2 => .array .int
  | 3 => .array .int
  | 4 => .array .int
  | _ => .array .int
theorem nmX4 : ∀ a, a < 6 → ∀ b, b < 6 → a ≠ b → (TX4 a).2.1 ≠ (TX4 b).2.1 := by decide +kernel
theorem tyX4_ok : ∀ k, k < 6 → parseFieldDescriptor (TX4 k).2.2.1 = some (tyX4 k) := by decide +kernel
abbrev cX4_init : ByteArray := prog_6_method_1_code
def yX4_init : MethodName := ⟨RX4, "<init>", "()V"⟩
abbrev cX4_cornerWeight : ByteArray := prog_6_method_2_code
def yX4_cornerWeight : MethodName := ⟨RX4, "cornerWeight", "(IIII)I"⟩
abbrev cX4_mostBy : ByteArray := prog_6_method_3_code
def yX4_mostBy : MethodName := ⟨RX4, "mostBy", "(IIII)I"⟩
abbrev cX4_thoseThatWeigh : ByteArray := prog_6_method_4_code
def yX4_thoseThatWeigh : MethodName := ⟨RX4, "thoseThatWeigh", "(IIIII)I"⟩
abbrev cX4_measure : ByteArray := prog_6_method_5_code
def yX4_measure : MethodName := ⟨RX4, "measure", "(I)V"⟩
abbrev cX4_measureBy : ByteArray := prog_6_method_6_code
def yX4_measureBy : MethodName := ⟨RX4, "measureBy", "(I)V"⟩
abbrev cX4_width : ByteArray := prog_6_method_7_code
def yX4_width : MethodName := ⟨RX4, "width", "(I)I"⟩
abbrev cX4_isEdge : ByteArray := prog_6_method_8_code
def yX4_isEdge : MethodName := ⟨RX4, "isEdge", "(II)Z"⟩
abbrev cX4_edgeCount : ByteArray := prog_6_method_9_code
def yX4_edgeCount : MethodName := ⟨RX4, "edgeCount", "(I)I"⟩
abbrev cX4_isMeasuredTop : ByteArray := prog_6_method_10_code
def yX4_isMeasuredTop : MethodName := ⟨RX4, "isMeasuredTop", "(I)Z"⟩
abbrev cX4_isMeasuredFace : ByteArray := prog_6_method_11_code
def yX4_isMeasuredFace : MethodName := ⟨RX4, "isMeasuredFace", "(I)Z"⟩
abbrev cX4_faceCount : ByteArray := prog_6_method_12_code
def yX4_faceCount : MethodName := ⟨RX4, "faceCount", "(I)I"⟩
abbrev cX4_faceAt : ByteArray := prog_6_method_13_code
def yX4_faceAt : MethodName := ⟨RX4, "faceAt", "(II)I"⟩
abbrev cX4_isIn : ByteArray := prog_6_method_14_code
def yX4_isIn : MethodName := ⟨RX4, "isIn", "(IIIII)Z"⟩
abbrev cX4_isInMeasured : ByteArray := prog_6_method_15_code
def yX4_isInMeasured : MethodName := ⟨RX4, "isInMeasured", "(IIII)Z"⟩
abbrev cX4_pointsIn : ByteArray := prog_6_method_16_code
def yX4_pointsIn : MethodName := ⟨RX4, "pointsIn", "(II)I"⟩
abbrev cX4_sixfold : ByteArray := prog_6_method_17_code
def yX4_sixfold : MethodName := ⟨RX4, "sixfold", "(I)I"⟩
abbrev cX4_fat : ByteArray := prog_6_method_18_code
def yX4_fat : MethodName := ⟨RX4, "fat", "(I)F"⟩
def RX5 : String := "CubeBodies$Tape"
def TX5 : u_T := fun k => match k with
  | 0 => ("CubeBodies$Tape", "items", "[J", true)
  | 1 => ("CubeBodies$Tape", "sort", "I", false)
  | _ => ("CubeBodies$Tape", "size", "I", false)
def tyX5 : Nat → FieldType := fun k => match k with
  | 0 => .array .long
  | 1 => .int
  | _ => .int
theorem nmX5 : ∀ a, a < 3 → ∀ b, b < 3 → a ≠ b → (TX5 a).2.1 ≠ (TX5 b).2.1 := by decide +kernel
theorem tyX5_ok : ∀ k, k < 3 → parseFieldDescriptor (TX5 k).2.2.1 = some (tyX5 k) := by decide +kernel
abbrev cX5_init : ByteArray := prog_7_method_1_code
def yX5_init : MethodName := ⟨RX5, "<init>", "()V"⟩
abbrev cX5_becomeRow : ByteArray := prog_7_method_2_code
def yX5_becomeRow : MethodName := ⟨RX5, "becomeRow", "(II)V"⟩
abbrev cX5_holdsRow : ByteArray := prog_7_method_3_code
def yX5_holdsRow : MethodName := ⟨RX5, "holdsRow", "()Z"⟩
abbrev cX5_hasPlace : ByteArray := prog_7_method_4_code
def yX5_hasPlace : MethodName := ⟨RX5, "hasPlace", "(I)Z"⟩
abbrev cX5_hasRun : ByteArray := prog_7_method_5_code
def yX5_hasRun : MethodName := ⟨RX5, "hasRun", "(II)Z"⟩
abbrev cX5_itemAt : ByteArray := prog_7_method_6_code
def yX5_itemAt : MethodName := ⟨RX5, "itemAt", "(I)J"⟩
abbrev cX5_put : ByteArray := prog_7_method_7_code
def yX5_put : MethodName := ⟨RX5, "put", "(IJ)V"⟩
abbrev cX5_cut : ByteArray := prog_7_method_8_code
def yX5_cut : MethodName := ⟨RX5, "cut", "(J)J"⟩
def RX6 : String := "CubeBodies$Text"
def TX6 : u_T := fun k => match k with
  | 0 => ("CubeBodies$Text", "signs", "[B", true)
  | _ => ("CubeBodies$Text", "size", "I", false)
def tyX6 : Nat → FieldType := fun k => match k with
  | 0 => .array .byte
  | _ => .int
theorem nmX6 : ∀ a, a < 2 → ∀ b, b < 2 → a ≠ b → (TX6 a).2.1 ≠ (TX6 b).2.1 := by decide +kernel
theorem tyX6_ok : ∀ k, k < 2 → parseFieldDescriptor (TX6 k).2.2.1 = some (tyX6 k) := by decide +kernel
abbrev cX6_init : ByteArray := prog_8_method_1_code
def yX6_init : MethodName := ⟨RX6, "<init>", "()V"⟩
abbrev cX6_append : ByteArray := prog_8_method_2_code
def yX6_append : MethodName := ⟨RX6, "append", "(I)I"⟩
abbrev cX6_signAt : ByteArray := prog_8_method_3_code
def yX6_signAt : MethodName := ⟨RX6, "signAt", "(I)I"⟩
abbrev cX6_mostDigits : ByteArray := prog_8_method_4_code
def yX6_mostDigits : MethodName := ⟨RX6, "mostDigits", "(I)I"⟩
abbrev cX6_digitsFrom : ByteArray := prog_8_method_5_code
def yX6_digitsFrom : MethodName := ⟨RX6, "digitsFrom", "(II)I"⟩
abbrev cX6_firstFault : ByteArray := prog_8_method_6_code
def yX6_firstFault : MethodName := ⟨RX6, "firstFault", "()I"⟩
abbrev cX6_perform : ByteArray := prog_8_method_7_code
def yX6_perform : MethodName := ⟨RX6, "perform", "(LCubeBodies$Held;)I"⟩
abbrev cX6_performClause : ByteArray := prog_8_method_8_code
def yX6_performClause : MethodName := ⟨RX6, "performClause", "(LCubeBodies$Held;III)Z"⟩
abbrev cX6_performCorners : ByteArray := prog_8_method_9_code
def yX6_performCorners : MethodName := ⟨RX6, "performCorners", "(LCubeBodies$Held;ZI)Z"⟩
abbrev cX6_performMove : ByteArray := prog_8_method_10_code
def yX6_performMove : MethodName := ⟨RX6, "performMove", "(LCubeBodies$Held;I)Z"⟩
abbrev cX6_cornersAt : ByteArray := prog_8_method_11_code
def yX6_cornersAt : MethodName := ⟨RX6, "cornersAt", "(II)I"⟩
abbrev cX6_numberAt : ByteArray := prog_8_method_12_code
def yX6_numberAt : MethodName := ⟨RX6, "numberAt", "(II)I"⟩
def RX7 : String := "CubeBodies"
def TX7 : u_T := fun k => match k with
  | 0 => ("CubeBodies", "now", "LCubeBodies$Held;", true)
  | 1 => ("CubeBodies", "then", "LCubeBodies$Held;", true)
  | 2 => ("CubeBodies", "hasImage", "Z", false)
  | 3 => ("CubeBodies", "text", "LCubeBodies$Text;", true)
  | 4 => ("CubeBodies", "shape", "LCubeBodies$Shape;", true)
  | _ => ("CubeBodies", "tapes", "[LCubeBodies$Tape;", true)
def tyX7 : Nat → FieldType := fun k => match k with
  | 0 => .object "CubeBodies$Held"
  | 1 => .object "CubeBodies$Held"
  | 2 => .boolean
  | 3 => .object "CubeBodies$Text"
  | 4 => .object "CubeBodies$Shape"
  | _ => .array (.object "CubeBodies$Tape")
theorem nmX7 : ∀ a, a < 6 → ∀ b, b < 6 → a ≠ b → (TX7 a).2.1 ≠ (TX7 b).2.1 := by decide +kernel
theorem tyX7_ok : ∀ k, k < 6 → parseFieldDescriptor (TX7 k).2.2.1 = some (tyX7 k) := by decide +kernel
abbrev cX7_init : ByteArray := prog_1_method_1_code
def yX7_init : MethodName := ⟨RX7, "<init>", "()V"⟩
abbrev cX7_corner : ByteArray := prog_1_method_2_code
def yX7_corner : MethodName := ⟨RX7, "corner", "(II)I"⟩
abbrev cX7_code : ByteArray := prog_1_method_3_code
def yX7_code : MethodName := ⟨RX7, "code", "(I)I"⟩
abbrev cX7_move : ByteArray := prog_1_method_4_code
def yX7_move : MethodName := ⟨RX7, "move", "(I)I"⟩
abbrev cX7_becomes : ByteArray := prog_1_method_5_code
def yX7_becomes : MethodName := ⟨RX7, "becomes", "(I)I"⟩
abbrev cX7_keep : ByteArray := prog_1_method_6_code
def yX7_keep : MethodName := ⟨RX7, "keep", "()I"⟩
abbrev cX7_feed : ByteArray := prog_1_method_7_code
def yX7_feed : MethodName := ⟨RX7, "feed", "(I)I"⟩
abbrev cX7_read : ByteArray := prog_1_method_8_code
def yX7_read : MethodName := ⟨RX7, "read", "()I"⟩
abbrev cX7_told : ByteArray := prog_1_method_9_code
def yX7_told : MethodName := ⟨RX7, "told", "(I)I"⟩
abbrev cX7_carried : ByteArray := prog_1_method_10_code
def yX7_carried : MethodName := ⟨RX7, "carried", "(II)I"⟩
abbrev cX7_imaged : ByteArray := prog_1_method_11_code
def yX7_imaged : MethodName := ⟨RX7, "imaged", "(I)I"⟩
abbrev cX7_form : ByteArray := prog_1_method_12_code
def yX7_form : MethodName := ⟨RX7, "form", "(I)I"⟩
abbrev cX7_classes : ByteArray := prog_1_method_13_code
def yX7_classes : MethodName := ⟨RX7, "classes", "(I)I"⟩
abbrev cX7_weighs : ByteArray := prog_1_method_14_code
def yX7_weighs : MethodName := ⟨RX7, "weighs", "(IIII)I"⟩
abbrev cX7_face : ByteArray := prog_1_method_15_code
def yX7_face : MethodName := ⟨RX7, "face", "(I)I"⟩
abbrev cX7_edge : ByteArray := prog_1_method_16_code
def yX7_edge : MethodName := ⟨RX7, "edge", "(II)I"⟩
abbrev cX7_points : ByteArray := prog_1_method_17_code
def yX7_points : MethodName := ⟨RX7, "points", "(I)I"⟩
abbrev cX7_holds : ByteArray := prog_1_method_18_code
def yX7_holds : MethodName := ⟨RX7, "holds", "(IIII)I"⟩
abbrev cX7_floats : ByteArray := prog_1_method_19_code
def yX7_floats : MethodName := ⟨RX7, "floats", "(I)I"⟩
abbrev cX7_spread : ByteArray := prog_1_method_20_code
def yX7_spread : MethodName := ⟨RX7, "spread", "()J"⟩
abbrev cX7_see : ByteArray := prog_1_method_21_code
def yX7_see : MethodName := ⟨RX7, "see", "(II)I"⟩
abbrev cX7_fits : ByteArray := prog_1_method_22_code
def yX7_fits : MethodName := ⟨RX7, "fits", "()I"⟩
abbrev cX7_allSeenIn : ByteArray := prog_1_method_23_code
def yX7_allSeenIn : MethodName := ⟨RX7, "allSeenIn", "(I)Z"⟩
abbrev cX7_sightOf : ByteArray := prog_1_method_24_code
def yX7_sightOf : MethodName := ⟨RX7, "sightOf", "(II)I"⟩
abbrev cX7_odds : ByteArray := prog_1_method_25_code
def yX7_odds : MethodName := ⟨RX7, "odds", "(II)J"⟩
abbrev cX7_mean : ByteArray := prog_1_method_26_code
def yX7_mean : MethodName := ⟨RX7, "mean", "(I)J"⟩
abbrev cX7_lowestOfMoves : ByteArray := prog_1_method_27_code
def yX7_lowestOfMoves : MethodName := ⟨RX7, "lowestOfMoves", "(II)J"⟩
abbrev cX7_commonDivisor : ByteArray := prog_1_method_28_code
def yX7_commonDivisor : MethodName := ⟨RX7, "commonDivisor", "(II)I"⟩
abbrev cX7_event : ByteArray := prog_1_method_29_code
def yX7_event : MethodName := ⟨RX7, "event", "(II)I"⟩
abbrev cX7_after : ByteArray := prog_1_method_30_code
def yX7_after : MethodName := ⟨RX7, "after", "(I)I"⟩
abbrev cX7_bodyAfterEvents : ByteArray := prog_1_method_31_code
def yX7_bodyAfterEvents : MethodName := ⟨RX7, "bodyAfterEvents", "()I"⟩
abbrev cX7_book : ByteArray := prog_1_method_32_code
def yX7_book : MethodName := ⟨RX7, "book", "(II)I"⟩
abbrev cX7_looked : ByteArray := prog_1_method_33_code
def yX7_looked : MethodName := ⟨RX7, "looked", "()I"⟩
abbrev cX7_judge : ByteArray := prog_1_method_34_code
def yX7_judge : MethodName := ⟨RX7, "judge", "(II)I"⟩
abbrev cX7_image : ByteArray := prog_1_method_35_code
def yX7_image : MethodName := ⟨RX7, "image", "()I"⟩
abbrev cX7_undo : ByteArray := prog_1_method_36_code
def yX7_undo : MethodName := ⟨RX7, "undo", "()I"⟩
abbrev cX7_count : ByteArray := prog_1_method_37_code
def yX7_count : MethodName := ⟨RX7, "count", "(I)I"⟩
abbrev cX7_tape : ByteArray := prog_1_method_38_code
def yX7_tape : MethodName := ⟨RX7, "tape", "(III)I"⟩
abbrev cX7_item : ByteArray := prog_1_method_39_code
def yX7_item : MethodName := ⟨RX7, "item", "(IIJ)I"⟩
abbrev cX7_peek : ByteArray := prog_1_method_40_code
def yX7_peek : MethodName := ⟨RX7, "peek", "(II)J"⟩
abbrev cX7_shift : ByteArray := prog_1_method_41_code
def yX7_shift : MethodName := ⟨RX7, "shift", "(IIIII)I"⟩
abbrev cX7_isCorner : ByteArray := prog_1_method_42_code
def yX7_isCorner : MethodName := ⟨RX7, "isCorner", "(I)Z"⟩
abbrev cX7_isMove : ByteArray := prog_1_method_43_code
def yX7_isMove : MethodName := ⟨RX7, "isMove", "(I)Z"⟩
abbrev cX7_isBit : ByteArray := prog_1_method_44_code
def yX7_isBit : MethodName := ⟨RX7, "isBit", "(I)Z"⟩
abbrev cX7_isWeight : ByteArray := prog_1_method_45_code
def yX7_isWeight : MethodName := ⟨RX7, "isWeight", "(I)Z"⟩
abbrev cX7_isTimes : ByteArray := prog_1_method_46_code
def yX7_isTimes : MethodName := ⟨RX7, "isTimes", "(I)Z"⟩
abbrev cX7_isPlace : ByteArray := prog_1_method_47_code
def yX7_isPlace : MethodName := ⟨RX7, "isPlace", "(I)Z"⟩
abbrev cX7_isTape : ByteArray := prog_1_method_48_code
def yX7_isTape : MethodName := ⟨RX7, "isTape", "(I)Z"⟩
abbrev cX7_bitOf : ByteArray := prog_1_method_49_code
def yX7_bitOf : MethodName := ⟨RX7, "bitOf", "(II)I"⟩
def RX8 : String := "CubeBodiesModel"
def TX8 : u_T := fun k => match k with
  | 0 => ("CubeBodiesModel", "comes", "[I", true)
  | 1 => ("CubeBodiesModel", "forms", "[I", true)
  | 2 => ("CubeBodiesModel", "numbers", "[I", true)
  | 3 => ("CubeBodiesModel", "firsts", "[I", true)
  | 4 => ("CubeBodiesModel", "seconds", "[I", true)
  | 5 => ("CubeBodiesModel", "isFace", "[Z", true)
  | 6 => ("CubeBodiesModel", "vectors", "[I", true)
  | 7 => ("CubeBodiesModel", "body", "I", false)
  | 8 => ("CubeBodiesModel", "kept", "I", false)
  | 9 => ("CubeBodiesModel", "text", "[I", true)
  | 10 => ("CubeBodiesModel", "signs", "[I", true)
  | 11 => ("CubeBodiesModel", "told", "[I", true)
  | 12 => ("CubeBodiesModel", "fed", "I", false)
  | 13 => ("CubeBodiesModel", "at", "I", false)
  | 14 => ("CubeBodiesModel", "clauses", "I", false)
  | 15 => ("CubeBodiesModel", "seenWhat", "[I", true)
  | 16 => ("CubeBodiesModel", "seenMuch", "[I", true)
  | 17 => ("CubeBodiesModel", "seen", "I", false)
  | 18 => ("CubeBodiesModel", "eventWhat", "[I", true)
  | 19 => ("CubeBodiesModel", "eventOf", "[I", true)
  | 20 => ("CubeBodiesModel", "bookCorner", "[I", true)
  | 21 => ("CubeBodiesModel", "bookIs", "[I", true)
  | 22 => ("CubeBodiesModel", "events", "I", false)
  | 23 => ("CubeBodiesModel", "booked", "I", false)
  | 24 => ("CubeBodiesModel", "image", "[I", true)
  | 25 => ("CubeBodiesModel", "cursor", "I", false)
  | 26 => ("CubeBodiesModel", "hasImage", "Z", false)
  | 27 => ("CubeBodiesModel", "isKeeping", "Z", false)
  | 28 => ("CubeBodiesModel", "sorts", "[I", true)
  | 29 => ("CubeBodiesModel", "sizes", "[I", true)
  | 30 => ("CubeBodiesModel", "items", "[J", true)
  | _ => ("CubeBodiesModel", "moved", "[J", true)
def tyX8 : Nat → FieldType := fun k => match k with
  | 0 => .array .int
  | 1 => .array .int
  | 2 => .array .int
  | 3 => .array .int
  | 4 => .array .int
  | 5 => .array .boolean
  | 6 => .array .int
  | 7 => .int
  | 8 => .int
  | 9 => .array .int
  | 10 => .array .int
  | 11 => .array .int
  | 12 => .int
  | 13 => .int
  | 14 => .int
  | 15 => .array .int
  | 16 => .array .int
  | 17 => .int
  | 18 => .array .int
  | 19 => .array .int
  | 20 => .array .int
  | 21 => .array .int
  | 22 => .int
  | 23 => .int
  | 24 => .array .int
  | 25 => .int
  | 26 => .boolean
  | 27 => .boolean
  | 28 => .array .int
  | 29 => .array .int
  | 30 => .array .long
  | _ => .array .long
theorem nmX8 : ∀ a, a < 32 → ∀ b, b < 32 → a ≠ b → (TX8 a).2.1 ≠ (TX8 b).2.1 := by decide +kernel
theorem tyX8_ok : ∀ k, k < 32 → parseFieldDescriptor (TX8 k).2.2.1 = some (tyX8 k) := by decide +kernel
abbrev cX8_isIn : ByteArray := prog_10_method_1_code
def yX8_isIn : MethodName := ⟨RX8, "isIn", "(III)Z"⟩
abbrev cX8_isCorner : ByteArray := prog_10_method_2_code
def yX8_isCorner : MethodName := ⟨RX8, "isCorner", "(I)Z"⟩
abbrev cX8_isMove : ByteArray := prog_10_method_3_code
def yX8_isMove : MethodName := ⟨RX8, "isMove", "(I)Z"⟩
abbrev cX8_bits : ByteArray := prog_10_method_4_code
def yX8_bits : MethodName := ⟨RX8, "bits", "(I)I"⟩
abbrev cX8_init : ByteArray := prog_10_method_5_code
def yX8_init : MethodName := ⟨RX8, "<init>", "()V"⟩
abbrev cX8_imageOf : ByteArray := prog_10_method_6_code
def yX8_imageOf : MethodName := ⟨RX8, "imageOf", "(II)I"⟩
abbrev cX8_likes : ByteArray := prog_10_method_7_code
def yX8_likes : MethodName := ⟨RX8, "likes", "(I)I"⟩
abbrev cX8_stills : ByteArray := prog_10_method_8_code
def yX8_stills : MethodName := ⟨RX8, "stills", "(I)I"⟩
abbrev cX8_weightAt : ByteArray := prog_10_method_9_code
def yX8_weightAt : MethodName := ⟨RX8, "weightAt", "(II)I"⟩
abbrev cX8_weighsAt : ByteArray := prog_10_method_10_code
def yX8_weighsAt : MethodName := ⟨RX8, "weighsAt", "(IIII)I"⟩
abbrev cX8_weighsCorner : ByteArray := prog_10_method_11_code
def yX8_weighsCorner : MethodName := ⟨RX8, "weighsCorner", "(II)I"⟩
abbrev cX8_mostOf : ByteArray := prog_10_method_12_code
def yX8_mostOf : MethodName := ⟨RX8, "mostOf", "(II)I"⟩
abbrev cX8_leastOf : ByteArray := prog_10_method_13_code
def yX8_leastOf : MethodName := ⟨RX8, "leastOf", "(II)I"⟩
abbrev cX8_heaviest : ByteArray := prog_10_method_14_code
def yX8_heaviest : MethodName := ⟨RX8, "heaviest", "(II)I"⟩
abbrev cX8_isNought : ByteArray := prog_10_method_15_code
def yX8_isNought : MethodName := ⟨RX8, "isNought", "(I)Z"⟩
abbrev cX8_findFaces : ByteArray := prog_10_method_16_code
def yX8_findFaces : MethodName := ⟨RX8, "findFaces", "(I)I"⟩
abbrev cX8_isEdge : ByteArray := prog_10_method_17_code
def yX8_isEdge : MethodName := ⟨RX8, "isEdge", "(III)Z"⟩
abbrev cX8_edgesOf : ByteArray := prog_10_method_18_code
def yX8_edgesOf : MethodName := ⟨RX8, "edgesOf", "(I)I"⟩
abbrev cX8_dimension : ByteArray := prog_10_method_19_code
def yX8_dimension : MethodName := ⟨RX8, "dimension", "(I)I"⟩
abbrev cX8_isWithin : ByteArray := prog_10_method_20_code
def yX8_isWithin : MethodName := ⟨RX8, "isWithin", "(IIIII)Z"⟩
abbrev cX8_pointsOf : ByteArray := prog_10_method_21_code
def yX8_pointsOf : MethodName := ⟨RX8, "pointsOf", "(II)I"⟩
abbrev cX8_sixfold : ByteArray := prog_10_method_22_code
def yX8_sixfold : MethodName := ⟨RX8, "sixfold", "(I)I"⟩
abbrev cX8_width : ByteArray := prog_10_method_23_code
def yX8_width : MethodName := ⟨RX8, "width", "(I)I"⟩
abbrev cX8_corner : ByteArray := prog_10_method_24_code
def yX8_corner : MethodName := ⟨RX8, "corner", "(II)I"⟩
abbrev cX8_code : ByteArray := prog_10_method_25_code
def yX8_code : MethodName := ⟨RX8, "code", "(I)I"⟩
abbrev cX8_move : ByteArray := prog_10_method_26_code
def yX8_move : MethodName := ⟨RX8, "move", "(I)I"⟩
abbrev cX8_becomes : ByteArray := prog_10_method_27_code
def yX8_becomes : MethodName := ⟨RX8, "becomes", "(I)I"⟩
abbrev cX8_keep : ByteArray := prog_10_method_28_code
def yX8_keep : MethodName := ⟨RX8, "keep", "()I"⟩
abbrev cX8_feed : ByteArray := prog_10_method_29_code
def yX8_feed : MethodName := ⟨RX8, "feed", "(I)I"⟩
abbrev cX8_next : ByteArray := prog_10_method_30_code
def yX8_next : MethodName := ⟨RX8, "next", "()I"⟩
abbrev cX8_isDigit : ByteArray := prog_10_method_31_code
def yX8_isDigit : MethodName := ⟨RX8, "isDigit", "()Z"⟩
abbrev cX8_readsDigits : ByteArray := prog_10_method_32_code
def yX8_readsDigits : MethodName := ⟨RX8, "readsDigits", "(ZI)I"⟩
abbrev cX8_readsClause : ByteArray := prog_10_method_33_code
def yX8_readsClause : MethodName := ⟨RX8, "readsClause", "()Z"⟩
abbrev cX8_readsAll : ByteArray := prog_10_method_34_code
def yX8_readsAll : MethodName := ⟨RX8, "readsAll", "()Z"⟩
abbrev cX8_does : ByteArray := prog_10_method_35_code
def yX8_does : MethodName := ⟨RX8, "does", "(I)I"⟩
abbrev cX8_set : ByteArray := prog_10_method_36_code
def yX8_set : MethodName := ⟨RX8, "set", "(I)I"⟩
abbrev cX8_read : ByteArray := prog_10_method_37_code
def yX8_read : MethodName := ⟨RX8, "read", "()I"⟩
abbrev cX8_far : ByteArray := prog_10_method_38_code
def yX8_far : MethodName := ⟨RX8, "far", "()I"⟩
abbrev cX8_told : ByteArray := prog_10_method_39_code
def yX8_told : MethodName := ⟨RX8, "told", "(I)I"⟩
abbrev cX8_carried : ByteArray := prog_10_method_40_code
def yX8_carried : MethodName := ⟨RX8, "carried", "(II)I"⟩
abbrev cX8_imaged : ByteArray := prog_10_method_41_code
def yX8_imaged : MethodName := ⟨RX8, "imaged", "(I)I"⟩
abbrev cX8_form : ByteArray := prog_10_method_42_code
def yX8_form : MethodName := ⟨RX8, "form", "(I)I"⟩
abbrev cX8_classes : ByteArray := prog_10_method_43_code
def yX8_classes : MethodName := ⟨RX8, "classes", "(I)I"⟩
abbrev cX8_weighs : ByteArray := prog_10_method_44_code
def yX8_weighs : MethodName := ⟨RX8, "weighs", "(IIII)I"⟩
abbrev cX8_face : ByteArray := prog_10_method_45_code
def yX8_face : MethodName := ⟨RX8, "face", "(I)I"⟩
abbrev cX8_edge : ByteArray := prog_10_method_46_code
def yX8_edge : MethodName := ⟨RX8, "edge", "(II)I"⟩
abbrev cX8_points : ByteArray := prog_10_method_47_code
def yX8_points : MethodName := ⟨RX8, "points", "(I)I"⟩
abbrev cX8_holds : ByteArray := prog_10_method_48_code
def yX8_holds : MethodName := ⟨RX8, "holds", "(IIII)I"⟩
abbrev cX8_centre : ByteArray := prog_10_method_49_code
def yX8_centre : MethodName := ⟨RX8, "centre", "(I)F"⟩
abbrev cX8_fat : ByteArray := prog_10_method_50_code
def yX8_fat : MethodName := ⟨RX8, "fat", "()F"⟩
abbrev cX8_floats : ByteArray := prog_10_method_51_code
def yX8_floats : MethodName := ⟨RX8, "floats", "(I)I"⟩
abbrev cX8_spread : ByteArray := prog_10_method_52_code
def yX8_spread : MethodName := ⟨RX8, "spread", "()J"⟩
abbrev cX8_see : ByteArray := prog_10_method_53_code
def yX8_see : MethodName := ⟨RX8, "see", "(II)I"⟩
abbrev cX8_isSeen : ByteArray := prog_10_method_54_code
def yX8_isSeen : MethodName := ⟨RX8, "isSeen", "(II)Z"⟩
abbrev cX8_fits : ByteArray := prog_10_method_55_code
def yX8_fits : MethodName := ⟨RX8, "fits", "()I"⟩
abbrev cX8_partOf : ByteArray := prog_10_method_56_code
def yX8_partOf : MethodName := ⟨RX8, "partOf", "(III)J"⟩
abbrev cX8_odds : ByteArray := prog_10_method_57_code
def yX8_odds : MethodName := ⟨RX8, "odds", "(II)J"⟩
abbrev cX8_mean : ByteArray := prog_10_method_58_code
def yX8_mean : MethodName := ⟨RX8, "mean", "(I)J"⟩
abbrev cX8_event : ByteArray := prog_10_method_59_code
def yX8_event : MethodName := ⟨RX8, "event", "(II)I"⟩
abbrev cX8_after : ByteArray := prog_10_method_60_code
def yX8_after : MethodName := ⟨RX8, "after", "(I)I"⟩
abbrev cX8_book : ByteArray := prog_10_method_61_code
def yX8_book : MethodName := ⟨RX8, "book", "(II)I"⟩
abbrev cX8_looked : ByteArray := prog_10_method_62_code
def yX8_looked : MethodName := ⟨RX8, "looked", "()I"⟩
abbrev cX8_judge : ByteArray := prog_10_method_63_code
def yX8_judge : MethodName := ⟨RX8, "judge", "(II)I"⟩
abbrev cX8_passOne : ByteArray := prog_10_method_64_code
def yX8_passOne : MethodName := ⟨RX8, "passOne", "(I)I"⟩
abbrev cX8_passes : ByteArray := prog_10_method_65_code
def yX8_passes : MethodName := ⟨RX8, "passes", "([II)V"⟩
abbrev cX8_passesAll : ByteArray := prog_10_method_66_code
def yX8_passesAll : MethodName := ⟨RX8, "passesAll", "(Z)V"⟩
abbrev cX8_image : ByteArray := prog_10_method_67_code
def yX8_image : MethodName := ⟨RX8, "image", "()I"⟩
abbrev cX8_undo : ByteArray := prog_10_method_68_code
def yX8_undo : MethodName := ⟨RX8, "undo", "()I"⟩
abbrev cX8_count : ByteArray := prog_10_method_69_code
def yX8_count : MethodName := ⟨RX8, "count", "(I)I"⟩
abbrev cX8_isTape : ByteArray := prog_10_method_70_code
def yX8_isTape : MethodName := ⟨RX8, "isTape", "(I)Z"⟩
abbrev cX8_lowest : ByteArray := prog_10_method_71_code
def yX8_lowest : MethodName := ⟨RX8, "lowest", "(IJ)J"⟩
abbrev cX8_tape : ByteArray := prog_10_method_72_code
def yX8_tape : MethodName := ⟨RX8, "tape", "(III)I"⟩
abbrev cX8_item : ByteArray := prog_10_method_73_code
def yX8_item : MethodName := ⟨RX8, "item", "(IIJ)I"⟩
abbrev cX8_peek : ByteArray := prog_10_method_74_code
def yX8_peek : MethodName := ⟨RX8, "peek", "(II)J"⟩
abbrev cX8_shift : ByteArray := prog_10_method_75_code
def yX8_shift : MethodName := ⟨RX8, "shift", "(IIIII)I"⟩
def RJxe99ae : String := "java/lang/Double"
def TJxe99ae : u_T := fun k => match k with
  | _ => ("", "", "", false)
def tyJxe99ae : Nat → FieldType := fun k => match k with
  | _ => .int
abbrev cJxe99ae_isNaN_b9ae7 : ByteArray := prog_11_method_6_code
def yJxe99ae_isNaN_b9ae7 : MethodName := ⟨RJxe99ae, "isNaN", "(D)Z"⟩
abbrev cJxe99ae_doubleToLongBits_ccdee : ByteArray := prog_11_method_23_code
def yJxe99ae_doubleToLongBits_ccdee : MethodName := ⟨RJxe99ae, "doubleToLongBits", "(D)J"⟩
def RJxf58ca : String := "java/lang/Float"
def TJxf58ca : u_T := fun k => match k with
  | _ => ("", "", "", false)
def tyJxf58ca : Nat → FieldType := fun k => match k with
  | _ => .int
abbrev cJxf58ca_isNaN_12338 : ByteArray := prog_12_method_6_code
def yJxf58ca_isNaN_12338 : MethodName := ⟨RJxf58ca, "isNaN", "(F)Z"⟩
abbrev cJxf58ca_floatToIntBits_5c35a : ByteArray := prog_12_method_24_code
def yJxf58ca_floatToIntBits_5c35a : MethodName := ⟨RJxf58ca, "floatToIntBits", "(F)I"⟩
def RJ6 : String := "java/lang/Integer"
def TJ6 : u_T := fun k => match k with
  | _ => ("", "", "", false)
def tyJ6 : Nat → FieldType := fun k => match k with
  | _ => .int
abbrev cJ6_bitCount_0f7a4 : ByteArray := prog_13_method_49_code
def yJ6_bitCount_0f7a4 : MethodName := ⟨RJ6, "bitCount", "(I)I"⟩
def RJ9 : String := "java/lang/Math"
def TJ9 : u_T := fun k => match k with
  | _ => ("", "", "", false)
def tyJ9 : Nat → FieldType := fun k => match k with
  | _ => .int
abbrev cJ9_max_7cf53 : ByteArray := prog_14_method_65_code
def yJ9_max_7cf53 : MethodName := ⟨RJ9, "max", "(II)I"⟩
abbrev cJ9_min_7cf53 : ByteArray := prog_14_method_69_code
def yJ9_min_7cf53 : MethodName := ⟨RJ9, "min", "(II)I"⟩
def RJ10 : String := "java/lang/System"
def TJ10 : u_T := fun k => match k with
  | _ => ("", "", "", false)
def tyJ10 : Nat → FieldType := fun k => match k with
  | _ => .int
def RL : String := "CubeBodiesLaw"
abbrev cL_law : ByteArray := code
def yL_law : MethodName := ⟨RL, "law", "([I)Z"⟩
abbrev vwCl : List vw_C := [(RX2, TX2, 5), (RX3, TX3, 3), (RX4, TX4, 6), (RX5, TX5, 3), (RX6, TX6, 2), (RX7, TX7, 6), (RX8, TX8, 32)]
end
section
/-! ===== the small machine: one world of cells, references by their places in it ===== -/
abbrev zS : Type := Nat × (Nat → Int32)
abbrev zM : Type := String × MethodName × ByteArray × Nat × Option FieldType × Nat
abbrev zW : Type := List va_E
def zGW : List Cond := lw_tbl.filter goodWord
def zisN : Cond → Bool
  | .fieldLinkNest .. => true
  | .methodLinkNest .. => true
  | _ => false
def zNW : List Cond := lw_tbl.filter zisN
theorem zin (i : Nat) {w : Cond} (h : lw_tbl[i]? = some w) (g : goodWord w = true) : w ∈ zGW := List.mem_filter.mpr ⟨List.mem_of_getElem? h, g⟩
theorem znin (i : Nat) {w : Cond} (h : lw_tbl[i]? = some w) (g : zisN w = true) : w ∈ zNW := List.mem_filter.mpr ⟨List.mem_of_getElem? h, g⟩
theorem zGW_good : ∀ w ∈ zGW, (w.onTables && w.keeps) = true ∨ ∃ ty, w = .arrayClass ty := fun _ h => good_of_word (List.mem_filter.mp h).2
theorem zNW_warm {s U : State} (hW : s.WarmedH U.vm) (h : ∀ w ∈ zNW, va_Nw w s) : ∀ w ∈ zNW, va_Nw w U := by
  intro w hw
  have h1 := h w hw
  have h2 := (List.mem_filter.mp hw).2
  cases w with
  | fieldLinkNest a i b n d k => exact va_Nw.warmF hW h1
  | methodLinkNest a i x k => exact va_Nw.warmM hW h1
  | _ => cases h2
theorem zNW_same {s U : State} (hv : s.vm = U.vm) (h : ∀ w ∈ zNW, va_Nw w s) : ∀ w ∈ zNW, va_Nw w U := by
  intro w hw
  have h1 := h w hw
  have h2 := (List.mem_filter.mp hw).2
  cases w with
  | fieldLinkNest a i b n d k => exact va_Nw.same rfl hv h1
  | methodLinkNest a i x k => exact va_Nw.same rfl hv h1
  | _ => cases h2
def ztys (cy : Nat → ClassId) : List (ClassId × FieldType) := [(cy 0, .int), (cy 1, .long), (cy 2, .byte), (cy 3, .boolean), (cy 4, .object "CubeBodies$Tape")]
/-- a value with places turned into addresses -/
def zcv (ad : Nat → Nat) (v : Value) : Value := match v with
  | .ref k => .ref (ad k)
  | x => x
def zce (ad : Nat → Nat) (cy : Nat → ClassId) (e : va_E) : va_E := match e with
  | .inl (t, n, .inl f) => .inl (cy t, n, .inl f)
  | .inl (t, n, .inr (.inl f)) => .inl (cy t, n, .inr (.inl f))
  | .inl (t, n, .inr (.inr (.inl f))) => .inl (cy t, n, .inr (.inr (.inl f)))
  | .inl (t, n, .inr (.inr (.inr (.inl f)))) => .inl (cy t, n, .inr (.inr (.inr (.inl f))))
  | .inl (t, n, .inr (.inr (.inr (.inr f)))) => .inl (cy t, n, .inr (.inr (.inr (.inr (fun j => (f j).map ad)))))
  | .inr (ci, fs) => .inr (ci, fs.map (zcv ad))
def zcw (ad : Nat → Nat) (cy : Nat → ClassId) (w : zW) : va_W := w.mapIdx (fun k e => (ad k, zce ad cy e))
def zcl (ad : Nat → Nat) (lv : List (Nat × Value)) : List (Nat × Value) := lv.map (fun q => (q.1, zcv ad q.2))
theorem zcv_cat (ad : Nat → Nat) (v : Value) : (zcv ad v).category = v.category := by cases v <;> rfl
theorem zcv_cats (ad : Nat → Nat) (l : List Value) : ((l.map (zcv ad)).map fun v => v.category) = l.map fun v => v.category := by
  rw [List.map_map]
  exact List.map_congr_left (fun v _ => zcv_cat ad v)
theorem zcw_get (ad : Nat → Nat) (cy : Nat → ClassId) (w : zW) (k : Nat) : (zcw ad cy w)[k]? = w[k]?.map (fun e => (ad k, zce ad cy e)) := by
  unfold zcw
  rw [List.getElem?_mapIdx]
theorem zcw_at {ad : Nat → Nat} {cy : Nat → ClassId} {w : zW} {k : Nat} {e : va_E} (h : w[k]? = some e) : (zcw ad cy w)[k]? = some (ad k, zce ad cy e) := by
  rw [zcw_get, h]; rfl
theorem zcw_len (ad : Nat → Nat) (cy : Nat → ClassId) (w : zW) : (zcw ad cy w).length = w.length := by
  unfold zcw
  exact List.length_mapIdx
theorem zcw_set (ad : Nat → Nat) (cy : Nat → ClassId) (w : zW) (k : Nat) (e : va_E) : zcw ad cy (w.set k e) = (zcw ad cy w).set k (ad k, zce ad cy e) := by
  apply List.ext_getElem?
  intro i
  rw [zcw_get, List.getElem?_set, List.getElem?_set, zcw_get, zcw_len]
  by_cases h : k = i
  · subst h
    by_cases h2 : k < w.length
    · simp [h2]
    · simp [h2]
  · simp [h]
theorem zcw_push (ad : Nat → Nat) (cy : Nat → ClassId) (w : zW) (e : va_E) : zcw ad cy (w ++ [e]) = zcw ad cy w ++ [(ad w.length, zce ad cy e)] := by
  unfold zcw
  rw [List.mapIdx_append]
  simp
/-- read-only arrays: the class's two tables, the script -/
def zORD : Nat → Int32 := fun j => ([0, 1, 2, 0, 2, 1, 1, 0, 2, 1, 2, 0, 2, 0, 1, 2, 1, 0] : List Int32).getD j 0
def zFRM : Nat → Int32 := fun j => ([0, 1, 3, 6, 7, 15, 22, 23, 24, 25, 27, 30, 31, 60, 61, 63, 105, 107, 111, 126, 127, 255] : List Int32).getD j 0
def zRoT (Z : zS) : Nat → Nat × (Nat → Int32)
  | 0 => (18, zORD)
  | 1 => (22, zFRM)
  | _ => Z
def zRo (Z : zS) (ad : Nat → Nat) (A : Nat → Prop) (s : State) (H : Heap) : Prop :=
  va_Z "CubeBodies$Cube" "ORDERS" "[I" (.ref (ad 1000)) A s H ∧ va_Z "CubeBodies$Cube" "FORMS" "[I" (.ref (ad 1001)) A s H ∧ ∀ j, j < 3 → va_T .int (ad (1000 + j)) (zRoT Z j).1 (fun i => .int ((zRoT Z j).2 i)) A s H
theorem zRo_moved {Z : zS} {ad : Nat → Nat} {A : Nat → Prop} {u U : State} {H : Heap} (hvm : u.vm.Alike U.vm) (h : zRo Z ad A u H) : zRo Z ad A U H :=
  ⟨h.1.moved hvm, h.2.1.moved hvm, fun j hj => (h.2.2 j hj).moved hvm⟩
theorem zRo_kept {Z : zS} {ad : Nat → Nat} {A : Nat → Prop} {u : State} {H H1 : Heap} (hq : ∀ a : Nat, a < H.size → ¬ A a → H1[a]? = H[a]?) (h : zRo Z ad A u H) : zRo Z ad A u H1 :=
  ⟨h.1.kept hq, h.2.1.kept hq, fun j hj => (h.2.2 j hj).kept hq⟩
theorem zRo_narrow {Z : zS} {ad : Nat → Nat} {A B : Nat → Prop} {u : State} {H : Heap} (hAB : ∀ q, B q → A q) (h : zRo Z ad A u H) : zRo Z ad B u H :=
  ⟨h.1.narrow hAB, h.2.1.narrow hAB, fun j hj => (h.2.2 j hj).narrow hAB⟩
theorem zRo_ad {Z : zS} {ad ad' : Nat → Nat} {A : Nat → Prop} {u : State} {H : Heap} (e : ∀ i, 1000 ≤ i → ad' i = ad i) (h : zRo Z ad A u H) : zRo Z ad' A u H := by
  refine ⟨?_, ?_, fun j hj => ?_⟩
  · rw [e 1000 (by omega)]; exact h.1
  · rw [e 1001 (by omega)]; exact h.2.1
  · rw [e (1000 + j) (by omega)]; exact h.2.2 j hj
/-- what a walk stands on -/
def zC (Z : zS) (M : zM) (d : Nat) (p : Program) (R : Room) (s : State) (m : MethodId) (args : Array Value) (meth : Method) (c : Code) (A : Nat → Prop) (D : va_G) (cy : Nat → ClassId) (ad0 : Nat → Nat) : Prop :=
  p.tables.exec = Jvm.exec ∧ c.code = M.2.2.1 ∧ c.maxLocals = M.2.2.2.1 ∧ s.vm.findClass M.1 = some m.cls ∧ (∀ w ∈ zGW, w.before args s = true) ∧ (∀ w ∈ zNW, va_Nw w s) ∧ va_AO "CubeBodies$Tape" s ∧ va_K D vwCl (ztys cy) s ∧ (∀ q, s.heap.size ≤ q → A q) ∧ zRo Z ad0 A s s.heap ∧ d ≤ R.frames ∧ 40 * d ≤ R.locals ∧ M.2.2.2.2.2 ≤ R.cells ∧ 800 * M.2.2.2.2.2 ≤ R.slots ∧ meth.name = M.2.1.name
/-- the world is held by the heap -/
def zI (M : zM) (N : Nat) (A : Nat → Prop) (D : va_G) (cy : Nat → ClassId) (ad0 ad : Nat → Nat) (s : State) (w : zW) (H : Heap) (locs : List Loc) : Prop :=
  va_P D vwCl (zcw ad cy w) H ∧ va_D A (zcw ad cy w) ∧ va_S A s.heap H locs ∧ N ≤ w.length ∧ w.length ≤ N + M.2.2.2.2.2 ∧ N + M.2.2.2.2.2 ≤ 1000 ∧ ∀ i, (i < N ∨ w.length ≤ i) → ad i = ad0 i
def zRet (M : zM) (pc : Nat) (r : List Value) : Prop :=
  (M.2.2.2.2.1 = none ∧ decode M.2.2.1 pc = .ok (.return_, 1) ∧ r = []) ∨
  (M.2.2.2.2.1 = some .int ∧ decode M.2.2.1 pc = .ok (.ireturn, 1) ∧ ∃ x, r = [.int x]) ∨
  (M.2.2.2.2.1 = some .boolean ∧ decode M.2.2.1 pc = .ok (.ireturn, 1) ∧ ∃ x, r = [.int x] ∧ (x = 0 ∨ x = 1)) ∨
  (M.2.2.2.2.1 = some .long ∧ decode M.2.2.1 pc = .ok (.lreturn, 1) ∧ ∃ x, r = [.long x]) ∨
  (M.2.2.2.2.1 = some .float ∧ decode M.2.2.1 pc = .ok (.freturn, 1) ∧ ∃ x, r = [.float x]) ∨
  (M.2.2.2.2.1 = some .double ∧ decode M.2.2.1 pc = .ok (.dreturn, 1) ∧ ∃ x, r = [.double x])
/-- from here the method comes to its end, with Q -/
def zG (Z : zS) (M : zM) (d : Nat) (Q : List Value → zW → Prop) (N : Nat) (pc : Nat) (lv : List (Nat × Value)) (st : List Value) (w : zW) : Prop :=
  ∀ (p : Program) (l : Launch) (e : Env) (R : Room) (s : State) (m : MethodId) (args : Array Value) (below : List Frame) (meth : Method) (c : Code) (A : Nat → Prop) (D : va_G) (cy : Nat → ClassId) (QQ : State → Prop) (ad0 : Nat → Nat),
    zC Z M d p R s m args meth c A D cy ad0 →
    (∀ (r : List Value) (w : zW) (ad : Nat → Nat) (H : Heap) (locs : List Loc) (pc : Nat) (ls : Array Slot), Q r w → w.length = N + M.2.2.2.2.2 → zI M N A D cy ad0 ad s w H locs → zRet M pc r → W p l e R s m args below meth c H locs M.2.2.2.2.2 (800 * M.2.2.2.2.2) QQ (F0 m pc ls (r.map (zcv ad)))) →
    ∀ (ad : Nat → Nat) (H : Heap) (locs : List Loc) (ls : Array Slot), zI M N A D cy ad0 ad s w H locs → lv_has ls M.2.2.2.1 (zcl ad lv) → W p l e R s m args below meth c H locs (w.length - N) (800 * (w.length - N)) QQ (F0 m pc ls (st.map (zcv ad)))
/-- a call: with these arguments, in this world, it answers r and leaves the world w' -/
def zF (Z : zS) (M : zM) (d : Nat) (As : List Value) (w : zW) (r : List Value) (w' : zW) : Prop := zG Z M d (fun r1 w1 => r1 = r ∧ w1 = w') w.length 0 (lv_args 0 As) [] w
def zMok (M : zM) : Prop := Cond.code M.2.1 M.2.2.1 M.2.2.2.1 M.2.2.2.2.1 ∈ zGW ∧ Cond.initialized M.2.1.cls ∈ zGW ∧ plainFor M.2.1 = true ∧ (M.2.1.cls ≠ "java/lang/invoke/MethodHandle" ∧ M.2.1.cls ≠ "java/lang/invoke/VarHandle") ∧ M.1 = M.2.1.cls ∧ M.2.2.2.1 ≤ 21
theorem zcl_args (ad : Nat → Nat) : ∀ (i : Nat) (As : List Value), lv_args i (As.map (zcv ad)) = zcl ad (lv_args i As)
  | _, [] => rfl
  | i, v :: vs => by
    show (i, zcv ad v) :: lv_args (if (zcv ad v).category = 2 then i + 2 else i + 1) (vs.map (zcv ad)) = _
    rw [zcv_cat, zcl_args ad _ vs]
    rfl
def zroom (M : zM) (d : Nat) : Room := { frames := d, cells := M.2.2.2.2.2, slots := 800 * M.2.2.2.2.2, locals := 40 * d }
def zPc (Z : zS) (As : List Value) (D : va_G) (cy : Nat → ClassId) (ad : Nat → Nat) (w : zW) (sz : Nat) : Array Value → State → Prop := fun a U =>
  a = (As.map (zcv ad)).toArray ∧ U.heap.size = sz ∧ va_P D vwCl (zcw ad cy w) U.heap ∧ va_D (fun _ => True) (zcw ad cy w) ∧ va_K D vwCl (ztys cy) U ∧ (∀ w ∈ zNW, va_Nw w U) ∧ va_AO "CubeBodies$Tape" U ∧ zRo Z ad (va_A (zcw ad cy w) sz) U U.heap
def zQc (M : zM) (Q : List Value → zW → Prop) (D : va_G) (cy : Nat → ClassId) (ad : Nat → Nat) (w : zW) (sz : Nat) : Array Value → State → Outcome → State → Prop := fun _ st o t =>
  (∃ (r : List Value) (w' : zW) (ad' : Nat → Nat), Q r w' ∧ w'.length = w.length + M.2.2.2.2.2 ∧ o = .returned (r.map (zcv ad')).head? ∧ r.length ≤ 1 ∧ (∀ i, (i < w.length ∨ w.length + M.2.2.2.2.2 ≤ i) → ad' i = ad i) ∧ va_P D vwCl (zcw ad' cy w') t.heap ∧ va_D (va_A (zcw ad cy w) sz) (zcw ad' cy w')) ∧ va_F (va_A (zcw ad cy w) sz) st t
set_option maxHeartbeats 4000000 in
theorem z_met {Z : zS} {M : zM} {d : Nat} {Q : List Value → zW → Prop} {As : List Value} {w : zW} (hM : zMok M) (hG : zG Z M d Q w.length 0 (lv_args 0 As) [] w) (l : Launch) (D : va_G) (cy : Nat → ClassId) (ad : Nat → Nat) (sz : Nat) (hfit : (lg_sl (As.map (zcv ad))).length ≤ M.2.2.2.1) (hw : w.length + M.2.2.2.2.2 ≤ 1000) :
    Met l M.2.1 (Cond.code M.2.1 M.2.2.1 M.2.2.2.1 M.2.2.2.2.1 :: zGW) (zroom M d) (zPc Z As D cy ad w sz) (zQc M Q D cy ad w sz) M.2.2.2.2.2 (800 * M.2.2.2.2.2) (va_A (zcw ad cy w) sz) := by
  refine va_MetF (cc := M.2.2.1) (maxL := M.2.2.2.1) (ret := M.2.2.2.2.1) hM.2.2.1 rfl ?_
  intro p e s m args below meth c s₁ B hml hv
  obtain ⟨rfl, hsz, hP, hD0, hK, hN, hAO, hRo⟩ := hv
  have hts := atoms_spec (ws := Cond.code M.2.1 M.2.2.1 M.2.2.2.1 M.2.2.2.2.1 :: zGW) B.pre
  have hown : s.vm.findClass M.1 = some m.cls := by rw [hM.2.2.2.2.1]; exact findClass_of_methodNamed B.named
  have hlocks := B.notSynchronized
  have hin : meth.name = M.2.1.name := (name_of_methodNamed B.named B.method).1
  subst hsz
  have hD := hD0.self (sz := s.heap.size)
  have hl := lv_entry (As.map (zcv ad)) (n := M.2.2.2.1) hfit
  rw [lg_entry_eq]
  generalize (lg_sl (As.map (zcv ad)) ++ List.replicate (M.2.2.2.1 - (lg_sl (As.map (zcv ad))).length) Slot.unset).toArray = ls at hl ⊢
  rw [zcl_args] at hl
  have hx := B.exec
  have hb := B.bytes
  have hr := B.returns
  have key := hG p l e (zroom M d) s m (As.map (zcv ad)).toArray below meth c (va_A (zcw ad cy w) s.heap.size) D cy (MQ below (zQc M Q D cy ad w s.heap.size) (As.map (zcv ad)).toArray s M.2.2.2.2.2 (800 * M.2.2.2.2.2) (va_A (zcw ad cy w) s.heap.size)) ad
    ⟨hx, hb, hml, hown, fun w h => hts w (List.mem_cons_of_mem _ h), hN, hAO, hK, fun q h => Or.inr h, hRo, Nat.le_refl _, Nat.le_refl _, Nat.le_refl _, Nat.le_refl _, hin⟩
    (by
      intro r w1 ad1 H locs pc ls1 hQ hlen hI hret
      obtain ⟨iP, iD, iS, i1, i2, i3, i4⟩ := hI
      have fin : ∀ (v : Option Value), r.length ≤ 1 → (r.map (zcv ad1)).head? = v → ∀ t : State, t.heap = H → s.WarmedH t.vm → zQc M Q D cy ad w s.heap.size (As.map (zcv ad)).toArray s (.returned v) t := by
        intro v h1 h2 t ht hW
        subst h2
        refine ⟨⟨r, w1, ad1, hQ, hlen, rfl, h1, ?_, by rw [ht]; exact iP, iD⟩, iS.F ht⟩
        intro i hi
        exact i4 i (by rw [hlen]; exact hi)
      rcases hret with ⟨e1, e2, rfl⟩ | ⟨e1, e2, x, rfl⟩ | ⟨e1, e2, x, rfl, e3⟩ | ⟨e1, e2, x, rfl⟩ | ⟨e1, e2, x, rfl⟩ | ⟨e1, e2, x, rfl⟩
      · exact W.vret hx hb (hr.trans e1) (fin none (by decide) rfl) iS.2.2 e2 hlocks
      · exact W.iret hx hb (hr.trans e1) (fin (some (.int x)) (Nat.le_refl _) rfl) iS.2.2 e2 hlocks
      · exact W.zret hx hb (hr.trans e1) (by rcases e3 with rfl | rfl <;> rfl) (fin (some (.int x)) (Nat.le_refl _) rfl) iS.2.2 e2 hlocks
      · exact W.lret hx hb (hr.trans e1) (fin (some (.long x)) (Nat.le_refl _) rfl) iS.2.2 e2 hlocks
      · exact W.fret hx hb (hr.trans e1) (fin (some (.float x)) (Nat.le_refl _) rfl) iS.2.2 e2 hlocks
      · exact W.dret hx hb (hr.trans e1) (fin (some (.double x)) (Nat.le_refl _) rfl) iS.2.2 e2 hlocks)
    ad s.heap [] ls ⟨hP, hD, va_S.rf, Nat.le_refl _, by omega, hw, fun _ _ => rfl⟩ hl
  rw [Nat.sub_self] at key
  exact key
end
section
/-! ===== rows of the small machine: an instruction a row ===== -/
def zok (n k : Nat) (v : Value) : Prop := ∀ i, v = .ref i → i < n ∨ n + k ≤ i
theorem zok0 (n : Nat) (v : Value) : zok n 0 v := fun i _ => (Nat.lt_or_ge i n).elim Or.inl (fun h => Or.inr h)
theorem zcv_same {n k : Nat} {ad ad' : Nat → Nat} (h : ∀ i, (i < n ∨ n + k ≤ i) → ad' i = ad i) {v : Value} (hv : zok n k v) : zcv ad' v = zcv ad v := by
  cases v with
  | ref i => exact congrArg Value.ref (h i (hv i rfl))
  | _ => rfl
theorem zcvs_same {n k : Nat} {ad ad' : Nat → Nat} (h : ∀ i, (i < n ∨ n + k ≤ i) → ad' i = ad i) {st : List Value} (hv : ∀ v ∈ st, zok n k v) : st.map (zcv ad') = st.map (zcv ad) :=
  List.map_congr_left (fun v hm => zcv_same h (hv v hm))
theorem zcl_same {n k : Nat} {ad ad' : Nat → Nat} (h : ∀ i, (i < n ∨ n + k ≤ i) → ad' i = ad i) {lv : List (Nat × Value)} (hv : ∀ q ∈ lv, zok n k q.2) : zcl ad' lv = zcl ad lv :=
  List.map_congr_left (fun q hm => by rw [zcv_same h (hv q hm)])
theorem zhead {r : List Value} (f : Value → Value) (h : r.length ≤ 1) : (r.map f).head?.toList = r.map f := by
  match r, h with
  | [], _ => rfl
  | [_], _ => rfl
/-- behind a call -/
theorem z_after {Z : zS} {M M' : zM} {d : Nat} {Q : List Value → zW → Prop} {N pc : Nat} {lv : List (Nat × Value)} {rest : List Value} {w w' : zW} {r : List Value}
    (hlv : ∀ q ∈ lv, zok w.length M'.2.2.2.2.2 q.2) (hst : ∀ v ∈ rest, zok w.length M'.2.2.2.2.2 v) (hroom : w.length + M'.2.2.2.2.2 ≤ N + M.2.2.2.2.2)
    (kk : w'.length = w.length + M'.2.2.2.2.2 → zG Z M d Q N (pc + 3) lv (r ++ rest) w')
    {p : Program} {l : Launch} {e : Env} {R : Room} {s : State} {m : MethodId} {args : Array Value} {below : List Frame} {meth : Method} {c : Code} {A : Nat → Prop} {D : va_G} {cy : Nat → ClassId} {QQ : State → Prop} {ad0 ad : Nat → Nat} {H : Heap} {locs : List Loc} {ls : Array Slot} {st0 : List Value} {a : Array Value}
    (C : zC Z M d p R s m args meth c A D cy ad0)
    (E : ∀ (r : List Value) (w : zW) (ad : Nat → Nat) (H : Heap) (locs : List Loc) (pc : Nat) (ls : Array Slot), Q r w → w.length = N + M.2.2.2.2.2 → zI M N A D cy ad0 ad s w H locs → zRet M pc r → W p l e R s m args below meth c H locs M.2.2.2.2.2 (800 * M.2.2.2.2.2) QQ (F0 m pc ls (r.map (zcv ad))))
    (I : zI M N A D cy ad0 ad s w H locs) (hl : lv_has ls M.2.2.2.1 (zcl ad lv))
    (hr : va_Run p l e R s m args below meth c H locs (w.length - N) (800 * (w.length - N)) M'.2.2.2.2.2 (800 * M'.2.2.2.2.2) (F0 m pc ls st0) (rest.map (zcv ad)) (zQc M' (fun r1 w1 => r1 = r ∧ w1 = w') D cy ad w H.size a) (va_A (zcw ad cy w) H.size)) :
    W p l e R s m args below meth c H locs (w.length - N) (800 * (w.length - N)) QQ (F0 m pc ls st0) := by
  obtain ⟨iP, iD, iS, i1, i2, i3, i4⟩ := id I
  have hFc : ∀ q, va_A (zcw ad cy w) H.size q → A q := by
    intro q h
    rcases h with ⟨k, e, h⟩ | h
    · exact iD.2 k (q, e) h
    · exact C.2.2.2.2.2.2.2.2.1 q (Nat.le_trans iS.1 h)
  intro T hT X
  obtain ⟨v, st₀, t, T', L, h0, X', hL, e1, e2, ⟨⟨r1, w1, ad1, ⟨rfl, rfl⟩, hlen, hv, hr1, had, hP', hD'⟩, hz, hk⟩, st⟩ := hr T hT X
  have hv : v = (r1.map (zcv ad1)).head? := by injection hv
  subst hv
  rw [h0] at hz hk
  have hS' : va_S A s.heap T'.heap (locs ++ L) := ⟨Nat.le_trans iS.1 (by rw [e1]; exact hz), fun q h1 h2 => by rw [e1, hk q (Nat.lt_of_lt_of_le h1 iS.1) (fun z => h2 (hFc q z))]; exact iS.2.1 q h1 h2, fun q hq => by
      rcases List.mem_append.mp hq with h | h
      · exact iS.2.2 q h
      · exact hFc _ (hL q h)⟩
  have I' : zI M N A D cy ad0 ad1 s w1 T'.heap (locs ++ L) := by
    refine ⟨by rw [e1]; exact hP', hD'.weaken (fun k q _ h => hFc q.1 h), hS', by omega, by omega, i3, fun i hi => ?_⟩
    rw [had i (by omega)]
    exact i4 i (by omega)
  have K := kk hlen p l e R s m args below meth c A D cy QQ ad0 C E ad1 T'.heap (locs ++ L) ls I' (by rw [zcl_same had hlv]; exact hl)
  have hc : w1.length - N = w.length - N + M'.2.2.2.2.2 := by omega
  rw [hc, Nat.mul_add, List.map_append, zcvs_same had hst] at K
  obtain ⟨t2, a1, b1⟩ := K T' rfl X'
  refine ⟨t2, st t2 ?_, b1⟩
  rw [zhead _ hr1]
  exact a1
def zLS (own : String) (idx : Nat) (M : zM) (n : Nat) : Prop := zMok M ∧ (parseMethodDescriptor M.2.1.desc).map (fun d => d.parameters.length) = some n ∧ Cond.static M.2.1 ∈ zGW ∧ (Cond.methodLink own idx M.2.1 ∈ zGW ∨ ∃ host, Cond.methodLinkNest own idx M.2.1 host ∈ zNW)
def zLV (own : String) (idx : Nat) (M : zM) (n : Nat) : Prop := zMok M ∧ (parseMethodDescriptor M.2.1.desc).map (fun d => d.parameters.length) = some n ∧ Cond.instanceMethod M.2.1 ∈ zGW ∧ Cond.selects M.2.1.cls M.2.1 M.2.1 ∈ zGW ∧ (Cond.methodLink own idx M.2.1 ∈ zGW ∨ ∃ host, Cond.methodLinkNest own idx M.2.1 host ∈ zNW)
def zLI (own : String) (idx : Nat) (M : zM) (n : Nat) : Prop := zMok M ∧ M.2.2.2.2.1 = none ∧ (parseMethodDescriptor M.2.1.desc).map (fun d => d.parameters.length) = some n ∧ M.2.1.name = "<init>" ∧ Cond.instanceMethod M.2.1 ∈ zGW ∧ (Cond.methodLink own idx M.2.1 ∈ zGW ∨ ∃ host, Cond.methodLinkNest own idx M.2.1 host ∈ zNW)
section ZC
variable {Z : zS} {M : zM} {d : Nat} {Q : List Value → zW → Prop} {N : Nat} {pc : Nat} {lv : List (Nat × Value)} {st rest : List Value} {w w' : zW} {M' : zM} {As : List Value} {r : List Value} {idx n : Nat}
theorem zfitA (ad : Nat → Nat) (As : List Value) : (lg_sl (As.map (zcv ad))).length = (lg_sl As).length := by
  induction As with
  | nil => rfl
  | cons v vs ih =>
    have e : ∀ (u : Value) (us : List Value), (lg_sl (u :: us)).length = (if u.category = 2 then 2 else 1) + (lg_sl us).length := by
      intro u us
      by_cases h : u.category = 2
      · simp [lg_sl, h]; omega
      · simp [lg_sl, h]; omega
    rw [List.map_cons, e, e, ih, zcv_cat]
/-- the callee's start, out of the caller's -/
theorem z_pre {p : Program} {R : Room} {s : State} {m : MethodId} {args : Array Value} {meth : Method} {c : Code} {A : Nat → Prop} {D : va_G} {cy : Nat → ClassId} {ad0 ad : Nat → Nat} {H : Heap} {locs : List Loc}
    (C : zC Z M d p R s m args meth c A D cy ad0) (I : zI M N A D cy ad0 ad s w H locs) : FrameBlind (zPc Z As D cy ad w H.size) ∧ ∀ U : State, U.heap = H → s.WarmedH U.vm → zPc Z As D cy ad w H.size (As.map (zcv ad)).toArray U := by
  obtain ⟨iP, iD, iS, i1, i2, i3, i4⟩ := id I
  obtain ⟨hx, hb, hml, hown, hts, hN, hAO, hK, hA, hRo, -⟩ := id C
  have hFc : ∀ q, va_A (zcw ad cy w) H.size q → A q := by
    intro q h
    rcases h with ⟨k, e, h⟩ | h
    · exact iD.2 k (q, e) h
    · exact hA q (Nat.le_trans iS.1 h)
  refine ⟨fun a U g mk q => ?_, fun U hU hW => ?_⟩
  · obtain ⟨q0, q1, qP, qD, qK, qN, qAO, qRo⟩ := q
    exact ⟨q0, q1, qP, qD, va_K.moved (u := U) (U := U.calling g mk a) (Vm.Alike.refl U.vm) qK, zNW_same (s := U) (U := U.calling g mk a) rfl qN, va_AO.moved (u := U) (U := U.calling g mk a) (Vm.Alike.refl U.vm) qAO, zRo_moved (u := U) (U := U.calling g mk a) (Vm.Alike.refl U.vm) qRo⟩
  · refine ⟨rfl, by rw [hU], by rw [hU]; exact iP, iD.weaken (fun _ _ _ _ => trivial), va_K.moved hW.alike hK, zNW_warm hW hN, hAO.moved hW.alike, ?_⟩
    rw [hU]
    refine zRo_moved hW.alike (zRo_ad (fun i hi => i4 i (by omega)) (zRo_narrow hFc (zRo_kept (fun a h1 h2 => iS.2.1 a h1 h2) hRo)))
theorem z_cB {R : Room} {s : State} {args : Array Value} {own : String} (hM' : zMok M') (hn : (parseMethodDescriptor M'.2.1.desc).map (fun d => d.parameters.length) = some n) (hts : ∀ w ∈ zGW, w.before args s = true) (hfr : d + 1 ≤ R.frames) (hlo : 40 * (d + 1) ≤ R.locals) (hl : Cond.methodLink own idx M'.2.1 ∈ zGW) :
    CallB R s args own idx M'.2.1 M'.2.2.1 M'.2.2.2.1 M'.2.2.2.2.1 (Cond.code M'.2.1 M'.2.2.1 M'.2.2.2.1 M'.2.2.2.2.1 :: zGW) (zroom M' d) M'.2.2.2.2.2 (800 * M'.2.2.2.2.2) n := by
  refine callB_of n hts (fun w hw => ?_) rfl rfl rfl (hts _ hM'.2.1) (hts _ hl) ⟨hM'.2.2.2.1.1, hM'.2.2.2.1.2, hn⟩ ⟨hfr, ?_⟩
  · rcases List.mem_cons.mp hw with rfl | h
    · exact ⟨hM'.1, zGW_good _ hM'.1⟩
    · exact ⟨h, zGW_good _ h⟩
  · have := hM'.2.2.2.2.2
    show 8 + (M'.2.2.2.1 + 11) + 40 * d ≤ R.locals
    omega
theorem z_cN {R : Room} {s : State} {args : Array Value} {own host : String} (hM' : zMok M') (hn : (parseMethodDescriptor M'.2.1.desc).map (fun d => d.parameters.length) = some n) (hts : ∀ w ∈ zGW, w.before args s = true) (hNw : ∀ w ∈ zNW, va_Nw w s) (hfr : d + 1 ≤ R.frames) (hlo : 40 * (d + 1) ≤ R.locals) (hl : Cond.methodLinkNest own idx M'.2.1 host ∈ zNW) :
    va_CN R s args own idx M'.2.1 host M'.2.2.1 M'.2.2.2.1 M'.2.2.2.2.1 (Cond.code M'.2.1 M'.2.2.1 M'.2.2.2.1 M'.2.2.2.2.1 :: zGW) (zroom M' d) M'.2.2.2.2.2 (800 * M'.2.2.2.2.2) n := by
  refine va_cnB n hts (fun w hw => ?_) rfl rfl rfl (hNw _ hl) (hts _ hM'.2.1) ⟨hM'.2.2.2.1.1, hM'.2.2.2.1.2, hn⟩ ⟨hfr, ?_⟩
  · rcases List.mem_cons.mp hw with rfl | h
    · exact ⟨hM'.1, zGW_good _ hM'.1⟩
    · exact ⟨h, zGW_good _ h⟩
  · have := hM'.2.2.2.2.2
    show 8 + (M'.2.2.2.1 + 11) + 40 * d ≤ R.locals
    omega
set_option maxHeartbeats 4000000 in
/-- a static call -/
theorem s_cs (hd : decode M.2.2.1 pc = .ok (.invokestatic idx, 3)) (L : zLS M.1 idx M' n) (hG : zF Z M' d As w r w') (hstk : st = As.reverse ++ rest) (hn : As.length = n) (hcat : (rest.map fun v => v.category).sum ≤ 8) (hfit : (lg_sl As).length ≤ M'.2.2.2.1) (hmc : M'.2.2.2.2.2 = 0)
    (kk : zG Z M (d + 1) Q N (pc + 3) lv (r ++ rest) w') : zG Z M (d + 1) Q N pc lv st w := by
  intro p l e R s m args below meth c A D cy QQ ad0 C E ad H locs ls I hl
  obtain ⟨iP, iD, iS, i1, i2, i3, i4⟩ := id I
  obtain ⟨hx, hb, hml, hown, hts, hN, hAO, hK, hA, hRo, hfr, hlo, hce, hsl, hnm⟩ := id C
  obtain ⟨hM', hpn, hstat, hlk⟩ := L
  have hMet := z_met hM' hG l D cy ad H.size (by rw [zfitA]; exact hfit) (by omega)
  have hroom : w.length + M'.2.2.2.2.2 ≤ N + M.2.2.2.2.2 := by omega
  refine z_after (M' := M') (rest := rest) (r := r) (w' := w') (a := (As.map (zcv ad)).toArray) (fun q _ => by rw [hmc]; exact zok0 _ _) (fun q _ => by rw [hmc]; exact zok0 _ _) hroom (fun _ => kk) C E I hl ?_
  have hs0 : st.map (zcv ad) = (As.map (zcv ad)).reverse ++ rest.map (zcv ad) := by rw [hstk, List.map_append, List.map_reverse]
  have hW : 2 * (F0 m pc ls (st.map (zcv ad))).monitorRoom + ((rest.map (zcv ad)).map fun v => v.category).sum ≤ 8 := lv_room (by rw [zcv_cats]; exact hcat)
  have hf : w.length - N + M'.2.2.2.2.2 ≤ R.cells ∧ 800 * (w.length - N) + 800 * M'.2.2.2.2.2 ≤ R.slots := by omega
  rcases hlk with hlk | ⟨host, hlk⟩
  · exact va_runS ⟨hx, hb, hml, hown, hts⟩ hMet ⟨z_cB hM' hpn hts hfr hlo hlk, hts _ hstat⟩ (z_pre C I) rfl (by rw [List.length_map]; exact hn) hl.1 hs0 hW hd hf
  · exact va_runSN ⟨hx, hb, hml, hown, hts⟩ hMet ⟨z_cN hM' hpn hts hN hfr hlo hlk, hts _ hstat, trivial⟩ (z_pre C I) rfl (by rw [List.length_map]; exact hn) hl.1 hs0 hW hd hf
set_option maxHeartbeats 4000000 in
/-- a call on an object of the world -/
theorem s_cv {b ci : Nat} {fs : List Value} {q : vw_C} (hd : decode M.2.2.1 pc = .ok (.invokevirtual idx, 3)) (L : zLV M.1 idx M' n) (hG : zF Z M' d (.ref b :: As) w r w') (hob : w[b]? = some (.inr (ci, fs))) (hci : vwCl[ci]? = some q) (hq : q.1 = M'.2.1.cls) (hstk : st = As.reverse ++ .ref b :: rest) (hn : As.length = n) (hcat : (rest.map fun v => v.category).sum ≤ 8) (hfit : (lg_sl (.ref b :: As)).length ≤ M'.2.2.2.1) (hmc : M'.2.2.2.2.2 = 0)
    (kk : zG Z M (d + 1) Q N (pc + 3) lv (r ++ rest) w') : zG Z M (d + 1) Q N pc lv st w := by
  intro p l e R s m args below meth c A D cy QQ ad0 C E ad H locs ls I hl
  obtain ⟨iP, iD, iS, i1, i2, i3, i4⟩ := id I
  obtain ⟨hx, hb, hml, hown, hts, hN, hAO, hK, hA, hRo, hfr, hlo, hce, hsl, hnm⟩ := id C
  obtain ⟨hM', hpn, hinst, hsel, hlk⟩ := L
  have hMet := z_met hM' hG l D cy ad H.size (by rw [zfitA]; exact hfit) (by omega)
  have hroom : w.length + M'.2.2.2.2.2 ≤ N + M.2.2.2.2.2 := by omega
  refine z_after (M' := M') (rest := rest) (r := r) (w' := w') (a := ((.ref b :: As).map (zcv ad)).toArray) (fun q _ => by rw [hmc]; exact zok0 _ _) (fun q _ => by rw [hmc]; exact zok0 _ _) hroom (fun _ => kk) C E I hl ?_
  have hs0 : st.map (zcv ad) = (As.map (zcv ad)).reverse ++ .ref (ad b) :: rest.map (zcv ad) := by rw [hstk, List.map_append, List.map_reverse]; rfl
  have hW : 2 * (F0 m pc ls (st.map (zcv ad))).monitorRoom + ((rest.map (zcv ad)).map fun v => v.category).sum ≤ 8 := lv_room (by rw [zcv_cats]; exact hcat)
  have hf : w.length - N + M'.2.2.2.2.2 ≤ R.cells ∧ 800 * (w.length - N) + 800 * M'.2.2.2.2.2 ≤ R.slots := by omega
  have hrec : ∃ cellB : Cell, H[ad b]? = some cellB ∧ cellB.vm.isStatics = false ∧ s.vm.findClass M'.2.1.cls = some cellB.cls := by
    rw [← hq]
    exact va_recv hK iP hci (zcw_at (ad := ad) (cy := cy) hob)
  have hp0 := z_pre (As := .ref b :: As) C I
  have hpV : PreV s H M'.2.1.cls (ad b) (zPc Z (.ref b :: As) D cy ad w H.size) (As.map (zcv ad)) := ⟨hp0.1, hrec, hp0.2⟩
  rcases hlk with hlk | ⟨host, hlk⟩
  · exact va_runV ⟨hx, hb, hml, hown, hts⟩ hMet ⟨z_cB hM' hpn hts hfr hlo hlk, hts _ hinst, hts _ hsel⟩ hpV rfl (by rw [List.length_map]; exact hn) hl.1 hs0 hW hd hf
  · exact va_runVN ⟨hx, hb, hml, hown, hts⟩ hMet ⟨z_cN hM' hpn hts hN hfr hlo hlk, hts _ hinst, hts _ hsel⟩ hpV rfl (by rw [List.length_map]; exact hn) hl.1 hs0 hW hd hf
set_option maxHeartbeats 4000000 in
/-- a constructor's call -/
theorem s_ci {b : Nat} (hd : decode M.2.2.1 pc = .ok (.invokespecial idx, 3)) (L : zLI M.1 idx M' n) (hG : zF Z M' d (.ref b :: As) w [] w') (hstk : st = As.reverse ++ .ref b :: rest) (hn : As.length = n) (hcat : (rest.map fun v => v.category).sum ≤ 8) (hfit : (lg_sl (.ref b :: As)).length ≤ M'.2.2.2.1) (hroom : w.length + M'.2.2.2.2.2 ≤ N + M.2.2.2.2.2) (hlv : ∀ q ∈ lv, zok w.length M'.2.2.2.2.2 q.2) (hst : ∀ v ∈ rest, zok w.length M'.2.2.2.2.2 v)
    (kk : w'.length = w.length + M'.2.2.2.2.2 → zG Z M (d + 1) Q N (pc + 3) lv rest w') : zG Z M (d + 1) Q N pc lv st w := by
  intro p l e R s m args below meth c A D cy QQ ad0 C E ad H locs ls I hl
  obtain ⟨iP, iD, iS, i1, i2, i3, i4⟩ := id I
  obtain ⟨hx, hb, hml, hown, hts, hN, hAO, hK, hA, hRo, hfr, hlo, hce, hsl, hnm⟩ := id C
  obtain ⟨hM', hno, hpn, hnam, hinst, hlk⟩ := L
  have hMet := z_met hM' hG l D cy ad H.size (by rw [zfitA]; exact hfit) (by omega)
  refine z_after (M' := M') (rest := rest) (r := []) (w' := w') (a := ((.ref b :: As).map (zcv ad)).toArray) hlv hst hroom kk C E I hl ?_
  have hs0 : st.map (zcv ad) = (As.map (zcv ad)).reverse ++ .ref (ad b) :: rest.map (zcv ad) := by rw [hstk, List.map_append, List.map_reverse]; rfl
  have hW : 2 * (F0 m pc ls (st.map (zcv ad))).monitorRoom + ((rest.map (zcv ad)).map fun v => v.category).sum ≤ 8 := lv_room (by rw [zcv_cats]; exact hcat)
  have hf : w.length - N + M'.2.2.2.2.2 ≤ R.cells ∧ 800 * (w.length - N) + 800 * M'.2.2.2.2.2 ≤ R.slots := by omega
  have hp0 := z_pre (As := .ref b :: As) C I
  rcases hlk with hlk | ⟨host, hlk⟩
  · have hcb := z_cB (d := d) (R := R) hM' hpn hts hfr hlo hlk
    rw [hno] at hcb hMet
    exact va_runI ⟨hx, hb, hml, hown, hts⟩ hMet ⟨hcb, hnam, hts _ hinst⟩ hp0 rfl (by rw [List.length_map]; exact hn) hl.1 hs0 hW hd hf
  · have hcb := z_cN (d := d) (R := R) hM' hpn hts hN hfr hlo hlk
    rw [hno] at hcb hMet
    exact va_runIN ⟨hx, hb, hml, hown, hts⟩ hMet ⟨hcb, hnam, hts _ hinst⟩ hp0 rfl (by rw [List.length_map]; exact hn) hl.1 hs0 hW hd hf
end ZC
end
section
/-! ===== rows of the small machine: plain instructions ===== -/
section ZA
variable {Z : zS} {M : zM} {d : Nat} {Q : List Value → zW → Prop} {N : Nat} {pc : Nat} {lv : List (Nat × Value)} {st : List Value} {w : zW}
theorem s_iconst {n : Int} {v : Int32} (hdg : decode M.2.2.1 pc = .ok (.iconst n, 1)) (hv : Int32.ofInt n = v)     (k : zG Z M d Q N (pc + 1) lv (.int v :: st) w) : zG Z M d Q N pc lv (st) w := by
  intro p l e R s m args below meth c A D cy QQ ad0 C E ad H locs ls I hl
  exact lv_iconst C.1 C.2.1 hdg hv (k p l e R s m args below meth c A D cy QQ ad0 C E ad H locs ls I hl)
theorem s_bipush {n : Int} {v : Int32} (hdg : decode M.2.2.1 pc = .ok (.bipush n, 2)) (hv : (Int8.ofInt n).toInt32 = v)     (k : zG Z M d Q N (pc + 2) lv (.int v :: st) w) : zG Z M d Q N pc lv (st) w := by
  intro p l e R s m args below meth c A D cy QQ ad0 C E ad H locs ls I hl
  exact lv_bipush C.1 C.2.1 hdg hv (k p l e R s m args below meth c A D cy QQ ad0 C E ad H locs ls I hl)
theorem s_sipush {n : Int} {v : Int32} (hdg : decode M.2.2.1 pc = .ok (.sipush n, 3)) (hv : (Int16.ofInt n).toInt32 = v)     (k : zG Z M d Q N (pc + 3) lv (.int v :: st) w) : zG Z M d Q N pc lv (st) w := by
  intro p l e R s m args below meth c A D cy QQ ad0 C E ad H locs ls I hl
  exact lv_sipush C.1 C.2.1 hdg hv (k p l e R s m args below meth c A D cy QQ ad0 C E ad H locs ls I hl)
theorem s_lconst {n : Fin 2} {v : Int64} (hdg : decode M.2.2.1 pc = .ok (.lconst n, 1)) (hv : Int64.ofNat (n : Nat) = v)     (k : zG Z M d Q N (pc + 1) lv (.long v :: st) w) : zG Z M d Q N pc lv (st) w := by
  intro p l e R s m args below meth c A D cy QQ ad0 C E ad H locs ls I hl
  exact lv_lconst C.1 C.2.1 hdg hv (k p l e R s m args below meth c A D cy QQ ad0 C E ad H locs ls I hl)
theorem s_iadd {x y : Int32} (hdg : decode M.2.2.1 pc = .ok (.iadd, 1))      (k : zG Z M d Q N (pc + 1) lv (.int (x + y) :: st) w) : zG Z M d Q N pc lv (.int y :: .int x :: st) w := by
  intro p l e R s m args below meth c A D cy QQ ad0 C E ad H locs ls I hl
  exact lv_iadd C.1 C.2.1 hdg (k p l e R s m args below meth c A D cy QQ ad0 C E ad H locs ls I hl)
theorem s_isub {x y : Int32} (hdg : decode M.2.2.1 pc = .ok (.isub, 1))      (k : zG Z M d Q N (pc + 1) lv (.int (x - y) :: st) w) : zG Z M d Q N pc lv (.int y :: .int x :: st) w := by
  intro p l e R s m args below meth c A D cy QQ ad0 C E ad H locs ls I hl
  exact lv_isub C.1 C.2.1 hdg (k p l e R s m args below meth c A D cy QQ ad0 C E ad H locs ls I hl)
theorem s_imul {x y : Int32} (hdg : decode M.2.2.1 pc = .ok (.imul, 1))      (k : zG Z M d Q N (pc + 1) lv (.int (x * y) :: st) w) : zG Z M d Q N pc lv (.int y :: .int x :: st) w := by
  intro p l e R s m args below meth c A D cy QQ ad0 C E ad H locs ls I hl
  exact lv_imul C.1 C.2.1 hdg (k p l e R s m args below meth c A D cy QQ ad0 C E ad H locs ls I hl)
theorem s_iand {x y : Int32} (hdg : decode M.2.2.1 pc = .ok (.iand, 1))      (k : zG Z M d Q N (pc + 1) lv (.int (x &&& y) :: st) w) : zG Z M d Q N pc lv (.int y :: .int x :: st) w := by
  intro p l e R s m args below meth c A D cy QQ ad0 C E ad H locs ls I hl
  exact lv_iand C.1 C.2.1 hdg (k p l e R s m args below meth c A D cy QQ ad0 C E ad H locs ls I hl)
theorem s_ior {x y : Int32} (hdg : decode M.2.2.1 pc = .ok (.ior, 1))      (k : zG Z M d Q N (pc + 1) lv (.int (x ||| y) :: st) w) : zG Z M d Q N pc lv (.int y :: .int x :: st) w := by
  intro p l e R s m args below meth c A D cy QQ ad0 C E ad H locs ls I hl
  exact lv_ior C.1 C.2.1 hdg (k p l e R s m args below meth c A D cy QQ ad0 C E ad H locs ls I hl)
theorem s_ixor {x y : Int32} (hdg : decode M.2.2.1 pc = .ok (.ixor, 1))      (k : zG Z M d Q N (pc + 1) lv (.int (x ^^^ y) :: st) w) : zG Z M d Q N pc lv (.int y :: .int x :: st) w := by
  intro p l e R s m args below meth c A D cy QQ ad0 C E ad H locs ls I hl
  exact lv_ixor C.1 C.2.1 hdg (k p l e R s m args below meth c A D cy QQ ad0 C E ad H locs ls I hl)
theorem s_idiv {x y : Int32} (hdg : decode M.2.2.1 pc = .ok (.idiv, 1)) (hne : ¬ y = 0)     (k : zG Z M d Q N (pc + 1) lv (.int (x / y) :: st) w) : zG Z M d Q N pc lv (.int y :: .int x :: st) w := by
  intro p l e R s m args below meth c A D cy QQ ad0 C E ad H locs ls I hl
  exact lv_idiv C.1 C.2.1 hdg hne (k p l e R s m args below meth c A D cy QQ ad0 C E ad H locs ls I hl)
theorem s_irem {x y : Int32} (hdg : decode M.2.2.1 pc = .ok (.irem, 1)) (hne : ¬ y = 0)     (k : zG Z M d Q N (pc + 1) lv (.int (x - x / y * y) :: st) w) : zG Z M d Q N pc lv (.int y :: .int x :: st) w := by
  intro p l e R s m args below meth c A D cy QQ ad0 C E ad H locs ls I hl
  exact lv_irem C.1 C.2.1 hdg hne (k p l e R s m args below meth c A D cy QQ ad0 C E ad H locs ls I hl)
theorem s_ineg {x : Int32} (hdg : decode M.2.2.1 pc = .ok (.ineg, 1))      (k : zG Z M d Q N (pc + 1) lv (.int (-x) :: st) w) : zG Z M d Q N pc lv (.int x :: st) w := by
  intro p l e R s m args below meth c A D cy QQ ad0 C E ad H locs ls I hl
  exact lv_ineg C.1 C.2.1 hdg (k p l e R s m args below meth c A D cy QQ ad0 C E ad H locs ls I hl)
theorem s_ladd {x y : Int64} (hdg : decode M.2.2.1 pc = .ok (.ladd, 1))      (k : zG Z M d Q N (pc + 1) lv (.long (x + y) :: st) w) : zG Z M d Q N pc lv (.long y :: .long x :: st) w := by
  intro p l e R s m args below meth c A D cy QQ ad0 C E ad H locs ls I hl
  exact lv_ladd C.1 C.2.1 hdg (k p l e R s m args below meth c A D cy QQ ad0 C E ad H locs ls I hl)
theorem s_land {x y : Int64} (hdg : decode M.2.2.1 pc = .ok (.land, 1))      (k : zG Z M d Q N (pc + 1) lv (.long (x &&& y) :: st) w) : zG Z M d Q N pc lv (.long y :: .long x :: st) w := by
  intro p l e R s m args below meth c A D cy QQ ad0 C E ad H locs ls I hl
  exact lv_land C.1 C.2.1 hdg (k p l e R s m args below meth c A D cy QQ ad0 C E ad H locs ls I hl)
theorem s_lor {x y : Int64} (hdg : decode M.2.2.1 pc = .ok (.lor, 1))      (k : zG Z M d Q N (pc + 1) lv (.long (x ||| y) :: st) w) : zG Z M d Q N pc lv (.long y :: .long x :: st) w := by
  intro p l e R s m args below meth c A D cy QQ ad0 C E ad H locs ls I hl
  exact lv_lor C.1 C.2.1 hdg (k p l e R s m args below meth c A D cy QQ ad0 C E ad H locs ls I hl)
theorem s_ishl {x y : Int32} (hdg : decode M.2.2.1 pc = .ok (.ishl, 1))      (k : zG Z M d Q N (pc + 1) lv (.int (x <<< (y &&& 31)) :: st) w) : zG Z M d Q N pc lv (.int y :: .int x :: st) w := by
  intro p l e R s m args below meth c A D cy QQ ad0 C E ad H locs ls I hl
  exact lv_ishl C.1 C.2.1 hdg (k p l e R s m args below meth c A D cy QQ ad0 C E ad H locs ls I hl)
theorem s_ishr {x y : Int32} (hdg : decode M.2.2.1 pc = .ok (.ishr, 1))      (k : zG Z M d Q N (pc + 1) lv (.int (x >>> (y &&& 31)) :: st) w) : zG Z M d Q N pc lv (.int y :: .int x :: st) w := by
  intro p l e R s m args below meth c A D cy QQ ad0 C E ad H locs ls I hl
  exact lv_ishr C.1 C.2.1 hdg (k p l e R s m args below meth c A D cy QQ ad0 C E ad H locs ls I hl)
theorem s_i2l {x : Int32} {v : Int64} (hdg : decode M.2.2.1 pc = .ok (.i2l, 1)) (hv : x.toInt64 = v)     (k : zG Z M d Q N (pc + 1) lv (.long v :: st) w) : zG Z M d Q N pc lv (.int x :: st) w := by
  intro p l e R s m args below meth c A D cy QQ ad0 C E ad H locs ls I hl
  exact lv_i2l C.1 C.2.1 hdg hv (k p l e R s m args below meth c A D cy QQ ad0 C E ad H locs ls I hl)
theorem s_l2i {x : Int64} {v : Int32} (hdg : decode M.2.2.1 pc = .ok (.l2i, 1)) (hv : x.toInt32 = v)     (k : zG Z M d Q N (pc + 1) lv (.int v :: st) w) : zG Z M d Q N pc lv (.long x :: st) w := by
  intro p l e R s m args below meth c A D cy QQ ad0 C E ad H locs ls I hl
  exact lv_l2i C.1 C.2.1 hdg hv (k p l e R s m args below meth c A D cy QQ ad0 C E ad H locs ls I hl)
theorem s_i2b {x : Int32} {v : Int32} (hdg : decode M.2.2.1 pc = .ok (.i2b, 1)) (hv : x.toInt8.toInt32 = v)     (k : zG Z M d Q N (pc + 1) lv (.int v :: st) w) : zG Z M d Q N pc lv (.int x :: st) w := by
  intro p l e R s m args below meth c A D cy QQ ad0 C E ad H locs ls I hl
  exact lv_i2b C.1 C.2.1 hdg hv (k p l e R s m args below meth c A D cy QQ ad0 C E ad H locs ls I hl)
theorem s_i2s {x : Int32} {v : Int32} (hdg : decode M.2.2.1 pc = .ok (.i2s, 1)) (hv : x.toInt16.toInt32 = v)     (k : zG Z M d Q N (pc + 1) lv (.int v :: st) w) : zG Z M d Q N pc lv (.int x :: st) w := by
  intro p l e R s m args below meth c A D cy QQ ad0 C E ad H locs ls I hl
  exact lv_i2s C.1 C.2.1 hdg hv (k p l e R s m args below meth c A D cy QQ ad0 C E ad H locs ls I hl)
theorem s_iushr {x y v : Int32} (hdg : decode M.2.2.1 pc = .ok (.iushr, 1)) (hv : (x.toUInt32 >>> (y.toUInt32 &&& Int32.toUInt32 31)).toInt32 = v)     (k : zG Z M d Q N (pc + 1) lv (.int v :: st) w) : zG Z M d Q N pc lv (.int y :: .int x :: st) w := by
  intro p l e R s m args below meth c A D cy QQ ad0 C E ad H locs ls I hl
  exact lv_iushr C.1 C.2.1 hdg hv (k p l e R s m args below meth c A D cy QQ ad0 C E ad H locs ls I hl)
theorem s_lshl {x v : Int64} {y : Int32} (hdg : decode M.2.2.1 pc = .ok (.lshl, 1)) (hv : x <<< (y.toInt64 &&& 63) = v)     (k : zG Z M d Q N (pc + 1) lv (.long v :: st) w) : zG Z M d Q N pc lv (.int y :: .long x :: st) w := by
  intro p l e R s m args below meth c A D cy QQ ad0 C E ad H locs ls I hl
  exact lv_lshl C.1 C.2.1 hdg hv (k p l e R s m args below meth c A D cy QQ ad0 C E ad H locs ls I hl)
theorem s_if_eq {x : Int32} {off : Int} {tgt : Nat} (hdg : decode M.2.2.1 pc = .ok (.ifCond .eq off, 3)) (ht : (pc : Int) + off = (tgt : Int))     (kt : x = 0 → zG Z M d Q N tgt lv (st) w) (kf : ¬ x = 0 → zG Z M d Q N (pc + 3) lv (st) w) : zG Z M d Q N pc lv (.int x :: st) w := by
  intro p l e R s m args below meth c A D cy QQ ad0 C E ad H locs ls I hl
  exact lv_if_eq C.1 C.2.1 hdg ht (fun z => kt z p l e R s m args below meth c A D cy QQ ad0 C E ad H locs ls I hl) (fun z => kf z p l e R s m args below meth c A D cy QQ ad0 C E ad H locs ls I hl)
theorem s_icmp_eq {x y : Int32} {off : Int} {tgt : Nat} (hdg : decode M.2.2.1 pc = .ok (.if_icmp .eq off, 3)) (ht : (pc : Int) + off = (tgt : Int))     (kt : x = y → zG Z M d Q N tgt lv (st) w) (kf : ¬ x = y → zG Z M d Q N (pc + 3) lv (st) w) : zG Z M d Q N pc lv (.int y :: .int x :: st) w := by
  intro p l e R s m args below meth c A D cy QQ ad0 C E ad H locs ls I hl
  exact lv_icmp_eq C.1 C.2.1 hdg ht (fun z => kt z p l e R s m args below meth c A D cy QQ ad0 C E ad H locs ls I hl) (fun z => kf z p l e R s m args below meth c A D cy QQ ad0 C E ad H locs ls I hl)
theorem s_if_ne {x : Int32} {off : Int} {tgt : Nat} (hdg : decode M.2.2.1 pc = .ok (.ifCond .ne off, 3)) (ht : (pc : Int) + off = (tgt : Int))     (kt : ¬ x = 0 → zG Z M d Q N tgt lv (st) w) (kf : x = 0 → zG Z M d Q N (pc + 3) lv (st) w) : zG Z M d Q N pc lv (.int x :: st) w := by
  intro p l e R s m args below meth c A D cy QQ ad0 C E ad H locs ls I hl
  exact lv_if_ne C.1 C.2.1 hdg ht (fun z => kt z p l e R s m args below meth c A D cy QQ ad0 C E ad H locs ls I hl) (fun z => kf z p l e R s m args below meth c A D cy QQ ad0 C E ad H locs ls I hl)
theorem s_icmp_ne {x y : Int32} {off : Int} {tgt : Nat} (hdg : decode M.2.2.1 pc = .ok (.if_icmp .ne off, 3)) (ht : (pc : Int) + off = (tgt : Int))     (kt : ¬ x = y → zG Z M d Q N tgt lv (st) w) (kf : x = y → zG Z M d Q N (pc + 3) lv (st) w) : zG Z M d Q N pc lv (.int y :: .int x :: st) w := by
  intro p l e R s m args below meth c A D cy QQ ad0 C E ad H locs ls I hl
  exact lv_icmp_ne C.1 C.2.1 hdg ht (fun z => kt z p l e R s m args below meth c A D cy QQ ad0 C E ad H locs ls I hl) (fun z => kf z p l e R s m args below meth c A D cy QQ ad0 C E ad H locs ls I hl)
theorem s_if_lt {x : Int32} {off : Int} {tgt : Nat} (hdg : decode M.2.2.1 pc = .ok (.ifCond .lt off, 3)) (ht : (pc : Int) + off = (tgt : Int))     (kt : x < 0 → zG Z M d Q N tgt lv (st) w) (kf : ¬ x < 0 → zG Z M d Q N (pc + 3) lv (st) w) : zG Z M d Q N pc lv (.int x :: st) w := by
  intro p l e R s m args below meth c A D cy QQ ad0 C E ad H locs ls I hl
  exact lv_if_lt C.1 C.2.1 hdg ht (fun z => kt z p l e R s m args below meth c A D cy QQ ad0 C E ad H locs ls I hl) (fun z => kf z p l e R s m args below meth c A D cy QQ ad0 C E ad H locs ls I hl)
theorem s_icmp_lt {x y : Int32} {off : Int} {tgt : Nat} (hdg : decode M.2.2.1 pc = .ok (.if_icmp .lt off, 3)) (ht : (pc : Int) + off = (tgt : Int))     (kt : x < y → zG Z M d Q N tgt lv (st) w) (kf : ¬ x < y → zG Z M d Q N (pc + 3) lv (st) w) : zG Z M d Q N pc lv (.int y :: .int x :: st) w := by
  intro p l e R s m args below meth c A D cy QQ ad0 C E ad H locs ls I hl
  exact lv_icmp_lt C.1 C.2.1 hdg ht (fun z => kt z p l e R s m args below meth c A D cy QQ ad0 C E ad H locs ls I hl) (fun z => kf z p l e R s m args below meth c A D cy QQ ad0 C E ad H locs ls I hl)
theorem s_if_ge {x : Int32} {off : Int} {tgt : Nat} (hdg : decode M.2.2.1 pc = .ok (.ifCond .ge off, 3)) (ht : (pc : Int) + off = (tgt : Int))     (kt : 0 ≤ x → zG Z M d Q N tgt lv (st) w) (kf : ¬ 0 ≤ x → zG Z M d Q N (pc + 3) lv (st) w) : zG Z M d Q N pc lv (.int x :: st) w := by
  intro p l e R s m args below meth c A D cy QQ ad0 C E ad H locs ls I hl
  exact lv_if_ge C.1 C.2.1 hdg ht (fun z => kt z p l e R s m args below meth c A D cy QQ ad0 C E ad H locs ls I hl) (fun z => kf z p l e R s m args below meth c A D cy QQ ad0 C E ad H locs ls I hl)
theorem s_icmp_ge {x y : Int32} {off : Int} {tgt : Nat} (hdg : decode M.2.2.1 pc = .ok (.if_icmp .ge off, 3)) (ht : (pc : Int) + off = (tgt : Int))     (kt : y ≤ x → zG Z M d Q N tgt lv (st) w) (kf : ¬ y ≤ x → zG Z M d Q N (pc + 3) lv (st) w) : zG Z M d Q N pc lv (.int y :: .int x :: st) w := by
  intro p l e R s m args below meth c A D cy QQ ad0 C E ad H locs ls I hl
  exact lv_icmp_ge C.1 C.2.1 hdg ht (fun z => kt z p l e R s m args below meth c A D cy QQ ad0 C E ad H locs ls I hl) (fun z => kf z p l e R s m args below meth c A D cy QQ ad0 C E ad H locs ls I hl)
theorem s_if_gt {x : Int32} {off : Int} {tgt : Nat} (hdg : decode M.2.2.1 pc = .ok (.ifCond .gt off, 3)) (ht : (pc : Int) + off = (tgt : Int))     (kt : 0 < x → zG Z M d Q N tgt lv (st) w) (kf : ¬ 0 < x → zG Z M d Q N (pc + 3) lv (st) w) : zG Z M d Q N pc lv (.int x :: st) w := by
  intro p l e R s m args below meth c A D cy QQ ad0 C E ad H locs ls I hl
  exact lv_if_gt C.1 C.2.1 hdg ht (fun z => kt z p l e R s m args below meth c A D cy QQ ad0 C E ad H locs ls I hl) (fun z => kf z p l e R s m args below meth c A D cy QQ ad0 C E ad H locs ls I hl)
theorem s_icmp_gt {x y : Int32} {off : Int} {tgt : Nat} (hdg : decode M.2.2.1 pc = .ok (.if_icmp .gt off, 3)) (ht : (pc : Int) + off = (tgt : Int))     (kt : y < x → zG Z M d Q N tgt lv (st) w) (kf : ¬ y < x → zG Z M d Q N (pc + 3) lv (st) w) : zG Z M d Q N pc lv (.int y :: .int x :: st) w := by
  intro p l e R s m args below meth c A D cy QQ ad0 C E ad H locs ls I hl
  exact lv_icmp_gt C.1 C.2.1 hdg ht (fun z => kt z p l e R s m args below meth c A D cy QQ ad0 C E ad H locs ls I hl) (fun z => kf z p l e R s m args below meth c A D cy QQ ad0 C E ad H locs ls I hl)
theorem s_if_le {x : Int32} {off : Int} {tgt : Nat} (hdg : decode M.2.2.1 pc = .ok (.ifCond .le off, 3)) (ht : (pc : Int) + off = (tgt : Int))     (kt : x ≤ 0 → zG Z M d Q N tgt lv (st) w) (kf : ¬ x ≤ 0 → zG Z M d Q N (pc + 3) lv (st) w) : zG Z M d Q N pc lv (.int x :: st) w := by
  intro p l e R s m args below meth c A D cy QQ ad0 C E ad H locs ls I hl
  exact lv_if_le C.1 C.2.1 hdg ht (fun z => kt z p l e R s m args below meth c A D cy QQ ad0 C E ad H locs ls I hl) (fun z => kf z p l e R s m args below meth c A D cy QQ ad0 C E ad H locs ls I hl)
theorem s_icmp_le {x y : Int32} {off : Int} {tgt : Nat} (hdg : decode M.2.2.1 pc = .ok (.if_icmp .le off, 3)) (ht : (pc : Int) + off = (tgt : Int))     (kt : x ≤ y → zG Z M d Q N tgt lv (st) w) (kf : ¬ x ≤ y → zG Z M d Q N (pc + 3) lv (st) w) : zG Z M d Q N pc lv (.int y :: .int x :: st) w := by
  intro p l e R s m args below meth c A D cy QQ ad0 C E ad H locs ls I hl
  exact lv_icmp_le C.1 C.2.1 hdg ht (fun z => kt z p l e R s m args below meth c A D cy QQ ad0 C E ad H locs ls I hl) (fun z => kf z p l e R s m args below meth c A D cy QQ ad0 C E ad H locs ls I hl)
theorem s_goto {off : Int} {tgt : Nat} (hdg : decode M.2.2.1 pc = .ok (.goto off, 3)) (ht : (pc : Int) + off = (tgt : Int)) (k : zG Z M d Q N tgt lv (st) w) : zG Z M d Q N pc lv (st) w := by
  intro p l e R s m args below meth c A D cy QQ ad0 C E ad H locs ls I hl
  exact lv_goto C.1 C.2.1 hdg ht (k p l e R s m args below meth c A D cy QQ ad0 C E ad H locs ls I hl)
theorem s_fconst0  (hdg : decode M.2.2.1 pc = .ok (.fconst 0, 1))      (k : zG Z M d Q N (pc + 1) lv (.float FP.fconst0 :: st) w) : zG Z M d Q N pc lv (st) w := by
  intro p l e R s m args below meth c A D cy QQ ad0 C E ad H locs ls I hl
  exact lv_fconst0 C.1 C.2.1 hdg (k p l e R s m args below meth c A D cy QQ ad0 C E ad H locs ls I hl)
theorem s_fconst1  (hdg : decode M.2.2.1 pc = .ok (.fconst 1, 1))      (k : zG Z M d Q N (pc + 1) lv (.float FP.fconst1 :: st) w) : zG Z M d Q N pc lv (st) w := by
  intro p l e R s m args below meth c A D cy QQ ad0 C E ad H locs ls I hl
  exact lv_fconst1 C.1 C.2.1 hdg (k p l e R s m args below meth c A D cy QQ ad0 C E ad H locs ls I hl)
theorem s_fconst2  (hdg : decode M.2.2.1 pc = .ok (.fconst 2, 1))      (k : zG Z M d Q N (pc + 1) lv (.float FP.fconst2 :: st) w) : zG Z M d Q N pc lv (st) w := by
  intro p l e R s m args below meth c A D cy QQ ad0 C E ad H locs ls I hl
  exact lv_fconst2 C.1 C.2.1 hdg (k p l e R s m args below meth c A D cy QQ ad0 C E ad H locs ls I hl)
theorem s_dconst0  (hdg : decode M.2.2.1 pc = .ok (.dconst 0, 1))      (k : zG Z M d Q N (pc + 1) lv (.double FP.dconst0 :: st) w) : zG Z M d Q N pc lv (st) w := by
  intro p l e R s m args below meth c A D cy QQ ad0 C E ad H locs ls I hl
  exact lv_dconst0 C.1 C.2.1 hdg (k p l e R s m args below meth c A D cy QQ ad0 C E ad H locs ls I hl)
theorem s_dconst1  (hdg : decode M.2.2.1 pc = .ok (.dconst 1, 1))      (k : zG Z M d Q N (pc + 1) lv (.double FP.dconst1 :: st) w) : zG Z M d Q N pc lv (st) w := by
  intro p l e R s m args below meth c A D cy QQ ad0 C E ad H locs ls I hl
  exact lv_dconst1 C.1 C.2.1 hdg (k p l e R s m args below meth c A D cy QQ ad0 C E ad H locs ls I hl)
theorem s_fadd {x y : UInt32} (hdg : decode M.2.2.1 pc = .ok (.fadd, 1)) (hne : vf_n32 (FP.fadd x y))     (k : zG Z M d Q N (pc + 1) lv (.float (FP.fadd x y) :: st) w) : zG Z M d Q N pc lv (.float y :: .float x :: st) w := by
  intro p l e R s m args below meth c A D cy QQ ad0 C E ad H locs ls I hl
  exact lv_fadd C.1 C.2.1 hdg hne (k p l e R s m args below meth c A D cy QQ ad0 C E ad H locs ls I hl)
theorem s_fdiv {x y : UInt32} (hdg : decode M.2.2.1 pc = .ok (.fdiv, 1)) (hne : vf_n32 (FP.fdiv x y))     (k : zG Z M d Q N (pc + 1) lv (.float (FP.fdiv x y) :: st) w) : zG Z M d Q N pc lv (.float y :: .float x :: st) w := by
  intro p l e R s m args below meth c A D cy QQ ad0 C E ad H locs ls I hl
  exact lv_fdiv C.1 C.2.1 hdg hne (k p l e R s m args below meth c A D cy QQ ad0 C E ad H locs ls I hl)
theorem s_fcmp {x y : UInt32} {op : CmpOp} (hdg : decode M.2.2.1 pc = .ok (.fcmp op, 1))      (k : zG Z M d Q N (pc + 1) lv (.int (Op.cmpValue (FP.fcmp x y) op) :: st) w) : zG Z M d Q N pc lv (.float y :: .float x :: st) w := by
  intro p l e R s m args below meth c A D cy QQ ad0 C E ad H locs ls I hl
  exact lv_fcmp C.1 C.2.1 hdg (k p l e R s m args below meth c A D cy QQ ad0 C E ad H locs ls I hl)
theorem s_i2f {x : Int32} (hdg : decode M.2.2.1 pc = .ok (.i2f, 1))      (k : zG Z M d Q N (pc + 1) lv (.float (FP.i2f x) :: st) w) : zG Z M d Q N pc lv (.int x :: st) w := by
  intro p l e R s m args below meth c A D cy QQ ad0 C E ad H locs ls I hl
  exact lv_i2f C.1 C.2.1 hdg (k p l e R s m args below meth c A D cy QQ ad0 C E ad H locs ls I hl)
theorem s_dadd {x y : UInt64} (hdg : decode M.2.2.1 pc = .ok (.dadd, 1)) (hne : vf_n64 (FP.dadd x y))     (k : zG Z M d Q N (pc + 1) lv (.double (FP.dadd x y) :: st) w) : zG Z M d Q N pc lv (.double y :: .double x :: st) w := by
  intro p l e R s m args below meth c A D cy QQ ad0 C E ad H locs ls I hl
  exact lv_dadd C.1 C.2.1 hdg hne (k p l e R s m args below meth c A D cy QQ ad0 C E ad H locs ls I hl)
theorem s_dsub {x y : UInt64} (hdg : decode M.2.2.1 pc = .ok (.dsub, 1)) (hne : vf_n64 (FP.dsub x y))     (k : zG Z M d Q N (pc + 1) lv (.double (FP.dsub x y) :: st) w) : zG Z M d Q N pc lv (.double y :: .double x :: st) w := by
  intro p l e R s m args below meth c A D cy QQ ad0 C E ad H locs ls I hl
  exact lv_dsub C.1 C.2.1 hdg hne (k p l e R s m args below meth c A D cy QQ ad0 C E ad H locs ls I hl)
theorem s_dmul {x y : UInt64} (hdg : decode M.2.2.1 pc = .ok (.dmul, 1)) (hne : vf_n64 (FP.dmul x y))     (k : zG Z M d Q N (pc + 1) lv (.double (FP.dmul x y) :: st) w) : zG Z M d Q N pc lv (.double y :: .double x :: st) w := by
  intro p l e R s m args below meth c A D cy QQ ad0 C E ad H locs ls I hl
  exact lv_dmul C.1 C.2.1 hdg hne (k p l e R s m args below meth c A D cy QQ ad0 C E ad H locs ls I hl)
theorem s_dcmp {x y : UInt64} {op : CmpOp} (hdg : decode M.2.2.1 pc = .ok (.dcmp op, 1))      (k : zG Z M d Q N (pc + 1) lv (.int (Op.cmpValue (FP.dcmp x y) op) :: st) w) : zG Z M d Q N pc lv (.double y :: .double x :: st) w := by
  intro p l e R s m args below meth c A D cy QQ ad0 C E ad H locs ls I hl
  exact lv_dcmp C.1 C.2.1 hdg (k p l e R s m args below meth c A D cy QQ ad0 C E ad H locs ls I hl)
theorem s_d2i {x : UInt64} (hdg : decode M.2.2.1 pc = .ok (.d2i, 1))      (k : zG Z M d Q N (pc + 1) lv (.int (FP.d2i x) :: st) w) : zG Z M d Q N pc lv (.double x :: st) w := by
  intro p l e R s m args below meth c A D cy QQ ad0 C E ad H locs ls I hl
  exact lv_d2i C.1 C.2.1 hdg (k p l e R s m args below meth c A D cy QQ ad0 C E ad H locs ls I hl)
theorem s_d2l {x : UInt64} (hdg : decode M.2.2.1 pc = .ok (.d2l, 1))      (k : zG Z M d Q N (pc + 1) lv (.long (FP.d2l x) :: st) w) : zG Z M d Q N pc lv (.double x :: st) w := by
  intro p l e R s m args below meth c A D cy QQ ad0 C E ad H locs ls I hl
  exact lv_d2l C.1 C.2.1 hdg (k p l e R s m args below meth c A D cy QQ ad0 C E ad H locs ls I hl)
theorem s_f2d {x : UInt32} (hdg : decode M.2.2.1 pc = .ok (.f2d, 1)) (hne : vf_n64 (FP.f2d x))     (k : zG Z M d Q N (pc + 1) lv (.double (FP.f2d x) :: st) w) : zG Z M d Q N pc lv (.float x :: st) w := by
  intro p l e R s m args below meth c A D cy QQ ad0 C E ad H locs ls I hl
  exact lv_f2d C.1 C.2.1 hdg hne (k p l e R s m args below meth c A D cy QQ ad0 C E ad H locs ls I hl)
theorem s_lookup {dflt : Int} {ps : Array (Int × Int)} {len : Nat} {x : Int32} {off : Int} {tgt : Nat} (hdg : decode M.2.2.1 pc = .ok (.lookupswitch dflt ps, len)) (hp : (ps.toList.zip (ps.toList.drop 1)).all (fun (a, next) => a.1 < next.1) = true) (ho : Op.lookupswitch.offset ps.toList dflt x.toInt = off) (ht : (pc : Int) + off = (tgt : Int))     (k : zG Z M d Q N tgt lv (st) w) : zG Z M d Q N pc lv (.int x :: st) w := by
  intro p l e R s m args below meth c A D cy QQ ad0 C E ad H locs ls I hl
  exact lv_lookup C.1 C.2.1 hdg hp ho ht (k p l e R s m args below meth c A D cy QQ ad0 C E ad H locs ls I hl)
theorem s_tableOut {dflt lo hi : Int} {offs : Array Int} {len : Nat} {x : Int32} {tgt : Nat} (hdg : decode M.2.2.1 pc = .ok (.tableswitch dflt lo hi offs, len)) (h : x.toInt < lo ∨ hi < x.toInt) (ht : (pc : Int) + dflt = (tgt : Int))     (k : zG Z M d Q N tgt lv (st) w) : zG Z M d Q N pc lv (.int x :: st) w := by
  intro p l e R s m args below meth c A D cy QQ ad0 C E ad H locs ls I hl
  exact lv_tableOut C.1 C.2.1 hdg h ht (k p l e R s m args below meth c A D cy QQ ad0 C E ad H locs ls I hl)
theorem s_tableIn {dflt lo hi : Int} {offs : Array Int} {len : Nat} {x : Int32} {off : Int} {tgt : Nat} (hdg : decode M.2.2.1 pc = .ok (.tableswitch dflt lo hi offs, len)) (h1 : ¬ x.toInt < lo) (h2 : ¬ hi < x.toInt) (ho : offs[(x.toInt - lo).toNat]? = some off) (ht : (pc : Int) + off = (tgt : Int))     (k : zG Z M d Q N tgt lv (st) w) : zG Z M d Q N pc lv (.int x :: st) w := by
  intro p l e R s m args below meth c A D cy QQ ad0 C E ad H locs ls I hl
  exact lv_tableIn C.1 C.2.1 hdg h1 h2 ho ht (k p l e R s m args below meth c A D cy QQ ad0 C E ad H locs ls I hl)
theorem s_lcmp {x y : Int64} (hdg : decode M.2.2.1 pc = .ok (.lcmp, 1))     (k : zG Z M d Q N (pc + 1) lv (.int (lg_cmp x y) :: st) w) : zG Z M d Q N pc lv (.long y :: .long x :: st) w := by
  intro p l e R s m args below meth c A D cy QQ ad0 C E ad H locs ls I hl
  exact W.lcmp C.1 C.2.1 hdg (k p l e R s m args below meth c A D cy QQ ad0 C E ad H locs ls I hl)
theorem s_dup {va : Value} (hd : decode M.2.2.1 pc = .ok (.dup, 1)) (hva : va.category = 1) (k : zG Z M d Q N (pc + 1) lv (va :: va :: st) w) : zG Z M d Q N pc lv (va :: st) w := by
  intro p l e R s m args below meth c A D cy QQ ad0 C E ad H locs ls I hl
  exact lv_dup C.1 C.2.1 hd (by rw [zcv_cat]; exact hva) (k p l e R s m args below meth c A D cy QQ ad0 C E ad H locs ls I hl)
theorem s_dup2 {va vb : Value} (hd : decode M.2.2.1 pc = .ok (.dup2, 1)) (hva : va.category = 1) (hvb : vb.category = 1) (k : zG Z M d Q N (pc + 1) lv (va :: vb :: va :: vb :: st) w) : zG Z M d Q N pc lv (va :: vb :: st) w := by
  intro p l e R s m args below meth c A D cy QQ ad0 C E ad H locs ls I hl
  exact lv_dup2_11 C.1 C.2.1 hd (by rw [zcv_cat]; exact hva) (by rw [zcv_cat]; exact hvb) (k p l e R s m args below meth c A D cy QQ ad0 C E ad H locs ls I hl)
theorem s_ldc {idx : Nat} {v : Int32} (hd : decode M.2.2.1 pc = .ok (.ldc idx, 2)) (hc : Cond.constant M.1 idx v ∈ zGW) (k : zG Z M d Q N (pc + 2) lv (.int v :: st) w) : zG Z M d Q N pc lv st w := by
  intro p l e R s m args below meth c A D cy QQ ad0 C E ad H locs ls I hl
  exact lv_ldc C.1 C.2.1 C.2.2.2.1 (C.2.2.2.2.1 _ hc) hd (k p l e R s m args below meth c A D cy QQ ad0 C E ad H locs ls I hl)
theorem s_ldcw {idx : Nat} {v : Int32} (hd : decode M.2.2.1 pc = .ok (.ldc_w idx, 3)) (hc : Cond.constant M.1 idx v ∈ zGW) (k : zG Z M d Q N (pc + 3) lv (.int v :: st) w) : zG Z M d Q N pc lv st w := by
  intro p l e R s m args below meth c A D cy QQ ad0 C E ad H locs ls I hl
  exact lv_ldcw C.1 C.2.1 C.2.2.2.1 (C.2.2.2.2.1 _ hc) hd (k p l e R s m args below meth c A D cy QQ ad0 C E ad H locs ls I hl)
theorem s_ldcf {idx : Nat} {v : UInt32} (hd : decode M.2.2.1 pc = .ok (.ldc idx, 2)) (hc : Cond.constantFloat M.1 idx v ∈ zGW) (k : zG Z M d Q N (pc + 2) lv (.float v :: st) w) : zG Z M d Q N pc lv st w := by
  intro p l e R s m args below meth c A D cy QQ ad0 C E ad H locs ls I hl
  exact lv_ldcf C.1 C.2.1 C.2.2.2.1 (C.2.2.2.2.1 _ hc) hd (k p l e R s m args below meth c A D cy QQ ad0 C E ad H locs ls I hl)
theorem s_ldc2 {idx : Nat} {v : Int64} (hd : decode M.2.2.1 pc = .ok (.ldc2_w idx, 3)) (hc : Cond.constantLong M.1 idx v ∈ zGW) (k : zG Z M d Q N (pc + 3) lv (.long v :: st) w) : zG Z M d Q N pc lv st w := by
  intro p l e R s m args below meth c A D cy QQ ad0 C E ad H locs ls I hl
  exact lv_ldc2 C.1 C.2.1 C.2.2.2.1 (C.2.2.2.2.1 _ hc) hd (k p l e R s m args below meth c A D cy QQ ad0 C E ad H locs ls I hl)
theorem s_ldc2d {idx : Nat} {v : UInt64} (hd : decode M.2.2.1 pc = .ok (.ldc2_w idx, 3)) (hc : Cond.constantDouble M.1 idx v ∈ zGW) (k : zG Z M d Q N (pc + 3) lv (.double v :: st) w) : zG Z M d Q N pc lv st w := by
  intro p l e R s m args below meth c A D cy QQ ad0 C E ad H locs ls I hl
  exact lv_ldc2d C.1 C.2.1 C.2.2.2.1 (C.2.2.2.2.1 _ hc) hd (k p l e R s m args below meth c A D cy QQ ad0 C E ad H locs ls I hl)
theorem zbq (a b : Nat) : Nat.beq a b = decide (a = b) := by
  by_cases h : a = b
  · subst h
    simp
  · rw [decide_eq_false h]
    cases hb : Nat.beq a b with
    | true => exact absurd (Nat.eq_of_beq_eq_true hb) h
    | false => rfl
def zlk : List (Nat × Value) → Nat → Option Value
  | [], _ => none
  | q :: l, i => match Nat.beq q.1 i with
    | true => some q.2
    | false => zlk l i
theorem zlk_mem {v : Value} {i : Nat} : ∀ {lv : List (Nat × Value)}, zlk lv i = some v → (i, v) ∈ lv
  | [], h => by cases h
  | q :: l, h => by
    unfold zlk at h
    cases hb : Nat.beq q.1 i with
    | true =>
      rw [hb] at h
      have e : q.1 = i := Nat.eq_of_beq_eq_true hb
      have e2 : q.2 = v := Option.some.inj h
      rw [← e, ← e2]
      exact List.mem_cons_self
    | false =>
      rw [hb] at h
      exact List.mem_cons_of_mem _ (zlk_mem h)
theorem zlk_has {ad : Nat → Nat} {ls : Array Slot} {nL i : Nat} {v : Value} (hl : lv_has ls nL (zcl ad lv)) (h : zlk lv i = some v) : ls[i]? = some (.val (zcv ad v)) :=
  hl.2.2 (i, zcv ad v) (List.mem_map.mpr ⟨(i, v), zlk_mem h, rfl⟩)
def zst : List (Nat × Value) → Nat → Value → List (Nat × Value)
  | [], i, v => [(i, v)]
  | q :: l, i, v => match Nat.beq q.1 i with
    | true => (i, v) :: l
    | false => q :: zst l i v
/-- the place i stands once at most -/
def zuq : List (Nat × Value) → Nat → Bool
  | [], _ => true
  | q :: l, i => match Nat.beq q.1 i with
    | true => l.all (fun z => !Nat.beq z.1 i)
    | false => zuq l i
theorem zst_mem {v : Value} {i : Nat} {q : Nat × Value} : ∀ {lv : List (Nat × Value)}, zuq lv i = true → q ∈ zst lv i v → q = (i, v) ∨ (q ∈ lv ∧ q.1 ≠ i)
  | [], _, h => by
    unfold zst at h
    exact Or.inl (List.mem_singleton.mp h)
  | z :: l, hu, h => by
    unfold zst at h
    unfold zuq at hu
    cases hb : Nat.beq z.1 i with
    | true =>
      rw [hb] at h hu
      rcases List.mem_cons.mp h with h | h
      · exact Or.inl h
      · have h1 := List.all_eq_true.mp hu q h
        refine Or.inr ⟨List.mem_cons_of_mem _ h, fun e => ?_⟩
        rw [e] at h1
        simp at h1
    | false =>
      rw [hb] at h hu
      rcases List.mem_cons.mp h with h | h
      · refine Or.inr ⟨by rw [h]; exact List.mem_cons_self, fun e => ?_⟩
        rw [h] at e
        rw [e] at hb
        simp at hb
      · rcases zst_mem hu h with h | h
        · exact Or.inl h
        · exact Or.inr ⟨List.mem_cons_of_mem _ h.1, h.2⟩
/-- nothing wide lies across the place i -/
def zk1 (lv : List (Nat × Value)) (i : Nat) : Bool := zuq lv i && lv.all (fun q => !(Nat.beq (q.1 + 1) i && Nat.beq q.2.category 2))
def zk2 (lv : List (Nat × Value)) (i : Nat) : Bool := zuq lv i && lv.all (fun q => !(Nat.beq (q.1 + 1) i && Nat.beq q.2.category 2) && !Nat.beq q.1 (i + 1))
theorem zst_has1 {ad : Nat → Nat} {ls : Array Slot} {nL i : Nat} {v : Value} (hk : zk1 lv i = true) (hl : lv_has ls nL ((i, zcv ad v) :: (zcl ad lv).filter (fun q => !(q.1 == i) && !(q.1 + 1 == i && q.2.category == 2)))) : lv_has ls nL (zcl ad (zst lv i v)) := by
  refine ⟨hl.1, hl.2.1, fun q hq => hl.2.2 q ?_⟩
  obtain ⟨z, hz, rfl⟩ := List.mem_map.mp hq
  unfold zk1 at hk
  rw [Bool.and_eq_true] at hk
  rcases zst_mem hk.1 hz with rfl | ⟨h1, h2⟩
  · exact List.mem_cons_self
  · refine List.mem_cons_of_mem _ (List.mem_filter.mpr ⟨List.mem_map.mpr ⟨z, h1, rfl⟩, ?_⟩)
    have h3 := List.all_eq_true.mp hk.2 z h1
    show (!(z.1 == i) && !(z.1 + 1 == i && (zcv ad z.2).category == 2)) = true
    rw [zcv_cat]
    have h4 : (z.1 == i) = false := by simpa using h2
    rw [h4]
    simp [zbq] at h3 ⊢
    exact h3
theorem zst_has2 {ad : Nat → Nat} {ls : Array Slot} {nL i : Nat} {v : Value} (hk : zk2 lv i = true) (hl : lv_has ls nL ((i, zcv ad v) :: (zcl ad lv).filter (fun q => !(q.1 == i) && (!(q.1 == i + 1) && !(q.1 + 1 == i && q.2.category == 2))))) : lv_has ls nL (zcl ad (zst lv i v)) := by
  refine ⟨hl.1, hl.2.1, fun q hq => hl.2.2 q ?_⟩
  obtain ⟨z, hz, rfl⟩ := List.mem_map.mp hq
  unfold zk2 at hk
  rw [Bool.and_eq_true] at hk
  rcases zst_mem hk.1 hz with rfl | ⟨h1, h2⟩
  · exact List.mem_cons_self
  · refine List.mem_cons_of_mem _ (List.mem_filter.mpr ⟨List.mem_map.mpr ⟨z, h1, rfl⟩, ?_⟩)
    have h3 := List.all_eq_true.mp hk.2 z h1
    show (!(z.1 == i) && (!(z.1 == i + 1) && !(z.1 + 1 == i && (zcv ad z.2).category == 2))) = true
    rw [zcv_cat]
    have h4 : (z.1 == i) = false := by simpa using h2
    rw [h4]
    simp [zbq] at h3 ⊢
    exact ⟨h3.2, h3.1⟩
/-- fewer locals -/
theorem s_take (n : Nat) (k : zG Z M d Q N pc (lv.take n) st w) : zG Z M d Q N pc lv st w := by
  intro p l e R s m args below meth c A D cy QQ ad0 C E ad H locs ls I hl
  exact k p l e R s m args below meth c A D cy QQ ad0 C E ad H locs ls I ⟨hl.1, hl.2.1, fun q hq => hl.2.2 q (by
    obtain ⟨z, hz, rfl⟩ := List.mem_map.mp hq
    exact List.mem_map.mpr ⟨z, List.mem_of_mem_take hz, rfl⟩)⟩
/-- other locals, all among these -/
theorem s_lv (lv' : List (Nat × Value)) (h : lv'.all (fun q => decide (zlk lv q.1 = some q.2)) = true ∨ ∀ q ∈ lv', zlk lv q.1 = some q.2) (k : zG Z M d Q N pc lv' st w) : zG Z M d Q N pc lv st w := by
  have h : ∀ q ∈ lv', zlk lv q.1 = some q.2 := by
    rcases h with h | h
    · exact fun q hq => of_decide_eq_true (List.all_eq_true.mp h q hq)
    · exact h
  intro p l e R s m args below meth c A D cy QQ ad0 C E ad H locs ls I hl
  exact k p l e R s m args below meth c A D cy QQ ad0 C E ad H locs ls I ⟨hl.1, hl.2.1, fun q hq => by
    obtain ⟨z, hz, rfl⟩ := List.mem_map.mp hq
    exact zlk_has hl (h z hz)⟩
theorem s_iload_n {k : Fin 4} {x : Int32} (hd : decode M.2.2.1 pc = .ok (.iload_n k, 1)) (hv : zlk lv k = some (.int x)) (kk : zG Z M d Q N (pc + 1) lv (.int x :: st) w) : zG Z M d Q N pc lv st w := by
  intro p l e R s m args below meth c A D cy QQ ad0 C E ad H locs ls I hl
  exact lv_iload_n C.1 C.2.1 hd rfl (zlk_has hl hv) (kk p l e R s m args below meth c A D cy QQ ad0 C E ad H locs ls I hl)
theorem s_iload {i : Nat} {x : Int32} (hd : decode M.2.2.1 pc = .ok (.iload i, 2)) (hv : zlk lv i = some (.int x)) (kk : zG Z M d Q N (pc + 2) lv (.int x :: st) w) : zG Z M d Q N pc lv st w := by
  intro p l e R s m args below meth c A D cy QQ ad0 C E ad H locs ls I hl
  exact lv_iload C.1 C.2.1 hd (zlk_has hl hv) (kk p l e R s m args below meth c A D cy QQ ad0 C E ad H locs ls I hl)
theorem s_lload_n {k : Fin 4} {x : Int64} (hd : decode M.2.2.1 pc = .ok (.lload_n k, 1)) (hv : zlk lv k = some (.long x)) (kk : zG Z M d Q N (pc + 1) lv (.long x :: st) w) : zG Z M d Q N pc lv st w := by
  intro p l e R s m args below meth c A D cy QQ ad0 C E ad H locs ls I hl
  exact lv_lload_n C.1 C.2.1 hd rfl (zlk_has hl hv) (kk p l e R s m args below meth c A D cy QQ ad0 C E ad H locs ls I hl)
theorem s_lload {i : Nat} {x : Int64} (hd : decode M.2.2.1 pc = .ok (.lload i, 2)) (hv : zlk lv i = some (.long x)) (kk : zG Z M d Q N (pc + 2) lv (.long x :: st) w) : zG Z M d Q N pc lv st w := by
  intro p l e R s m args below meth c A D cy QQ ad0 C E ad H locs ls I hl
  exact lv_lload C.1 C.2.1 hd (zlk_has hl hv) (kk p l e R s m args below meth c A D cy QQ ad0 C E ad H locs ls I hl)
theorem s_fload_n {k : Fin 4} {x : UInt32} (hd : decode M.2.2.1 pc = .ok (.fload_n k, 1)) (hv : zlk lv k = some (.float x)) (kk : zG Z M d Q N (pc + 1) lv (.float x :: st) w) : zG Z M d Q N pc lv st w := by
  intro p l e R s m args below meth c A D cy QQ ad0 C E ad H locs ls I hl
  exact lv_fload_n C.1 C.2.1 hd rfl (zlk_has hl hv) (kk p l e R s m args below meth c A D cy QQ ad0 C E ad H locs ls I hl)
theorem s_fload {i : Nat} {x : UInt32} (hd : decode M.2.2.1 pc = .ok (.fload i, 2)) (hv : zlk lv i = some (.float x)) (kk : zG Z M d Q N (pc + 2) lv (.float x :: st) w) : zG Z M d Q N pc lv st w := by
  intro p l e R s m args below meth c A D cy QQ ad0 C E ad H locs ls I hl
  exact lv_fload C.1 C.2.1 hd (zlk_has hl hv) (kk p l e R s m args below meth c A D cy QQ ad0 C E ad H locs ls I hl)
theorem s_dload_n {k : Fin 4} {x : UInt64} (hd : decode M.2.2.1 pc = .ok (.dload_n k, 1)) (hv : zlk lv k = some (.double x)) (kk : zG Z M d Q N (pc + 1) lv (.double x :: st) w) : zG Z M d Q N pc lv st w := by
  intro p l e R s m args below meth c A D cy QQ ad0 C E ad H locs ls I hl
  exact lv_dload_n C.1 C.2.1 hd rfl (zlk_has hl hv) (kk p l e R s m args below meth c A D cy QQ ad0 C E ad H locs ls I hl)
theorem s_dload {i : Nat} {x : UInt64} (hd : decode M.2.2.1 pc = .ok (.dload i, 2)) (hv : zlk lv i = some (.double x)) (kk : zG Z M d Q N (pc + 2) lv (.double x :: st) w) : zG Z M d Q N pc lv st w := by
  intro p l e R s m args below meth c A D cy QQ ad0 C E ad H locs ls I hl
  exact lv_dload C.1 C.2.1 hd (zlk_has hl hv) (kk p l e R s m args below meth c A D cy QQ ad0 C E ad H locs ls I hl)
theorem s_aload_n {k : Fin 4} {x : Nat} (hd : decode M.2.2.1 pc = .ok (.aload_n k, 1)) (hv : zlk lv k = some (.ref x)) (kk : zG Z M d Q N (pc + 1) lv (.ref x :: st) w) : zG Z M d Q N pc lv st w := by
  intro p l e R s m args below meth c A D cy QQ ad0 C E ad H locs ls I hl
  exact lv_aload_n C.1 C.2.1 hd rfl (zlk_has hl hv) (kk p l e R s m args below meth c A D cy QQ ad0 C E ad H locs ls I hl)
theorem s_aload {i : Nat} {x : Nat} (hd : decode M.2.2.1 pc = .ok (.aload i, 2)) (hv : zlk lv i = some (.ref x)) (kk : zG Z M d Q N (pc + 2) lv (.ref x :: st) w) : zG Z M d Q N pc lv st w := by
  intro p l e R s m args below meth c A D cy QQ ad0 C E ad H locs ls I hl
  exact lv_aload C.1 C.2.1 hd (zlk_has hl hv) (kk p l e R s m args below meth c A D cy QQ ad0 C E ad H locs ls I hl)
theorem s_istore_n {k : Fin 4} {x : Int32} (hd : decode M.2.2.1 pc = .ok (.istore_n k, 1)) (hn : (k : Nat) < M.2.2.2.1) (hk : zk1 lv k = true) (kk : zG Z M d Q N (pc + 1) (zst lv k (.int x)) st w) : zG Z M d Q N pc lv (.int x :: st) w := by
  intro p l e R s m args below meth c A D cy QQ ad0 C E ad H locs ls I hl
  exact lv_istore_n C.1 C.2.1 hd rfl hl hn rfl (fun ls2 hl2 => kk p l e R s m args below meth c A D cy QQ ad0 C E ad H locs ls2 I (zst_has1 hk hl2))
theorem s_istore {i : Nat} {x : Int32} (hd : decode M.2.2.1 pc = .ok (.istore i, 2)) (hn : i < M.2.2.2.1) (hk : zk1 lv i = true) (kk : zG Z M d Q N (pc + 2) (zst lv i (.int x)) st w) : zG Z M d Q N pc lv (.int x :: st) w := by
  intro p l e R s m args below meth c A D cy QQ ad0 C E ad H locs ls I hl
  exact lv_istore C.1 C.2.1 hd hl hn rfl (fun ls2 hl2 => kk p l e R s m args below meth c A D cy QQ ad0 C E ad H locs ls2 I (zst_has1 hk hl2))
theorem s_fstore_n {k : Fin 4} {x : UInt32} (hd : decode M.2.2.1 pc = .ok (.fstore_n k, 1)) (hn : (k : Nat) < M.2.2.2.1) (hk : zk1 lv k = true) (kk : zG Z M d Q N (pc + 1) (zst lv k (.float x)) st w) : zG Z M d Q N pc lv (.float x :: st) w := by
  intro p l e R s m args below meth c A D cy QQ ad0 C E ad H locs ls I hl
  exact lv_fstore_n C.1 C.2.1 hd rfl hl hn rfl (fun ls2 hl2 => kk p l e R s m args below meth c A D cy QQ ad0 C E ad H locs ls2 I (zst_has1 hk hl2))
theorem s_fstore {i : Nat} {x : UInt32} (hd : decode M.2.2.1 pc = .ok (.fstore i, 2)) (hn : i < M.2.2.2.1) (hk : zk1 lv i = true) (kk : zG Z M d Q N (pc + 2) (zst lv i (.float x)) st w) : zG Z M d Q N pc lv (.float x :: st) w := by
  intro p l e R s m args below meth c A D cy QQ ad0 C E ad H locs ls I hl
  exact lv_fstore C.1 C.2.1 hd hl hn rfl (fun ls2 hl2 => kk p l e R s m args below meth c A D cy QQ ad0 C E ad H locs ls2 I (zst_has1 hk hl2))
theorem s_astore_n {k : Fin 4} {x : Nat} (hd : decode M.2.2.1 pc = .ok (.astore_n k, 1)) (hn : (k : Nat) < M.2.2.2.1) (hk : zk1 lv k = true) (kk : zG Z M d Q N (pc + 1) (zst lv k (.ref x)) st w) : zG Z M d Q N pc lv (.ref x :: st) w := by
  intro p l e R s m args below meth c A D cy QQ ad0 C E ad H locs ls I hl
  exact lv_astore_n C.1 C.2.1 hd rfl hl hn rfl (fun ls2 hl2 => kk p l e R s m args below meth c A D cy QQ ad0 C E ad H locs ls2 I (zst_has1 hk hl2))
theorem s_astore {i : Nat} {x : Nat} (hd : decode M.2.2.1 pc = .ok (.astore i, 2)) (hn : i < M.2.2.2.1) (hk : zk1 lv i = true) (kk : zG Z M d Q N (pc + 2) (zst lv i (.ref x)) st w) : zG Z M d Q N pc lv (.ref x :: st) w := by
  intro p l e R s m args below meth c A D cy QQ ad0 C E ad H locs ls I hl
  exact lv_astore C.1 C.2.1 hd hl hn rfl (fun ls2 hl2 => kk p l e R s m args below meth c A D cy QQ ad0 C E ad H locs ls2 I (zst_has1 hk hl2))
theorem s_lstore_n {k : Fin 4} {x : Int64} (hd : decode M.2.2.1 pc = .ok (.lstore_n k, 1)) (hn : (k : Nat) + 1 < M.2.2.2.1) (hk : zk2 lv k = true) (kk : zG Z M d Q N (pc + 1) (zst lv k (.long x)) st w) : zG Z M d Q N pc lv (.long x :: st) w := by
  intro p l e R s m args below meth c A D cy QQ ad0 C E ad H locs ls I hl
  exact lv_lstore_n C.1 C.2.1 hd rfl hl hn rfl (fun ls2 hl2 => kk p l e R s m args below meth c A D cy QQ ad0 C E ad H locs ls2 I (zst_has2 hk hl2))
theorem s_lstore {i : Nat} {x : Int64} (hd : decode M.2.2.1 pc = .ok (.lstore i, 2)) (hn : i + 1 < M.2.2.2.1) (hk : zk2 lv i = true) (kk : zG Z M d Q N (pc + 2) (zst lv i (.long x)) st w) : zG Z M d Q N pc lv (.long x :: st) w := by
  intro p l e R s m args below meth c A D cy QQ ad0 C E ad H locs ls I hl
  exact lv_lstore C.1 C.2.1 hd hl hn rfl (fun ls2 hl2 => kk p l e R s m args below meth c A D cy QQ ad0 C E ad H locs ls2 I (zst_has2 hk hl2))
theorem s_dstore_n {k : Fin 4} {x : UInt64} (hd : decode M.2.2.1 pc = .ok (.dstore_n k, 1)) (hn : (k : Nat) + 1 < M.2.2.2.1) (hk : zk2 lv k = true) (kk : zG Z M d Q N (pc + 1) (zst lv k (.double x)) st w) : zG Z M d Q N pc lv (.double x :: st) w := by
  intro p l e R s m args below meth c A D cy QQ ad0 C E ad H locs ls I hl
  exact lv_dstore_n C.1 C.2.1 hd rfl hl hn rfl (fun ls2 hl2 => kk p l e R s m args below meth c A D cy QQ ad0 C E ad H locs ls2 I (zst_has2 hk hl2))
theorem s_dstore {i : Nat} {x : UInt64} (hd : decode M.2.2.1 pc = .ok (.dstore i, 2)) (hn : i + 1 < M.2.2.2.1) (hk : zk2 lv i = true) (kk : zG Z M d Q N (pc + 2) (zst lv i (.double x)) st w) : zG Z M d Q N pc lv (.double x :: st) w := by
  intro p l e R s m args below meth c A D cy QQ ad0 C E ad H locs ls I hl
  exact lv_dstore C.1 C.2.1 hd hl hn rfl (fun ls2 hl2 => kk p l e R s m args below meth c A D cy QQ ad0 C E ad H locs ls2 I (zst_has2 hk hl2))
theorem s_iinc {i : Nat} {n : Int} {x : Int32} (v : Int32) (hd : decode M.2.2.1 pc = .ok (.iinc i n, 3)) (hv : zlk lv i = some (.int x)) (hx : x + Int32.ofInt n = v) (hn : i < M.2.2.2.1) (hk : zk1 lv i = true) (kk : zG Z M d Q N (pc + 3) (zst lv i (.int v)) st w) : zG Z M d Q N pc lv st w := by
  intro p l e R s m args below meth c A D cy QQ ad0 C E ad H locs ls I hl
  have hm : (i, Value.int x) ∈ zcl ad lv := List.mem_map.mpr ⟨(i, .int x), zlk_mem hv, rfl⟩
  obtain ⟨k, hk2⟩ := List.getElem?_of_mem hm
  exact lv_iinc C.1 C.2.1 hd hl hk2 hx hn rfl (fun ls2 hl2 => kk p l e R s m args below meth c A D cy QQ ad0 C E ad H locs ls2 I (zst_has1 hk hl2))
/-- the end -/
theorem s_ret {r : List Value} (hr : zRet M pc r) (hq : Q r w) (hN : w.length = N + M.2.2.2.2.2) : zG Z M d Q N pc lv r w := by
  intro p l e R s m args below meth c A D cy QQ ad0 C E ad H locs ls I hl
  have h := E r w ad H locs pc ls hq hN I hr
  rw [hN, Nat.add_sub_cancel_left]
  exact h
theorem s_iret {x : Int32} (hd : decode M.2.2.1 pc = .ok (.ireturn, 1)) (hM : M.2.2.2.2.1 = some .int) (hq : Q [.int x] w) (hN : w.length = N + M.2.2.2.2.2) : zG Z M d Q N pc lv [.int x] w := s_ret (Or.inr (Or.inl ⟨hM, hd, x, rfl⟩)) hq hN
theorem s_zret {x : Int32} (hd : decode M.2.2.1 pc = .ok (.ireturn, 1)) (hM : M.2.2.2.2.1 = some .boolean) (hx : x = 0 ∨ x = 1) (hq : Q [.int x] w) (hN : w.length = N + M.2.2.2.2.2) : zG Z M d Q N pc lv [.int x] w := s_ret (Or.inr (Or.inr (Or.inl ⟨hM, hd, x, rfl, hx⟩))) hq hN
theorem s_lret {x : Int64} (hd : decode M.2.2.1 pc = .ok (.lreturn, 1)) (hM : M.2.2.2.2.1 = some .long) (hq : Q [.long x] w) (hN : w.length = N + M.2.2.2.2.2) : zG Z M d Q N pc lv [.long x] w := s_ret (Or.inr (Or.inr (Or.inr (Or.inl ⟨hM, hd, x, rfl⟩)))) hq hN
theorem s_fret {x : UInt32} (hd : decode M.2.2.1 pc = .ok (.freturn, 1)) (hM : M.2.2.2.2.1 = some .float) (hq : Q [.float x] w) (hN : w.length = N + M.2.2.2.2.2) : zG Z M d Q N pc lv [.float x] w := s_ret (Or.inr (Or.inr (Or.inr (Or.inr (Or.inl ⟨hM, hd, x, rfl⟩))))) hq hN
theorem s_dret {x : UInt64} (hd : decode M.2.2.1 pc = .ok (.dreturn, 1)) (hM : M.2.2.2.2.1 = some .double) (hq : Q [.double x] w) (hN : w.length = N + M.2.2.2.2.2) : zG Z M d Q N pc lv [.double x] w := s_ret (Or.inr (Or.inr (Or.inr (Or.inr (Or.inr ⟨hM, hd, x, rfl⟩))))) hq hN
theorem s_vret (hd : decode M.2.2.1 pc = .ok (.return_, 1)) (hM : M.2.2.2.2.1 = none) (hq : Q [] w) (hN : w.length = N + M.2.2.2.2.2) : zG Z M d Q N pc lv [] w := s_ret (Or.inl ⟨hM, hd, rfl⟩) hq hN
/-- a branch whose way is known -/
theorem s_conv {Q' : List Value → zW → Prop} (h : ∀ r w, Q' r w → Q r w) (k : zG Z M d Q' N pc lv st w) : zG Z M d Q N pc lv st w := by
  intro p l e R s m args below meth c A D cy QQ ad0 C E ad H locs ls I hl
  exact k p l e R s m args below meth c A D cy QQ ad0 C (fun r w ad H locs pc ls hq => E r w ad H locs pc ls (h r w hq)) ad H locs ls I hl
end ZA
end
section
/-! ===== rows of the small machine: cells ===== -/
def zTy (ci : Nat) : Nat → FieldType := match ci with
  | 0 => tyX2
  | 1 => tyX3
  | 2 => tyX4
  | 3 => tyX5
  | 4 => tyX6
  | 5 => tyX7
  | _ => tyX8
def zdef (ci : Nat) : List Value := match ci with
  | 0 => [.int 0, .int 0, .null, .null, .null]
  | 1 => [.null, .null, .int 0]
  | 2 => [.int 0, .int 0, .null, .null, .null, .null]
  | 3 => [.null, .int 0, .int 0]
  | 4 => [.null, .int 0]
  | 5 => [.null, .null, .int 0, .null, .null, .null]
  | _ => [.null, .null, .null, .null, .null, .null, .null, .int 0, .int 0, .null, .null, .null, .int 0, .int 0, .int 0, .null, .null, .int 0, .null, .null, .null, .null, .int 0, .int 0, .null, .int 0, .int 0, .int 0, .null, .null, .null, .null]
def zall (C : String) (T : u_T) (n : Nat) : Bool := (u_ws C T n).all (fun w => decide (w ∈ lw_tbl) && goodWord w)
theorem zall_in {C : String} {T : u_T} {n : Nat} (h : zall C T n = true) : ∀ w ∈ u_ws C T n, w ∈ zGW := fun w hw => by
  have h1 := List.all_eq_true.mp h w hw
  rw [Bool.and_eq_true] at h1
  exact List.mem_filter.mpr ⟨of_decide_eq_true h1.1, h1.2⟩
theorem zu2 : zall RX2 TX2 5 = true := by decide +kernel
theorem zu3 : zall RX3 TX3 3 = true := by decide +kernel
theorem zu4 : zall RX4 TX4 6 = true := by decide +kernel
theorem zu5 : zall RX5 TX5 3 = true := by decide +kernel
theorem zu6 : zall RX6 TX6 2 = true := by decide +kernel
theorem zu7 : zall RX7 TX7 6 = true := by decide +kernel
theorem zu8 : zall RX8 TX8 32 = true := by decide +kernel
theorem zd2 : ∀ j, j < 5 → defaultValue (tyX2 j) = vp_V (zdef 0) j := by decide +kernel
theorem zd3 : ∀ j, j < 3 → defaultValue (tyX3 j) = vp_V (zdef 1) j := by decide +kernel
theorem zd4 : ∀ j, j < 6 → defaultValue (tyX4 j) = vp_V (zdef 2) j := by decide +kernel
theorem zd5 : ∀ j, j < 3 → defaultValue (tyX5 j) = vp_V (zdef 3) j := by decide +kernel
theorem zd6 : ∀ j, j < 2 → defaultValue (tyX6 j) = vp_V (zdef 4) j := by decide +kernel
theorem zd7 : ∀ j, j < 6 → defaultValue (tyX7 j) = vp_V (zdef 5) j := by decide +kernel
theorem zd8 : ∀ j, j < 32 → defaultValue (tyX8 j) = vp_V (zdef 6) j := by decide +kernel
theorem zcls : ∀ (ci : Nat) (q : vw_C), vwCl[ci]? = some q → (∀ w ∈ u_ws q.1 q.2.1 q.2.2, w ∈ zGW) ∧ (∀ k, k < q.2.2 → parseFieldDescriptor (q.2.1 k).2.2.1 = some (zTy ci k)) ∧ (∀ a, a < q.2.2 → ∀ b, b < q.2.2 → a ≠ b → (q.2.1 a).2.1 ≠ (q.2.1 b).2.1) ∧ (∀ j, j < q.2.2 → defaultValue (zTy ci j) = vp_V (zdef ci) j) ∧ q.2.2 ≤ 32 ∧ ∀ ad, (zdef ci).map (zcv ad) = zdef ci
  | 0, q, h => by cases h; exact ⟨zall_in zu2, tyX2_ok, nmX2, zd2, by decide, fun _ => rfl⟩
  | 1, q, h => by cases h; exact ⟨zall_in zu3, tyX3_ok, nmX3, zd3, by decide, fun _ => rfl⟩
  | 2, q, h => by cases h; exact ⟨zall_in zu4, tyX4_ok, nmX4, zd4, by decide, fun _ => rfl⟩
  | 3, q, h => by cases h; exact ⟨zall_in zu5, tyX5_ok, nmX5, zd5, by decide, fun _ => rfl⟩
  | 4, q, h => by cases h; exact ⟨zall_in zu6, tyX6_ok, nmX6, zd6, by decide, fun _ => rfl⟩
  | 5, q, h => by cases h; exact ⟨zall_in zu7, tyX7_ok, nmX7, zd7, by decide, fun _ => rfl⟩
  | 6, q, h => by cases h; exact ⟨zall_in zu8, tyX8_ok, nmX8, zd8, by decide, fun _ => rfl⟩
  | n + 7, q, h => by simp [vwCl] at h
def zFl (own : String) (idx ci k : Nat) (fin : Bool) : Prop := ∃ q : vw_C, vwCl[ci]? = some q ∧ k < q.2.2 ∧ (q.2.1 k).2.2.2 = fin ∧ (q.2.1 k).1 = q.1 ∧ (Cond.fieldLink own idx (q.2.1 k).1 (q.2.1 k).2.1 (q.2.1 k).2.2.1 ∈ zGW ∨ ∃ host, Cond.fieldLinkNest own idx (q.2.1 k).1 (q.2.1 k).2.1 (q.2.1 k).2.2.1 host ∈ zNW)
def zcle (n : Nat) (e : va_E) : Prop := match e with
  | .inl (_, _, .inr (.inr (.inr (.inr f)))) => ∀ j i, f j = some i → i < n
  | .inl _ => True
  | .inr (_, fs) => ∀ v ∈ fs, ∀ i : Nat, v = Value.ref i → i < n
def zclw (w : zW) : Prop := ∀ e ∈ w, zcle w.length e
def zcln (n : Nat) (l : List Value) : Prop := ∀ v ∈ l, ∀ i : Nat, v = Value.ref i → i < n ∨ n + 1 ≤ i
theorem zcle_mono {n k : Nat} (h : n ≤ k) {e : va_E} (he : zcle n e) : zcle k e := by
  match e, he with
  | .inl (_, _, .inl f), _ => exact trivial
  | .inl (_, _, .inr (.inl f)), _ => exact trivial
  | .inl (_, _, .inr (.inr (.inl f))), _ => exact trivial
  | .inl (_, _, .inr (.inr (.inr (.inl f)))), _ => exact trivial
  | .inl (_, _, .inr (.inr (.inr (.inr f)))), he => exact fun j i hj => Nat.lt_of_lt_of_le (he j i hj) h
  | .inr (_, fs), he => exact fun v hv i hi => Nat.lt_of_lt_of_le (he v hv i hi) h
theorem zclw_push {w : zW} {e : va_E} (h : zclw w) (he : zcle (w.length + 1) e) : zclw (w ++ [e]) := by
  intro x hx
  rw [List.length_append]
  rcases List.mem_append.mp hx with h1 | h1
  · exact zcle_mono (Nat.le_add_right _ _) (h x h1)
  · rw [List.mem_singleton.mp h1]; exact he
theorem zclw_set {w : zW} {k : Nat} {e : va_E} (h : zclw w) (he : zcle w.length e) : zclw (w.set k e) := by
  intro x hx
  rw [List.length_set]
  rcases List.mem_or_eq_of_mem_set hx with h1 | h1
  · exact h x h1
  · rw [h1]; exact he
theorem zce_same {ad ad' : Nat → Nat} {n : Nat} {cy : Nat → ClassId} (h : ∀ i, i ≠ n → ad' i = ad i) {e : va_E} (he : zcle n e) : zce ad' cy e = zce ad cy e := by
  match e, he with
  | .inl (_, _, .inl f), _ => rfl
  | .inl (_, _, .inr (.inl f)), _ => rfl
  | .inl (_, _, .inr (.inr (.inl f))), _ => rfl
  | .inl (_, _, .inr (.inr (.inr (.inl f)))), _ => rfl
  | .inl (t, m, .inr (.inr (.inr (.inr f)))), he =>
    have e : (fun j => (f j).map ad') = (fun j => (f j).map ad) := by
      funext j
      cases hf : f j with
      | none => rfl
      | some i => exact congrArg some (h i (Nat.ne_of_lt (he j i hf)))
    show Sum.inl (cy t, m, Sum.inr (Sum.inr (Sum.inr (Sum.inr (fun j => (f j).map ad'))))) = _
    rw [e]
    rfl
  | .inr (ci, fs), he =>
    have e : fs.map (zcv ad') = fs.map (zcv ad) := List.map_congr_left (fun v hv => by
      cases v with
      | ref i => exact congrArg Value.ref (h i (Nat.ne_of_lt (he _ hv i rfl)))
      | _ => rfl)
    show Sum.inr (ci, fs.map (zcv ad')) = _
    rw [e]
    rfl
theorem zcw_same {ad ad' : Nat → Nat} {cy : Nat → ClassId} {w : zW} (h : ∀ i, i ≠ w.length → ad' i = ad i) (hw : zclw w) : zcw ad' cy w = zcw ad cy w := by
  apply List.ext_getElem?
  intro i
  rw [zcw_get, zcw_get]
  cases hi : w[i]? with
  | none => rfl
  | some e =>
    have hlt : i < w.length := (List.getElem?_eq_some_iff.mp hi).1
    show some (ad' i, zce ad' cy e) = some (ad i, zce ad cy e)
    rw [h i (Nat.ne_of_lt hlt), zce_same h (hw e (List.mem_of_getElem? hi))]
theorem zcln_same {n : Nat} {ad ad' : Nat → Nat} (h : ∀ i, i ≠ n → ad' i = ad i) {st : List Value} (hv : zcln n st) : st.map (zcv ad') = st.map (zcv ad) :=
  List.map_congr_left (fun v hm => by
    cases v with
    | ref i => exact congrArg Value.ref (h i (fun z => by have q := hv _ hm i rfl; rw [z] at q; omega))
    | _ => rfl)
theorem zcll_same {n : Nat} {ad ad' : Nat → Nat} (h : ∀ i, i ≠ n → ad' i = ad i) {lv : List (Nat × Value)} (hv : zcln n (lv.map (fun q => q.2))) : zcl ad' lv = zcl ad lv :=
  List.map_congr_left (fun q hm => by
    have h1 := hv q.2 (List.mem_map.mpr ⟨q, hm, rfl⟩)
    obtain ⟨a, v⟩ := q
    cases v with
    | ref i => exact congrArg (fun z => (a, Value.ref z)) (h i (fun z => by have q := h1 i rfl; rw [z] at q; omega))
    | _ => rfl)
section ZH
variable {Z : zS} {M : zM} {d : Nat} {Q : List Value → zW → Prop} {N : Nat} {pc : Nat} {lv : List (Nat × Value)} {st : List Value} {w : zW} {idx q ci k : Nat} {fs : List Value} {v : Value}
theorem s_get {fin : Bool} (hd : decode M.2.2.1 pc = .ok (.getfield idx, 3)) (L : zFl M.1 idx ci k fin) (hw : w[q]? = some (.inr (ci, fs))) (hv : fs[k]? = some v) (kk : zG Z M d Q N (pc + 3) lv (v :: st) w) : zG Z M d Q N pc lv (.ref q :: st) w := by
  intro p l e R s m args below meth c A D cy QQ ad0 C E ad H locs ls I hl
  obtain ⟨iP, iD, iS, i1, i2, i3, i4⟩ := id I
  obtain ⟨hx, hb, hml, hown, hts, hN, hAO, hK, hA, hRo, hfr, hlo, hce, hsl, hnm⟩ := id C
  obtain ⟨qc, hc, hk, -, -, hl1 | ⟨host, hl1⟩⟩ := L
  · exact va_get (Ts := zGW) hx hb hts (zcls ci qc hc).1 hown hK iP q (zcw_at hw) hc k hk (hts _ hl1) (fun _ h => h) (v := zcv ad v) (by rw [List.getElem?_map, hv]; rfl) hd (kk p l e R s m args below meth c A D cy QQ ad0 C E ad H locs ls I hl)
  · exact va_getN (Ts := zGW) hx hb hts (zcls ci qc hc).1 hown hK iP q (zcw_at hw) hc k hk (va_Nw.use rfl (hN _ hl1)) (fun _ h => h) (v := zcv ad v) (by rw [List.getElem?_map, hv]; rfl) hd (kk p l e R s m args below meth c A D cy QQ ad0 C E ad H locs ls I hl)
theorem s_put (hd : decode M.2.2.1 pc = .ok (.putfield idx, 3)) (L : zFl M.1 idx ci k false) (hw : w[q]? = some (.inr (ci, fs))) (hnf : ∀ ad : Nat → Nat, narrow (zTy ci k) (zcv ad v) = zcv ad v ∧ fits (zTy ci k) (zcv ad v) = true) (hk1 : k < fs.length) (kk : zG Z M d Q N (pc + 3) lv st (w.set q (.inr (ci, fs.set k v)))) : zG Z M d Q N pc lv (v :: .ref q :: st) w := by
  intro p l e R s m args below meth c A D cy QQ ad0 C E ad H locs ls I hl
  obtain ⟨iP, iD, iS, i1, i2, i3, i4⟩ := id I
  obtain ⟨hx, hb, hml, hown, hts, hN, hAO, hK, hA, hRo, hfr, hlo, hce, hsl, hnm⟩ := id C
  obtain ⟨qc, hc, hk, hfin, -, hl1⟩ := L
  obtain ⟨z1, z2, z3, z4, z5, z6⟩ := zcls ci qc hc
  have ee : zcw ad cy (w.set q (.inr (ci, fs.set k v))) = (zcw ad cy w).set q (ad q, .inr (ci, (fs.map (zcv ad)).set k (zcv ad v))) := by
    rw [zcw_set]
    show _ = (zcw ad cy w).set q (ad q, Sum.inr (ci, (fs.map (zcv ad)).set k (zcv ad v)))
    rw [← List.map_set]
    rfl
  have fin : ∀ (H1 : Heap) (locs1 : List Loc), va_P D vwCl ((zcw ad cy w).set q (ad q, .inr (ci, (fs.map (zcv ad)).set k (zcv ad v)))) H1 → va_D A ((zcw ad cy w).set q (ad q, .inr (ci, (fs.map (zcv ad)).set k (zcv ad v)))) → va_S A s.heap H1 locs1 → W p l e R s m args below meth c H1 locs1 (w.length - N) (800 * (w.length - N)) QQ (F0 m (pc + 3) ls (st.map (zcv ad))) := by
    intro H1 locs1 h1 h2 h3
    have K := kk p l e R s m args below meth c A D cy QQ ad0 C E ad H1 locs1 ls ⟨by rw [ee]; exact h1, by rw [ee]; exact h2, h3, by rw [List.length_set]; exact i1, by rw [List.length_set]; exact i2, i3, by rw [List.length_set]; exact i4⟩ hl
    rw [List.length_set] at K
    exact K
  rcases hl1 with hl1 | ⟨host, hl1⟩
  · exact va_put (Ts := zGW) hx hb hts z1 (zTy ci) z2 z3 hown hK iP iD iS q (zcw_at hw) hc k hk (hts _ hl1) (fun _ h => h) hfin (z2 k hk) (hnf ad).1 (hnf ad).2 (by rw [List.length_map]; exact hk1) hd fin
  · exact va_putN (Ts := zGW) hx hb hts z1 (zTy ci) z2 z3 hown hK iP iD iS q (zcw_at hw) hc k hk (va_Nw.use rfl (hN _ hl1)) (fun _ h => h) hfin (z2 k hk) (hnf ad).1 (hnf ad).2 (by rw [List.length_map]; exact hk1) hd fin
/-- a final field, in its own constructor -/
theorem s_putF (hd : decode M.2.2.1 pc = .ok (.putfield idx, 3)) (L : zFl M.1 idx ci k true) (hin : M.2.1.name = "<init>") (hC : ∀ qc : vw_C, vwCl[ci]? = some qc → qc.1 = M.1) (hw : w[q]? = some (.inr (ci, fs))) (hnf : ∀ ad : Nat → Nat, narrow (zTy ci k) (zcv ad v) = zcv ad v ∧ fits (zTy ci k) (zcv ad v) = true) (hk1 : k < fs.length) (hp : ∀ qc : vw_C, vwCl[ci]? = some qc → Cond.fieldLink M.1 idx (qc.2.1 k).1 (qc.2.1 k).2.1 (qc.2.1 k).2.2.1 ∈ zGW) (kk : zG Z M d Q N (pc + 3) lv st (w.set q (.inr (ci, fs.set k v)))) : zG Z M d Q N pc lv (v :: .ref q :: st) w := by
  intro p l e R s m args below meth c A D cy QQ ad0 C E ad H locs ls I hl
  obtain ⟨iP, iD, iS, i1, i2, i3, i4⟩ := id I
  obtain ⟨hx, hb, hml, hown, hts, hN, hAO, hK, hA, hRo, hfr, hlo, hce, hsl, hnm⟩ := id C
  obtain ⟨qc, hc, hk, hfin, hcl, -⟩ := L
  obtain ⟨z1, z2, z3, z4, z5, z6⟩ := zcls ci qc hc
  have ee : zcw ad cy (w.set q (.inr (ci, fs.set k v))) = (zcw ad cy w).set q (ad q, .inr (ci, (fs.map (zcv ad)).set k (zcv ad v))) := by
    rw [zcw_set]
    show _ = (zcw ad cy w).set q (ad q, Sum.inr (ci, (fs.map (zcv ad)).set k (zcv ad v)))
    rw [← List.map_set]
    rfl
  have fin : ∀ (H1 : Heap) (locs1 : List Loc), va_P D vwCl ((zcw ad cy w).set q (ad q, .inr (ci, (fs.map (zcv ad)).set k (zcv ad v)))) H1 → va_D A ((zcw ad cy w).set q (ad q, .inr (ci, (fs.map (zcv ad)).set k (zcv ad v)))) → va_S A s.heap H1 locs1 → W p l e R s m args below meth c H1 locs1 (w.length - N) (800 * (w.length - N)) QQ (F0 m (pc + 3) ls (st.map (zcv ad))) := by
    intro H1 locs1 h1 h2 h3
    have K := kk p l e R s m args below meth c A D cy QQ ad0 C E ad H1 locs1 ls ⟨by rw [ee]; exact h1, by rw [ee]; exact h2, h3, by rw [List.length_set]; exact i1, by rw [List.length_set]; exact i2, i3, by rw [List.length_set]; exact i4⟩ hl
    rw [List.length_set] at K
    exact K
  exact va_putF (Ts := zGW) hx hb hts z1 (zTy ci) z2 z3 hown hK iP iD iS q (zcw_at hw) hc k hk (hts _ (hp qc hc)) (fun _ h => h) hfin (hnm.trans hin) (hcl.trans (hC qc hc)) (z2 k hk) (hnf ad).1 (hnf ad).2 (by rw [List.length_map]; exact hk1) hd fin
/-- a new object -/
theorem s_new {qc : vw_C} (hd : decode M.2.2.1 pc = .ok (.new idx, 3)) (hc : vwCl[ci]? = some qc) (h1 : Cond.classLink M.1 idx qc.1 ∈ zGW) (h2 : Cond.instantiable qc.1 qc.2.2 ∈ zGW) (h3 : Cond.initialized qc.1 ∈ zGW) (hroom : w.length + 1 ≤ N + M.2.2.2.2.2) (hcw : zclw w) (hcv : zcln w.length (lv.map (fun q => q.2))) (hcs : zcln w.length st) (kk : zG Z M d Q N (pc + 3) lv (.ref w.length :: st) (w ++ [.inr (ci, zdef ci)])) : zG Z M d Q N pc lv st w := by
  intro p l e R s m args below meth c A D cy QQ ad0 C E ad H locs ls I hl
  obtain ⟨iP, iD, iS, i1, i2, i3, i4⟩ := id I
  obtain ⟨hx, hb, hml, hown, hts, hN, hAO, hK, hA, hRo, hfr, hlo, hce, hsl, hnm⟩ := id C
  obtain ⟨z1, z2, z3, z4, z5, z6⟩ := zcls ci qc hc
  refine va_new (Ts := zGW) (fs := zdef ci) hx hb hts z1 (zTy ci) z2 hown (hts _ h1) (hts _ h2) (hts _ h3) hK iP iD iS hA hc z4 (by omega) (by omega) hd (fun a H1 gP gD gS => ?_)
  have had : ∀ i, i ≠ w.length → (fun i => if i = w.length then a else ad i) i = ad i := fun i hi => if_neg hi
  have ee : zcw (fun i => if i = w.length then a else ad i) cy (w ++ [.inr (ci, zdef ci)]) = zcw ad cy w ++ [(a, .inr (ci, zdef ci))] := by
    rw [zcw_push, zcw_same had hcw]
    show zcw ad cy w ++ [((if w.length = w.length then a else ad w.length), Sum.inr (ci, (zdef ci).map (zcv _)))] = _
    rw [if_pos rfl, z6]
  have K := kk p l e R s m args below meth c A D cy QQ ad0 C E (fun i => if i = w.length then a else ad i) H1 locs ls ⟨by rw [ee]; exact gP, by rw [ee]; exact gD, gS, by rw [List.length_append]; show N ≤ w.length + 1; omega, by rw [List.length_append]; show w.length + 1 ≤ _; omega, i3, fun i hi => by
    rw [List.length_append] at hi
    have hi : i < N ∨ w.length + 1 ≤ i := hi
    rw [had i (by omega)]
    exact i4 i (by omega)⟩ (by rw [zcll_same had hcv]; exact hl)
  rw [List.length_append] at K
  have e1 : w.length + [(Sum.inr (ci, zdef ci) : va_E)].length - N = w.length - N + 1 := by
    show w.length + 1 - N = w.length - N + 1
    omega
  rw [e1, List.map_cons, zcln_same had hcs] at K
  have e2 : zcv (fun i => if i = w.length then a else ad i) (.ref w.length) = .ref a := by
    show Value.ref (if w.length = w.length then a else ad w.length) = _
    rw [if_pos rfl]
  rw [e2] at K
  exact W.widen (Nat.le_refl _) (by omega) K
theorem s_newaI {n : Int32} (n1 : Nat) (hd : decode M.2.2.1 pc = .ok (.newarray .int, 2)) (h1 : Cond.arrayClass (newarray.typeOf .int) ∈ zGW) (hn : ¬ n < 0) (hn1 : n.toNatClampNeg = n1) (hn2 : n1 ≤ 800) (hroom : w.length + 1 ≤ N + M.2.2.2.2.2) (hcw : zclw w) (hcv : zcln w.length (lv.map (fun q => q.2))) (hcs : zcln w.length st) (kk : zG Z M d Q N (pc + 2) lv (.ref w.length :: st) (w ++ [.inl (0, n1, .inl (fun _ => 0))])) : zG Z M d Q N pc lv (.int n :: st) w := by
  intro p l e R s m args below meth c A D cy QQ ad0 C E ad H locs ls I hl
  obtain ⟨iP, iD, iS, i1, i2, i3, i4⟩ := id I
  obtain ⟨hx, hb, hml, hown, hts, hN, hAO, hK, hA, hRo, hfr, hlo, hce, hsl, hnm⟩ := id C
  refine va_newa (atype := .int) (ty := .int) (a0 := (n1, .inl (fun _ => 0))) (N' := n1) hx hb (hts _ h1) rfl hK iP iD iS hA (fun _ => rfl) hn hn1 (Nat.le_trans (Nat.mul_le_mul hn2 (show componentBytes .int ≤ 8 by decide)) (by decide)) (by omega) (by omega) hd (fun a cA H1 gK gP gD gS => ?_)
  have hcA : cA = cy 0 := by
    have g1 := (gK.2 5 (cA, .int) rfl).2
    have g2 := (gK.2 0 (cy 0, .int) rfl).2
    exact Option.some.inj (Eq.trans (Eq.symm g1) g2)
  subst hcA
  have had : ∀ i, i ≠ w.length → (fun i => if i = w.length then a else ad i) i = ad i := fun i hi => if_neg hi
  have ee : zcw (fun i => if i = w.length then a else ad i) cy (w ++ [.inl (0, n1, .inl (fun _ => 0))]) = zcw ad cy w ++ [(a, .inl (cy 0, n1, .inl (fun _ => 0)))] := by
    rw [zcw_push, zcw_same had hcw]
    show zcw ad cy w ++ [((if w.length = w.length then a else ad w.length), Sum.inl (cy 0, n1, .inl (fun _ => 0)))] = _
    rw [if_pos rfl]
  have K := kk p l e R s m args below meth c A D cy QQ ad0 C E (fun i => if i = w.length then a else ad i) H1 locs ls ⟨by rw [ee]; exact gP, by rw [ee]; exact gD, gS, by rw [List.length_append]; show N ≤ w.length + 1; omega, by rw [List.length_append]; show w.length + 1 ≤ _; omega, i3, fun i hi => by
    rw [List.length_append] at hi
    have hi : i < N ∨ w.length + 1 ≤ i := hi
    rw [had i (by omega)]
    exact i4 i (by omega)⟩ (by rw [zcll_same had hcv]; exact hl)
  rw [List.length_append] at K
  have e1 : w.length + [(Sum.inl (0, n1, .inl (fun _ => 0)) : va_E)].length - N = w.length - N + 1 := by
    show w.length + 1 - N = w.length - N + 1
    omega
  rw [e1, List.map_cons, zcln_same had hcs] at K
  have e2 : zcv (fun i => if i = w.length then a else ad i) (.ref w.length) = .ref a := by
    show Value.ref (if w.length = w.length then a else ad w.length) = _
    rw [if_pos rfl]
  rw [e2] at K
  exact W.widen (Nat.le_refl _) (by omega) K
theorem s_newaJ {n : Int32} (n1 : Nat) (hd : decode M.2.2.1 pc = .ok (.newarray .long, 2)) (h1 : Cond.arrayClass (newarray.typeOf .long) ∈ zGW) (hn : ¬ n < 0) (hn1 : n.toNatClampNeg = n1) (hn2 : n1 ≤ 800) (hroom : w.length + 1 ≤ N + M.2.2.2.2.2) (hcw : zclw w) (hcv : zcln w.length (lv.map (fun q => q.2))) (hcs : zcln w.length st) (kk : zG Z M d Q N (pc + 2) lv (.ref w.length :: st) (w ++ [.inl (1, n1, .inr (.inl (fun _ => 0)))])) : zG Z M d Q N pc lv (.int n :: st) w := by
  intro p l e R s m args below meth c A D cy QQ ad0 C E ad H locs ls I hl
  obtain ⟨iP, iD, iS, i1, i2, i3, i4⟩ := id I
  obtain ⟨hx, hb, hml, hown, hts, hN, hAO, hK, hA, hRo, hfr, hlo, hce, hsl, hnm⟩ := id C
  refine va_newa (atype := .long) (ty := .long) (a0 := (n1, .inr (.inl (fun _ => 0)))) (N' := n1) hx hb (hts _ h1) rfl hK iP iD iS hA (fun _ => rfl) hn hn1 (Nat.le_trans (Nat.mul_le_mul hn2 (show componentBytes .long ≤ 8 by decide)) (by decide)) (by omega) (by omega) hd (fun a cA H1 gK gP gD gS => ?_)
  have hcA : cA = cy 1 := by
    have g1 := (gK.2 5 (cA, .long) rfl).2
    have g2 := (gK.2 1 (cy 1, .long) rfl).2
    exact Option.some.inj (Eq.trans (Eq.symm g1) g2)
  subst hcA
  have had : ∀ i, i ≠ w.length → (fun i => if i = w.length then a else ad i) i = ad i := fun i hi => if_neg hi
  have ee : zcw (fun i => if i = w.length then a else ad i) cy (w ++ [.inl (1, n1, .inr (.inl (fun _ => 0)))]) = zcw ad cy w ++ [(a, .inl (cy 1, n1, .inr (.inl (fun _ => 0))))] := by
    rw [zcw_push, zcw_same had hcw]
    show zcw ad cy w ++ [((if w.length = w.length then a else ad w.length), Sum.inl (cy 1, n1, .inr (.inl (fun _ => 0))))] = _
    rw [if_pos rfl]
  have K := kk p l e R s m args below meth c A D cy QQ ad0 C E (fun i => if i = w.length then a else ad i) H1 locs ls ⟨by rw [ee]; exact gP, by rw [ee]; exact gD, gS, by rw [List.length_append]; show N ≤ w.length + 1; omega, by rw [List.length_append]; show w.length + 1 ≤ _; omega, i3, fun i hi => by
    rw [List.length_append] at hi
    have hi : i < N ∨ w.length + 1 ≤ i := hi
    rw [had i (by omega)]
    exact i4 i (by omega)⟩ (by rw [zcll_same had hcv]; exact hl)
  rw [List.length_append] at K
  have e1 : w.length + [(Sum.inl (1, n1, .inr (.inl (fun _ => 0))) : va_E)].length - N = w.length - N + 1 := by
    show w.length + 1 - N = w.length - N + 1
    omega
  rw [e1, List.map_cons, zcln_same had hcs] at K
  have e2 : zcv (fun i => if i = w.length then a else ad i) (.ref w.length) = .ref a := by
    show Value.ref (if w.length = w.length then a else ad w.length) = _
    rw [if_pos rfl]
  rw [e2] at K
  exact W.widen (Nat.le_refl _) (by omega) K
theorem s_newaB {n : Int32} (n1 : Nat) (hd : decode M.2.2.1 pc = .ok (.newarray .byte, 2)) (h1 : Cond.arrayClass (newarray.typeOf .byte) ∈ zGW) (hn : ¬ n < 0) (hn1 : n.toNatClampNeg = n1) (hn2 : n1 ≤ 800) (hroom : w.length + 1 ≤ N + M.2.2.2.2.2) (hcw : zclw w) (hcv : zcln w.length (lv.map (fun q => q.2))) (hcs : zcln w.length st) (kk : zG Z M d Q N (pc + 2) lv (.ref w.length :: st) (w ++ [.inl (2, n1, .inl (fun _ => 0))])) : zG Z M d Q N pc lv (.int n :: st) w := by
  intro p l e R s m args below meth c A D cy QQ ad0 C E ad H locs ls I hl
  obtain ⟨iP, iD, iS, i1, i2, i3, i4⟩ := id I
  obtain ⟨hx, hb, hml, hown, hts, hN, hAO, hK, hA, hRo, hfr, hlo, hce, hsl, hnm⟩ := id C
  refine va_newa (atype := .byte) (ty := .byte) (a0 := (n1, .inl (fun _ => 0))) (N' := n1) hx hb (hts _ h1) rfl hK iP iD iS hA (fun _ => rfl) hn hn1 (Nat.le_trans (Nat.mul_le_mul hn2 (show componentBytes .byte ≤ 8 by decide)) (by decide)) (by omega) (by omega) hd (fun a cA H1 gK gP gD gS => ?_)
  have hcA : cA = cy 2 := by
    have g1 := (gK.2 5 (cA, .byte) rfl).2
    have g2 := (gK.2 2 (cy 2, .byte) rfl).2
    exact Option.some.inj (Eq.trans (Eq.symm g1) g2)
  subst hcA
  have had : ∀ i, i ≠ w.length → (fun i => if i = w.length then a else ad i) i = ad i := fun i hi => if_neg hi
  have ee : zcw (fun i => if i = w.length then a else ad i) cy (w ++ [.inl (2, n1, .inl (fun _ => 0))]) = zcw ad cy w ++ [(a, .inl (cy 2, n1, .inl (fun _ => 0)))] := by
    rw [zcw_push, zcw_same had hcw]
    show zcw ad cy w ++ [((if w.length = w.length then a else ad w.length), Sum.inl (cy 2, n1, .inl (fun _ => 0)))] = _
    rw [if_pos rfl]
  have K := kk p l e R s m args below meth c A D cy QQ ad0 C E (fun i => if i = w.length then a else ad i) H1 locs ls ⟨by rw [ee]; exact gP, by rw [ee]; exact gD, gS, by rw [List.length_append]; show N ≤ w.length + 1; omega, by rw [List.length_append]; show w.length + 1 ≤ _; omega, i3, fun i hi => by
    rw [List.length_append] at hi
    have hi : i < N ∨ w.length + 1 ≤ i := hi
    rw [had i (by omega)]
    exact i4 i (by omega)⟩ (by rw [zcll_same had hcv]; exact hl)
  rw [List.length_append] at K
  have e1 : w.length + [(Sum.inl (2, n1, .inl (fun _ => 0)) : va_E)].length - N = w.length - N + 1 := by
    show w.length + 1 - N = w.length - N + 1
    omega
  rw [e1, List.map_cons, zcln_same had hcs] at K
  have e2 : zcv (fun i => if i = w.length then a else ad i) (.ref w.length) = .ref a := by
    show Value.ref (if w.length = w.length then a else ad w.length) = _
    rw [if_pos rfl]
  rw [e2] at K
  exact W.widen (Nat.le_refl _) (by omega) K
theorem s_newaZ {n : Int32} (n1 : Nat) (hd : decode M.2.2.1 pc = .ok (.newarray .boolean, 2)) (h1 : Cond.arrayClass (newarray.typeOf .boolean) ∈ zGW) (hn : ¬ n < 0) (hn1 : n.toNatClampNeg = n1) (hn2 : n1 ≤ 800) (hroom : w.length + 1 ≤ N + M.2.2.2.2.2) (hcw : zclw w) (hcv : zcln w.length (lv.map (fun q => q.2))) (hcs : zcln w.length st) (kk : zG Z M d Q N (pc + 2) lv (.ref w.length :: st) (w ++ [.inl (3, n1, .inl (fun _ => 0))])) : zG Z M d Q N pc lv (.int n :: st) w := by
  intro p l e R s m args below meth c A D cy QQ ad0 C E ad H locs ls I hl
  obtain ⟨iP, iD, iS, i1, i2, i3, i4⟩ := id I
  obtain ⟨hx, hb, hml, hown, hts, hN, hAO, hK, hA, hRo, hfr, hlo, hce, hsl, hnm⟩ := id C
  refine va_newa (atype := .boolean) (ty := .boolean) (a0 := (n1, .inl (fun _ => 0))) (N' := n1) hx hb (hts _ h1) rfl hK iP iD iS hA (fun _ => rfl) hn hn1 (Nat.le_trans (Nat.mul_le_mul hn2 (show componentBytes .boolean ≤ 8 by decide)) (by decide)) (by omega) (by omega) hd (fun a cA H1 gK gP gD gS => ?_)
  have hcA : cA = cy 3 := by
    have g1 := (gK.2 5 (cA, .boolean) rfl).2
    have g2 := (gK.2 3 (cy 3, .boolean) rfl).2
    exact Option.some.inj (Eq.trans (Eq.symm g1) g2)
  subst hcA
  have had : ∀ i, i ≠ w.length → (fun i => if i = w.length then a else ad i) i = ad i := fun i hi => if_neg hi
  have ee : zcw (fun i => if i = w.length then a else ad i) cy (w ++ [.inl (3, n1, .inl (fun _ => 0))]) = zcw ad cy w ++ [(a, .inl (cy 3, n1, .inl (fun _ => 0)))] := by
    rw [zcw_push, zcw_same had hcw]
    show zcw ad cy w ++ [((if w.length = w.length then a else ad w.length), Sum.inl (cy 3, n1, .inl (fun _ => 0)))] = _
    rw [if_pos rfl]
  have K := kk p l e R s m args below meth c A D cy QQ ad0 C E (fun i => if i = w.length then a else ad i) H1 locs ls ⟨by rw [ee]; exact gP, by rw [ee]; exact gD, gS, by rw [List.length_append]; show N ≤ w.length + 1; omega, by rw [List.length_append]; show w.length + 1 ≤ _; omega, i3, fun i hi => by
    rw [List.length_append] at hi
    have hi : i < N ∨ w.length + 1 ≤ i := hi
    rw [had i (by omega)]
    exact i4 i (by omega)⟩ (by rw [zcll_same had hcv]; exact hl)
  rw [List.length_append] at K
  have e1 : w.length + [(Sum.inl (3, n1, .inl (fun _ => 0)) : va_E)].length - N = w.length - N + 1 := by
    show w.length + 1 - N = w.length - N + 1
    omega
  rw [e1, List.map_cons, zcln_same had hcs] at K
  have e2 : zcv (fun i => if i = w.length then a else ad i) (.ref w.length) = .ref a := by
    show Value.ref (if w.length = w.length then a else ad w.length) = _
    rw [if_pos rfl]
  rw [e2] at K
  exact W.widen (Nat.le_refl _) (by omega) K
end ZH
end
section
/-! ===== rows of the small machine: arrays, the JDK's own ===== -/
section ZR
variable {Z : zS} {M : zM} {d : Nat} {Q : List Value → zW → Prop} {N : Nat} {pc : Nat} {lv : List (Nat × Value)} {st : List Value} {w : zW} {idx q : Nat} {n : Nat} {i : Int32}
/-- a cell of the world is set -/
theorem z_set {q : Nat} {e1 : va_E} (kk : zG Z M d Q N pc lv st (w.set q e1))
    {p : Program} {l : Launch} {e : Env} {R : Room} {s : State} {m : MethodId} {args : Array Value} {below : List Frame} {meth : Method} {c : Code} {A : Nat → Prop} {D : va_G} {cy : Nat → ClassId} {QQ : State → Prop} {ad0 ad : Nat → Nat} {H : Heap} {locs : List Loc} {ls : Array Slot}
    (C : zC Z M d p R s m args meth c A D cy ad0)
    (E : ∀ (r : List Value) (w : zW) (ad : Nat → Nat) (H : Heap) (locs : List Loc) (pc : Nat) (ls : Array Slot), Q r w → w.length = N + M.2.2.2.2.2 → zI M N A D cy ad0 ad s w H locs → zRet M pc r → W p l e R s m args below meth c H locs M.2.2.2.2.2 (800 * M.2.2.2.2.2) QQ (F0 m pc ls (r.map (zcv ad))))
    (I : zI M N A D cy ad0 ad s w H locs) (hl : lv_has ls M.2.2.2.1 (zcl ad lv)) {H1 : Heap} {locs1 : List Loc}
    (h1 : va_P D vwCl ((zcw ad cy w).set q (ad q, zce ad cy e1)) H1) (h2 : va_D A ((zcw ad cy w).set q (ad q, zce ad cy e1))) (h3 : va_S A s.heap H1 locs1) :
    W p l e R s m args below meth c H1 locs1 (w.length - N) (800 * (w.length - N)) QQ (F0 m pc ls (st.map (zcv ad))) := by
  obtain ⟨iP, iD, iS, i1, i2, i3, i4⟩ := I
  have K := kk p l e R s m args below meth c A D cy QQ ad0 C E ad H1 locs1 ls ⟨by rw [zcw_set]; exact h1, by rw [zcw_set]; exact h2, h3, by rw [List.length_set]; exact i1, by rw [List.length_set]; exact i2, i3, by rw [List.length_set]; exact i4⟩ hl
  rw [List.length_set] at K
  exact K
theorem s_iald {f : Nat → Int32} (hd : decode M.2.2.1 pc = .ok (.iaload, 1)) (hw : w[q]? = some (.inl (0, n, .inl f))) (hin : vp_in i n) (kk : zG Z M d Q N (pc + 1) lv (.int (f i.toNatClampNeg) :: st) w) : zG Z M d Q N pc lv (.int i :: .ref q :: st) w := by
  intro p l e R s m args below meth c A D cy QQ ad0 C E ad H locs ls I hl
  obtain ⟨iP, iD, iS, i1, i2, i3, i4⟩ := id I
  obtain ⟨hx, hb, hml, hown, hts, hN, hAO, hK, hA, hRo, hfr, hlo, hce, hsl, hnm⟩ := id C
  exact va_iald hx hb hK iP q 0 (zcw_at hw) rfl hin hd (kk p l e R s m args below meth c A D cy QQ ad0 C E ad H locs ls I hl)
theorem s_lald {f : Nat → Int64} (hd : decode M.2.2.1 pc = .ok (.laload, 1)) (hw : w[q]? = some (.inl (1, n, .inr (.inl f)))) (hin : vp_in i n) (kk : zG Z M d Q N (pc + 1) lv (.long (f i.toNatClampNeg) :: st) w) : zG Z M d Q N pc lv (.int i :: .ref q :: st) w := by
  intro p l e R s m args below meth c A D cy QQ ad0 C E ad H locs ls I hl
  obtain ⟨iP, iD, iS, i1, i2, i3, i4⟩ := id I
  obtain ⟨hx, hb, hml, hown, hts, hN, hAO, hK, hA, hRo, hfr, hlo, hce, hsl, hnm⟩ := id C
  exact va_lald hx hb hK iP q 1 (zcw_at hw) rfl hin hd (kk p l e R s m args below meth c A D cy QQ ad0 C E ad H locs ls I hl)
theorem s_bald {f : Nat → Int32} (hd : decode M.2.2.1 pc = .ok (.baload, 1)) (hw : w[q]? = some (.inl (2, n, .inl f))) (hin : vp_in i n) (kk : zG Z M d Q N (pc + 1) lv (.int (f i.toNatClampNeg) :: st) w) : zG Z M d Q N pc lv (.int i :: .ref q :: st) w := by
  intro p l e R s m args below meth c A D cy QQ ad0 C E ad H locs ls I hl
  obtain ⟨iP, iD, iS, i1, i2, i3, i4⟩ := id I
  obtain ⟨hx, hb, hml, hown, hts, hN, hAO, hK, hA, hRo, hfr, hlo, hce, hsl, hnm⟩ := id C
  exact va_bald hx hb hK iP q 2 (zcw_at hw) rfl hin hd (kk p l e R s m args below meth c A D cy QQ ad0 C E ad H locs ls I hl)
theorem s_zald {f : Nat → Int32} (hd : decode M.2.2.1 pc = .ok (.baload, 1)) (hw : w[q]? = some (.inl (3, n, .inl f))) (hin : vp_in i n) (kk : zG Z M d Q N (pc + 1) lv (.int (f i.toNatClampNeg) :: st) w) : zG Z M d Q N pc lv (.int i :: .ref q :: st) w := by
  intro p l e R s m args below meth c A D cy QQ ad0 C E ad H locs ls I hl
  obtain ⟨iP, iD, iS, i1, i2, i3, i4⟩ := id I
  obtain ⟨hx, hb, hml, hown, hts, hN, hAO, hK, hA, hRo, hfr, hlo, hce, hsl, hnm⟩ := id C
  exact va_zald hx hb hK iP q 3 (zcw_at hw) rfl hin hd (kk p l e R s m args below meth c A D cy QQ ad0 C E ad H locs ls I hl)
theorem s_iast {f : Nat → Int32} {x : Int32} (hd : decode M.2.2.1 pc = .ok (.iastore, 1)) (hw : w[q]? = some (.inl (0, n, .inl f))) (hin : vp_in i n) (kk : zG Z M d Q N (pc + 1) lv st (w.set q (.inl (0, n, .inl (upd f i.toNatClampNeg x))))) : zG Z M d Q N pc lv (.int x :: .int i :: .ref q :: st) w := by
  intro p l e R s m args below meth c A D cy QQ ad0 C E ad H locs ls I hl
  obtain ⟨iP, iD, iS, i1, i2, i3, i4⟩ := id I
  obtain ⟨hx, hb, hml, hown, hts, hN, hAO, hK, hA, hRo, hfr, hlo, hce, hsl, hnm⟩ := id C
  exact va_iast hx hb hK iP iD iS q 0 (zcw_at hw) rfl hin hd (fun H1 locs1 h1 h2 h3 => z_set kk C E I hl h1 h2 h3)
theorem s_last {f : Nat → Int64} {x : Int64} (hd : decode M.2.2.1 pc = .ok (.lastore, 1)) (hw : w[q]? = some (.inl (1, n, .inr (.inl f)))) (hin : vp_in i n) (kk : zG Z M d Q N (pc + 1) lv st (w.set q (.inl (1, n, .inr (.inl (vp_updL f i.toNatClampNeg x)))))) : zG Z M d Q N pc lv (.long x :: .int i :: .ref q :: st) w := by
  intro p l e R s m args below meth c A D cy QQ ad0 C E ad H locs ls I hl
  obtain ⟨iP, iD, iS, i1, i2, i3, i4⟩ := id I
  obtain ⟨hx, hb, hml, hown, hts, hN, hAO, hK, hA, hRo, hfr, hlo, hce, hsl, hnm⟩ := id C
  exact va_last hx hb hK iP iD iS q 1 (zcw_at hw) rfl hin hd (fun H1 locs1 h1 h2 h3 => z_set kk C E I hl h1 h2 h3)
theorem s_bast {f : Nat → Int32} {x : Int32} (hd : decode M.2.2.1 pc = .ok (.bastore, 1)) (hw : w[q]? = some (.inl (2, n, .inl f))) (hin : vp_in i n) (kk : zG Z M d Q N (pc + 1) lv st (w.set q (.inl (2, n, .inl (upd f i.toNatClampNeg (vp_nar .byte x)))))) : zG Z M d Q N pc lv (.int x :: .int i :: .ref q :: st) w := by
  intro p l e R s m args below meth c A D cy QQ ad0 C E ad H locs ls I hl
  obtain ⟨iP, iD, iS, i1, i2, i3, i4⟩ := id I
  obtain ⟨hx, hb, hml, hown, hts, hN, hAO, hK, hA, hRo, hfr, hlo, hce, hsl, hnm⟩ := id C
  exact va_bast hx hb hK iP iD iS q 2 (zcw_at hw) rfl hin hd (fun H1 locs1 h1 h2 h3 => z_set kk C E I hl h1 h2 h3)
theorem s_zast {f : Nat → Int32} {x : Int32} (hd : decode M.2.2.1 pc = .ok (.bastore, 1)) (hw : w[q]? = some (.inl (3, n, .inl f))) (hin : vp_in i n) (kk : zG Z M d Q N (pc + 1) lv st (w.set q (.inl (3, n, .inl (upd f i.toNatClampNeg (vp_nar .boolean x)))))) : zG Z M d Q N pc lv (.int x :: .int i :: .ref q :: st) w := by
  intro p l e R s m args below meth c A D cy QQ ad0 C E ad H locs ls I hl
  obtain ⟨iP, iD, iS, i1, i2, i3, i4⟩ := id I
  obtain ⟨hx, hb, hml, hown, hts, hN, hAO, hK, hA, hRo, hfr, hlo, hce, hsl, hnm⟩ := id C
  exact va_zast hx hb hK iP iD iS q 3 (zcw_at hw) rfl hin hd (fun H1 locs1 h1 h2 h3 => z_set kk C E I hl h1 h2 h3)
theorem s_aald {f : Nat → Option Nat} {a : Nat} (hd : decode M.2.2.1 pc = .ok (.aaload, 1)) (hw : w[q]? = some (.inl (4, n, .inr (.inr (.inr (.inr f)))))) (hin : vp_in i n) (hf : f i.toNatClampNeg = some a) (kk : zG Z M d Q N (pc + 1) lv (.ref a :: st) w) : zG Z M d Q N pc lv (.int i :: .ref q :: st) w := by
  intro p l e R s m args below meth c A D cy QQ ad0 C E ad H locs ls I hl
  obtain ⟨iP, iD, iS, i1, i2, i3, i4⟩ := id I
  obtain ⟨hx, hb, hml, hown, hts, hN, hAO, hK, hA, hRo, hfr, hlo, hce, hsl, hnm⟩ := id C
  refine va_aldq hx hb hK iP q 4 (zcw_at hw) rfl hin hd ?_
  have K := kk p l e R s m args below meth c A D cy QQ ad0 C E ad H locs ls I hl
  show W p l e R s m args below meth c H locs (w.length - N) (800 * (w.length - N)) QQ (F0 m (pc + 1) ls (va_rf ((f i.toNatClampNeg).map ad) :: st.map (zcv ad)))
  rw [hf]
  exact K
theorem s_aast {f : Nat → Option Nat} {a : Nat} {vs : List Value} (hd : decode M.2.2.1 pc = .ok (.aastore, 1)) (hw : w[q]? = some (.inl (4, n, .inr (.inr (.inr (.inr f)))))) (ho : w[a]? = some (.inr (3, vs))) (hin : vp_in i n) (kk : zG Z M d Q N (pc + 1) lv st (w.set q (.inl (4, n, .inr (.inr (.inr (.inr (va_up f i.toNatClampNeg (some a))))))))) : zG Z M d Q N pc lv (.ref a :: .int i :: .ref q :: st) w := by
  intro p l e R s m args below meth c A D cy QQ ad0 C E ad H locs ls I hl
  obtain ⟨iP, iD, iS, i1, i2, i3, i4⟩ := id I
  obtain ⟨hx, hb, hml, hown, hts, hN, hAO, hK, hA, hRo, hfr, hlo, hce, hsl, hnm⟩ := id C
  refine va_astq (r := (RX5, TX5, 3)) hx hb hK iP iD iS q 4 a 3 (zcw_at hw) rfl (zcw_at ho) rfl hin hd (fun H1 locs1 h1 h2 h3 => ?_)
  have e1 : zce ad cy (.inl (4, n, .inr (.inr (.inr (.inr (va_up f i.toNatClampNeg (some a))))))) = .inl (cy 4, n, .inr (.inr (.inr (.inr (va_up (fun j => (f j).map ad) i.toNatClampNeg (some (ad a))))))) := by
    show Sum.inl (cy 4, n, Sum.inr (Sum.inr (Sum.inr (Sum.inr (fun j => (va_up f i.toNatClampNeg (some a) j).map ad))))) = _
    have e2 : (fun j => (va_up f i.toNatClampNeg (some a) j).map ad) = va_up (fun j => (f j).map ad) i.toNatClampNeg (some (ad a)) := by
      funext j
      unfold va_up
      by_cases hj : j = i.toNatClampNeg
      · simp [hj]
      · simp [hj]
    rw [e2]
  exact z_set kk C E I hl (by rw [e1]; exact h1) (by rw [e1]; exact h2) h3
theorem s_alenI {f : Nat → Int32} (v : Int32) (hd : decode M.2.2.1 pc = .ok (.arraylength, 1)) (hw : w[q]? = some (.inl (0, n, .inl f))) (hv : Int32.ofNat n = v) (kk : zG Z M d Q N (pc + 1) lv (.int v :: st) w) : zG Z M d Q N pc lv (.ref q :: st) w := by
  intro p l e R s m args below meth c A D cy QQ ad0 C E ad H locs ls I hl
  obtain ⟨iP, iD, iS, i1, i2, i3, i4⟩ := id I
  obtain ⟨hx, hb, hml, hown, hts, hN, hAO, hK, hA, hRo, hfr, hlo, hce, hsl, hnm⟩ := id C
  exact va_alen hx hb hK iP q 0 (zcw_at hw) (ty := .int) rfl hv hd (kk p l e R s m args below meth c A D cy QQ ad0 C E ad H locs ls I hl)
/-- read-only arrays -/
theorem s_rald {v : Int32} (j : Nat) (hd : decode M.2.2.1 pc = .ok (.iaload, 1)) (hq : q = 1000 + j) (hj : j < 3) (hin : vp_in i (zRoT Z j).1) (hv : (zRoT Z j).2 i.toNatClampNeg = v) (kk : zG Z M d Q N (pc + 1) lv (.int v :: st) w) : zG Z M d Q N pc lv (.int i :: .ref q :: st) w := by
  intro p l e R s m args below meth c A D cy QQ ad0 C E ad H locs ls I hl
  obtain ⟨iP, iD, iS, i1, i2, i3, i4⟩ := id I
  obtain ⟨hx, hb, hml, hown, hts, hN, hAO, hK, hA, hRo, hfr, hlo, hce, hsl, hnm⟩ := id C
  subst hq
  have h0 := hRo.2.2 j hj
  rw [← i4 (1000 + j) (by omega)] at h0
  exact va_ti hx hb h0 iS hin (v := .int v) (by rw [hv]) hd (kk p l e R s m args below meth c A D cy QQ ad0 C E ad H locs ls I hl)
theorem s_rlen (j : Nat) (v : Int32) (hd : decode M.2.2.1 pc = .ok (.arraylength, 1)) (hq : q = 1000 + j) (hj : j < 3) (hv : Int32.ofNat (zRoT Z j).1 = v) (kk : zG Z M d Q N (pc + 1) lv (.int v :: st) w) : zG Z M d Q N pc lv (.ref q :: st) w := by
  intro p l e R s m args below meth c A D cy QQ ad0 C E ad H locs ls I hl
  obtain ⟨iP, iD, iS, i1, i2, i3, i4⟩ := id I
  obtain ⟨hx, hb, hml, hown, hts, hN, hAO, hK, hA, hRo, hfr, hlo, hce, hsl, hnm⟩ := id C
  subst hq
  have h0 := hRo.2.2 j hj
  rw [← i4 (1000 + j) (by omega)] at h0
  exact va_tlen hx hb h0 iS hv hd (kk p l e R s m args below meth c A D cy QQ ad0 C E ad H locs ls I hl)
theorem s_ord (hd : decode M.2.2.1 pc = .ok (.getstatic idx, 3)) (L : Cond.fieldLink M.1 idx "CubeBodies$Cube" "ORDERS" "[I" ∈ zGW) (kk : zG Z M d Q N (pc + 3) lv (.ref 1000 :: st) w) : zG Z M d Q N pc lv st w := by
  intro p l e R s m args below meth c A D cy QQ ad0 C E ad H locs ls I hl
  obtain ⟨iP, iD, iS, i1, i2, i3, i4⟩ := id I
  obtain ⟨hx, hb, hml, hown, hts, hN, hAO, hK, hA, hRo, hfr, hlo, hce, hsl, hnm⟩ := id C
  have h0 := hRo.1
  rw [← i4 1000 (by omega)] at h0
  exact va_gets hx hb h0 iS hown (hts _ L) (fun _ h => h) hd (kk p l e R s m args below meth c A D cy QQ ad0 C E ad H locs ls I hl)
theorem s_frm (hd : decode M.2.2.1 pc = .ok (.getstatic idx, 3)) (L : Cond.fieldLink M.1 idx "CubeBodies$Cube" "FORMS" "[I" ∈ zGW ∨ ∃ host, Cond.fieldLinkNest M.1 idx "CubeBodies$Cube" "FORMS" "[I" host ∈ zNW) (kk : zG Z M d Q N (pc + 3) lv (.ref 1001 :: st) w) : zG Z M d Q N pc lv st w := by
  intro p l e R s m args below meth c A D cy QQ ad0 C E ad H locs ls I hl
  obtain ⟨iP, iD, iS, i1, i2, i3, i4⟩ := id I
  obtain ⟨hx, hb, hml, hown, hts, hN, hAO, hK, hA, hRo, hfr, hlo, hce, hsl, hnm⟩ := id C
  have h0 := hRo.2.1
  rw [← i4 1001 (by omega)] at h0
  rcases L with L | ⟨host, L⟩
  · exact va_gets hx hb h0 iS hown (hts _ L) (fun _ h => h) hd (kk p l e R s m args below meth c A D cy QQ ad0 C E ad H locs ls I hl)
  · exact va_getsN hx hb h0 iS hown (va_Nw.use rfl (hN _ L)) (fun _ h => h) hd (kk p l e R s m args below meth c A D cy QQ ad0 C E ad H locs ls I hl)
theorem s_objInit (hd : decode M.2.2.1 pc = .ok (.invokespecial idx, 3)) (L : Cond.methodLink M.1 idx Lib.objectInit ∈ zGW) (L2 : Cond.instanceMethod Lib.objectInit ∈ zGW) (L3 : Cond.code Lib.objectInit ⟨#[0xb1]⟩ 1 none ∈ zGW) (hcat : (st.map fun v => v.category).sum ≤ 8) (kk : zG Z M (d + 1) Q N (pc + 3) lv st w) : zG Z M (d + 1) Q N pc lv (.ref q :: st) w := by
  intro p l e R s m args below meth c A D cy QQ ad0 C E ad H locs ls I hl
  obtain ⟨iP, iD, iS, i1, i2, i3, i4⟩ := id I
  obtain ⟨hx, hb, hml, hown, hts, hN, hAO, hK, hA, hRo, hfr, hlo, hce, hsl, hnm⟩ := id C
  refine W.objInit (g := F0 m pc ls ((Value.ref q :: st).map (zcv ad))) hx hb hown (hts _ L) (hts _ L2) (hts _ L3) rfl (by rw [hml]; exact hl.1) (rest := st.map (zcv ad)) rfl hd (by omega) ?_ (kk p l e R s m args below meth c A D cy QQ ad0 C E ad H locs ls I hl)
  show 2 * 0 + ((st.map (zcv ad)).map fun v => v.category).sum + 12 ≤ R.locals
  rw [zcv_cats]
  omega
theorem s_min {x y : Int32} (hd : decode M.2.2.1 pc = .ok (.invokestatic idx, 3)) (L : Cond.methodLink M.1 idx Lib.Math.min.name ∈ zGW) (L2 : Cond.static Lib.Math.min.name ∈ zGW) (L3 : Cond.initialized "java/lang/Math" ∈ zGW) (L4 : Cond.code Lib.Math.min.name Lib.Math.min.code 2 (some .int) ∈ zGW) (hcat : (st.map fun v => v.category).sum ≤ 8) (kk : zG Z M (d + 1) Q N (pc + 3) lv (.int (if y < x then y else x) :: st) w) : zG Z M (d + 1) Q N pc lv (.int y :: .int x :: st) w := by
  intro p l e R s m args below meth c A D cy QQ ad0 C E ad H locs ls I hl
  obtain ⟨iP, iD, iS, i1, i2, i3, i4⟩ := id I
  obtain ⟨hx, hb, hml, hown, hts, hN, hAO, hK, hA, hRo, hfr, hlo, hce, hsl, hnm⟩ := id C
  exact va_mmin hx hb (by rw [hml]; exact hl.1.symm) hown (hts _ L) (hts _ L2) (hts _ L3) (hts _ L4) (by omega) (by rw [zcv_cats]; omega) (by omega) (by omega) hd (kk p l e R s m args below meth c A D cy QQ ad0 C E ad H locs ls I hl)
theorem s_max {x y : Int32} (hd : decode M.2.2.1 pc = .ok (.invokestatic idx, 3)) (L : Cond.methodLink M.1 idx Lib.Math.max.name ∈ zGW) (L2 : Cond.static Lib.Math.max.name ∈ zGW) (L3 : Cond.initialized "java/lang/Math" ∈ zGW) (L4 : Cond.code Lib.Math.max.name Lib.Math.max.code 2 (some .int) ∈ zGW) (hcat : (st.map fun v => v.category).sum ≤ 8) (kk : zG Z M (d + 1) Q N (pc + 3) lv (.int (if x < y then y else x) :: st) w) : zG Z M (d + 1) Q N pc lv (.int y :: .int x :: st) w := by
  intro p l e R s m args below meth c A D cy QQ ad0 C E ad H locs ls I hl
  obtain ⟨iP, iD, iS, i1, i2, i3, i4⟩ := id I
  obtain ⟨hx, hb, hml, hown, hts, hN, hAO, hK, hA, hRo, hfr, hlo, hce, hsl, hnm⟩ := id C
  exact va_mmax hx hb (by rw [hml]; exact hl.1.symm) hown (hts _ L) (hts _ L2) (hts _ L3) (hts _ L4) (by omega) (by rw [zcv_cats]; omega) (by omega) (by omega) hd (kk p l e R s m args below meth c A D cy QQ ad0 C E ad H locs ls I hl)
theorem s_f2bits {b : UInt32} (hd : decode M.2.2.1 pc = .ok (.invokestatic idx, 3)) (L : Cond.methodLink M.1 idx ⟨"java/lang/Float", "floatToRawIntBits", "(F)I"⟩ ∈ zGW) (L2 : Cond.native ⟨"java/lang/Float", "floatToRawIntBits", "(F)I"⟩ ∈ zGW) (L3 : Cond.static ⟨"java/lang/Float", "floatToRawIntBits", "(F)I"⟩ ∈ zGW) (L4 : Cond.initialized "java/lang/Float" ∈ zGW) (hcat : (st.map fun v => v.category).sum ≤ 8) (kk : zG Z M (d + 1) Q N (pc + 3) lv (.int b.toInt32 :: st) w) : zG Z M (d + 1) Q N pc lv (.float b :: st) w := by
  intro p l e R s m args below meth c A D cy QQ ad0 C E ad H locs ls I hl
  obtain ⟨iP, iD, iS, i1, i2, i3, i4⟩ := id I
  obtain ⟨hx, hb, hml, hown, hts, hN, hAO, hK, hA, hRo, hfr, hlo, hce, hsl, hnm⟩ := id C
  exact vn_f2i hx hb (by rw [hml]; exact hl.1.symm) hown (hts _ L) (hts _ L2) (hts _ L3) (hts _ L4) (by omega) (by rw [zcv_cats]; omega) hd (kk p l e R s m args below meth c A D cy QQ ad0 C E ad H locs ls I hl)
theorem s_d2bits {b : UInt64} (hd : decode M.2.2.1 pc = .ok (.invokestatic idx, 3)) (L : Cond.methodLink M.1 idx ⟨"java/lang/Double", "doubleToRawLongBits", "(D)J"⟩ ∈ zGW) (L2 : Cond.native ⟨"java/lang/Double", "doubleToRawLongBits", "(D)J"⟩ ∈ zGW) (L3 : Cond.static ⟨"java/lang/Double", "doubleToRawLongBits", "(D)J"⟩ ∈ zGW) (L4 : Cond.initialized "java/lang/Double" ∈ zGW) (hcat : (st.map fun v => v.category).sum ≤ 8) (kk : zG Z M (d + 1) Q N (pc + 3) lv (.long b.toInt64 :: st) w) : zG Z M (d + 1) Q N pc lv (.double b :: st) w := by
  intro p l e R s m args below meth c A D cy QQ ad0 C E ad H locs ls I hl
  obtain ⟨iP, iD, iS, i1, i2, i3, i4⟩ := id I
  obtain ⟨hx, hb, hml, hown, hts, hN, hAO, hK, hA, hRo, hfr, hlo, hce, hsl, hnm⟩ := id C
  exact vn_d2l hx hb (by rw [hml]; exact hl.1.symm) hown (hts _ L) (hts _ L2) (hts _ L3) (hts _ L4) (by omega) (by rw [zcv_cats]; omega) hd (kk p l e R s m args below meth c A D cy QQ ad0 C E ad H locs ls I hl)
theorem s_copyI {q0 q1 n0 n1 : Nat} {f g : Nat → Int32} {sp dp k : Int32} (hd : decode M.2.2.1 pc = .ok (.invokestatic idx, 3)) (L : Cond.methodLink M.1 idx arraycopyName ∈ zGW) (L2 : Cond.native arraycopyName ∈ zGW) (L3 : Cond.static arraycopyName ∈ zGW) (L4 : Cond.initialized "java/lang/System" ∈ zGW) (h0 : w[q0]? = some (.inl (0, n0, .inl f))) (h1 : w[q1]? = some (.inl (0, n1, .inl g))) (b1 : ¬ sp < 0) (b2 : ¬ dp < 0) (b3 : ¬ k < 0) (b4 : sp.toNatClampNeg + k.toNatClampNeg ≤ n0) (b5 : dp.toNatClampNeg + k.toNatClampNeg ≤ n1) (hcat : (st.map fun v => v.category).sum ≤ 8) (kk : zG Z M (d + 1) Q N (pc + 3) lv st (w.set q1 (.inl (0, n1, .inl (va_cpy f g sp.toNatClampNeg dp.toNatClampNeg k.toNatClampNeg))))) : zG Z M (d + 1) Q N pc lv (.int k :: .int dp :: .ref q1 :: .int sp :: .ref q0 :: st) w := by
  intro p l e R s m args below meth c A D cy QQ ad0 C E ad H locs ls I hl
  obtain ⟨iP, iD, iS, i1, i2, i3, i4⟩ := id I
  obtain ⟨hx, hb, hml, hown, hts, hN, hAO, hK, hA, hRo, hfr, hlo, hce, hsl, hnm⟩ := id C
  have hn : nativeFrameWords "java/lang/System" "arraycopy" 5 = 7 := by decide +kernel
  exact va_copyi hx hb (by rw [hml]; exact hl.1.symm) hown (hts _ L) (hts _ L2) (hts _ L3) (hts _ L4) hK iP iD iS q0 q1 0 0 (ty := .int) (zcw_at h0) (zcw_at h1) rfl rfl rfl b1 b2 b3 b4 b5 (fun _ _ => rfl) (by omega) (by rw [zcv_cats, hn]; omega) hd (fun H1 locs1 g1 g2 g3 => z_set kk C E I hl g1 g2 g3)
theorem s_copyL {q0 q1 n0 n1 : Nat} {f g : Nat → Int64} {sp dp k : Int32} (hd : decode M.2.2.1 pc = .ok (.invokestatic idx, 3)) (L : Cond.methodLink M.1 idx arraycopyName ∈ zGW) (L2 : Cond.native arraycopyName ∈ zGW) (L3 : Cond.static arraycopyName ∈ zGW) (L4 : Cond.initialized "java/lang/System" ∈ zGW) (h0 : w[q0]? = some (.inl (1, n0, .inr (.inl f)))) (h1 : w[q1]? = some (.inl (1, n1, .inr (.inl g)))) (b1 : ¬ sp < 0) (b2 : ¬ dp < 0) (b3 : ¬ k < 0) (b4 : sp.toNatClampNeg + k.toNatClampNeg ≤ n0) (b5 : dp.toNatClampNeg + k.toNatClampNeg ≤ n1) (hcat : (st.map fun v => v.category).sum ≤ 8) (kk : zG Z M (d + 1) Q N (pc + 3) lv st (w.set q1 (.inl (1, n1, .inr (.inl (va_cpy f g sp.toNatClampNeg dp.toNatClampNeg k.toNatClampNeg)))))) : zG Z M (d + 1) Q N pc lv (.int k :: .int dp :: .ref q1 :: .int sp :: .ref q0 :: st) w := by
  intro p l e R s m args below meth c A D cy QQ ad0 C E ad H locs ls I hl
  obtain ⟨iP, iD, iS, i1, i2, i3, i4⟩ := id I
  obtain ⟨hx, hb, hml, hown, hts, hN, hAO, hK, hA, hRo, hfr, hlo, hce, hsl, hnm⟩ := id C
  have hn : nativeFrameWords "java/lang/System" "arraycopy" 5 = 7 := by decide +kernel
  exact va_copyl hx hb (by rw [hml]; exact hl.1.symm) hown (hts _ L) (hts _ L2) (hts _ L3) (hts _ L4) hK iP iD iS q0 q1 1 1 (ty := .long) (zcw_at h0) (zcw_at h1) rfl rfl rfl b1 b2 b3 b4 b5 (fun _ _ => rfl) (by omega) (by rw [zcv_cats, hn]; omega) hd (fun H1 locs1 g1 g2 g3 => z_set kk C E I hl g1 g2 g3)
theorem s_anew {k : Int32} (n1 : Nat) (hd : decode M.2.2.1 pc = .ok (.anewarray idx, 3)) (L : Cond.classLink M.1 idx "CubeBodies$Tape" ∈ zGW) (hn : ¬ k < 0) (hn1 : k.toNatClampNeg = n1) (hn2 : n1 ≤ 800) (hroom : w.length + 1 ≤ N + M.2.2.2.2.2) (hcw : zclw w) (hcv : zcln w.length (lv.map (fun q => q.2))) (hcs : zcln w.length st) (kk : zG Z M d Q N (pc + 3) lv (.ref w.length :: st) (w ++ [.inl (4, n1, .inr (.inr (.inr (.inr (fun _ => none)))))])) : zG Z M d Q N pc lv (.int k :: st) w := by
  intro p l e R s m args below meth c A D cy QQ ad0 C E ad H locs ls I hl
  obtain ⟨iP, iD, iS, i1, i2, i3, i4⟩ := id I
  obtain ⟨hx, hb, hml, hown, hts, hN, hAO, hK, hA, hRo, hfr, hlo, hce, hsl, hnm⟩ := id C
  refine va_newq hx hb hown (hts _ L) hAO hK iP iD iS hA (N' := n1) hn hn1 (Nat.le_trans (Nat.mul_le_mul hn2 (Nat.le_refl 4)) (by decide)) (by omega) (by omega) hd (fun a cA H1 gK gP gD gS => ?_)
  have hcA : cA = cy 4 := by
    obtain ⟨-, -, -, -, -, g1⟩ := (gK.2 5 (cA, .object "CubeBodies$Tape") rfl).2
    obtain ⟨-, -, -, -, -, g2⟩ := (gK.2 4 (cy 4, .object "CubeBodies$Tape") rfl).2
    exact Option.some.inj (Eq.trans (Eq.symm g1) g2)
  subst hcA
  have had : ∀ i, i ≠ w.length → (fun i => if i = w.length then a else ad i) i = ad i := fun i hi => if_neg hi
  have ee : zcw (fun i => if i = w.length then a else ad i) cy (w ++ [.inl (4, n1, .inr (.inr (.inr (.inr (fun _ => none)))))]) = zcw ad cy w ++ [(a, .inl (cy 4, n1, .inr (.inr (.inr (.inr (fun _ => none))))))] := by
    rw [zcw_push, zcw_same had hcw]
    show zcw ad cy w ++ [((if w.length = w.length then a else ad w.length), Sum.inl (cy 4, n1, Sum.inr (Sum.inr (Sum.inr (Sum.inr (fun _ => none))))))] = _
    rw [if_pos rfl]
  have K := kk p l e R s m args below meth c A D cy QQ ad0 C E (fun i => if i = w.length then a else ad i) H1 locs ls ⟨by rw [ee]; exact gP, by rw [ee]; exact gD, gS, by rw [List.length_append]; show N ≤ w.length + 1; omega, by rw [List.length_append]; show w.length + 1 ≤ _; omega, i3, fun i hi => by
    rw [List.length_append] at hi
    have hi : i < N ∨ w.length + 1 ≤ i := hi
    rw [had i (by omega)]
    exact i4 i (by omega)⟩ (by rw [zcll_same had hcv]; exact hl)
  rw [List.length_append] at K
  have e1 : w.length + [(Sum.inl (4, n1, Sum.inr (Sum.inr (Sum.inr (Sum.inr (fun _ => none))))) : va_E)].length - N = w.length - N + 1 := by
    show w.length + 1 - N = w.length - N + 1
    omega
  rw [e1, List.map_cons, zcln_same had hcs] at K
  have e2 : zcv (fun i => if i = w.length then a else ad i) (.ref w.length) = .ref a := by
    show Value.ref (if w.length = w.length then a else ad w.length) = _
    rw [if_pos rfl]
  rw [e2] at K
  exact W.widen (Nat.le_refl _) (by omega) K
end ZR
end
section
/-! ===== the methods, and what links to them ===== -/
abbrev M_X7_init : zM := (RX7, yX7_init, cX7_init, 2, none, 40)
theorem k_X7_init : zMok M_X7_init := ⟨zin 77 (by decide +kernel) (by decide +kernel), zin 59 (by decide +kernel) (by decide +kernel), by decide +kernel, ⟨by decide +kernel, by decide +kernel⟩, rfl, by decide⟩
abbrev M_X2_init : zM := (RX2, yX2_init, cX2_init, 1, none, 9)
theorem k_X2_init : zMok M_X2_init := ⟨zin 85 (by decide +kernel) (by decide +kernel), zin 60 (by decide +kernel) (by decide +kernel), by decide +kernel, ⟨by decide +kernel, by decide +kernel⟩, rfl, by decide⟩
abbrev M_X3_init : zM := (RX3, yX3_init, cX3_init, 1, none, 2)
theorem k_X3_init : zMok M_X3_init := ⟨zin 91 (by decide +kernel) (by decide +kernel), zin 61 (by decide +kernel) (by decide +kernel), by decide +kernel, ⟨by decide +kernel, by decide +kernel⟩, rfl, by decide⟩
abbrev M_X6_init : zM := (RX6, yX6_init, cX6_init, 1, none, 1)
theorem k_X6_init : zMok M_X6_init := ⟨zin 132 (by decide +kernel) (by decide +kernel), zin 62 (by decide +kernel) (by decide +kernel), by decide +kernel, ⟨by decide +kernel, by decide +kernel⟩, rfl, by decide⟩
abbrev M_X4_init : zM := (RX4, yX4_init, cX4_init, 1, none, 4)
theorem k_X4_init : zMok M_X4_init := ⟨zin 147 (by decide +kernel) (by decide +kernel), zin 63 (by decide +kernel) (by decide +kernel), by decide +kernel, ⟨by decide +kernel, by decide +kernel⟩, rfl, by decide⟩
abbrev M_X5_init : zM := (RX5, yX5_init, cX5_init, 1, none, 1)
theorem k_X5_init : zMok M_X5_init := ⟨zin 173 (by decide +kernel) (by decide +kernel), zin 64 (by decide +kernel) (by decide +kernel), by decide +kernel, ⟨by decide +kernel, by decide +kernel⟩, rfl, by decide⟩
abbrev M_X7_corner : zM := (RX7, yX7_corner, cX7_corner, 4, (some .int), 0)
theorem k_X7_corner : zMok M_X7_corner := ⟨zin 210 (by decide +kernel) (by decide +kernel), zin 59 (by decide +kernel) (by decide +kernel), by decide +kernel, ⟨by decide +kernel, by decide +kernel⟩, rfl, by decide⟩
abbrev M_X7_isCorner : zM := (RX7, yX7_isCorner, cX7_isCorner, 1, (some .boolean), 0)
theorem k_X7_isCorner : zMok M_X7_isCorner := ⟨zin 213 (by decide +kernel) (by decide +kernel), zin 59 (by decide +kernel) (by decide +kernel), by decide +kernel, ⟨by decide +kernel, by decide +kernel⟩, rfl, by decide⟩
abbrev M_X7_isBit : zM := (RX7, yX7_isBit, cX7_isBit, 1, (some .boolean), 0)
theorem k_X7_isBit : zMok M_X7_isBit := ⟨zin 216 (by decide +kernel) (by decide +kernel), zin 59 (by decide +kernel) (by decide +kernel), by decide +kernel, ⟨by decide +kernel, by decide +kernel⟩, rfl, by decide⟩
abbrev M_X7_bitOf : zM := (RX7, yX7_bitOf, cX7_bitOf, 2, (some .int), 0)
theorem k_X7_bitOf : zMok M_X7_bitOf := ⟨zin 219 (by decide +kernel) (by decide +kernel), zin 59 (by decide +kernel) (by decide +kernel), by decide +kernel, ⟨by decide +kernel, by decide +kernel⟩, rfl, by decide⟩
abbrev M_X7_code : zM := (RX7, yX7_code, cX7_code, 3, (some .int), 0)
theorem k_X7_code : zMok M_X7_code := ⟨zin 223 (by decide +kernel) (by decide +kernel), zin 59 (by decide +kernel) (by decide +kernel), by decide +kernel, ⟨by decide +kernel, by decide +kernel⟩, rfl, by decide⟩
abbrev M_X7_move : zM := (RX7, yX7_move, cX7_move, 2, (some .int), 0)
theorem k_X7_move : zMok M_X7_move := ⟨zin 227 (by decide +kernel) (by decide +kernel), zin 59 (by decide +kernel) (by decide +kernel), by decide +kernel, ⟨by decide +kernel, by decide +kernel⟩, rfl, by decide⟩
abbrev M_X7_isMove : zM := (RX7, yX7_isMove, cX7_isMove, 1, (some .boolean), 0)
theorem k_X7_isMove : zMok M_X7_isMove := ⟨zin 230 (by decide +kernel) (by decide +kernel), zin 59 (by decide +kernel) (by decide +kernel), by decide +kernel, ⟨by decide +kernel, by decide +kernel⟩, rfl, by decide⟩
abbrev M_X1_imageBy : zM := (RX1, yX1_imageBy, cX1_imageBy, 4, (some .int), 0)
theorem k_X1_imageBy : zMok M_X1_imageBy := ⟨zin 233 (by decide +kernel) (by decide +kernel), zin 66 (by decide +kernel) (by decide +kernel), by decide +kernel, ⟨by decide +kernel, by decide +kernel⟩, rfl, by decide⟩
abbrev M_X1_cornerBy : zM := (RX1, yX1_cornerBy, cX1_cornerBy, 6, (some .int), 0)
theorem k_X1_cornerBy : zMok M_X1_cornerBy := ⟨zin 237 (by decide +kernel) (by decide +kernel), zin 66 (by decide +kernel) (by decide +kernel), by decide +kernel, ⟨by decide +kernel, by decide +kernel⟩, rfl, by decide⟩
abbrev M_X7_becomes : zM := (RX7, yX7_becomes, cX7_becomes, 2, (some .int), 0)
theorem k_X7_becomes : zMok M_X7_becomes := ⟨zin 243 (by decide +kernel) (by decide +kernel), zin 59 (by decide +kernel) (by decide +kernel), by decide +kernel, ⟨by decide +kernel, by decide +kernel⟩, rfl, by decide⟩
abbrev M_X2_change : zM := (RX2, yX2_change, cX2_change, 2, none, 0)
theorem k_X2_change : zMok M_X2_change := ⟨zin 247 (by decide +kernel) (by decide +kernel), zin 60 (by decide +kernel) (by decide +kernel), by decide +kernel, ⟨by decide +kernel, by decide +kernel⟩, rfl, by decide⟩
abbrev M_X1_formOf : zM := (RX1, yX1_formOf, cX1_formOf, 3, (some .int), 0)
theorem k_X1_formOf : zMok M_X1_formOf := ⟨zin 250 (by decide +kernel) (by decide +kernel), zin 66 (by decide +kernel) (by decide +kernel), by decide +kernel, ⟨by decide +kernel, by decide +kernel⟩, rfl, by decide⟩
abbrev M_X7_keep : zM := (RX7, yX7_keep, cX7_keep, 1, (some .int), 0)
theorem k_X7_keep : zMok M_X7_keep := ⟨zin 258 (by decide +kernel) (by decide +kernel), zin 59 (by decide +kernel) (by decide +kernel), by decide +kernel, ⟨by decide +kernel, by decide +kernel⟩, rfl, by decide⟩
abbrev M_X7_feed : zM := (RX7, yX7_feed, cX7_feed, 2, (some .int), 0)
theorem k_X7_feed : zMok M_X7_feed := ⟨zin 262 (by decide +kernel) (by decide +kernel), zin 59 (by decide +kernel) (by decide +kernel), by decide +kernel, ⟨by decide +kernel, by decide +kernel⟩, rfl, by decide⟩
abbrev M_X6_append : zM := (RX6, yX6_append, cX6_append, 2, (some .int), 0)
theorem k_X6_append : zMok M_X6_append := ⟨zin 266 (by decide +kernel) (by decide +kernel), zin 62 (by decide +kernel) (by decide +kernel), by decide +kernel, ⟨by decide +kernel, by decide +kernel⟩, rfl, by decide⟩
abbrev M_X7_read : zM := (RX7, yX7_read, cX7_read, 3, (some .int), 0)
theorem k_X7_read : zMok M_X7_read := ⟨zin 270 (by decide +kernel) (by decide +kernel), zin 59 (by decide +kernel) (by decide +kernel), by decide +kernel, ⟨by decide +kernel, by decide +kernel⟩, rfl, by decide⟩
abbrev M_X6_firstFault : zM := (RX6, yX6_firstFault, cX6_firstFault, 5, (some .int), 0)
theorem k_X6_firstFault : zMok M_X6_firstFault := ⟨zin 274 (by decide +kernel) (by decide +kernel), zin 62 (by decide +kernel) (by decide +kernel), by decide +kernel, ⟨by decide +kernel, by decide +kernel⟩, rfl, by decide⟩
abbrev M_X6_signAt : zM := (RX6, yX6_signAt, cX6_signAt, 2, (some .int), 0)
theorem k_X6_signAt : zMok M_X6_signAt := ⟨zin 278 (by decide +kernel) (by decide +kernel), zin 62 (by decide +kernel) (by decide +kernel), by decide +kernel, ⟨by decide +kernel, by decide +kernel⟩, rfl, by decide⟩
abbrev M_X6_mostDigits : zM := (RX6, yX6_mostDigits, cX6_mostDigits, 1, (some .int), 0)
theorem k_X6_mostDigits : zMok M_X6_mostDigits := ⟨zin 281 (by decide +kernel) (by decide +kernel), zin 62 (by decide +kernel) (by decide +kernel), by decide +kernel, ⟨by decide +kernel, by decide +kernel⟩, rfl, by decide⟩
abbrev M_X6_digitsFrom : zM := (RX6, yX6_digitsFrom, cX6_digitsFrom, 4, (some .int), 0)
theorem k_X6_digitsFrom : zMok M_X6_digitsFrom := ⟨zin 285 (by decide +kernel) (by decide +kernel), zin 62 (by decide +kernel) (by decide +kernel), by decide +kernel, ⟨by decide +kernel, by decide +kernel⟩, rfl, by decide⟩
abbrev M_X6_perform : zM := (RX6, yX6_perform, cX6_perform, 7, (some .int), 0)
theorem k_X6_perform : zMok M_X6_perform := ⟨zin 289 (by decide +kernel) (by decide +kernel), zin 62 (by decide +kernel) (by decide +kernel), by decide +kernel, ⟨by decide +kernel, by decide +kernel⟩, rfl, by decide⟩
abbrev M_X6_performClause : zM := (RX6, yX6_performClause, cX6_performClause, 5, (some .boolean), 0)
theorem k_X6_performClause : zMok M_X6_performClause := ⟨zin 293 (by decide +kernel) (by decide +kernel), zin 62 (by decide +kernel) (by decide +kernel), by decide +kernel, ⟨by decide +kernel, by decide +kernel⟩, rfl, by decide⟩
abbrev M_X6_cornersAt : zM := (RX6, yX6_cornersAt, cX6_cornersAt, 6, (some .int), 0)
theorem k_X6_cornersAt : zMok M_X6_cornersAt := ⟨zin 297 (by decide +kernel) (by decide +kernel), zin 62 (by decide +kernel) (by decide +kernel), by decide +kernel, ⟨by decide +kernel, by decide +kernel⟩, rfl, by decide⟩
abbrev M_X6_performCorners : zM := (RX6, yX6_performCorners, cX6_performCorners, 3, (some .boolean), 0)
theorem k_X6_performCorners : zMok M_X6_performCorners := ⟨zin 301 (by decide +kernel) (by decide +kernel), zin 62 (by decide +kernel) (by decide +kernel), by decide +kernel, ⟨by decide +kernel, by decide +kernel⟩, rfl, by decide⟩
abbrev M_X6_numberAt : zM := (RX6, yX6_numberAt, cX6_numberAt, 5, (some .int), 0)
theorem k_X6_numberAt : zMok M_X6_numberAt := ⟨zin 305 (by decide +kernel) (by decide +kernel), zin 62 (by decide +kernel) (by decide +kernel), by decide +kernel, ⟨by decide +kernel, by decide +kernel⟩, rfl, by decide⟩
abbrev M_X6_performMove : zM := (RX6, yX6_performMove, cX6_performMove, 2, (some .boolean), 0)
theorem k_X6_performMove : zMok M_X6_performMove := ⟨zin 308 (by decide +kernel) (by decide +kernel), zin 62 (by decide +kernel) (by decide +kernel), by decide +kernel, ⟨by decide +kernel, by decide +kernel⟩, rfl, by decide⟩
abbrev M_X7_told : zM := (RX7, yX7_told, cX7_told, 2, (some .int), 0)
theorem k_X7_told : zMok M_X7_told := ⟨zin 315 (by decide +kernel) (by decide +kernel), zin 59 (by decide +kernel) (by decide +kernel), by decide +kernel, ⟨by decide +kernel, by decide +kernel⟩, rfl, by decide⟩
abbrev M_J6_bitCount_0f7a4 : zM := (RJ6, yJ6_bitCount_0f7a4, cJ6_bitCount_0f7a4, 1, (some .int), 0)
theorem k_J6_bitCount_0f7a4 : zMok M_J6_bitCount_0f7a4 := ⟨zin 318 (by decide +kernel) (by decide +kernel), zin 68 (by decide +kernel) (by decide +kernel), by decide +kernel, ⟨by decide +kernel, by decide +kernel⟩, rfl, by decide⟩
abbrev M_X1_classOf : zM := (RX1, yX1_classOf, cX1_classOf, 3, (some .int), 0)
theorem k_X1_classOf : zMok M_X1_classOf := ⟨zin 325 (by decide +kernel) (by decide +kernel), zin 66 (by decide +kernel) (by decide +kernel), by decide +kernel, ⟨by decide +kernel, by decide +kernel⟩, rfl, by decide⟩
abbrev M_X1_unlikeImages : zM := (RX1, yX1_unlikeImages, cX1_unlikeImages, 2, (some .int), 0)
theorem k_X1_unlikeImages : zMok M_X1_unlikeImages := ⟨zin 331 (by decide +kernel) (by decide +kernel), zin 66 (by decide +kernel) (by decide +kernel), by decide +kernel, ⟨by decide +kernel, by decide +kernel⟩, rfl, by decide⟩
abbrev M_X1_stillMoves : zM := (RX1, yX1_stillMoves, cX1_stillMoves, 3, (some .int), 0)
theorem k_X1_stillMoves : zMok M_X1_stillMoves := ⟨zin 334 (by decide +kernel) (by decide +kernel), zin 66 (by decide +kernel) (by decide +kernel), by decide +kernel, ⟨by decide +kernel, by decide +kernel⟩, rfl, by decide⟩
abbrev M_X1_distance : zM := (RX1, yX1_distance, cX1_distance, 4, (some .int), 0)
theorem k_X1_distance : zMok M_X1_distance := ⟨zin 338 (by decide +kernel) (by decide +kernel), zin 66 (by decide +kernel) (by decide +kernel), by decide +kernel, ⟨by decide +kernel, by decide +kernel⟩, rfl, by decide⟩
abbrev M_X4_faceCount : zM := (RX4, yX4_faceCount, cX4_faceCount, 4, (some .int), 0)
theorem k_X4_faceCount : zMok M_X4_faceCount := ⟨zin 343 (by decide +kernel) (by decide +kernel), zin 63 (by decide +kernel) (by decide +kernel), by decide +kernel, ⟨by decide +kernel, by decide +kernel⟩, rfl, by decide⟩
abbrev M_X4_measure : zM := (RX4, yX4_measure, cX4_measure, 3, none, 0)
theorem k_X4_measure : zMok M_X4_measure := ⟨zin 347 (by decide +kernel) (by decide +kernel), zin 63 (by decide +kernel) (by decide +kernel), by decide +kernel, ⟨by decide +kernel, by decide +kernel⟩, rfl, by decide⟩
abbrev M_X4_measureBy : zM := (RX4, yX4_measureBy, cX4_measureBy, 9, none, 0)
theorem k_X4_measureBy : zMok M_X4_measureBy := ⟨zin 352 (by decide +kernel) (by decide +kernel), zin 63 (by decide +kernel) (by decide +kernel), by decide +kernel, ⟨by decide +kernel, by decide +kernel⟩, rfl, by decide⟩
abbrev M_X4_isMeasuredFace : zM := (RX4, yX4_isMeasuredFace, cX4_isMeasuredFace, 2, (some .boolean), 0)
theorem k_X4_isMeasuredFace : zMok M_X4_isMeasuredFace := ⟨zin 358 (by decide +kernel) (by decide +kernel), zin 63 (by decide +kernel) (by decide +kernel), by decide +kernel, ⟨by decide +kernel, by decide +kernel⟩, rfl, by decide⟩
abbrev M_X4_isMeasuredTop : zM := (RX4, yX4_isMeasuredTop, cX4_isMeasuredTop, 2, (some .boolean), 0)
theorem k_X4_isMeasuredTop : zMok M_X4_isMeasuredTop := ⟨zin 362 (by decide +kernel) (by decide +kernel), zin 63 (by decide +kernel) (by decide +kernel), by decide +kernel, ⟨by decide +kernel, by decide +kernel⟩, rfl, by decide⟩
abbrev M_X4_edgeCount : zM := (RX4, yX4_edgeCount, cX4_edgeCount, 4, (some .int), 0)
theorem k_X4_edgeCount : zMok M_X4_edgeCount := ⟨zin 367 (by decide +kernel) (by decide +kernel), zin 63 (by decide +kernel) (by decide +kernel), by decide +kernel, ⟨by decide +kernel, by decide +kernel⟩, rfl, by decide⟩
abbrev M_X1_dimension : zM := (RX1, yX1_dimension, cX1_dimension, 8, (some .int), 0)
theorem k_X1_dimension : zMok M_X1_dimension := ⟨zin 370 (by decide +kernel) (by decide +kernel), zin 66 (by decide +kernel) (by decide +kernel), by decide +kernel, ⟨by decide +kernel, by decide +kernel⟩, rfl, by decide⟩
abbrev M_X1_leastCorner : zM := (RX1, yX1_leastCorner, cX1_leastCorner, 2, (some .int), 0)
theorem k_X1_leastCorner : zMok M_X1_leastCorner := ⟨zin 373 (by decide +kernel) (by decide +kernel), zin 66 (by decide +kernel) (by decide +kernel), by decide +kernel, ⟨by decide +kernel, by decide +kernel⟩, rfl, by decide⟩
abbrev M_X1_determinant : zM := (RX1, yX1_determinant, cX1_determinant, 4, (some .int), 0)
theorem k_X1_determinant : zMok M_X1_determinant := ⟨zin 376 (by decide +kernel) (by decide +kernel), zin 66 (by decide +kernel) (by decide +kernel), by decide +kernel, ⟨by decide +kernel, by decide +kernel⟩, rfl, by decide⟩
abbrev M_X1_away : zM := (RX1, yX1_away, cX1_away, 3, (some .int), 0)
theorem k_X1_away : zMok M_X1_away := ⟨zin 379 (by decide +kernel) (by decide +kernel), zin 66 (by decide +kernel) (by decide +kernel), by decide +kernel, ⟨by decide +kernel, by decide +kernel⟩, rfl, by decide⟩
abbrev M_X1_minor : zM := (RX1, yX1_minor, cX1_minor, 5, (some .int), 0)
theorem k_X1_minor : zMok M_X1_minor := ⟨zin 382 (by decide +kernel) (by decide +kernel), zin 66 (by decide +kernel) (by decide +kernel), by decide +kernel, ⟨by decide +kernel, by decide +kernel⟩, rfl, by decide⟩
abbrev M_X4_sixfold : zM := (RX4, yX4_sixfold, cX4_sixfold, 2, (some .int), 0)
theorem k_X4_sixfold : zMok M_X4_sixfold := ⟨zin 386 (by decide +kernel) (by decide +kernel), zin 63 (by decide +kernel) (by decide +kernel), by decide +kernel, ⟨by decide +kernel, by decide +kernel⟩, rfl, by decide⟩
abbrev M_X4_pointsIn : zM := (RX4, yX4_pointsIn, cX4_pointsIn, 5, (some .int), 0)
theorem k_X4_pointsIn : zMok M_X4_pointsIn := ⟨zin 390 (by decide +kernel) (by decide +kernel), zin 63 (by decide +kernel) (by decide +kernel), by decide +kernel, ⟨by decide +kernel, by decide +kernel⟩, rfl, by decide⟩
abbrev M_X4_isInMeasured : zM := (RX4, yX4_isInMeasured, cX4_isInMeasured, 7, (some .boolean), 0)
theorem k_X4_isInMeasured : zMok M_X4_isInMeasured := ⟨zin 394 (by decide +kernel) (by decide +kernel), zin 63 (by decide +kernel) (by decide +kernel), by decide +kernel, ⟨by decide +kernel, by decide +kernel⟩, rfl, by decide⟩
abbrev M_X4_width : zM := (RX4, yX4_width, cX4_width, 2, (some .int), 0)
theorem k_X4_width : zMok M_X4_width := ⟨zin 398 (by decide +kernel) (by decide +kernel), zin 63 (by decide +kernel) (by decide +kernel), by decide +kernel, ⟨by decide +kernel, by decide +kernel⟩, rfl, by decide⟩
abbrev M_X7_carried : zM := (RX7, yX7_carried, cX7_carried, 3, (some .int), 0)
theorem k_X7_carried : zMok M_X7_carried := ⟨zin 402 (by decide +kernel) (by decide +kernel), zin 59 (by decide +kernel) (by decide +kernel), by decide +kernel, ⟨by decide +kernel, by decide +kernel⟩, rfl, by decide⟩
abbrev M_X7_imaged : zM := (RX7, yX7_imaged, cX7_imaged, 2, (some .int), 0)
theorem k_X7_imaged : zMok M_X7_imaged := ⟨zin 407 (by decide +kernel) (by decide +kernel), zin 59 (by decide +kernel) (by decide +kernel), by decide +kernel, ⟨by decide +kernel, by decide +kernel⟩, rfl, by decide⟩
abbrev M_X7_form : zM := (RX7, yX7_form, cX7_form, 2, (some .int), 0)
theorem k_X7_form : zMok M_X7_form := ⟨zin 411 (by decide +kernel) (by decide +kernel), zin 59 (by decide +kernel) (by decide +kernel), by decide +kernel, ⟨by decide +kernel, by decide +kernel⟩, rfl, by decide⟩
abbrev M_X7_classes : zM := (RX7, yX7_classes, cX7_classes, 2, (some .int), 0)
theorem k_X7_classes : zMok M_X7_classes := ⟨zin 416 (by decide +kernel) (by decide +kernel), zin 59 (by decide +kernel) (by decide +kernel), by decide +kernel, ⟨by decide +kernel, by decide +kernel⟩, rfl, by decide⟩
abbrev M_X1_classesWith : zM := (RX1, yX1_classesWith, cX1_classesWith, 3, (some .int), 0)
theorem k_X1_classesWith : zMok M_X1_classesWith := ⟨zin 419 (by decide +kernel) (by decide +kernel), zin 66 (by decide +kernel) (by decide +kernel), by decide +kernel, ⟨by decide +kernel, by decide +kernel⟩, rfl, by decide⟩
abbrev M_X7_weighs : zM := (RX7, yX7_weighs, cX7_weighs, 6, (some .int), 0)
theorem k_X7_weighs : zMok M_X7_weighs := ⟨zin 423 (by decide +kernel) (by decide +kernel), zin 59 (by decide +kernel) (by decide +kernel), by decide +kernel, ⟨by decide +kernel, by decide +kernel⟩, rfl, by decide⟩
abbrev M_X7_isWeight : zM := (RX7, yX7_isWeight, cX7_isWeight, 1, (some .boolean), 0)
theorem k_X7_isWeight : zMok M_X7_isWeight := ⟨zin 426 (by decide +kernel) (by decide +kernel), zin 59 (by decide +kernel) (by decide +kernel), by decide +kernel, ⟨by decide +kernel, by decide +kernel⟩, rfl, by decide⟩
abbrev M_X4_mostBy : zM := (RX4, yX4_mostBy, cX4_mostBy, 6, (some .int), 0)
theorem k_X4_mostBy : zMok M_X4_mostBy := ⟨zin 429 (by decide +kernel) (by decide +kernel), zin 63 (by decide +kernel) (by decide +kernel), by decide +kernel, ⟨by decide +kernel, by decide +kernel⟩, rfl, by decide⟩
abbrev M_X4_cornerWeight : zM := (RX4, yX4_cornerWeight, cX4_cornerWeight, 4, (some .int), 0)
theorem k_X4_cornerWeight : zMok M_X4_cornerWeight := ⟨zin 433 (by decide +kernel) (by decide +kernel), zin 63 (by decide +kernel) (by decide +kernel), by decide +kernel, ⟨by decide +kernel, by decide +kernel⟩, rfl, by decide⟩
abbrev M_X4_thoseThatWeigh : zM := (RX4, yX4_thoseThatWeigh, cX4_thoseThatWeigh, 7, (some .int), 0)
theorem k_X4_thoseThatWeigh : zMok M_X4_thoseThatWeigh := ⟨zin 439 (by decide +kernel) (by decide +kernel), zin 63 (by decide +kernel) (by decide +kernel), by decide +kernel, ⟨by decide +kernel, by decide +kernel⟩, rfl, by decide⟩
abbrev M_X7_face : zM := (RX7, yX7_face, cX7_face, 2, (some .int), 0)
theorem k_X7_face : zMok M_X7_face := ⟨zin 443 (by decide +kernel) (by decide +kernel), zin 59 (by decide +kernel) (by decide +kernel), by decide +kernel, ⟨by decide +kernel, by decide +kernel⟩, rfl, by decide⟩
abbrev M_X4_faceAt : zM := (RX4, yX4_faceAt, cX4_faceAt, 5, (some .int), 0)
theorem k_X4_faceAt : zMok M_X4_faceAt := ⟨zin 447 (by decide +kernel) (by decide +kernel), zin 63 (by decide +kernel) (by decide +kernel), by decide +kernel, ⟨by decide +kernel, by decide +kernel⟩, rfl, by decide⟩
abbrev M_X7_edge : zM := (RX7, yX7_edge, cX7_edge, 3, (some .int), 0)
theorem k_X7_edge : zMok M_X7_edge := ⟨zin 451 (by decide +kernel) (by decide +kernel), zin 59 (by decide +kernel) (by decide +kernel), by decide +kernel, ⟨by decide +kernel, by decide +kernel⟩, rfl, by decide⟩
abbrev M_X4_isEdge : zM := (RX4, yX4_isEdge, cX4_isEdge, 3, (some .boolean), 0)
theorem k_X4_isEdge : zMok M_X4_isEdge := ⟨zin 455 (by decide +kernel) (by decide +kernel), zin 63 (by decide +kernel) (by decide +kernel), by decide +kernel, ⟨by decide +kernel, by decide +kernel⟩, rfl, by decide⟩
abbrev M_X7_points : zM := (RX7, yX7_points, cX7_points, 2, (some .int), 0)
theorem k_X7_points : zMok M_X7_points := ⟨zin 459 (by decide +kernel) (by decide +kernel), zin 59 (by decide +kernel) (by decide +kernel), by decide +kernel, ⟨by decide +kernel, by decide +kernel⟩, rfl, by decide⟩
abbrev M_X7_isTimes : zM := (RX7, yX7_isTimes, cX7_isTimes, 1, (some .boolean), 0)
theorem k_X7_isTimes : zMok M_X7_isTimes := ⟨zin 462 (by decide +kernel) (by decide +kernel), zin 59 (by decide +kernel) (by decide +kernel), by decide +kernel, ⟨by decide +kernel, by decide +kernel⟩, rfl, by decide⟩
abbrev M_X7_holds : zM := (RX7, yX7_holds, cX7_holds, 5, (some .int), 0)
theorem k_X7_holds : zMok M_X7_holds := ⟨zin 467 (by decide +kernel) (by decide +kernel), zin 59 (by decide +kernel) (by decide +kernel), by decide +kernel, ⟨by decide +kernel, by decide +kernel⟩, rfl, by decide⟩
abbrev M_X7_isPlace : zM := (RX7, yX7_isPlace, cX7_isPlace, 1, (some .boolean), 0)
theorem k_X7_isPlace : zMok M_X7_isPlace := ⟨zin 470 (by decide +kernel) (by decide +kernel), zin 59 (by decide +kernel) (by decide +kernel), by decide +kernel, ⟨by decide +kernel, by decide +kernel⟩, rfl, by decide⟩
abbrev M_X4_isIn : zM := (RX4, yX4_isIn, cX4_isIn, 6, (some .boolean), 0)
theorem k_X4_isIn : zMok M_X4_isIn := ⟨zin 474 (by decide +kernel) (by decide +kernel), zin 63 (by decide +kernel) (by decide +kernel), by decide +kernel, ⟨by decide +kernel, by decide +kernel⟩, rfl, by decide⟩
abbrev M_X7_floats : zM := (RX7, yX7_floats, cX7_floats, 2, (some .int), 0)
theorem k_X7_floats : zMok M_X7_floats := ⟨zin 478 (by decide +kernel) (by decide +kernel), zin 59 (by decide +kernel) (by decide +kernel), by decide +kernel, ⟨by decide +kernel, by decide +kernel⟩, rfl, by decide⟩
abbrev M_X4_fat : zM := (RX4, yX4_fat, cX4_fat, 3, (some .float), 0)
theorem k_X4_fat : zMok M_X4_fat := ⟨zin 482 (by decide +kernel) (by decide +kernel), zin 63 (by decide +kernel) (by decide +kernel), by decide +kernel, ⟨by decide +kernel, by decide +kernel⟩, rfl, by decide⟩
abbrev M_X1_centre : zM := (RX1, yX1_centre, cX1_centre, 5, (some .float), 0)
theorem k_X1_centre : zMok M_X1_centre := ⟨zin 488 (by decide +kernel) (by decide +kernel), zin 66 (by decide +kernel) (by decide +kernel), by decide +kernel, ⟨by decide +kernel, by decide +kernel⟩, rfl, by decide⟩
abbrev M_X0_ofFloat : zM := (RX0, yX0_ofFloat, cX0_ofFloat, 2, (some .int), 0)
theorem k_X0_ofFloat : zMok M_X0_ofFloat := ⟨zin 491 (by decide +kernel) (by decide +kernel), zin 69 (by decide +kernel) (by decide +kernel), by decide +kernel, ⟨by decide +kernel, by decide +kernel⟩, rfl, by decide⟩
abbrev M_X0_exponentOf : zM := (RX0, yX0_exponentOf, cX0_exponentOf, 5, (some .int), 0)
theorem k_X0_exponentOf : zMok M_X0_exponentOf := ⟨zin 494 (by decide +kernel) (by decide +kernel), zin 69 (by decide +kernel) (by decide +kernel), by decide +kernel, ⟨by decide +kernel, by decide +kernel⟩, rfl, by decide⟩
abbrev M_X0_fractionOf : zM := (RX0, yX0_fractionOf, cX0_fractionOf, 6, (some .double), 0)
theorem k_X0_fractionOf : zMok M_X0_fractionOf := ⟨zin 498 (by decide +kernel) (by decide +kernel), zin 69 (by decide +kernel) (by decide +kernel), by decide +kernel, ⟨by decide +kernel, by decide +kernel⟩, rfl, by decide⟩
abbrev M_X7_spread : zM := (RX7, yX7_spread, cX7_spread, 1, (some .long), 0)
theorem k_X7_spread : zMok M_X7_spread := ⟨zin 503 (by decide +kernel) (by decide +kernel), zin 59 (by decide +kernel) (by decide +kernel), by decide +kernel, ⟨by decide +kernel, by decide +kernel⟩, rfl, by decide⟩
abbrev M_X1_spreadOf : zM := (RX1, yX1_spreadOf, cX1_spreadOf, 6, (some .double), 0)
theorem k_X1_spreadOf : zMok M_X1_spreadOf := ⟨zin 507 (by decide +kernel) (by decide +kernel), zin 66 (by decide +kernel) (by decide +kernel), by decide +kernel, ⟨by decide +kernel, by decide +kernel⟩, rfl, by decide⟩
abbrev M_X0_ofDouble : zM := (RX0, yX0_ofDouble, cX0_ofDouble, 3, (some .long), 0)
theorem k_X0_ofDouble : zMok M_X0_ofDouble := ⟨zin 512 (by decide +kernel) (by decide +kernel), zin 69 (by decide +kernel) (by decide +kernel), by decide +kernel, ⟨by decide +kernel, by decide +kernel⟩, rfl, by decide⟩
abbrev M_X7_see : zM := (RX7, yX7_see, cX7_see, 3, (some .int), 0)
theorem k_X7_see : zMok M_X7_see := ⟨zin 517 (by decide +kernel) (by decide +kernel), zin 59 (by decide +kernel) (by decide +kernel), by decide +kernel, ⟨by decide +kernel, by decide +kernel⟩, rfl, by decide⟩
abbrev M_X3_empty : zM := (RX3, yX3_empty, cX3_empty, 1, (some .int), 0)
theorem k_X3_empty : zMok M_X3_empty := ⟨zin 521 (by decide +kernel) (by decide +kernel), zin 61 (by decide +kernel) (by decide +kernel), by decide +kernel, ⟨by decide +kernel, by decide +kernel⟩, rfl, by decide⟩
abbrev M_X3_append : zM := (RX3, yX3_append, cX3_append, 4, (some .int), 0)
theorem k_X3_append : zMok M_X3_append := ⟨zin 525 (by decide +kernel) (by decide +kernel), zin 61 (by decide +kernel) (by decide +kernel), by decide +kernel, ⟨by decide +kernel, by decide +kernel⟩, rfl, by decide⟩
abbrev M_X7_fits : zM := (RX7, yX7_fits, cX7_fits, 3, (some .int), 0)
theorem k_X7_fits : zMok M_X7_fits := ⟨zin 529 (by decide +kernel) (by decide +kernel), zin 59 (by decide +kernel) (by decide +kernel), by decide +kernel, ⟨by decide +kernel, by decide +kernel⟩, rfl, by decide⟩
abbrev M_X7_allSeenIn : zM := (RX7, yX7_allSeenIn, cX7_allSeenIn, 3, (some .boolean), 0)
theorem k_X7_allSeenIn : zMok M_X7_allSeenIn := ⟨zin 533 (by decide +kernel) (by decide +kernel), zin 59 (by decide +kernel) (by decide +kernel), by decide +kernel, ⟨by decide +kernel, by decide +kernel⟩, rfl, by decide⟩
abbrev M_X3_whatAt : zM := (RX3, yX3_whatAt, cX3_whatAt, 2, (some .int), 0)
theorem k_X3_whatAt : zMok M_X3_whatAt := ⟨zin 537 (by decide +kernel) (by decide +kernel), zin 61 (by decide +kernel) (by decide +kernel), by decide +kernel, ⟨by decide +kernel, by decide +kernel⟩, rfl, by decide⟩
abbrev M_X7_sightOf : zM := (RX7, yX7_sightOf, cX7_sightOf, 3, (some .int), 0)
theorem k_X7_sightOf : zMok M_X7_sightOf := ⟨zin 541 (by decide +kernel) (by decide +kernel), zin 59 (by decide +kernel) (by decide +kernel), by decide +kernel, ⟨by decide +kernel, by decide +kernel⟩, rfl, by decide⟩
abbrev M_X3_numberAt : zM := (RX3, yX3_numberAt, cX3_numberAt, 2, (some .int), 0)
theorem k_X3_numberAt : zMok M_X3_numberAt := ⟨zin 545 (by decide +kernel) (by decide +kernel), zin 61 (by decide +kernel) (by decide +kernel), by decide +kernel, ⟨by decide +kernel, by decide +kernel⟩, rfl, by decide⟩
abbrev M_X7_odds : zM := (RX7, yX7_odds, cX7_odds, 3, (some .long), 0)
theorem k_X7_odds : zMok M_X7_odds := ⟨zin 549 (by decide +kernel) (by decide +kernel), zin 59 (by decide +kernel) (by decide +kernel), by decide +kernel, ⟨by decide +kernel, by decide +kernel⟩, rfl, by decide⟩
abbrev M_X1_commonOverMoves : zM := (RX1, yX1_commonOverMoves, cX1_commonOverMoves, 4, (some .int), 0)
theorem k_X1_commonOverMoves : zMok M_X1_commonOverMoves := ⟨zin 552 (by decide +kernel) (by decide +kernel), zin 66 (by decide +kernel) (by decide +kernel), by decide +kernel, ⟨by decide +kernel, by decide +kernel⟩, rfl, by decide⟩
abbrev M_X7_lowestOfMoves : zM := (RX7, yX7_lowestOfMoves, cX7_lowestOfMoves, 3, (some .long), 0)
theorem k_X7_lowestOfMoves : zMok M_X7_lowestOfMoves := ⟨zin 555 (by decide +kernel) (by decide +kernel), zin 59 (by decide +kernel) (by decide +kernel), by decide +kernel, ⟨by decide +kernel, by decide +kernel⟩, rfl, by decide⟩
abbrev M_X7_commonDivisor : zM := (RX7, yX7_commonDivisor, cX7_commonDivisor, 6, (some .int), 0)
theorem k_X7_commonDivisor : zMok M_X7_commonDivisor := ⟨zin 558 (by decide +kernel) (by decide +kernel), zin 59 (by decide +kernel) (by decide +kernel), by decide +kernel, ⟨by decide +kernel, by decide +kernel⟩, rfl, by decide⟩
abbrev M_X7_mean : zM := (RX7, yX7_mean, cX7_mean, 2, (some .long), 0)
theorem k_X7_mean : zMok M_X7_mean := ⟨zin 562 (by decide +kernel) (by decide +kernel), zin 59 (by decide +kernel) (by decide +kernel), by decide +kernel, ⟨by decide +kernel, by decide +kernel⟩, rfl, by decide⟩
abbrev M_X7_event : zM := (RX7, yX7_event, cX7_event, 3, (some .int), 0)
theorem k_X7_event : zMok M_X7_event := ⟨zin 566 (by decide +kernel) (by decide +kernel), zin 59 (by decide +kernel) (by decide +kernel), by decide +kernel, ⟨by decide +kernel, by decide +kernel⟩, rfl, by decide⟩
abbrev M_X7_after : zM := (RX7, yX7_after, cX7_after, 2, (some .int), 0)
theorem k_X7_after : zMok M_X7_after := ⟨zin 570 (by decide +kernel) (by decide +kernel), zin 59 (by decide +kernel) (by decide +kernel), by decide +kernel, ⟨by decide +kernel, by decide +kernel⟩, rfl, by decide⟩
abbrev M_X7_bodyAfterEvents : zM := (RX7, yX7_bodyAfterEvents, cX7_bodyAfterEvents, 4, (some .int), 0)
theorem k_X7_bodyAfterEvents : zMok M_X7_bodyAfterEvents := ⟨zin 574 (by decide +kernel) (by decide +kernel), zin 59 (by decide +kernel) (by decide +kernel), by decide +kernel, ⟨by decide +kernel, by decide +kernel⟩, rfl, by decide⟩
abbrev M_X7_book : zM := (RX7, yX7_book, cX7_book, 3, (some .int), 0)
theorem k_X7_book : zMok M_X7_book := ⟨zin 578 (by decide +kernel) (by decide +kernel), zin 59 (by decide +kernel) (by decide +kernel), by decide +kernel, ⟨by decide +kernel, by decide +kernel⟩, rfl, by decide⟩
abbrev M_X7_looked : zM := (RX7, yX7_looked, cX7_looked, 2, (some .int), 0)
theorem k_X7_looked : zMok M_X7_looked := ⟨zin 582 (by decide +kernel) (by decide +kernel), zin 59 (by decide +kernel) (by decide +kernel), by decide +kernel, ⟨by decide +kernel, by decide +kernel⟩, rfl, by decide⟩
abbrev M_X7_judge : zM := (RX7, yX7_judge, cX7_judge, 5, (some .int), 0)
theorem k_X7_judge : zMok M_X7_judge := ⟨zin 586 (by decide +kernel) (by decide +kernel), zin 59 (by decide +kernel) (by decide +kernel), by decide +kernel, ⟨by decide +kernel, by decide +kernel⟩, rfl, by decide⟩
abbrev M_X7_isTape : zM := (RX7, yX7_isTape, cX7_isTape, 1, (some .boolean), 0)
theorem k_X7_isTape : zMok M_X7_isTape := ⟨zin 589 (by decide +kernel) (by decide +kernel), zin 59 (by decide +kernel) (by decide +kernel), by decide +kernel, ⟨by decide +kernel, by decide +kernel⟩, rfl, by decide⟩
abbrev M_X5_holdsRow : zM := (RX5, yX5_holdsRow, cX5_holdsRow, 1, (some .boolean), 0)
theorem k_X5_holdsRow : zMok M_X5_holdsRow := ⟨zin 593 (by decide +kernel) (by decide +kernel), zin 64 (by decide +kernel) (by decide +kernel), by decide +kernel, ⟨by decide +kernel, by decide +kernel⟩, rfl, by decide⟩
abbrev M_X5_hasPlace : zM := (RX5, yX5_hasPlace, cX5_hasPlace, 2, (some .boolean), 0)
theorem k_X5_hasPlace : zMok M_X5_hasPlace := ⟨zin 597 (by decide +kernel) (by decide +kernel), zin 64 (by decide +kernel) (by decide +kernel), by decide +kernel, ⟨by decide +kernel, by decide +kernel⟩, rfl, by decide⟩
abbrev M_X5_itemAt : zM := (RX5, yX5_itemAt, cX5_itemAt, 2, (some .long), 0)
theorem k_X5_itemAt : zMok M_X5_itemAt := ⟨zin 601 (by decide +kernel) (by decide +kernel), zin 64 (by decide +kernel) (by decide +kernel), by decide +kernel, ⟨by decide +kernel, by decide +kernel⟩, rfl, by decide⟩
abbrev M_X7_image : zM := (RX7, yX7_image, cX7_image, 1, (some .int), 0)
theorem k_X7_image : zMok M_X7_image := ⟨zin 606 (by decide +kernel) (by decide +kernel), zin 59 (by decide +kernel) (by decide +kernel), by decide +kernel, ⟨by decide +kernel, by decide +kernel⟩, rfl, by decide⟩
abbrev M_X2_copyFrom : zM := (RX2, yX2_copyFrom, cX2_copyFrom, 2, none, 0)
theorem k_X2_copyFrom : zMok M_X2_copyFrom := ⟨zin 610 (by decide +kernel) (by decide +kernel), zin 60 (by decide +kernel) (by decide +kernel), by decide +kernel, ⟨by decide +kernel, by decide +kernel⟩, rfl, by decide⟩
abbrev M_X3_copyFrom : zM := (RX3, yX3_copyFrom, cX3_copyFrom, 2, none, 0)
theorem k_X3_copyFrom : zMok M_X3_copyFrom := ⟨zin 614 (by decide +kernel) (by decide +kernel), zin 61 (by decide +kernel) (by decide +kernel), by decide +kernel, ⟨by decide +kernel, by decide +kernel⟩, rfl, by decide⟩
abbrev M_X7_undo : zM := (RX7, yX7_undo, cX7_undo, 1, (some .int), 0)
theorem k_X7_undo : zMok M_X7_undo := ⟨zin 621 (by decide +kernel) (by decide +kernel), zin 59 (by decide +kernel) (by decide +kernel), by decide +kernel, ⟨by decide +kernel, by decide +kernel⟩, rfl, by decide⟩
abbrev M_X7_count : zM := (RX7, yX7_count, cX7_count, 2, (some .int), 0)
theorem k_X7_count : zMok M_X7_count := ⟨zin 625 (by decide +kernel) (by decide +kernel), zin 59 (by decide +kernel) (by decide +kernel), by decide +kernel, ⟨by decide +kernel, by decide +kernel⟩, rfl, by decide⟩
abbrev M_X7_tape : zM := (RX7, yX7_tape, cX7_tape, 4, (some .int), 0)
theorem k_X7_tape : zMok M_X7_tape := ⟨zin 629 (by decide +kernel) (by decide +kernel), zin 59 (by decide +kernel) (by decide +kernel), by decide +kernel, ⟨by decide +kernel, by decide +kernel⟩, rfl, by decide⟩
abbrev M_X5_becomeRow : zM := (RX5, yX5_becomeRow, cX5_becomeRow, 4, none, 0)
theorem k_X5_becomeRow : zMok M_X5_becomeRow := ⟨zin 633 (by decide +kernel) (by decide +kernel), zin 64 (by decide +kernel) (by decide +kernel), by decide +kernel, ⟨by decide +kernel, by decide +kernel⟩, rfl, by decide⟩
abbrev M_X7_item : zM := (RX7, yX7_item, cX7_item, 6, (some .int), 0)
theorem k_X7_item : zMok M_X7_item := ⟨zin 637 (by decide +kernel) (by decide +kernel), zin 59 (by decide +kernel) (by decide +kernel), by decide +kernel, ⟨by decide +kernel, by decide +kernel⟩, rfl, by decide⟩
abbrev M_X5_put : zM := (RX5, yX5_put, cX5_put, 4, none, 0)
theorem k_X5_put : zMok M_X5_put := ⟨zin 641 (by decide +kernel) (by decide +kernel), zin 64 (by decide +kernel) (by decide +kernel), by decide +kernel, ⟨by decide +kernel, by decide +kernel⟩, rfl, by decide⟩
abbrev M_X5_cut : zM := (RX5, yX5_cut, cX5_cut, 3, (some .long), 0)
theorem k_X5_cut : zMok M_X5_cut := ⟨zin 645 (by decide +kernel) (by decide +kernel), zin 64 (by decide +kernel) (by decide +kernel), by decide +kernel, ⟨by decide +kernel, by decide +kernel⟩, rfl, by decide⟩
abbrev M_X7_peek : zM := (RX7, yX7_peek, cX7_peek, 3, (some .long), 0)
theorem k_X7_peek : zMok M_X7_peek := ⟨zin 649 (by decide +kernel) (by decide +kernel), zin 59 (by decide +kernel) (by decide +kernel), by decide +kernel, ⟨by decide +kernel, by decide +kernel⟩, rfl, by decide⟩
abbrev M_X7_shift : zM := (RX7, yX7_shift, cX7_shift, 8, (some .int), 0)
theorem k_X7_shift : zMok M_X7_shift := ⟨zin 653 (by decide +kernel) (by decide +kernel), zin 59 (by decide +kernel) (by decide +kernel), by decide +kernel, ⟨by decide +kernel, by decide +kernel⟩, rfl, by decide⟩
abbrev M_X5_hasRun : zM := (RX5, yX5_hasRun, cX5_hasRun, 3, (some .boolean), 0)
theorem k_X5_hasRun : zMok M_X5_hasRun := ⟨zin 657 (by decide +kernel) (by decide +kernel), zin 64 (by decide +kernel) (by decide +kernel), by decide +kernel, ⟨by decide +kernel, by decide +kernel⟩, rfl, by decide⟩
abbrev M_X8_init : zM := (RX8, yX8_init, cX8_init, 6, none, 21)
theorem k_X8_init : zMok M_X8_init := ⟨zin 663 (by decide +kernel) (by decide +kernel), zin 65 (by decide +kernel) (by decide +kernel), by decide +kernel, ⟨by decide +kernel, by decide +kernel⟩, rfl, by decide⟩
abbrev M_X8_imageOf : zM := (RX8, yX8_imageOf, cX8_imageOf, 5, (some .int), 0)
theorem k_X8_imageOf : zMok M_X8_imageOf := ⟨zin 668 (by decide +kernel) (by decide +kernel), zin 65 (by decide +kernel) (by decide +kernel), by decide +kernel, ⟨by decide +kernel, by decide +kernel⟩, rfl, by decide⟩
abbrev M_X8_corner : zM := (RX8, yX8_corner, cX8_corner, 4, (some .int), 0)
theorem k_X8_corner : zMok M_X8_corner := ⟨zin 770 (by decide +kernel) (by decide +kernel), zin 65 (by decide +kernel) (by decide +kernel), by decide +kernel, ⟨by decide +kernel, by decide +kernel⟩, rfl, by decide⟩
abbrev M_X8_isCorner : zM := (RX8, yX8_isCorner, cX8_isCorner, 1, (some .boolean), 0)
theorem k_X8_isCorner : zMok M_X8_isCorner := ⟨zin 773 (by decide +kernel) (by decide +kernel), zin 65 (by decide +kernel) (by decide +kernel), by decide +kernel, ⟨by decide +kernel, by decide +kernel⟩, rfl, by decide⟩
abbrev M_X8_isIn : zM := (RX8, yX8_isIn, cX8_isIn, 3, (some .boolean), 0)
theorem k_X8_isIn : zMok M_X8_isIn := ⟨zin 776 (by decide +kernel) (by decide +kernel), zin 65 (by decide +kernel) (by decide +kernel), by decide +kernel, ⟨by decide +kernel, by decide +kernel⟩, rfl, by decide⟩
abbrev M_X8_code : zM := (RX8, yX8_code, cX8_code, 3, (some .int), 0)
theorem k_X8_code : zMok M_X8_code := ⟨zin 780 (by decide +kernel) (by decide +kernel), zin 65 (by decide +kernel) (by decide +kernel), by decide +kernel, ⟨by decide +kernel, by decide +kernel⟩, rfl, by decide⟩
abbrev M_X8_move : zM := (RX8, yX8_move, cX8_move, 2, (some .int), 0)
theorem k_X8_move : zMok M_X8_move := ⟨zin 784 (by decide +kernel) (by decide +kernel), zin 65 (by decide +kernel) (by decide +kernel), by decide +kernel, ⟨by decide +kernel, by decide +kernel⟩, rfl, by decide⟩
abbrev M_X8_isMove : zM := (RX8, yX8_isMove, cX8_isMove, 1, (some .boolean), 0)
theorem k_X8_isMove : zMok M_X8_isMove := ⟨zin 787 (by decide +kernel) (by decide +kernel), zin 65 (by decide +kernel) (by decide +kernel), by decide +kernel, ⟨by decide +kernel, by decide +kernel⟩, rfl, by decide⟩
abbrev M_X8_becomes : zM := (RX8, yX8_becomes, cX8_becomes, 2, (some .int), 0)
theorem k_X8_becomes : zMok M_X8_becomes := ⟨zin 791 (by decide +kernel) (by decide +kernel), zin 65 (by decide +kernel) (by decide +kernel), by decide +kernel, ⟨by decide +kernel, by decide +kernel⟩, rfl, by decide⟩
abbrev M_X8_keep : zM := (RX8, yX8_keep, cX8_keep, 1, (some .int), 0)
theorem k_X8_keep : zMok M_X8_keep := ⟨zin 795 (by decide +kernel) (by decide +kernel), zin 65 (by decide +kernel) (by decide +kernel), by decide +kernel, ⟨by decide +kernel, by decide +kernel⟩, rfl, by decide⟩
abbrev M_X8_feed : zM := (RX8, yX8_feed, cX8_feed, 2, (some .int), 0)
theorem k_X8_feed : zMok M_X8_feed := ⟨zin 799 (by decide +kernel) (by decide +kernel), zin 65 (by decide +kernel) (by decide +kernel), by decide +kernel, ⟨by decide +kernel, by decide +kernel⟩, rfl, by decide⟩
abbrev M_X8_read : zM := (RX8, yX8_read, cX8_read, 4, (some .int), 0)
theorem k_X8_read : zMok M_X8_read := ⟨zin 803 (by decide +kernel) (by decide +kernel), zin 65 (by decide +kernel) (by decide +kernel), by decide +kernel, ⟨by decide +kernel, by decide +kernel⟩, rfl, by decide⟩
abbrev M_X8_readsAll : zM := (RX8, yX8_readsAll, cX8_readsAll, 2, (some .boolean), 0)
theorem k_X8_readsAll : zMok M_X8_readsAll := ⟨zin 807 (by decide +kernel) (by decide +kernel), zin 65 (by decide +kernel) (by decide +kernel), by decide +kernel, ⟨by decide +kernel, by decide +kernel⟩, rfl, by decide⟩
abbrev M_X8_readsClause : zM := (RX8, yX8_readsClause, cX8_readsClause, 3, (some .boolean), 0)
theorem k_X8_readsClause : zMok M_X8_readsClause := ⟨zin 811 (by decide +kernel) (by decide +kernel), zin 65 (by decide +kernel) (by decide +kernel), by decide +kernel, ⟨by decide +kernel, by decide +kernel⟩, rfl, by decide⟩
abbrev M_X8_next : zM := (RX8, yX8_next, cX8_next, 1, (some .int), 0)
theorem k_X8_next : zMok M_X8_next := ⟨zin 815 (by decide +kernel) (by decide +kernel), zin 65 (by decide +kernel) (by decide +kernel), by decide +kernel, ⟨by decide +kernel, by decide +kernel⟩, rfl, by decide⟩
abbrev M_X8_readsDigits : zM := (RX8, yX8_readsDigits, cX8_readsDigits, 6, (some .int), 0)
theorem k_X8_readsDigits : zMok M_X8_readsDigits := ⟨zin 819 (by decide +kernel) (by decide +kernel), zin 65 (by decide +kernel) (by decide +kernel), by decide +kernel, ⟨by decide +kernel, by decide +kernel⟩, rfl, by decide⟩
abbrev M_X8_isDigit : zM := (RX8, yX8_isDigit, cX8_isDigit, 1, (some .boolean), 0)
theorem k_X8_isDigit : zMok M_X8_isDigit := ⟨zin 823 (by decide +kernel) (by decide +kernel), zin 65 (by decide +kernel) (by decide +kernel), by decide +kernel, ⟨by decide +kernel, by decide +kernel⟩, rfl, by decide⟩
abbrev M_X8_does : zM := (RX8, yX8_does, cX8_does, 3, (some .int), 0)
theorem k_X8_does : zMok M_X8_does := ⟨zin 827 (by decide +kernel) (by decide +kernel), zin 65 (by decide +kernel) (by decide +kernel), by decide +kernel, ⟨by decide +kernel, by decide +kernel⟩, rfl, by decide⟩
abbrev M_X8_set : zM := (RX8, yX8_set, cX8_set, 2, (some .int), 0)
theorem k_X8_set : zMok M_X8_set := ⟨zin 831 (by decide +kernel) (by decide +kernel), zin 65 (by decide +kernel) (by decide +kernel), by decide +kernel, ⟨by decide +kernel, by decide +kernel⟩, rfl, by decide⟩
abbrev M_X8_told : zM := (RX8, yX8_told, cX8_told, 2, (some .int), 0)
theorem k_X8_told : zMok M_X8_told := ⟨zin 838 (by decide +kernel) (by decide +kernel), zin 65 (by decide +kernel) (by decide +kernel), by decide +kernel, ⟨by decide +kernel, by decide +kernel⟩, rfl, by decide⟩
abbrev M_X8_bits : zM := (RX8, yX8_bits, cX8_bits, 3, (some .int), 0)
theorem k_X8_bits : zMok M_X8_bits := ⟨zin 841 (by decide +kernel) (by decide +kernel), zin 65 (by decide +kernel) (by decide +kernel), by decide +kernel, ⟨by decide +kernel, by decide +kernel⟩, rfl, by decide⟩
abbrev M_X8_likes : zM := (RX8, yX8_likes, cX8_likes, 4, (some .int), 0)
theorem k_X8_likes : zMok M_X8_likes := ⟨zin 845 (by decide +kernel) (by decide +kernel), zin 65 (by decide +kernel) (by decide +kernel), by decide +kernel, ⟨by decide +kernel, by decide +kernel⟩, rfl, by decide⟩
abbrev M_X8_stills : zM := (RX8, yX8_stills, cX8_stills, 4, (some .int), 0)
theorem k_X8_stills : zMok M_X8_stills := ⟨zin 849 (by decide +kernel) (by decide +kernel), zin 65 (by decide +kernel) (by decide +kernel), by decide +kernel, ⟨by decide +kernel, by decide +kernel⟩, rfl, by decide⟩
abbrev M_X8_far : zM := (RX8, yX8_far, cX8_far, 4, (some .int), 0)
theorem k_X8_far : zMok M_X8_far := ⟨zin 853 (by decide +kernel) (by decide +kernel), zin 65 (by decide +kernel) (by decide +kernel), by decide +kernel, ⟨by decide +kernel, by decide +kernel⟩, rfl, by decide⟩
abbrev M_X8_findFaces : zM := (RX8, yX8_findFaces, cX8_findFaces, 4, (some .int), 0)
theorem k_X8_findFaces : zMok M_X8_findFaces := ⟨zin 857 (by decide +kernel) (by decide +kernel), zin 65 (by decide +kernel) (by decide +kernel), by decide +kernel, ⟨by decide +kernel, by decide +kernel⟩, rfl, by decide⟩
abbrev M_X8_heaviest : zM := (RX8, yX8_heaviest, cX8_heaviest, 5, (some .int), 0)
theorem k_X8_heaviest : zMok M_X8_heaviest := ⟨zin 860 (by decide +kernel) (by decide +kernel), zin 65 (by decide +kernel) (by decide +kernel), by decide +kernel, ⟨by decide +kernel, by decide +kernel⟩, rfl, by decide⟩
abbrev M_X8_mostOf : zM := (RX8, yX8_mostOf, cX8_mostOf, 4, (some .int), 0)
theorem k_X8_mostOf : zMok M_X8_mostOf := ⟨zin 863 (by decide +kernel) (by decide +kernel), zin 65 (by decide +kernel) (by decide +kernel), by decide +kernel, ⟨by decide +kernel, by decide +kernel⟩, rfl, by decide⟩
abbrev M_X8_weighsCorner : zM := (RX8, yX8_weighsCorner, cX8_weighsCorner, 2, (some .int), 0)
theorem k_X8_weighsCorner : zMok M_X8_weighsCorner := ⟨zin 866 (by decide +kernel) (by decide +kernel), zin 65 (by decide +kernel) (by decide +kernel), by decide +kernel, ⟨by decide +kernel, by decide +kernel⟩, rfl, by decide⟩
abbrev M_X8_weighsAt : zM := (RX8, yX8_weighsAt, cX8_weighsAt, 4, (some .int), 0)
theorem k_X8_weighsAt : zMok M_X8_weighsAt := ⟨zin 869 (by decide +kernel) (by decide +kernel), zin 65 (by decide +kernel) (by decide +kernel), by decide +kernel, ⟨by decide +kernel, by decide +kernel⟩, rfl, by decide⟩
abbrev M_X8_weightAt : zM := (RX8, yX8_weightAt, cX8_weightAt, 2, (some .int), 0)
theorem k_X8_weightAt : zMok M_X8_weightAt := ⟨zin 872 (by decide +kernel) (by decide +kernel), zin 65 (by decide +kernel) (by decide +kernel), by decide +kernel, ⟨by decide +kernel, by decide +kernel⟩, rfl, by decide⟩
abbrev M_X8_isNought : zM := (RX8, yX8_isNought, cX8_isNought, 1, (some .boolean), 0)
theorem k_X8_isNought : zMok M_X8_isNought := ⟨zin 875 (by decide +kernel) (by decide +kernel), zin 65 (by decide +kernel) (by decide +kernel), by decide +kernel, ⟨by decide +kernel, by decide +kernel⟩, rfl, by decide⟩
abbrev M_X8_edgesOf : zM := (RX8, yX8_edgesOf, cX8_edgesOf, 4, (some .int), 0)
theorem k_X8_edgesOf : zMok M_X8_edgesOf := ⟨zin 878 (by decide +kernel) (by decide +kernel), zin 65 (by decide +kernel) (by decide +kernel), by decide +kernel, ⟨by decide +kernel, by decide +kernel⟩, rfl, by decide⟩
abbrev M_X8_isEdge : zM := (RX8, yX8_isEdge, cX8_isEdge, 5, (some .boolean), 0)
theorem k_X8_isEdge : zMok M_X8_isEdge := ⟨zin 881 (by decide +kernel) (by decide +kernel), zin 65 (by decide +kernel) (by decide +kernel), by decide +kernel, ⟨by decide +kernel, by decide +kernel⟩, rfl, by decide⟩
abbrev M_X8_dimension : zM := (RX8, yX8_dimension, cX8_dimension, 10, (some .int), 0)
theorem k_X8_dimension : zMok M_X8_dimension := ⟨zin 885 (by decide +kernel) (by decide +kernel), zin 65 (by decide +kernel) (by decide +kernel), by decide +kernel, ⟨by decide +kernel, by decide +kernel⟩, rfl, by decide⟩
abbrev M_X8_sixfold : zM := (RX8, yX8_sixfold, cX8_sixfold, 1, (some .int), 0)
theorem k_X8_sixfold : zMok M_X8_sixfold := ⟨zin 888 (by decide +kernel) (by decide +kernel), zin 65 (by decide +kernel) (by decide +kernel), by decide +kernel, ⟨by decide +kernel, by decide +kernel⟩, rfl, by decide⟩
abbrev M_X8_pointsOf : zM := (RX8, yX8_pointsOf, cX8_pointsOf, 4, (some .int), 0)
theorem k_X8_pointsOf : zMok M_X8_pointsOf := ⟨zin 891 (by decide +kernel) (by decide +kernel), zin 65 (by decide +kernel) (by decide +kernel), by decide +kernel, ⟨by decide +kernel, by decide +kernel⟩, rfl, by decide⟩
abbrev M_X8_isWithin : zM := (RX8, yX8_isWithin, cX8_isWithin, 7, (some .boolean), 0)
theorem k_X8_isWithin : zMok M_X8_isWithin := ⟨zin 894 (by decide +kernel) (by decide +kernel), zin 65 (by decide +kernel) (by decide +kernel), by decide +kernel, ⟨by decide +kernel, by decide +kernel⟩, rfl, by decide⟩
abbrev M_X8_width : zM := (RX8, yX8_width, cX8_width, 4, (some .int), 0)
theorem k_X8_width : zMok M_X8_width := ⟨zin 897 (by decide +kernel) (by decide +kernel), zin 65 (by decide +kernel) (by decide +kernel), by decide +kernel, ⟨by decide +kernel, by decide +kernel⟩, rfl, by decide⟩
abbrev M_X8_leastOf : zM := (RX8, yX8_leastOf, cX8_leastOf, 2, (some .int), 0)
theorem k_X8_leastOf : zMok M_X8_leastOf := ⟨zin 900 (by decide +kernel) (by decide +kernel), zin 65 (by decide +kernel) (by decide +kernel), by decide +kernel, ⟨by decide +kernel, by decide +kernel⟩, rfl, by decide⟩
abbrev M_X8_carried : zM := (RX8, yX8_carried, cX8_carried, 3, (some .int), 0)
theorem k_X8_carried : zMok M_X8_carried := ⟨zin 904 (by decide +kernel) (by decide +kernel), zin 65 (by decide +kernel) (by decide +kernel), by decide +kernel, ⟨by decide +kernel, by decide +kernel⟩, rfl, by decide⟩
abbrev M_X8_imaged : zM := (RX8, yX8_imaged, cX8_imaged, 2, (some .int), 0)
theorem k_X8_imaged : zMok M_X8_imaged := ⟨zin 908 (by decide +kernel) (by decide +kernel), zin 65 (by decide +kernel) (by decide +kernel), by decide +kernel, ⟨by decide +kernel, by decide +kernel⟩, rfl, by decide⟩
abbrev M_X8_form : zM := (RX8, yX8_form, cX8_form, 3, (some .int), 0)
theorem k_X8_form : zMok M_X8_form := ⟨zin 912 (by decide +kernel) (by decide +kernel), zin 65 (by decide +kernel) (by decide +kernel), by decide +kernel, ⟨by decide +kernel, by decide +kernel⟩, rfl, by decide⟩
abbrev M_X8_classes : zM := (RX8, yX8_classes, cX8_classes, 4, (some .int), 0)
theorem k_X8_classes : zMok M_X8_classes := ⟨zin 916 (by decide +kernel) (by decide +kernel), zin 65 (by decide +kernel) (by decide +kernel), by decide +kernel, ⟨by decide +kernel, by decide +kernel⟩, rfl, by decide⟩
abbrev M_X8_weighs : zM := (RX8, yX8_weighs, cX8_weighs, 6, (some .int), 0)
theorem k_X8_weighs : zMok M_X8_weighs := ⟨zin 920 (by decide +kernel) (by decide +kernel), zin 65 (by decide +kernel) (by decide +kernel), by decide +kernel, ⟨by decide +kernel, by decide +kernel⟩, rfl, by decide⟩
abbrev M_X8_face : zM := (RX8, yX8_face, cX8_face, 5, (some .int), 0)
theorem k_X8_face : zMok M_X8_face := ⟨zin 924 (by decide +kernel) (by decide +kernel), zin 65 (by decide +kernel) (by decide +kernel), by decide +kernel, ⟨by decide +kernel, by decide +kernel⟩, rfl, by decide⟩
abbrev M_X8_edge : zM := (RX8, yX8_edge, cX8_edge, 3, (some .int), 0)
theorem k_X8_edge : zMok M_X8_edge := ⟨zin 928 (by decide +kernel) (by decide +kernel), zin 65 (by decide +kernel) (by decide +kernel), by decide +kernel, ⟨by decide +kernel, by decide +kernel⟩, rfl, by decide⟩
abbrev M_X8_points : zM := (RX8, yX8_points, cX8_points, 2, (some .int), 0)
theorem k_X8_points : zMok M_X8_points := ⟨zin 932 (by decide +kernel) (by decide +kernel), zin 65 (by decide +kernel) (by decide +kernel), by decide +kernel, ⟨by decide +kernel, by decide +kernel⟩, rfl, by decide⟩
abbrev M_X8_holds : zM := (RX8, yX8_holds, cX8_holds, 5, (some .int), 0)
theorem k_X8_holds : zMok M_X8_holds := ⟨zin 936 (by decide +kernel) (by decide +kernel), zin 65 (by decide +kernel) (by decide +kernel), by decide +kernel, ⟨by decide +kernel, by decide +kernel⟩, rfl, by decide⟩
abbrev M_X8_floats : zM := (RX8, yX8_floats, cX8_floats, 2, (some .int), 0)
theorem k_X8_floats : zMok M_X8_floats := ⟨zin 940 (by decide +kernel) (by decide +kernel), zin 65 (by decide +kernel) (by decide +kernel), by decide +kernel, ⟨by decide +kernel, by decide +kernel⟩, rfl, by decide⟩
abbrev M_X8_fat : zM := (RX8, yX8_fat, cX8_fat, 2, (some .float), 0)
theorem k_X8_fat : zMok M_X8_fat := ⟨zin 944 (by decide +kernel) (by decide +kernel), zin 65 (by decide +kernel) (by decide +kernel), by decide +kernel, ⟨by decide +kernel, by decide +kernel⟩, rfl, by decide⟩
abbrev M_X8_centre : zM := (RX8, yX8_centre, cX8_centre, 4, (some .float), 0)
theorem k_X8_centre : zMok M_X8_centre := ⟨zin 949 (by decide +kernel) (by decide +kernel), zin 65 (by decide +kernel) (by decide +kernel), by decide +kernel, ⟨by decide +kernel, by decide +kernel⟩, rfl, by decide⟩
abbrev M_Jxf58ca_floatToIntBits_5c35a : zM := (RJxf58ca, yJxf58ca_floatToIntBits_5c35a, cJxf58ca_floatToIntBits_5c35a, 1, (some .int), 0)
theorem k_Jxf58ca_floatToIntBits_5c35a : zMok M_Jxf58ca_floatToIntBits_5c35a := ⟨zin 952 (by decide +kernel) (by decide +kernel), zin 70 (by decide +kernel) (by decide +kernel), by decide +kernel, ⟨by decide +kernel, by decide +kernel⟩, rfl, by decide⟩
abbrev M_Jxf58ca_isNaN_12338 : zM := (RJxf58ca, yJxf58ca_isNaN_12338, cJxf58ca_isNaN_12338, 1, (some .boolean), 0)
theorem k_Jxf58ca_isNaN_12338 : zMok M_Jxf58ca_isNaN_12338 := ⟨zin 955 (by decide +kernel) (by decide +kernel), zin 70 (by decide +kernel) (by decide +kernel), by decide +kernel, ⟨by decide +kernel, by decide +kernel⟩, rfl, by decide⟩
abbrev M_X8_spread : zM := (RX8, yX8_spread, cX8_spread, 6, (some .long), 0)
theorem k_X8_spread : zMok M_X8_spread := ⟨zin 963 (by decide +kernel) (by decide +kernel), zin 65 (by decide +kernel) (by decide +kernel), by decide +kernel, ⟨by decide +kernel, by decide +kernel⟩, rfl, by decide⟩
abbrev M_Jxe99ae_doubleToLongBits_ccdee : zM := (RJxe99ae, yJxe99ae_doubleToLongBits_ccdee, cJxe99ae_doubleToLongBits_ccdee, 2, (some .long), 0)
theorem k_Jxe99ae_doubleToLongBits_ccdee : zMok M_Jxe99ae_doubleToLongBits_ccdee := ⟨zin 968 (by decide +kernel) (by decide +kernel), zin 71 (by decide +kernel) (by decide +kernel), by decide +kernel, ⟨by decide +kernel, by decide +kernel⟩, rfl, by decide⟩
abbrev M_Jxe99ae_isNaN_b9ae7 : zM := (RJxe99ae, yJxe99ae_isNaN_b9ae7, cJxe99ae_isNaN_b9ae7, 2, (some .boolean), 0)
theorem k_Jxe99ae_isNaN_b9ae7 : zMok M_Jxe99ae_isNaN_b9ae7 := ⟨zin 971 (by decide +kernel) (by decide +kernel), zin 71 (by decide +kernel) (by decide +kernel), by decide +kernel, ⟨by decide +kernel, by decide +kernel⟩, rfl, by decide⟩
abbrev M_X8_see : zM := (RX8, yX8_see, cX8_see, 3, (some .int), 0)
theorem k_X8_see : zMok M_X8_see := ⟨zin 979 (by decide +kernel) (by decide +kernel), zin 65 (by decide +kernel) (by decide +kernel), by decide +kernel, ⟨by decide +kernel, by decide +kernel⟩, rfl, by decide⟩
abbrev M_X8_fits : zM := (RX8, yX8_fits, cX8_fits, 5, (some .int), 0)
theorem k_X8_fits : zMok M_X8_fits := ⟨zin 983 (by decide +kernel) (by decide +kernel), zin 65 (by decide +kernel) (by decide +kernel), by decide +kernel, ⟨by decide +kernel, by decide +kernel⟩, rfl, by decide⟩
abbrev M_X8_isSeen : zM := (RX8, yX8_isSeen, cX8_isSeen, 4, (some .boolean), 0)
theorem k_X8_isSeen : zMok M_X8_isSeen := ⟨zin 987 (by decide +kernel) (by decide +kernel), zin 65 (by decide +kernel) (by decide +kernel), by decide +kernel, ⟨by decide +kernel, by decide +kernel⟩, rfl, by decide⟩
abbrev M_X8_odds : zM := (RX8, yX8_odds, cX8_odds, 5, (some .long), 0)
theorem k_X8_odds : zMok M_X8_odds := ⟨zin 991 (by decide +kernel) (by decide +kernel), zin 65 (by decide +kernel) (by decide +kernel), by decide +kernel, ⟨by decide +kernel, by decide +kernel⟩, rfl, by decide⟩
abbrev M_X8_partOf : zM := (RX8, yX8_partOf, cX8_partOf, 6, (some .long), 0)
theorem k_X8_partOf : zMok M_X8_partOf := ⟨zin 994 (by decide +kernel) (by decide +kernel), zin 65 (by decide +kernel) (by decide +kernel), by decide +kernel, ⟨by decide +kernel, by decide +kernel⟩, rfl, by decide⟩
abbrev M_X8_mean : zM := (RX8, yX8_mean, cX8_mean, 4, (some .long), 0)
theorem k_X8_mean : zMok M_X8_mean := ⟨zin 998 (by decide +kernel) (by decide +kernel), zin 65 (by decide +kernel) (by decide +kernel), by decide +kernel, ⟨by decide +kernel, by decide +kernel⟩, rfl, by decide⟩
abbrev M_X8_event : zM := (RX8, yX8_event, cX8_event, 3, (some .int), 0)
theorem k_X8_event : zMok M_X8_event := ⟨zin 1002 (by decide +kernel) (by decide +kernel), zin 65 (by decide +kernel) (by decide +kernel), by decide +kernel, ⟨by decide +kernel, by decide +kernel⟩, rfl, by decide⟩
abbrev M_X8_after : zM := (RX8, yX8_after, cX8_after, 4, (some .int), 0)
theorem k_X8_after : zMok M_X8_after := ⟨zin 1006 (by decide +kernel) (by decide +kernel), zin 65 (by decide +kernel) (by decide +kernel), by decide +kernel, ⟨by decide +kernel, by decide +kernel⟩, rfl, by decide⟩
abbrev M_X8_book : zM := (RX8, yX8_book, cX8_book, 3, (some .int), 0)
theorem k_X8_book : zMok M_X8_book := ⟨zin 1010 (by decide +kernel) (by decide +kernel), zin 65 (by decide +kernel) (by decide +kernel), by decide +kernel, ⟨by decide +kernel, by decide +kernel⟩, rfl, by decide⟩
abbrev M_X8_looked : zM := (RX8, yX8_looked, cX8_looked, 2, (some .int), 0)
theorem k_X8_looked : zMok M_X8_looked := ⟨zin 1014 (by decide +kernel) (by decide +kernel), zin 65 (by decide +kernel) (by decide +kernel), by decide +kernel, ⟨by decide +kernel, by decide +kernel⟩, rfl, by decide⟩
abbrev M_X8_judge : zM := (RX8, yX8_judge, cX8_judge, 4, (some .int), 0)
theorem k_X8_judge : zMok M_X8_judge := ⟨zin 1018 (by decide +kernel) (by decide +kernel), zin 65 (by decide +kernel) (by decide +kernel), by decide +kernel, ⟨by decide +kernel, by decide +kernel⟩, rfl, by decide⟩
abbrev M_X8_isTape : zM := (RX8, yX8_isTape, cX8_isTape, 1, (some .boolean), 0)
theorem k_X8_isTape : zMok M_X8_isTape := ⟨zin 1021 (by decide +kernel) (by decide +kernel), zin 65 (by decide +kernel) (by decide +kernel), by decide +kernel, ⟨by decide +kernel, by decide +kernel⟩, rfl, by decide⟩
abbrev M_X8_image : zM := (RX8, yX8_image, cX8_image, 1, (some .int), 0)
theorem k_X8_image : zMok M_X8_image := ⟨zin 1025 (by decide +kernel) (by decide +kernel), zin 65 (by decide +kernel) (by decide +kernel), by decide +kernel, ⟨by decide +kernel, by decide +kernel⟩, rfl, by decide⟩
abbrev M_X8_passesAll : zM := (RX8, yX8_passesAll, cX8_passesAll, 2, none, 0)
theorem k_X8_passesAll : zMok M_X8_passesAll := ⟨zin 1029 (by decide +kernel) (by decide +kernel), zin 65 (by decide +kernel) (by decide +kernel), by decide +kernel, ⟨by decide +kernel, by decide +kernel⟩, rfl, by decide⟩
abbrev M_X8_passOne : zM := (RX8, yX8_passOne, cX8_passOne, 3, (some .int), 0)
theorem k_X8_passOne : zMok M_X8_passOne := ⟨zin 1033 (by decide +kernel) (by decide +kernel), zin 65 (by decide +kernel) (by decide +kernel), by decide +kernel, ⟨by decide +kernel, by decide +kernel⟩, rfl, by decide⟩
abbrev M_X8_passes : zM := (RX8, yX8_passes, cX8_passes, 4, none, 0)
theorem k_X8_passes : zMok M_X8_passes := ⟨zin 1037 (by decide +kernel) (by decide +kernel), zin 65 (by decide +kernel) (by decide +kernel), by decide +kernel, ⟨by decide +kernel, by decide +kernel⟩, rfl, by decide⟩
abbrev M_X8_undo : zM := (RX8, yX8_undo, cX8_undo, 1, (some .int), 0)
theorem k_X8_undo : zMok M_X8_undo := ⟨zin 1041 (by decide +kernel) (by decide +kernel), zin 65 (by decide +kernel) (by decide +kernel), by decide +kernel, ⟨by decide +kernel, by decide +kernel⟩, rfl, by decide⟩
abbrev M_X8_count : zM := (RX8, yX8_count, cX8_count, 2, (some .int), 0)
theorem k_X8_count : zMok M_X8_count := ⟨zin 1045 (by decide +kernel) (by decide +kernel), zin 65 (by decide +kernel) (by decide +kernel), by decide +kernel, ⟨by decide +kernel, by decide +kernel⟩, rfl, by decide⟩
abbrev M_X8_tape : zM := (RX8, yX8_tape, cX8_tape, 5, (some .int), 0)
theorem k_X8_tape : zMok M_X8_tape := ⟨zin 1049 (by decide +kernel) (by decide +kernel), zin 65 (by decide +kernel) (by decide +kernel), by decide +kernel, ⟨by decide +kernel, by decide +kernel⟩, rfl, by decide⟩
abbrev M_X8_item : zM := (RX8, yX8_item, cX8_item, 5, (some .int), 0)
theorem k_X8_item : zMok M_X8_item := ⟨zin 1053 (by decide +kernel) (by decide +kernel), zin 65 (by decide +kernel) (by decide +kernel), by decide +kernel, ⟨by decide +kernel, by decide +kernel⟩, rfl, by decide⟩
abbrev M_X8_lowest : zM := (RX8, yX8_lowest, cX8_lowest, 3, (some .long), 0)
theorem k_X8_lowest : zMok M_X8_lowest := ⟨zin 1056 (by decide +kernel) (by decide +kernel), zin 65 (by decide +kernel) (by decide +kernel), by decide +kernel, ⟨by decide +kernel, by decide +kernel⟩, rfl, by decide⟩
abbrev M_X8_peek : zM := (RX8, yX8_peek, cX8_peek, 3, (some .long), 0)
theorem k_X8_peek : zMok M_X8_peek := ⟨zin 1060 (by decide +kernel) (by decide +kernel), zin 65 (by decide +kernel) (by decide +kernel), by decide +kernel, ⟨by decide +kernel, by decide +kernel⟩, rfl, by decide⟩
abbrev M_X8_shift : zM := (RX8, yX8_shift, cX8_shift, 7, (some .int), 0)
theorem k_X8_shift : zMok M_X8_shift := ⟨zin 1064 (by decide +kernel) (by decide +kernel), zin 65 (by decide +kernel) (by decide +kernel), by decide +kernel, ⟨by decide +kernel, by decide +kernel⟩, rfl, by decide⟩
theorem g_L_9 : zLI RL 9 M_X7_init 0 := ⟨k_X7_init, rfl, by decide +kernel, rfl, zin 76 (by decide +kernel) (by decide +kernel), Or.inl (zin 75 (by decide +kernel) (by decide +kernel))⟩
theorem g_L_13 : zLV RL 13 M_X7_corner 2 := ⟨k_X7_corner, by decide +kernel, zin 208 (by decide +kernel) (by decide +kernel), zin 209 (by decide +kernel) (by decide +kernel), Or.inl (zin 207 (by decide +kernel) (by decide +kernel))⟩
theorem g_X7_46 : zLS RX7 46 M_X7_isCorner 1 := ⟨k_X7_isCorner, by decide +kernel, zin 212 (by decide +kernel) (by decide +kernel), Or.inl (zin 211 (by decide +kernel) (by decide +kernel))⟩
theorem g_X7_50 : zLS RX7 50 M_X7_isBit 1 := ⟨k_X7_isBit, by decide +kernel, zin 215 (by decide +kernel) (by decide +kernel), Or.inl (zin 214 (by decide +kernel) (by decide +kernel))⟩
theorem g_X7_57 : zLS RX7 57 M_X7_bitOf 2 := ⟨k_X7_bitOf, by decide +kernel, zin 218 (by decide +kernel) (by decide +kernel), Or.inl (zin 217 (by decide +kernel) (by decide +kernel))⟩
theorem g_L_18 : zLV RL 18 M_X7_code 1 := ⟨k_X7_code, by decide +kernel, zin 221 (by decide +kernel) (by decide +kernel), zin 222 (by decide +kernel) (by decide +kernel), Or.inl (zin 220 (by decide +kernel) (by decide +kernel))⟩
theorem g_L_23 : zLV RL 23 M_X7_move 1 := ⟨k_X7_move, by decide +kernel, zin 225 (by decide +kernel) (by decide +kernel), zin 226 (by decide +kernel) (by decide +kernel), Or.inl (zin 224 (by decide +kernel) (by decide +kernel))⟩
theorem g_X7_61 : zLS RX7 61 M_X7_isMove 1 := ⟨k_X7_isMove, by decide +kernel, zin 229 (by decide +kernel) (by decide +kernel), Or.inl (zin 228 (by decide +kernel) (by decide +kernel))⟩
theorem g_X1_19 : zLS RX1 19 M_X1_cornerBy 2 := ⟨k_X1_cornerBy, by decide +kernel, zin 236 (by decide +kernel) (by decide +kernel), Or.inl (zin 235 (by decide +kernel) (by decide +kernel))⟩
theorem g_L_27 : zLV RL 27 M_X7_becomes 1 := ⟨k_X7_becomes, by decide +kernel, zin 241 (by decide +kernel) (by decide +kernel), zin 242 (by decide +kernel) (by decide +kernel), Or.inl (zin 240 (by decide +kernel) (by decide +kernel))⟩
theorem g_X1_22 : zLS RX1 22 M_X1_imageBy 2 := ⟨k_X1_imageBy, by decide +kernel, zin 232 (by decide +kernel) (by decide +kernel), Or.inl (zin 251 (by decide +kernel) (by decide +kernel))⟩
theorem g_L_31 : zLV RL 31 M_X7_keep 0 := ⟨k_X7_keep, by decide +kernel, zin 256 (by decide +kernel) (by decide +kernel), zin 257 (by decide +kernel) (by decide +kernel), Or.inl (zin 255 (by decide +kernel) (by decide +kernel))⟩
theorem g_L_36 : zLV RL 36 M_X7_feed 1 := ⟨k_X7_feed, by decide +kernel, zin 260 (by decide +kernel) (by decide +kernel), zin 261 (by decide +kernel) (by decide +kernel), Or.inl (zin 259 (by decide +kernel) (by decide +kernel))⟩
theorem g_L_40 : zLV RL 40 M_X7_read 0 := ⟨k_X7_read, by decide +kernel, zin 268 (by decide +kernel) (by decide +kernel), zin 269 (by decide +kernel) (by decide +kernel), Or.inl (zin 267 (by decide +kernel) (by decide +kernel))⟩
theorem g_X6_19 : zLV RX6 19 M_X6_signAt 1 := ⟨k_X6_signAt, by decide +kernel, zin 277 (by decide +kernel) (by decide +kernel), zin 3 (by decide +kernel) (by decide +kernel), Or.inl (zin 275 (by decide +kernel) (by decide +kernel))⟩
theorem g_X6_23 : zLS RX6 23 M_X6_mostDigits 1 := ⟨k_X6_mostDigits, by decide +kernel, zin 280 (by decide +kernel) (by decide +kernel), Or.inl (zin 279 (by decide +kernel) (by decide +kernel))⟩
theorem g_X6_26 : zLV RX6 26 M_X6_digitsFrom 2 := ⟨k_X6_digitsFrom, by decide +kernel, zin 284 (by decide +kernel) (by decide +kernel), zin 4 (by decide +kernel) (by decide +kernel), Or.inl (zin 282 (by decide +kernel) (by decide +kernel))⟩
theorem g_X6_30 : zLV RX6 30 M_X6_performClause 4 := ⟨k_X6_performClause, by decide +kernel, zin 292 (by decide +kernel) (by decide +kernel), zin 6 (by decide +kernel) (by decide +kernel), Or.inl (zin 290 (by decide +kernel) (by decide +kernel))⟩
theorem g_X6_34 : zLV RX6 34 M_X6_cornersAt 2 := ⟨k_X6_cornersAt, by decide +kernel, zin 296 (by decide +kernel) (by decide +kernel), zin 7 (by decide +kernel) (by decide +kernel), Or.inl (zin 294 (by decide +kernel) (by decide +kernel))⟩
theorem g_X6_37 : zLS RX6 37 M_X6_performCorners 3 := ⟨k_X6_performCorners, by decide +kernel, zin 300 (by decide +kernel) (by decide +kernel), Or.inl (zin 299 (by decide +kernel) (by decide +kernel))⟩
theorem g_X6_41 : zLV RX6 41 M_X6_numberAt 2 := ⟨k_X6_numberAt, by decide +kernel, zin 304 (by decide +kernel) (by decide +kernel), zin 8 (by decide +kernel) (by decide +kernel), Or.inl (zin 302 (by decide +kernel) (by decide +kernel))⟩
theorem g_X6_44 : zLS RX6 44 M_X6_performMove 2 := ⟨k_X6_performMove, by decide +kernel, zin 307 (by decide +kernel) (by decide +kernel), Or.inl (zin 306 (by decide +kernel) (by decide +kernel))⟩
theorem g_L_44 : zLV RL 44 M_X7_told 1 := ⟨k_X7_told, by decide +kernel, zin 313 (by decide +kernel) (by decide +kernel), zin 314 (by decide +kernel) (by decide +kernel), Or.inl (zin 312 (by decide +kernel) (by decide +kernel))⟩
theorem g_X7_91 : zLS RX7 91 M_J6_bitCount_0f7a4 1 := ⟨k_J6_bitCount_0f7a4, by decide +kernel, zin 317 (by decide +kernel) (by decide +kernel), Or.inl (zin 316 (by decide +kernel) (by decide +kernel))⟩
theorem g_X1_30 : zLS RX1 30 M_X1_formOf 1 := ⟨k_X1_formOf, by decide +kernel, zin 249 (by decide +kernel) (by decide +kernel), Or.inl (zin 326 (by decide +kernel) (by decide +kernel))⟩
theorem g_X1_42 : zLS RX1 42 M_X1_stillMoves 1 := ⟨k_X1_stillMoves, by decide +kernel, zin 333 (by decide +kernel) (by decide +kernel), Or.inl (zin 332 (by decide +kernel) (by decide +kernel))⟩
theorem g_X1_37 : zLS RX1 37 M_J6_bitCount_0f7a4 1 := ⟨k_J6_bitCount_0f7a4, by decide +kernel, zin 317 (by decide +kernel) (by decide +kernel), Or.inl (zin 339 (by decide +kernel) (by decide +kernel))⟩
theorem g_X4_55 : zLV RX4 55 M_X4_measure 1 := ⟨k_X4_measure, by decide +kernel, zin 346 (by decide +kernel) (by decide +kernel), zin 10 (by decide +kernel) (by decide +kernel), Or.inl (zin 344 (by decide +kernel) (by decide +kernel))⟩
theorem g_X4_48 : zLV RX4 48 M_X4_measureBy 1 := ⟨k_X4_measureBy, by decide +kernel, zin 351 (by decide +kernel) (by decide +kernel), zin 11 (by decide +kernel) (by decide +kernel), Or.inl (zin 349 (by decide +kernel) (by decide +kernel))⟩
theorem g_X4_66 : zLV RX4 66 M_X4_isMeasuredFace 1 := ⟨k_X4_isMeasuredFace, by decide +kernel, zin 357 (by decide +kernel) (by decide +kernel), zin 12 (by decide +kernel) (by decide +kernel), Or.inl (zin 355 (by decide +kernel) (by decide +kernel))⟩
theorem g_X4_58 : zLV RX4 58 M_X4_isMeasuredTop 1 := ⟨k_X4_isMeasuredTop, by decide +kernel, zin 361 (by decide +kernel) (by decide +kernel), zin 13 (by decide +kernel) (by decide +kernel), Or.inl (zin 359 (by decide +kernel) (by decide +kernel))⟩
theorem g_X4_62 : zLS RX4 62 M_J6_bitCount_0f7a4 1 := ⟨k_J6_bitCount_0f7a4, by decide +kernel, zin 317 (by decide +kernel) (by decide +kernel), Or.inl (zin 363 (by decide +kernel) (by decide +kernel))⟩
theorem g_X1_45 : zLS RX1 45 M_X1_leastCorner 1 := ⟨k_X1_leastCorner, by decide +kernel, zin 372 (by decide +kernel) (by decide +kernel), Or.inl (zin 371 (by decide +kernel) (by decide +kernel))⟩
theorem g_X1_48 : zLS RX1 48 M_X1_determinant 4 := ⟨k_X1_determinant, by decide +kernel, zin 375 (by decide +kernel) (by decide +kernel), Or.inl (zin 374 (by decide +kernel) (by decide +kernel))⟩
theorem g_X1_52 : zLS RX1 52 M_X1_away 3 := ⟨k_X1_away, by decide +kernel, zin 378 (by decide +kernel) (by decide +kernel), Or.inl (zin 377 (by decide +kernel) (by decide +kernel))⟩
theorem g_X1_56 : zLS RX1 56 M_X1_minor 5 := ⟨k_X1_minor, by decide +kernel, zin 381 (by decide +kernel) (by decide +kernel), Or.inl (zin 380 (by decide +kernel) (by decide +kernel))⟩
theorem g_X4_73 : zLV RX4 73 M_X4_pointsIn 2 := ⟨k_X4_pointsIn, by decide +kernel, zin 389 (by decide +kernel) (by decide +kernel), zin 16 (by decide +kernel) (by decide +kernel), Or.inl (zin 387 (by decide +kernel) (by decide +kernel))⟩
theorem g_X4_69 : zLV RX4 69 M_X4_isInMeasured 4 := ⟨k_X4_isInMeasured, by decide +kernel, zin 393 (by decide +kernel) (by decide +kernel), zin 17 (by decide +kernel) (by decide +kernel), Or.inl (zin 391 (by decide +kernel) (by decide +kernel))⟩
theorem g_L_48 : zLV RL 48 M_X7_carried 2 := ⟨k_X7_carried, by decide +kernel, zin 400 (by decide +kernel) (by decide +kernel), zin 401 (by decide +kernel) (by decide +kernel), Or.inl (zin 399 (by decide +kernel) (by decide +kernel))⟩
theorem g_L_52 : zLV RL 52 M_X7_imaged 1 := ⟨k_X7_imaged, by decide +kernel, zin 405 (by decide +kernel) (by decide +kernel), zin 406 (by decide +kernel) (by decide +kernel), Or.inl (zin 404 (by decide +kernel) (by decide +kernel))⟩
theorem g_L_56 : zLV RL 56 M_X7_form 1 := ⟨k_X7_form, by decide +kernel, zin 409 (by decide +kernel) (by decide +kernel), zin 410 (by decide +kernel) (by decide +kernel), Or.inl (zin 408 (by decide +kernel) (by decide +kernel))⟩
theorem g_L_60 : zLV RL 60 M_X7_classes 1 := ⟨k_X7_classes, by decide +kernel, zin 414 (by decide +kernel) (by decide +kernel), zin 415 (by decide +kernel) (by decide +kernel), Or.inl (zin 413 (by decide +kernel) (by decide +kernel))⟩
theorem g_L_64 : zLV RL 64 M_X7_weighs 4 := ⟨k_X7_weighs, by decide +kernel, zin 421 (by decide +kernel) (by decide +kernel), zin 422 (by decide +kernel) (by decide +kernel), Or.inl (zin 420 (by decide +kernel) (by decide +kernel))⟩
theorem g_X7_136 : zLS RX7 136 M_X7_isWeight 1 := ⟨k_X7_isWeight, by decide +kernel, zin 425 (by decide +kernel) (by decide +kernel), Or.inl (zin 424 (by decide +kernel) (by decide +kernel))⟩
theorem g_X4_38 : zLS RX4 38 M_X4_cornerWeight 4 := ⟨k_X4_cornerWeight, by decide +kernel, zin 432 (by decide +kernel) (by decide +kernel), Or.inl (zin 431 (by decide +kernel) (by decide +kernel))⟩
theorem g_L_69 : zLV RL 69 M_X7_face 1 := ⟨k_X7_face, by decide +kernel, zin 441 (by decide +kernel) (by decide +kernel), zin 442 (by decide +kernel) (by decide +kernel), Or.inl (zin 440 (by decide +kernel) (by decide +kernel))⟩
theorem g_L_73 : zLV RL 73 M_X7_edge 2 := ⟨k_X7_edge, by decide +kernel, zin 449 (by decide +kernel) (by decide +kernel), zin 450 (by decide +kernel) (by decide +kernel), Or.inl (zin 448 (by decide +kernel) (by decide +kernel))⟩
theorem g_L_77 : zLV RL 77 M_X7_points 1 := ⟨k_X7_points, by decide +kernel, zin 457 (by decide +kernel) (by decide +kernel), zin 458 (by decide +kernel) (by decide +kernel), Or.inl (zin 456 (by decide +kernel) (by decide +kernel))⟩
theorem g_X7_154 : zLS RX7 154 M_X7_isTimes 1 := ⟨k_X7_isTimes, by decide +kernel, zin 461 (by decide +kernel) (by decide +kernel), Or.inl (zin 460 (by decide +kernel) (by decide +kernel))⟩
theorem g_L_81 : zLV RL 81 M_X7_holds 4 := ⟨k_X7_holds, by decide +kernel, zin 465 (by decide +kernel) (by decide +kernel), zin 466 (by decide +kernel) (by decide +kernel), Or.inl (zin 464 (by decide +kernel) (by decide +kernel))⟩
theorem g_X7_160 : zLS RX7 160 M_X7_isPlace 1 := ⟨k_X7_isPlace, by decide +kernel, zin 469 (by decide +kernel) (by decide +kernel), Or.inl (zin 468 (by decide +kernel) (by decide +kernel))⟩
theorem g_L_85 : zLV RL 85 M_X7_floats 1 := ⟨k_X7_floats, by decide +kernel, zin 476 (by decide +kernel) (by decide +kernel), zin 477 (by decide +kernel) (by decide +kernel), Or.inl (zin 475 (by decide +kernel) (by decide +kernel))⟩
theorem g_X4_76 : zLV RX4 76 M_X4_width 1 := ⟨k_X4_width, by decide +kernel, zin 397 (by decide +kernel) (by decide +kernel), zin 18 (by decide +kernel) (by decide +kernel), Or.inl (zin 483 (by decide +kernel) (by decide +kernel))⟩
theorem g_X4_79 : zLV RX4 79 M_X4_sixfold 1 := ⟨k_X4_sixfold, by decide +kernel, zin 385 (by decide +kernel) (by decide +kernel), zin 15 (by decide +kernel) (by decide +kernel), Or.inl (zin 484 (by decide +kernel) (by decide +kernel))⟩
theorem g_X0_7 : zLS RX0 7 M_X0_exponentOf 1 := ⟨k_X0_exponentOf, by decide +kernel, zin 493 (by decide +kernel) (by decide +kernel), Or.inl (zin 492 (by decide +kernel) (by decide +kernel))⟩
theorem g_X0_13 : zLS RX0 13 M_X0_fractionOf 2 := ⟨k_X0_fractionOf, by decide +kernel, zin 497 (by decide +kernel) (by decide +kernel), Or.inl (zin 496 (by decide +kernel) (by decide +kernel))⟩
theorem g_L_89 : zLV RL 89 M_X7_spread 0 := ⟨k_X7_spread, by decide +kernel, zin 501 (by decide +kernel) (by decide +kernel), zin 502 (by decide +kernel) (by decide +kernel), Or.inl (zin 500 (by decide +kernel) (by decide +kernel))⟩
theorem g_X1_60 : zLS RX1 60 M_X1_centre 2 := ⟨k_X1_centre, by decide +kernel, zin 487 (by decide +kernel) (by decide +kernel), Or.inl (zin 508 (by decide +kernel) (by decide +kernel))⟩
theorem g_L_94 : zLV RL 94 M_X7_see 2 := ⟨k_X7_see, by decide +kernel, zin 515 (by decide +kernel) (by decide +kernel), zin 516 (by decide +kernel) (by decide +kernel), Or.inl (zin 514 (by decide +kernel) (by decide +kernel))⟩
theorem g_L_98 : zLV RL 98 M_X7_fits 0 := ⟨k_X7_fits, by decide +kernel, zin 527 (by decide +kernel) (by decide +kernel), zin 528 (by decide +kernel) (by decide +kernel), Or.inl (zin 526 (by decide +kernel) (by decide +kernel))⟩
theorem g_X7_203 : zLV RX7 203 M_X7_allSeenIn 1 := ⟨k_X7_allSeenIn, by decide +kernel, zin 532 (by decide +kernel) (by decide +kernel), zin 25 (by decide +kernel) (by decide +kernel), Or.inl (zin 530 (by decide +kernel) (by decide +kernel))⟩
theorem g_X7_210 : zLV RX7 210 M_X7_sightOf 2 := ⟨k_X7_sightOf, by decide +kernel, zin 540 (by decide +kernel) (by decide +kernel), zin 27 (by decide +kernel) (by decide +kernel), Or.inl (zin 538 (by decide +kernel) (by decide +kernel))⟩
theorem g_L_102 : zLV RL 102 M_X7_odds 2 := ⟨k_X7_odds, by decide +kernel, zin 547 (by decide +kernel) (by decide +kernel), zin 548 (by decide +kernel) (by decide +kernel), Or.inl (zin 546 (by decide +kernel) (by decide +kernel))⟩
theorem g_X7_219 : zLS RX7 219 M_X7_lowestOfMoves 2 := ⟨k_X7_lowestOfMoves, by decide +kernel, zin 554 (by decide +kernel) (by decide +kernel), Or.inl (zin 553 (by decide +kernel) (by decide +kernel))⟩
theorem g_X7_223 : zLS RX7 223 M_X7_commonDivisor 2 := ⟨k_X7_commonDivisor, by decide +kernel, zin 557 (by decide +kernel) (by decide +kernel), Or.inl (zin 556 (by decide +kernel) (by decide +kernel))⟩
theorem g_L_107 : zLV RL 107 M_X7_mean 1 := ⟨k_X7_mean, by decide +kernel, zin 560 (by decide +kernel) (by decide +kernel), zin 561 (by decide +kernel) (by decide +kernel), Or.inl (zin 559 (by decide +kernel) (by decide +kernel))⟩
theorem g_L_112 : zLV RL 112 M_X7_event 2 := ⟨k_X7_event, by decide +kernel, zin 564 (by decide +kernel) (by decide +kernel), zin 565 (by decide +kernel) (by decide +kernel), Or.inl (zin 563 (by decide +kernel) (by decide +kernel))⟩
theorem g_L_116 : zLV RL 116 M_X7_after 1 := ⟨k_X7_after, by decide +kernel, zin 568 (by decide +kernel) (by decide +kernel), zin 569 (by decide +kernel) (by decide +kernel), Or.inl (zin 567 (by decide +kernel) (by decide +kernel))⟩
theorem g_X7_229 : zLV RX7 229 M_X7_bodyAfterEvents 0 := ⟨k_X7_bodyAfterEvents, by decide +kernel, zin 573 (by decide +kernel) (by decide +kernel), zin 29 (by decide +kernel) (by decide +kernel), Or.inl (zin 571 (by decide +kernel) (by decide +kernel))⟩
theorem g_L_120 : zLV RL 120 M_X7_book 2 := ⟨k_X7_book, by decide +kernel, zin 576 (by decide +kernel) (by decide +kernel), zin 577 (by decide +kernel) (by decide +kernel), Or.inl (zin 575 (by decide +kernel) (by decide +kernel))⟩
theorem g_L_124 : zLV RL 124 M_X7_looked 0 := ⟨k_X7_looked, by decide +kernel, zin 580 (by decide +kernel) (by decide +kernel), zin 581 (by decide +kernel) (by decide +kernel), Or.inl (zin 579 (by decide +kernel) (by decide +kernel))⟩
theorem g_L_128 : zLV RL 128 M_X7_judge 2 := ⟨k_X7_judge, by decide +kernel, zin 584 (by decide +kernel) (by decide +kernel), zin 585 (by decide +kernel) (by decide +kernel), Or.inl (zin 583 (by decide +kernel) (by decide +kernel))⟩
theorem g_X7_235 : zLS RX7 235 M_X7_isTape 1 := ⟨k_X7_isTape, by decide +kernel, zin 588 (by decide +kernel) (by decide +kernel), Or.inl (zin 587 (by decide +kernel) (by decide +kernel))⟩
theorem g_X5_20 : zLV RX5 20 M_X5_hasPlace 1 := ⟨k_X5_hasPlace, by decide +kernel, zin 596 (by decide +kernel) (by decide +kernel), zin 31 (by decide +kernel) (by decide +kernel), Or.inl (zin 602 (by decide +kernel) (by decide +kernel))⟩
theorem g_L_132 : zLV RL 132 M_X7_image 0 := ⟨k_X7_image, by decide +kernel, zin 604 (by decide +kernel) (by decide +kernel), zin 605 (by decide +kernel) (by decide +kernel), Or.inl (zin 603 (by decide +kernel) (by decide +kernel))⟩
theorem g_L_136 : zLV RL 136 M_X7_undo 0 := ⟨k_X7_undo, by decide +kernel, zin 619 (by decide +kernel) (by decide +kernel), zin 620 (by decide +kernel) (by decide +kernel), Or.inl (zin 618 (by decide +kernel) (by decide +kernel))⟩
theorem g_L_140 : zLV RL 140 M_X7_count 1 := ⟨k_X7_count, by decide +kernel, zin 623 (by decide +kernel) (by decide +kernel), zin 624 (by decide +kernel) (by decide +kernel), Or.inl (zin 622 (by decide +kernel) (by decide +kernel))⟩
theorem g_L_144 : zLV RL 144 M_X7_tape 3 := ⟨k_X7_tape, by decide +kernel, zin 627 (by decide +kernel) (by decide +kernel), zin 628 (by decide +kernel) (by decide +kernel), Or.inl (zin 626 (by decide +kernel) (by decide +kernel))⟩
theorem g_L_151 : zLV RL 151 M_X7_item 3 := ⟨k_X7_item, by decide +kernel, zin 635 (by decide +kernel) (by decide +kernel), zin 636 (by decide +kernel) (by decide +kernel), Or.inl (zin 634 (by decide +kernel) (by decide +kernel))⟩
theorem g_X5_24 : zLV RX5 24 M_X5_cut 1 := ⟨k_X5_cut, by decide +kernel, zin 644 (by decide +kernel) (by decide +kernel), zin 37 (by decide +kernel) (by decide +kernel), Or.inl (zin 642 (by decide +kernel) (by decide +kernel))⟩
theorem g_L_156 : zLV RL 156 M_X7_peek 2 := ⟨k_X7_peek, by decide +kernel, zin 647 (by decide +kernel) (by decide +kernel), zin 648 (by decide +kernel) (by decide +kernel), Or.inl (zin 646 (by decide +kernel) (by decide +kernel))⟩
theorem g_L_160 : zLV RL 160 M_X7_shift 5 := ⟨k_X7_shift, by decide +kernel, zin 651 (by decide +kernel) (by decide +kernel), zin 652 (by decide +kernel) (by decide +kernel), Or.inl (zin 650 (by decide +kernel) (by decide +kernel))⟩
theorem g_L_12 : zLI RL 12 M_X8_init 0 := ⟨k_X8_init, rfl, by decide +kernel, rfl, zin 662 (by decide +kernel) (by decide +kernel), Or.inl (zin 661 (by decide +kernel) (by decide +kernel))⟩
theorem g_X8_81 : zLV RX8 81 M_X8_imageOf 2 := ⟨k_X8_imageOf, by decide +kernel, zin 667 (by decide +kernel) (by decide +kernel), zin 39 (by decide +kernel) (by decide +kernel), Or.inl (zin 665 (by decide +kernel) (by decide +kernel))⟩
theorem g_L_17 : zLV RL 17 M_X8_corner 2 := ⟨k_X8_corner, by decide +kernel, zin 768 (by decide +kernel) (by decide +kernel), zin 769 (by decide +kernel) (by decide +kernel), Or.inl (zin 767 (by decide +kernel) (by decide +kernel))⟩
theorem g_X8_122 : zLS RX8 122 M_X8_isCorner 1 := ⟨k_X8_isCorner, by decide +kernel, zin 772 (by decide +kernel) (by decide +kernel), Or.inl (zin 771 (by decide +kernel) (by decide +kernel))⟩
theorem g_X8_5 : zLS RX8 5 M_X8_isIn 3 := ⟨k_X8_isIn, by decide +kernel, zin 775 (by decide +kernel) (by decide +kernel), Or.inl (zin 774 (by decide +kernel) (by decide +kernel))⟩
theorem g_L_22 : zLV RL 22 M_X8_code 1 := ⟨k_X8_code, by decide +kernel, zin 778 (by decide +kernel) (by decide +kernel), zin 779 (by decide +kernel) (by decide +kernel), Or.inl (zin 777 (by decide +kernel) (by decide +kernel))⟩
theorem g_L_26 : zLV RL 26 M_X8_move 1 := ⟨k_X8_move, by decide +kernel, zin 782 (by decide +kernel) (by decide +kernel), zin 783 (by decide +kernel) (by decide +kernel), Or.inl (zin 781 (by decide +kernel) (by decide +kernel))⟩
theorem g_X8_129 : zLS RX8 129 M_X8_isMove 1 := ⟨k_X8_isMove, by decide +kernel, zin 786 (by decide +kernel) (by decide +kernel), Or.inl (zin 785 (by decide +kernel) (by decide +kernel))⟩
theorem g_L_30 : zLV RL 30 M_X8_becomes 1 := ⟨k_X8_becomes, by decide +kernel, zin 789 (by decide +kernel) (by decide +kernel), zin 790 (by decide +kernel) (by decide +kernel), Or.inl (zin 788 (by decide +kernel) (by decide +kernel))⟩
theorem g_L_35 : zLV RL 35 M_X8_keep 0 := ⟨k_X8_keep, by decide +kernel, zin 793 (by decide +kernel) (by decide +kernel), zin 794 (by decide +kernel) (by decide +kernel), Or.inl (zin 792 (by decide +kernel) (by decide +kernel))⟩
theorem g_L_39 : zLV RL 39 M_X8_feed 1 := ⟨k_X8_feed, by decide +kernel, zin 797 (by decide +kernel) (by decide +kernel), zin 798 (by decide +kernel) (by decide +kernel), Or.inl (zin 796 (by decide +kernel) (by decide +kernel))⟩
theorem g_L_43 : zLV RL 43 M_X8_read 0 := ⟨k_X8_read, by decide +kernel, zin 801 (by decide +kernel) (by decide +kernel), zin 802 (by decide +kernel) (by decide +kernel), Or.inl (zin 800 (by decide +kernel) (by decide +kernel))⟩
theorem g_X8_171 : zLV RX8 171 M_X8_readsAll 0 := ⟨k_X8_readsAll, by decide +kernel, zin 806 (by decide +kernel) (by decide +kernel), zin 40 (by decide +kernel) (by decide +kernel), Or.inl (zin 804 (by decide +kernel) (by decide +kernel))⟩
theorem g_X8_156 : zLV RX8 156 M_X8_readsClause 0 := ⟨k_X8_readsClause, by decide +kernel, zin 810 (by decide +kernel) (by decide +kernel), zin 41 (by decide +kernel) (by decide +kernel), Or.inl (zin 808 (by decide +kernel) (by decide +kernel))⟩
theorem g_X8_141 : zLV RX8 141 M_X8_next 0 := ⟨k_X8_next, by decide +kernel, zin 814 (by decide +kernel) (by decide +kernel), zin 42 (by decide +kernel) (by decide +kernel), Or.inl (zin 812 (by decide +kernel) (by decide +kernel))⟩
theorem g_X8_152 : zLV RX8 152 M_X8_readsDigits 2 := ⟨k_X8_readsDigits, by decide +kernel, zin 818 (by decide +kernel) (by decide +kernel), zin 43 (by decide +kernel) (by decide +kernel), Or.inl (zin 816 (by decide +kernel) (by decide +kernel))⟩
theorem g_X8_145 : zLV RX8 145 M_X8_isDigit 0 := ⟨k_X8_isDigit, by decide +kernel, zin 822 (by decide +kernel) (by decide +kernel), zin 44 (by decide +kernel) (by decide +kernel), Or.inl (zin 820 (by decide +kernel) (by decide +kernel))⟩
theorem g_X8_174 : zLV RX8 174 M_X8_does 1 := ⟨k_X8_does, by decide +kernel, zin 826 (by decide +kernel) (by decide +kernel), zin 45 (by decide +kernel) (by decide +kernel), Or.inl (zin 824 (by decide +kernel) (by decide +kernel))⟩
theorem g_X8_159 : zLV RX8 159 M_X8_set 1 := ⟨k_X8_set, by decide +kernel, zin 830 (by decide +kernel) (by decide +kernel), zin 46 (by decide +kernel) (by decide +kernel), Or.inl (zin 828 (by decide +kernel) (by decide +kernel))⟩
theorem g_X8_162 : zLV RX8 162 M_X8_move 1 := ⟨k_X8_move, by decide +kernel, zin 782 (by decide +kernel) (by decide +kernel), zin 783 (by decide +kernel) (by decide +kernel), Or.inl (zin 832 (by decide +kernel) (by decide +kernel))⟩
theorem g_X8_165 : zLV RX8 165 M_X8_becomes 1 := ⟨k_X8_becomes, by decide +kernel, zin 789 (by decide +kernel) (by decide +kernel), zin 790 (by decide +kernel) (by decide +kernel), Or.inl (zin 833 (by decide +kernel) (by decide +kernel))⟩
theorem g_X8_168 : zLV RX8 168 M_X8_keep 0 := ⟨k_X8_keep, by decide +kernel, zin 793 (by decide +kernel) (by decide +kernel), zin 794 (by decide +kernel) (by decide +kernel), Or.inl (zin 834 (by decide +kernel) (by decide +kernel))⟩
theorem g_L_47 : zLV RL 47 M_X8_told 1 := ⟨k_X8_told, by decide +kernel, zin 836 (by decide +kernel) (by decide +kernel), zin 837 (by decide +kernel) (by decide +kernel), Or.inl (zin 835 (by decide +kernel) (by decide +kernel))⟩
theorem g_X8_105 : zLS RX8 105 M_X8_bits 1 := ⟨k_X8_bits, by decide +kernel, zin 840 (by decide +kernel) (by decide +kernel), Or.inl (zin 839 (by decide +kernel) (by decide +kernel))⟩
theorem g_X8_177 : zLV RX8 177 M_X8_likes 1 := ⟨k_X8_likes, by decide +kernel, zin 844 (by decide +kernel) (by decide +kernel), zin 47 (by decide +kernel) (by decide +kernel), Or.inl (zin 842 (by decide +kernel) (by decide +kernel))⟩
theorem g_X8_180 : zLV RX8 180 M_X8_stills 1 := ⟨k_X8_stills, by decide +kernel, zin 848 (by decide +kernel) (by decide +kernel), zin 48 (by decide +kernel) (by decide +kernel), Or.inl (zin 846 (by decide +kernel) (by decide +kernel))⟩
theorem g_X8_183 : zLV RX8 183 M_X8_far 0 := ⟨k_X8_far, by decide +kernel, zin 852 (by decide +kernel) (by decide +kernel), zin 49 (by decide +kernel) (by decide +kernel), Or.inl (zin 850 (by decide +kernel) (by decide +kernel))⟩
theorem g_X8_186 : zLV RX8 186 M_X8_findFaces 1 := ⟨k_X8_findFaces, by decide +kernel, zin 856 (by decide +kernel) (by decide +kernel), zin 50 (by decide +kernel) (by decide +kernel), Or.inl (zin 854 (by decide +kernel) (by decide +kernel))⟩
theorem g_X8_98 : zLS RX8 98 M_X8_heaviest 2 := ⟨k_X8_heaviest, by decide +kernel, zin 859 (by decide +kernel) (by decide +kernel), Or.inl (zin 858 (by decide +kernel) (by decide +kernel))⟩
theorem g_X8_95 : zLS RX8 95 M_X8_mostOf 2 := ⟨k_X8_mostOf, by decide +kernel, zin 862 (by decide +kernel) (by decide +kernel), Or.inl (zin 861 (by decide +kernel) (by decide +kernel))⟩
theorem g_X8_92 : zLS RX8 92 M_X8_weighsCorner 2 := ⟨k_X8_weighsCorner, by decide +kernel, zin 865 (by decide +kernel) (by decide +kernel), Or.inl (zin 864 (by decide +kernel) (by decide +kernel))⟩
theorem g_X8_88 : zLS RX8 88 M_X8_weighsAt 4 := ⟨k_X8_weighsAt, by decide +kernel, zin 868 (by decide +kernel) (by decide +kernel), Or.inl (zin 867 (by decide +kernel) (by decide +kernel))⟩
theorem g_X8_85 : zLS RX8 85 M_X8_weightAt 2 := ⟨k_X8_weightAt, by decide +kernel, zin 871 (by decide +kernel) (by decide +kernel), Or.inl (zin 870 (by decide +kernel) (by decide +kernel))⟩
theorem g_X8_101 : zLS RX8 101 M_X8_isNought 1 := ⟨k_X8_isNought, by decide +kernel, zin 874 (by decide +kernel) (by decide +kernel), Or.inl (zin 873 (by decide +kernel) (by decide +kernel))⟩
theorem g_X8_189 : zLS RX8 189 M_X8_edgesOf 1 := ⟨k_X8_edgesOf, by decide +kernel, zin 877 (by decide +kernel) (by decide +kernel), Or.inl (zin 876 (by decide +kernel) (by decide +kernel))⟩
theorem g_X8_109 : zLS RX8 109 M_X8_isEdge 3 := ⟨k_X8_isEdge, by decide +kernel, zin 880 (by decide +kernel) (by decide +kernel), Or.inl (zin 879 (by decide +kernel) (by decide +kernel))⟩
theorem g_X8_192 : zLV RX8 192 M_X8_dimension 1 := ⟨k_X8_dimension, by decide +kernel, zin 884 (by decide +kernel) (by decide +kernel), zin 51 (by decide +kernel) (by decide +kernel), Or.inl (zin 882 (by decide +kernel) (by decide +kernel))⟩
theorem g_X8_195 : zLS RX8 195 M_X8_sixfold 1 := ⟨k_X8_sixfold, by decide +kernel, zin 887 (by decide +kernel) (by decide +kernel), Or.inl (zin 886 (by decide +kernel) (by decide +kernel))⟩
theorem g_X8_116 : zLS RX8 116 M_X8_pointsOf 2 := ⟨k_X8_pointsOf, by decide +kernel, zin 890 (by decide +kernel) (by decide +kernel), Or.inl (zin 889 (by decide +kernel) (by decide +kernel))⟩
theorem g_X8_112 : zLS RX8 112 M_X8_isWithin 5 := ⟨k_X8_isWithin, by decide +kernel, zin 893 (by decide +kernel) (by decide +kernel), Or.inl (zin 892 (by decide +kernel) (by decide +kernel))⟩
theorem g_X8_198 : zLS RX8 198 M_X8_width 1 := ⟨k_X8_width, by decide +kernel, zin 896 (by decide +kernel) (by decide +kernel), Or.inl (zin 895 (by decide +kernel) (by decide +kernel))⟩
theorem g_X8_119 : zLS RX8 119 M_X8_leastOf 2 := ⟨k_X8_leastOf, by decide +kernel, zin 899 (by decide +kernel) (by decide +kernel), Or.inl (zin 898 (by decide +kernel) (by decide +kernel))⟩
theorem g_L_51 : zLV RL 51 M_X8_carried 2 := ⟨k_X8_carried, by decide +kernel, zin 902 (by decide +kernel) (by decide +kernel), zin 903 (by decide +kernel) (by decide +kernel), Or.inl (zin 901 (by decide +kernel) (by decide +kernel))⟩
theorem g_L_55 : zLV RL 55 M_X8_imaged 1 := ⟨k_X8_imaged, by decide +kernel, zin 906 (by decide +kernel) (by decide +kernel), zin 907 (by decide +kernel) (by decide +kernel), Or.inl (zin 905 (by decide +kernel) (by decide +kernel))⟩
theorem g_L_59 : zLV RL 59 M_X8_form 1 := ⟨k_X8_form, by decide +kernel, zin 910 (by decide +kernel) (by decide +kernel), zin 911 (by decide +kernel) (by decide +kernel), Or.inl (zin 909 (by decide +kernel) (by decide +kernel))⟩
theorem g_L_63 : zLV RL 63 M_X8_classes 1 := ⟨k_X8_classes, by decide +kernel, zin 914 (by decide +kernel) (by decide +kernel), zin 915 (by decide +kernel) (by decide +kernel), Or.inl (zin 913 (by decide +kernel) (by decide +kernel))⟩
theorem g_L_68 : zLV RL 68 M_X8_weighs 4 := ⟨k_X8_weighs, by decide +kernel, zin 918 (by decide +kernel) (by decide +kernel), zin 919 (by decide +kernel) (by decide +kernel), Or.inl (zin 917 (by decide +kernel) (by decide +kernel))⟩
theorem g_L_72 : zLV RL 72 M_X8_face 1 := ⟨k_X8_face, by decide +kernel, zin 922 (by decide +kernel) (by decide +kernel), zin 923 (by decide +kernel) (by decide +kernel), Or.inl (zin 921 (by decide +kernel) (by decide +kernel))⟩
theorem g_L_76 : zLV RL 76 M_X8_edge 2 := ⟨k_X8_edge, by decide +kernel, zin 926 (by decide +kernel) (by decide +kernel), zin 927 (by decide +kernel) (by decide +kernel), Or.inl (zin 925 (by decide +kernel) (by decide +kernel))⟩
theorem g_L_80 : zLV RL 80 M_X8_points 1 := ⟨k_X8_points, by decide +kernel, zin 930 (by decide +kernel) (by decide +kernel), zin 931 (by decide +kernel) (by decide +kernel), Or.inl (zin 929 (by decide +kernel) (by decide +kernel))⟩
theorem g_L_84 : zLV RL 84 M_X8_holds 4 := ⟨k_X8_holds, by decide +kernel, zin 934 (by decide +kernel) (by decide +kernel), zin 935 (by decide +kernel) (by decide +kernel), Or.inl (zin 933 (by decide +kernel) (by decide +kernel))⟩
theorem g_L_88 : zLV RL 88 M_X8_floats 1 := ⟨k_X8_floats, by decide +kernel, zin 938 (by decide +kernel) (by decide +kernel), zin 939 (by decide +kernel) (by decide +kernel), Or.inl (zin 937 (by decide +kernel) (by decide +kernel))⟩
theorem g_X8_202 : zLV RX8 202 M_X8_fat 0 := ⟨k_X8_fat, by decide +kernel, zin 943 (by decide +kernel) (by decide +kernel), zin 52 (by decide +kernel) (by decide +kernel), Or.inl (zin 941 (by decide +kernel) (by decide +kernel))⟩
theorem g_X8_206 : zLV RX8 206 M_X8_centre 1 := ⟨k_X8_centre, by decide +kernel, zin 948 (by decide +kernel) (by decide +kernel), zin 53 (by decide +kernel) (by decide +kernel), Or.inl (zin 946 (by decide +kernel) (by decide +kernel))⟩
theorem g_X8_210 : zLS RX8 210 M_Jxf58ca_floatToIntBits_5c35a 1 := ⟨k_Jxf58ca_floatToIntBits_5c35a, by decide +kernel, zin 951 (by decide +kernel) (by decide +kernel), Or.inl (zin 950 (by decide +kernel) (by decide +kernel))⟩
theorem g_Jxf58ca_59 : zLS RJxf58ca 59 M_Jxf58ca_isNaN_12338 1 := ⟨k_Jxf58ca_isNaN_12338, by decide +kernel, zin 954 (by decide +kernel) (by decide +kernel), Or.inl (zin 953 (by decide +kernel) (by decide +kernel))⟩
theorem g_L_93 : zLV RL 93 M_X8_spread 0 := ⟨k_X8_spread, by decide +kernel, zin 961 (by decide +kernel) (by decide +kernel), zin 962 (by decide +kernel) (by decide +kernel), Or.inl (zin 960 (by decide +kernel) (by decide +kernel))⟩
theorem g_X8_220 : zLS RX8 220 M_Jxe99ae_doubleToLongBits_ccdee 1 := ⟨k_Jxe99ae_doubleToLongBits_ccdee, by decide +kernel, zin 967 (by decide +kernel) (by decide +kernel), Or.inl (zin 966 (by decide +kernel) (by decide +kernel))⟩
theorem g_Jxe99ae_122 : zLS RJxe99ae 122 M_Jxe99ae_isNaN_b9ae7 1 := ⟨k_Jxe99ae_isNaN_b9ae7, by decide +kernel, zin 970 (by decide +kernel) (by decide +kernel), Or.inl (zin 969 (by decide +kernel) (by decide +kernel))⟩
theorem g_L_97 : zLV RL 97 M_X8_see 2 := ⟨k_X8_see, by decide +kernel, zin 977 (by decide +kernel) (by decide +kernel), zin 978 (by decide +kernel) (by decide +kernel), Or.inl (zin 976 (by decide +kernel) (by decide +kernel))⟩
theorem g_L_101 : zLV RL 101 M_X8_fits 0 := ⟨k_X8_fits, by decide +kernel, zin 981 (by decide +kernel) (by decide +kernel), zin 982 (by decide +kernel) (by decide +kernel), Or.inl (zin 980 (by decide +kernel) (by decide +kernel))⟩
theorem g_X8_229 : zLV RX8 229 M_X8_isSeen 2 := ⟨k_X8_isSeen, by decide +kernel, zin 986 (by decide +kernel) (by decide +kernel), zin 54 (by decide +kernel) (by decide +kernel), Or.inl (zin 984 (by decide +kernel) (by decide +kernel))⟩
theorem g_L_106 : zLV RL 106 M_X8_odds 2 := ⟨k_X8_odds, by decide +kernel, zin 989 (by decide +kernel) (by decide +kernel), zin 990 (by decide +kernel) (by decide +kernel), Or.inl (zin 988 (by decide +kernel) (by decide +kernel))⟩
theorem g_X8_233 : zLS RX8 233 M_X8_partOf 3 := ⟨k_X8_partOf, by decide +kernel, zin 993 (by decide +kernel) (by decide +kernel), Or.inl (zin 992 (by decide +kernel) (by decide +kernel))⟩
theorem g_L_111 : zLV RL 111 M_X8_mean 1 := ⟨k_X8_mean, by decide +kernel, zin 996 (by decide +kernel) (by decide +kernel), zin 997 (by decide +kernel) (by decide +kernel), Or.inl (zin 995 (by decide +kernel) (by decide +kernel))⟩
theorem g_L_115 : zLV RL 115 M_X8_event 2 := ⟨k_X8_event, by decide +kernel, zin 1000 (by decide +kernel) (by decide +kernel), zin 1001 (by decide +kernel) (by decide +kernel), Or.inl (zin 999 (by decide +kernel) (by decide +kernel))⟩
theorem g_L_119 : zLV RL 119 M_X8_after 1 := ⟨k_X8_after, by decide +kernel, zin 1004 (by decide +kernel) (by decide +kernel), zin 1005 (by decide +kernel) (by decide +kernel), Or.inl (zin 1003 (by decide +kernel) (by decide +kernel))⟩
theorem g_L_123 : zLV RL 123 M_X8_book 2 := ⟨k_X8_book, by decide +kernel, zin 1008 (by decide +kernel) (by decide +kernel), zin 1009 (by decide +kernel) (by decide +kernel), Or.inl (zin 1007 (by decide +kernel) (by decide +kernel))⟩
theorem g_L_127 : zLV RL 127 M_X8_looked 0 := ⟨k_X8_looked, by decide +kernel, zin 1012 (by decide +kernel) (by decide +kernel), zin 1013 (by decide +kernel) (by decide +kernel), Or.inl (zin 1011 (by decide +kernel) (by decide +kernel))⟩
theorem g_L_131 : zLV RL 131 M_X8_judge 2 := ⟨k_X8_judge, by decide +kernel, zin 1016 (by decide +kernel) (by decide +kernel), zin 1017 (by decide +kernel) (by decide +kernel), Or.inl (zin 1015 (by decide +kernel) (by decide +kernel))⟩
theorem g_X8_243 : zLS RX8 243 M_X8_isTape 1 := ⟨k_X8_isTape, by decide +kernel, zin 1020 (by decide +kernel) (by decide +kernel), Or.inl (zin 1019 (by decide +kernel) (by decide +kernel))⟩
theorem g_L_135 : zLV RL 135 M_X8_image 0 := ⟨k_X8_image, by decide +kernel, zin 1023 (by decide +kernel) (by decide +kernel), zin 1024 (by decide +kernel) (by decide +kernel), Or.inl (zin 1022 (by decide +kernel) (by decide +kernel))⟩
theorem g_X8_260 : zLV RX8 260 M_X8_passesAll 1 := ⟨k_X8_passesAll, by decide +kernel, zin 1028 (by decide +kernel) (by decide +kernel), zin 55 (by decide +kernel) (by decide +kernel), Or.inl (zin 1026 (by decide +kernel) (by decide +kernel))⟩
theorem g_X8_253 : zLV RX8 253 M_X8_passOne 1 := ⟨k_X8_passOne, by decide +kernel, zin 1032 (by decide +kernel) (by decide +kernel), zin 56 (by decide +kernel) (by decide +kernel), Or.inl (zin 1030 (by decide +kernel) (by decide +kernel))⟩
theorem g_X8_256 : zLV RX8 256 M_X8_passes 2 := ⟨k_X8_passes, by decide +kernel, zin 1036 (by decide +kernel) (by decide +kernel), zin 57 (by decide +kernel) (by decide +kernel), Or.inl (zin 1034 (by decide +kernel) (by decide +kernel))⟩
theorem g_L_139 : zLV RL 139 M_X8_undo 0 := ⟨k_X8_undo, by decide +kernel, zin 1039 (by decide +kernel) (by decide +kernel), zin 1040 (by decide +kernel) (by decide +kernel), Or.inl (zin 1038 (by decide +kernel) (by decide +kernel))⟩
theorem g_L_143 : zLV RL 143 M_X8_count 1 := ⟨k_X8_count, by decide +kernel, zin 1043 (by decide +kernel) (by decide +kernel), zin 1044 (by decide +kernel) (by decide +kernel), Or.inl (zin 1042 (by decide +kernel) (by decide +kernel))⟩
theorem g_L_148 : zLV RL 148 M_X8_tape 3 := ⟨k_X8_tape, by decide +kernel, zin 1047 (by decide +kernel) (by decide +kernel), zin 1048 (by decide +kernel) (by decide +kernel), Or.inl (zin 1046 (by decide +kernel) (by decide +kernel))⟩
theorem g_L_155 : zLV RL 155 M_X8_item 3 := ⟨k_X8_item, by decide +kernel, zin 1051 (by decide +kernel) (by decide +kernel), zin 1052 (by decide +kernel) (by decide +kernel), Or.inl (zin 1050 (by decide +kernel) (by decide +kernel))⟩
theorem g_X8_267 : zLS RX8 267 M_X8_lowest 2 := ⟨k_X8_lowest, by decide +kernel, zin 1055 (by decide +kernel) (by decide +kernel), Or.inl (zin 1054 (by decide +kernel) (by decide +kernel))⟩
theorem g_L_159 : zLV RL 159 M_X8_peek 2 := ⟨k_X8_peek, by decide +kernel, zin 1058 (by decide +kernel) (by decide +kernel), zin 1059 (by decide +kernel) (by decide +kernel), Or.inl (zin 1057 (by decide +kernel) (by decide +kernel))⟩
theorem g_L_164 : zLV RL 164 M_X8_shift 5 := ⟨k_X8_shift, by decide +kernel, zin 1062 (by decide +kernel) (by decide +kernel), zin 1063 (by decide +kernel) (by decide +kernel), Or.inl (zin 1061 (by decide +kernel) (by decide +kernel))⟩
theorem g_X7_13 : zLI RX7 13 M_X2_init 0 := ⟨k_X2_init, rfl, by decide +kernel, rfl, zin 84 (by decide +kernel) (by decide +kernel), Or.inr ⟨"CubeBodies", znin 83 (by decide +kernel) (by decide +kernel)⟩⟩
theorem g_X2_20 : zLI RX2 20 M_X3_init 0 := ⟨k_X3_init, rfl, by decide +kernel, rfl, zin 90 (by decide +kernel) (by decide +kernel), Or.inr ⟨"CubeBodies", znin 89 (by decide +kernel) (by decide +kernel)⟩⟩
theorem g_X7_27 : zLI RX7 27 M_X6_init 0 := ⟨k_X6_init, rfl, by decide +kernel, rfl, zin 131 (by decide +kernel) (by decide +kernel), Or.inr ⟨"CubeBodies", znin 130 (by decide +kernel) (by decide +kernel)⟩⟩
theorem g_X7_34 : zLI RX7 34 M_X4_init 0 := ⟨k_X4_init, rfl, by decide +kernel, rfl, zin 146 (by decide +kernel) (by decide +kernel), Or.inr ⟨"CubeBodies", znin 145 (by decide +kernel) (by decide +kernel)⟩⟩
theorem g_X7_45 : zLI RX7 45 M_X5_init 0 := ⟨k_X5_init, rfl, by decide +kernel, rfl, zin 172 (by decide +kernel) (by decide +kernel), Or.inr ⟨"CubeBodies", znin 171 (by decide +kernel) (by decide +kernel)⟩⟩
theorem g_X7_64 : zLS RX7 64 M_X1_imageBy 2 := ⟨k_X1_imageBy, by decide +kernel, zin 232 (by decide +kernel) (by decide +kernel), Or.inr ⟨"CubeBodies", znin 231 (by decide +kernel) (by decide +kernel)⟩⟩
theorem g_X1_15 : zLS RX1 15 M_X7_bitOf 2 := ⟨k_X7_bitOf, by decide +kernel, zin 218 (by decide +kernel) (by decide +kernel), Or.inr ⟨"CubeBodies", znin 234 (by decide +kernel) (by decide +kernel)⟩⟩
theorem g_X7_69 : zLV RX7 69 M_X2_change 1 := ⟨k_X2_change, by decide +kernel, zin 246 (by decide +kernel) (by decide +kernel), zin 0 (by decide +kernel) (by decide +kernel), Or.inr ⟨"CubeBodies", znin 244 (by decide +kernel) (by decide +kernel)⟩⟩
theorem g_X2_31 : zLS RX2 31 M_X1_formOf 1 := ⟨k_X1_formOf, by decide +kernel, zin 249 (by decide +kernel) (by decide +kernel), Or.inr ⟨"CubeBodies", znin 248 (by decide +kernel) (by decide +kernel)⟩⟩
theorem g_X7_76 : zLV RX7 76 M_X6_append 1 := ⟨k_X6_append, by decide +kernel, zin 265 (by decide +kernel) (by decide +kernel), zin 1 (by decide +kernel) (by decide +kernel), Or.inr ⟨"CubeBodies", znin 263 (by decide +kernel) (by decide +kernel)⟩⟩
theorem g_X7_80 : zLV RX7 80 M_X6_firstFault 0 := ⟨k_X6_firstFault, by decide +kernel, zin 273 (by decide +kernel) (by decide +kernel), zin 2 (by decide +kernel) (by decide +kernel), Or.inr ⟨"CubeBodies", znin 271 (by decide +kernel) (by decide +kernel)⟩⟩
theorem g_X7_84 : zLV RX7 84 M_X6_perform 1 := ⟨k_X6_perform, by decide +kernel, zin 288 (by decide +kernel) (by decide +kernel), zin 5 (by decide +kernel) (by decide +kernel), Or.inr ⟨"CubeBodies", znin 286 (by decide +kernel) (by decide +kernel)⟩⟩
theorem g_X6_69 : zLS RX6 69 M_X7_isCorner 1 := ⟨k_X7_isCorner, by decide +kernel, zin 212 (by decide +kernel) (by decide +kernel), Or.inr ⟨"CubeBodies", znin 298 (by decide +kernel) (by decide +kernel)⟩⟩
theorem g_X6_60 : zLS RX6 60 M_X7_isMove 1 := ⟨k_X7_isMove, by decide +kernel, zin 229 (by decide +kernel) (by decide +kernel), Or.inr ⟨"CubeBodies", znin 309 (by decide +kernel) (by decide +kernel)⟩⟩
theorem g_X6_64 : zLS RX6 64 M_X1_imageBy 2 := ⟨k_X1_imageBy, by decide +kernel, zin 232 (by decide +kernel) (by decide +kernel), Or.inr ⟨"CubeBodies", znin 310 (by decide +kernel) (by decide +kernel)⟩⟩
theorem g_X6_50 : zLV RX6 50 M_X2_change 1 := ⟨k_X2_change, by decide +kernel, zin 246 (by decide +kernel) (by decide +kernel), zin 0 (by decide +kernel) (by decide +kernel), Or.inr ⟨"CubeBodies", znin 311 (by decide +kernel) (by decide +kernel)⟩⟩
theorem g_X7_96 : zLS RX7 96 M_X1_formOf 1 := ⟨k_X1_formOf, by decide +kernel, zin 249 (by decide +kernel) (by decide +kernel), Or.inr ⟨"CubeBodies", znin 322 (by decide +kernel) (by decide +kernel)⟩⟩
theorem g_X7_99 : zLS RX7 99 M_X1_classOf 1 := ⟨k_X1_classOf, by decide +kernel, zin 324 (by decide +kernel) (by decide +kernel), Or.inr ⟨"CubeBodies", znin 323 (by decide +kernel) (by decide +kernel)⟩⟩
theorem g_X7_102 : zLS RX7 102 M_X1_unlikeImages 1 := ⟨k_X1_unlikeImages, by decide +kernel, zin 330 (by decide +kernel) (by decide +kernel), Or.inr ⟨"CubeBodies", znin 329 (by decide +kernel) (by decide +kernel)⟩⟩
theorem g_X7_105 : zLS RX7 105 M_X1_stillMoves 1 := ⟨k_X1_stillMoves, by decide +kernel, zin 333 (by decide +kernel) (by decide +kernel), Or.inr ⟨"CubeBodies", znin 335 (by decide +kernel) (by decide +kernel)⟩⟩
theorem g_X7_108 : zLS RX7 108 M_X1_distance 2 := ⟨k_X1_distance, by decide +kernel, zin 337 (by decide +kernel) (by decide +kernel), Or.inr ⟨"CubeBodies", znin 336 (by decide +kernel) (by decide +kernel)⟩⟩
theorem g_X7_111 : zLV RX7 111 M_X4_faceCount 1 := ⟨k_X4_faceCount, by decide +kernel, zin 342 (by decide +kernel) (by decide +kernel), zin 9 (by decide +kernel) (by decide +kernel), Or.inr ⟨"CubeBodies", znin 340 (by decide +kernel) (by decide +kernel)⟩⟩
theorem g_X7_114 : zLV RX7 114 M_X4_edgeCount 1 := ⟨k_X4_edgeCount, by decide +kernel, zin 366 (by decide +kernel) (by decide +kernel), zin 14 (by decide +kernel) (by decide +kernel), Or.inr ⟨"CubeBodies", znin 364 (by decide +kernel) (by decide +kernel)⟩⟩
theorem g_X7_117 : zLS RX7 117 M_X1_dimension 1 := ⟨k_X1_dimension, by decide +kernel, zin 369 (by decide +kernel) (by decide +kernel), Or.inr ⟨"CubeBodies", znin 368 (by decide +kernel) (by decide +kernel)⟩⟩
theorem g_X7_120 : zLV RX7 120 M_X4_sixfold 1 := ⟨k_X4_sixfold, by decide +kernel, zin 385 (by decide +kernel) (by decide +kernel), zin 15 (by decide +kernel) (by decide +kernel), Or.inr ⟨"CubeBodies", znin 383 (by decide +kernel) (by decide +kernel)⟩⟩
theorem g_X7_123 : zLV RX7 123 M_X4_width 1 := ⟨k_X4_width, by decide +kernel, zin 397 (by decide +kernel) (by decide +kernel), zin 18 (by decide +kernel) (by decide +kernel), Or.inr ⟨"CubeBodies", znin 395 (by decide +kernel) (by decide +kernel)⟩⟩
theorem g_X7_126 : zLS RX7 126 M_X1_cornerBy 2 := ⟨k_X1_cornerBy, by decide +kernel, zin 236 (by decide +kernel) (by decide +kernel), Or.inr ⟨"CubeBodies", znin 403 (by decide +kernel) (by decide +kernel)⟩⟩
theorem g_X7_133 : zLS RX7 133 M_X1_classesWith 1 := ⟨k_X1_classesWith, by decide +kernel, zin 418 (by decide +kernel) (by decide +kernel), Or.inr ⟨"CubeBodies", znin 417 (by decide +kernel) (by decide +kernel)⟩⟩
theorem g_X7_139 : zLS RX7 139 M_X4_mostBy 4 := ⟨k_X4_mostBy, by decide +kernel, zin 428 (by decide +kernel) (by decide +kernel), Or.inr ⟨"CubeBodies", znin 427 (by decide +kernel) (by decide +kernel)⟩⟩
theorem g_X4_34 : zLS RX4 34 M_X7_bitOf 2 := ⟨k_X7_bitOf, by decide +kernel, zin 218 (by decide +kernel) (by decide +kernel), Or.inr ⟨"CubeBodies", znin 430 (by decide +kernel) (by decide +kernel)⟩⟩
theorem g_X7_143 : zLS RX7 143 M_X4_thoseThatWeigh 5 := ⟨k_X4_thoseThatWeigh, by decide +kernel, zin 438 (by decide +kernel) (by decide +kernel), Or.inr ⟨"CubeBodies", znin 437 (by decide +kernel) (by decide +kernel)⟩⟩
theorem g_X7_147 : zLV RX7 147 M_X4_faceAt 2 := ⟨k_X4_faceAt, by decide +kernel, zin 446 (by decide +kernel) (by decide +kernel), zin 19 (by decide +kernel) (by decide +kernel), Or.inr ⟨"CubeBodies", znin 444 (by decide +kernel) (by decide +kernel)⟩⟩
theorem g_X7_150 : zLV RX7 150 M_X4_isEdge 2 := ⟨k_X4_isEdge, by decide +kernel, zin 454 (by decide +kernel) (by decide +kernel), zin 20 (by decide +kernel) (by decide +kernel), Or.inr ⟨"CubeBodies", znin 452 (by decide +kernel) (by decide +kernel)⟩⟩
theorem g_X7_157 : zLV RX7 157 M_X4_pointsIn 2 := ⟨k_X4_pointsIn, by decide +kernel, zin 389 (by decide +kernel) (by decide +kernel), zin 16 (by decide +kernel) (by decide +kernel), Or.inr ⟨"CubeBodies", znin 463 (by decide +kernel) (by decide +kernel)⟩⟩
theorem g_X7_163 : zLV RX7 163 M_X4_isIn 5 := ⟨k_X4_isIn, by decide +kernel, zin 473 (by decide +kernel) (by decide +kernel), zin 21 (by decide +kernel) (by decide +kernel), Or.inr ⟨"CubeBodies", znin 471 (by decide +kernel) (by decide +kernel)⟩⟩
theorem g_X7_167 : zLV RX7 167 M_X4_fat 1 := ⟨k_X4_fat, by decide +kernel, zin 481 (by decide +kernel) (by decide +kernel), zin 22 (by decide +kernel) (by decide +kernel), Or.inr ⟨"CubeBodies", znin 479 (by decide +kernel) (by decide +kernel)⟩⟩
theorem g_X7_171 : zLS RX7 171 M_X1_centre 2 := ⟨k_X1_centre, by decide +kernel, zin 487 (by decide +kernel) (by decide +kernel), Or.inr ⟨"CubeBodies", znin 486 (by decide +kernel) (by decide +kernel)⟩⟩
theorem g_X7_175 : zLS RX7 175 M_X0_ofFloat 1 := ⟨k_X0_ofFloat, by decide +kernel, zin 490 (by decide +kernel) (by decide +kernel), Or.inr ⟨"CubeBodies", znin 489 (by decide +kernel) (by decide +kernel)⟩⟩
theorem g_X7_183 : zLS RX7 183 M_X1_spreadOf 1 := ⟨k_X1_spreadOf, by decide +kernel, zin 506 (by decide +kernel) (by decide +kernel), Or.inr ⟨"CubeBodies", znin 505 (by decide +kernel) (by decide +kernel)⟩⟩
theorem g_X7_187 : zLS RX7 187 M_X0_ofDouble 1 := ⟨k_X0_ofDouble, by decide +kernel, zin 511 (by decide +kernel) (by decide +kernel), Or.inr ⟨"CubeBodies", znin 510 (by decide +kernel) (by decide +kernel)⟩⟩
theorem g_X7_195 : zLV RX7 195 M_X3_empty 0 := ⟨k_X3_empty, by decide +kernel, zin 520 (by decide +kernel) (by decide +kernel), zin 23 (by decide +kernel) (by decide +kernel), Or.inr ⟨"CubeBodies", znin 518 (by decide +kernel) (by decide +kernel)⟩⟩
theorem g_X7_200 : zLV RX7 200 M_X3_append 3 := ⟨k_X3_append, by decide +kernel, zin 524 (by decide +kernel) (by decide +kernel), zin 24 (by decide +kernel) (by decide +kernel), Or.inr ⟨"CubeBodies", znin 522 (by decide +kernel) (by decide +kernel)⟩⟩
theorem g_X7_207 : zLV RX7 207 M_X3_whatAt 1 := ⟨k_X3_whatAt, by decide +kernel, zin 536 (by decide +kernel) (by decide +kernel), zin 26 (by decide +kernel) (by decide +kernel), Or.inr ⟨"CubeBodies", znin 534 (by decide +kernel) (by decide +kernel)⟩⟩
theorem g_X7_213 : zLV RX7 213 M_X3_numberAt 1 := ⟨k_X3_numberAt, by decide +kernel, zin 544 (by decide +kernel) (by decide +kernel), zin 28 (by decide +kernel) (by decide +kernel), Or.inr ⟨"CubeBodies", znin 542 (by decide +kernel) (by decide +kernel)⟩⟩
theorem g_X7_216 : zLS RX7 216 M_X1_commonOverMoves 2 := ⟨k_X1_commonOverMoves, by decide +kernel, zin 551 (by decide +kernel) (by decide +kernel), Or.inr ⟨"CubeBodies", znin 550 (by decide +kernel) (by decide +kernel)⟩⟩
theorem g_X7_238 : zLV RX7 238 M_X5_holdsRow 0 := ⟨k_X5_holdsRow, by decide +kernel, zin 592 (by decide +kernel) (by decide +kernel), zin 30 (by decide +kernel) (by decide +kernel), Or.inr ⟨"CubeBodies", znin 590 (by decide +kernel) (by decide +kernel)⟩⟩
theorem g_X7_245 : zLV RX7 245 M_X5_hasPlace 1 := ⟨k_X5_hasPlace, by decide +kernel, zin 596 (by decide +kernel) (by decide +kernel), zin 31 (by decide +kernel) (by decide +kernel), Or.inr ⟨"CubeBodies", znin 594 (by decide +kernel) (by decide +kernel)⟩⟩
theorem g_X7_248 : zLV RX7 248 M_X5_itemAt 1 := ⟨k_X5_itemAt, by decide +kernel, zin 600 (by decide +kernel) (by decide +kernel), zin 32 (by decide +kernel) (by decide +kernel), Or.inr ⟨"CubeBodies", znin 598 (by decide +kernel) (by decide +kernel)⟩⟩
theorem g_X7_252 : zLV RX7 252 M_X2_copyFrom 1 := ⟨k_X2_copyFrom, by decide +kernel, zin 609 (by decide +kernel) (by decide +kernel), zin 33 (by decide +kernel) (by decide +kernel), Or.inr ⟨"CubeBodies", znin 607 (by decide +kernel) (by decide +kernel)⟩⟩
theorem g_X2_37 : zLV RX2 37 M_X3_copyFrom 1 := ⟨k_X3_copyFrom, by decide +kernel, zin 613 (by decide +kernel) (by decide +kernel), zin 34 (by decide +kernel) (by decide +kernel), Or.inr ⟨"CubeBodies", znin 611 (by decide +kernel) (by decide +kernel)⟩⟩
theorem g_X7_256 : zLV RX7 256 M_X5_becomeRow 2 := ⟨k_X5_becomeRow, by decide +kernel, zin 632 (by decide +kernel) (by decide +kernel), zin 35 (by decide +kernel) (by decide +kernel), Or.inr ⟨"CubeBodies", znin 630 (by decide +kernel) (by decide +kernel)⟩⟩
theorem g_X7_260 : zLV RX7 260 M_X5_put 2 := ⟨k_X5_put, by decide +kernel, zin 640 (by decide +kernel) (by decide +kernel), zin 36 (by decide +kernel) (by decide +kernel), Or.inr ⟨"CubeBodies", znin 638 (by decide +kernel) (by decide +kernel)⟩⟩
theorem g_X7_264 : zLV RX7 264 M_X5_hasRun 2 := ⟨k_X5_hasRun, by decide +kernel, zin 656 (by decide +kernel) (by decide +kernel), zin 38 (by decide +kernel) (by decide +kernel), Or.inr ⟨"CubeBodies", znin 654 (by decide +kernel) (by decide +kernel)⟩⟩
theorem f_X3_11 : zFl RX3 11 1 0 true := ⟨(RX3, TX3, 3), rfl, by decide, rfl, rfl, Or.inl (zin 93 (by decide +kernel) (by decide +kernel))⟩
theorem f_X3_15 : zFl RX3 15 1 1 true := ⟨(RX3, TX3, 3), rfl, by decide, rfl, rfl, Or.inl (zin 94 (by decide +kernel) (by decide +kernel))⟩
theorem f_X3_18 : zFl RX3 18 1 2 false := ⟨(RX3, TX3, 3), rfl, by decide, rfl, rfl, Or.inl (zin 95 (by decide +kernel) (by decide +kernel))⟩
theorem f_X2_9 : zFl RX2 9 0 0 false := ⟨(RX2, TX2, 5), rfl, by decide, rfl, rfl, Or.inl (zin 105 (by decide +kernel) (by decide +kernel))⟩
theorem f_X2_15 : zFl RX2 15 0 1 false := ⟨(RX2, TX2, 5), rfl, by decide, rfl, rfl, Or.inl (zin 108 (by decide +kernel) (by decide +kernel))⟩
theorem f_X2_21 : zFl RX2 21 0 2 true := ⟨(RX2, TX2, 5), rfl, by decide, rfl, rfl, Or.inl (zin 111 (by decide +kernel) (by decide +kernel))⟩
theorem f_X2_25 : zFl RX2 25 0 3 true := ⟨(RX2, TX2, 5), rfl, by decide, rfl, rfl, Or.inl (zin 113 (by decide +kernel) (by decide +kernel))⟩
theorem f_X2_28 : zFl RX2 28 0 4 true := ⟨(RX2, TX2, 5), rfl, by decide, rfl, rfl, Or.inl (zin 115 (by decide +kernel) (by decide +kernel))⟩
theorem f_X6_11 : zFl RX6 11 4 0 true := ⟨(RX6, TX6, 2), rfl, by decide, rfl, rfl, Or.inl (zin 134 (by decide +kernel) (by decide +kernel))⟩
theorem f_X6_15 : zFl RX6 15 4 1 false := ⟨(RX6, TX6, 2), rfl, by decide, rfl, rfl, Or.inl (zin 135 (by decide +kernel) (by decide +kernel))⟩
theorem f_X4_9 : zFl RX4 9 2 0 false := ⟨(RX4, TX4, 6), rfl, by decide, rfl, rfl, Or.inl (zin 149 (by decide +kernel) (by decide +kernel))⟩
theorem f_X4_15 : zFl RX4 15 2 1 false := ⟨(RX4, TX4, 6), rfl, by decide, rfl, rfl, Or.inl (zin 150 (by decide +kernel) (by decide +kernel))⟩
theorem f_X4_18 : zFl RX4 18 2 2 true := ⟨(RX4, TX4, 6), rfl, by decide, rfl, rfl, Or.inl (zin 151 (by decide +kernel) (by decide +kernel))⟩
theorem f_X4_22 : zFl RX4 22 2 3 true := ⟨(RX4, TX4, 6), rfl, by decide, rfl, rfl, Or.inl (zin 152 (by decide +kernel) (by decide +kernel))⟩
theorem f_X4_25 : zFl RX4 25 2 4 true := ⟨(RX4, TX4, 6), rfl, by decide, rfl, rfl, Or.inl (zin 153 (by decide +kernel) (by decide +kernel))⟩
theorem f_X4_28 : zFl RX4 28 2 5 true := ⟨(RX4, TX4, 6), rfl, by decide, rfl, rfl, Or.inl (zin 154 (by decide +kernel) (by decide +kernel))⟩
theorem f_X5_9 : zFl RX5 9 3 0 true := ⟨(RX5, TX5, 3), rfl, by decide, rfl, rfl, Or.inl (zin 175 (by decide +kernel) (by decide +kernel))⟩
theorem f_X5_13 : zFl RX5 13 3 1 false := ⟨(RX5, TX5, 3), rfl, by decide, rfl, rfl, Or.inl (zin 177 (by decide +kernel) (by decide +kernel))⟩
theorem f_X5_17 : zFl RX5 17 3 2 false := ⟨(RX5, TX5, 3), rfl, by decide, rfl, rfl, Or.inl (zin 179 (by decide +kernel) (by decide +kernel))⟩
theorem f_X7_14 : zFl RX7 14 5 0 true := ⟨(RX7, TX7, 6), rfl, by decide, rfl, rfl, Or.inl (zin 188 (by decide +kernel) (by decide +kernel))⟩
theorem f_X7_18 : zFl RX7 18 5 1 true := ⟨(RX7, TX7, 6), rfl, by decide, rfl, rfl, Or.inl (zin 189 (by decide +kernel) (by decide +kernel))⟩
theorem f_X7_21 : zFl RX7 21 5 2 false := ⟨(RX7, TX7, 6), rfl, by decide, rfl, rfl, Or.inl (zin 190 (by decide +kernel) (by decide +kernel))⟩
theorem f_X7_28 : zFl RX7 28 5 3 true := ⟨(RX7, TX7, 6), rfl, by decide, rfl, rfl, Or.inl (zin 191 (by decide +kernel) (by decide +kernel))⟩
theorem f_X7_35 : zFl RX7 35 5 4 true := ⟨(RX7, TX7, 6), rfl, by decide, rfl, rfl, Or.inl (zin 192 (by decide +kernel) (by decide +kernel))⟩
theorem f_X7_41 : zFl RX7 41 5 5 true := ⟨(RX7, TX7, 6), rfl, by decide, rfl, rfl, Or.inl (zin 193 (by decide +kernel) (by decide +kernel))⟩
theorem f_X8_15 : zFl RX8 15 6 0 true := ⟨(RX8, TX8, 32), rfl, by decide, rfl, rfl, Or.inl (zin 669 (by decide +kernel) (by decide +kernel))⟩
theorem f_X8_19 : zFl RX8 19 6 1 true := ⟨(RX8, TX8, 32), rfl, by decide, rfl, rfl, Or.inl (zin 670 (by decide +kernel) (by decide +kernel))⟩
theorem f_X8_22 : zFl RX8 22 6 2 true := ⟨(RX8, TX8, 32), rfl, by decide, rfl, rfl, Or.inl (zin 671 (by decide +kernel) (by decide +kernel))⟩
theorem f_X8_25 : zFl RX8 25 6 3 true := ⟨(RX8, TX8, 32), rfl, by decide, rfl, rfl, Or.inl (zin 672 (by decide +kernel) (by decide +kernel))⟩
theorem f_X8_28 : zFl RX8 28 6 4 true := ⟨(RX8, TX8, 32), rfl, by decide, rfl, rfl, Or.inl (zin 673 (by decide +kernel) (by decide +kernel))⟩
theorem f_X8_31 : zFl RX8 31 6 5 true := ⟨(RX8, TX8, 32), rfl, by decide, rfl, rfl, Or.inl (zin 674 (by decide +kernel) (by decide +kernel))⟩
theorem f_X8_35 : zFl RX8 35 6 6 true := ⟨(RX8, TX8, 32), rfl, by decide, rfl, rfl, Or.inl (zin 675 (by decide +kernel) (by decide +kernel))⟩
theorem f_X8_125 : zFl RX8 125 6 7 false := ⟨(RX8, TX8, 32), rfl, by decide, rfl, rfl, Or.inl (zin 676 (by decide +kernel) (by decide +kernel))⟩
theorem f_X8_132 : zFl RX8 132 6 8 false := ⟨(RX8, TX8, 32), rfl, by decide, rfl, rfl, Or.inl (zin 677 (by decide +kernel) (by decide +kernel))⟩
theorem f_X8_38 : zFl RX8 38 6 9 true := ⟨(RX8, TX8, 32), rfl, by decide, rfl, rfl, Or.inl (zin 678 (by decide +kernel) (by decide +kernel))⟩
theorem f_X8_41 : zFl RX8 41 6 10 true := ⟨(RX8, TX8, 32), rfl, by decide, rfl, rfl, Or.inl (zin 679 (by decide +kernel) (by decide +kernel))⟩
theorem f_X8_44 : zFl RX8 44 6 11 true := ⟨(RX8, TX8, 32), rfl, by decide, rfl, rfl, Or.inl (zin 680 (by decide +kernel) (by decide +kernel))⟩
theorem f_X8_135 : zFl RX8 135 6 12 false := ⟨(RX8, TX8, 32), rfl, by decide, rfl, rfl, Or.inl (zin 681 (by decide +kernel) (by decide +kernel))⟩
theorem f_X8_138 : zFl RX8 138 6 13 false := ⟨(RX8, TX8, 32), rfl, by decide, rfl, rfl, Or.inl (zin 682 (by decide +kernel) (by decide +kernel))⟩
theorem f_X8_149 : zFl RX8 149 6 14 false := ⟨(RX8, TX8, 32), rfl, by decide, rfl, rfl, Or.inl (zin 683 (by decide +kernel) (by decide +kernel))⟩
theorem f_X8_47 : zFl RX8 47 6 15 true := ⟨(RX8, TX8, 32), rfl, by decide, rfl, rfl, Or.inl (zin 684 (by decide +kernel) (by decide +kernel))⟩
theorem f_X8_50 : zFl RX8 50 6 16 true := ⟨(RX8, TX8, 32), rfl, by decide, rfl, rfl, Or.inl (zin 685 (by decide +kernel) (by decide +kernel))⟩
theorem f_X8_226 : zFl RX8 226 6 17 false := ⟨(RX8, TX8, 32), rfl, by decide, rfl, rfl, Or.inl (zin 686 (by decide +kernel) (by decide +kernel))⟩
theorem f_X8_53 : zFl RX8 53 6 18 true := ⟨(RX8, TX8, 32), rfl, by decide, rfl, rfl, Or.inl (zin 687 (by decide +kernel) (by decide +kernel))⟩
theorem f_X8_56 : zFl RX8 56 6 19 true := ⟨(RX8, TX8, 32), rfl, by decide, rfl, rfl, Or.inl (zin 688 (by decide +kernel) (by decide +kernel))⟩
theorem f_X8_59 : zFl RX8 59 6 20 true := ⟨(RX8, TX8, 32), rfl, by decide, rfl, rfl, Or.inl (zin 689 (by decide +kernel) (by decide +kernel))⟩
theorem f_X8_62 : zFl RX8 62 6 21 true := ⟨(RX8, TX8, 32), rfl, by decide, rfl, rfl, Or.inl (zin 690 (by decide +kernel) (by decide +kernel))⟩
theorem f_X8_237 : zFl RX8 237 6 22 false := ⟨(RX8, TX8, 32), rfl, by decide, rfl, rfl, Or.inl (zin 691 (by decide +kernel) (by decide +kernel))⟩
theorem f_X8_240 : zFl RX8 240 6 23 false := ⟨(RX8, TX8, 32), rfl, by decide, rfl, rfl, Or.inl (zin 692 (by decide +kernel) (by decide +kernel))⟩
theorem f_X8_65 : zFl RX8 65 6 24 true := ⟨(RX8, TX8, 32), rfl, by decide, rfl, rfl, Or.inl (zin 693 (by decide +kernel) (by decide +kernel))⟩
theorem f_X8_250 : zFl RX8 250 6 25 false := ⟨(RX8, TX8, 32), rfl, by decide, rfl, rfl, Or.inl (zin 694 (by decide +kernel) (by decide +kernel))⟩
theorem f_X8_264 : zFl RX8 264 6 26 false := ⟨(RX8, TX8, 32), rfl, by decide, rfl, rfl, Or.inl (zin 695 (by decide +kernel) (by decide +kernel))⟩
theorem f_X8_246 : zFl RX8 246 6 27 false := ⟨(RX8, TX8, 32), rfl, by decide, rfl, rfl, Or.inl (zin 696 (by decide +kernel) (by decide +kernel))⟩
theorem f_X8_68 : zFl RX8 68 6 28 true := ⟨(RX8, TX8, 32), rfl, by decide, rfl, rfl, Or.inl (zin 697 (by decide +kernel) (by decide +kernel))⟩
theorem f_X8_71 : zFl RX8 71 6 29 true := ⟨(RX8, TX8, 32), rfl, by decide, rfl, rfl, Or.inl (zin 698 (by decide +kernel) (by decide +kernel))⟩
theorem f_X8_74 : zFl RX8 74 6 30 true := ⟨(RX8, TX8, 32), rfl, by decide, rfl, rfl, Or.inl (zin 699 (by decide +kernel) (by decide +kernel))⟩
theorem f_X8_78 : zFl RX8 78 6 31 true := ⟨(RX8, TX8, 32), rfl, by decide, rfl, rfl, Or.inl (zin 700 (by decide +kernel) (by decide +kernel))⟩
theorem f_X7_206 : zFl RX7 206 1 2 false := ⟨(RX3, TX3, 3), rfl, by decide, rfl, rfl, Or.inr ⟨"CubeBodies", znin 96 (by decide +kernel) (by decide +kernel)⟩⟩
theorem f_X7_53 : zFl RX7 53 0 0 false := ⟨(RX2, TX2, 5), rfl, by decide, rfl, rfl, Or.inr ⟨"CubeBodies", znin 106 (by decide +kernel) (by decide +kernel)⟩⟩
theorem f_X6_54 : zFl RX6 54 0 0 false := ⟨(RX2, TX2, 5), rfl, by decide, rfl, rfl, Or.inr ⟨"CubeBodies", znin 107 (by decide +kernel) (by decide +kernel)⟩⟩
theorem f_X7_73 : zFl RX7 73 0 1 false := ⟨(RX2, TX2, 5), rfl, by decide, rfl, rfl, Or.inr ⟨"CubeBodies", znin 109 (by decide +kernel) (by decide +kernel)⟩⟩
theorem f_X6_57 : zFl RX6 57 0 1 false := ⟨(RX2, TX2, 5), rfl, by decide, rfl, rfl, Or.inr ⟨"CubeBodies", znin 110 (by decide +kernel) (by decide +kernel)⟩⟩
theorem f_X7_191 : zFl RX7 191 0 2 true := ⟨(RX2, TX2, 5), rfl, by decide, rfl, rfl, Or.inr ⟨"CubeBodies", znin 112 (by decide +kernel) (by decide +kernel)⟩⟩
theorem f_X7_226 : zFl RX7 226 0 3 true := ⟨(RX2, TX2, 5), rfl, by decide, rfl, rfl, Or.inr ⟨"CubeBodies", znin 114 (by decide +kernel) (by decide +kernel)⟩⟩
theorem f_X7_232 : zFl RX7 232 0 4 true := ⟨(RX2, TX2, 5), rfl, by decide, rfl, rfl, Or.inr ⟨"CubeBodies", znin 116 (by decide +kernel) (by decide +kernel)⟩⟩
theorem f_X7_88 : zFl RX7 88 4 1 false := ⟨(RX6, TX6, 2), rfl, by decide, rfl, rfl, Or.inr ⟨"CubeBodies", znin 136 (by decide +kernel) (by decide +kernel)⟩⟩
theorem f_X7_267 : zFl RX7 267 3 0 true := ⟨(RX5, TX5, 3), rfl, by decide, rfl, rfl, Or.inr ⟨"CubeBodies", znin 176 (by decide +kernel) (by decide +kernel)⟩⟩
theorem f_X7_242 : zFl RX7 242 3 1 false := ⟨(RX5, TX5, 3), rfl, by decide, rfl, rfl, Or.inr ⟨"CubeBodies", znin 178 (by decide +kernel) (by decide +kernel)⟩⟩
end
section
section ZD
variable {Z : zS} {M : zM} {d : Nat} {Q : List Value → zW → Prop} {N : Nat} {pc : Nat} {lv : List (Nat × Value)} {st rest : List Value} {w w' : zW} {M' : zM} {As : List Value} {r : Value} {idx n : Nat}
theorem s_cs1 (hd : decode M.2.2.1 pc = .ok (.invokestatic idx, 3)) (L : zLS M.1 idx M' n) (hG : zF Z M' d As w [r] w') (hstk : st = As.reverse ++ rest) (hn : As.length = n) (hcat : (rest.map fun v => v.category).sum ≤ 8) (hfit : (lg_sl As).length ≤ M'.2.2.2.1) (hmc : M'.2.2.2.2.2 = 0)
    (kk : zG Z M (d + 1) Q N (pc + 3) lv (r :: rest) w') : zG Z M (d + 1) Q N pc lv st w := s_cs hd L hG hstk hn hcat hfit hmc kk
theorem s_cs0 (hd : decode M.2.2.1 pc = .ok (.invokestatic idx, 3)) (L : zLS M.1 idx M' n) (hG : zF Z M' d As w [] w') (hstk : st = As.reverse ++ rest) (hn : As.length = n) (hcat : (rest.map fun v => v.category).sum ≤ 8) (hfit : (lg_sl As).length ≤ M'.2.2.2.1) (hmc : M'.2.2.2.2.2 = 0)
    (kk : zG Z M (d + 1) Q N (pc + 3) lv rest w') : zG Z M (d + 1) Q N pc lv st w := s_cs hd L hG hstk hn hcat hfit hmc kk
theorem s_cv1 {b ci : Nat} {fs : List Value} {q : vw_C} (hd : decode M.2.2.1 pc = .ok (.invokevirtual idx, 3)) (L : zLV M.1 idx M' n) (hG : zF Z M' d (.ref b :: As) w [r] w') (hob : w[b]? = some (.inr (ci, fs))) (hci : vwCl[ci]? = some q) (hq : q.1 = M'.2.1.cls) (hstk : st = As.reverse ++ .ref b :: rest) (hn : As.length = n) (hcat : (rest.map fun v => v.category).sum ≤ 8) (hfit : (lg_sl (.ref b :: As)).length ≤ M'.2.2.2.1) (hmc : M'.2.2.2.2.2 = 0)
    (kk : zG Z M (d + 1) Q N (pc + 3) lv (r :: rest) w') : zG Z M (d + 1) Q N pc lv st w := s_cv hd L hG hob hci hq hstk hn hcat hfit hmc kk
theorem s_cv0 {b ci : Nat} {fs : List Value} {q : vw_C} (hd : decode M.2.2.1 pc = .ok (.invokevirtual idx, 3)) (L : zLV M.1 idx M' n) (hG : zF Z M' d (.ref b :: As) w [] w') (hob : w[b]? = some (.inr (ci, fs))) (hci : vwCl[ci]? = some q) (hq : q.1 = M'.2.1.cls) (hstk : st = As.reverse ++ .ref b :: rest) (hn : As.length = n) (hcat : (rest.map fun v => v.category).sum ≤ 8) (hfit : (lg_sl (.ref b :: As)).length ≤ M'.2.2.2.1) (hmc : M'.2.2.2.2.2 = 0)
    (kk : zG Z M (d + 1) Q N (pc + 3) lv rest w') : zG Z M (d + 1) Q N pc lv st w := s_cv hd L hG hob hci hq hstk hn hcat hfit hmc kk
end ZD
end
section
theorem dX0_ofFloat_0 : decode cX0_ofFloat 0 = .ok (.fload_n 0, 1) := by decide +kernel
theorem dX0_ofFloat_1 : decode cX0_ofFloat 1 = .ok (.fconst 0, 1) := by decide +kernel
theorem dX0_ofFloat_2 : decode cX0_ofFloat 2 = .ok (.fcmp .g, 1) := by decide +kernel
theorem dX0_ofFloat_3 : decode cX0_ofFloat 3 = .ok (.ifCond .gt 5, 3) := by decide +kernel
theorem dX0_ofFloat_6 : decode cX0_ofFloat 6 = .ok (.iconst 0, 1) := by decide +kernel
theorem dX0_ofFloat_7 : decode cX0_ofFloat 7 = .ok (.ireturn, 1) := by decide +kernel
theorem dX0_ofFloat_8 : decode cX0_ofFloat 8 = .ok (.fload_n 0, 1) := by decide +kernel
theorem dX0_ofFloat_9 : decode cX0_ofFloat 9 = .ok (.f2d, 1) := by decide +kernel
theorem dX0_ofFloat_10 : decode cX0_ofFloat 10 = .ok (.invokestatic 7, 3) := by decide +kernel
theorem dX0_ofFloat_13 : decode cX0_ofFloat 13 = .ok (.istore_n 1, 1) := by decide +kernel
theorem dX0_ofFloat_14 : decode cX0_ofFloat 14 = .ok (.iload_n 1, 1) := by decide +kernel
theorem dX0_ofFloat_15 : decode cX0_ofFloat 15 = .ok (.bipush 127, 2) := by decide +kernel
theorem dX0_ofFloat_17 : decode cX0_ofFloat 17 = .ok (.iadd, 1) := by decide +kernel
theorem dX0_ofFloat_18 : decode cX0_ofFloat 18 = .ok (.bipush 23, 2) := by decide +kernel
theorem dX0_ofFloat_20 : decode cX0_ofFloat 20 = .ok (.ishl, 1) := by decide +kernel
theorem dX0_ofFloat_21 : decode cX0_ofFloat 21 = .ok (.fload_n 0, 1) := by decide +kernel
theorem dX0_ofFloat_22 : decode cX0_ofFloat 22 = .ok (.f2d, 1) := by decide +kernel
theorem dX0_ofFloat_23 : decode cX0_ofFloat 23 = .ok (.iload_n 1, 1) := by decide +kernel
theorem dX0_ofFloat_24 : decode cX0_ofFloat 24 = .ok (.invokestatic 13, 3) := by decide +kernel
theorem dX0_ofFloat_27 : decode cX0_ofFloat 27 = .ok (.ldc2_w 17, 3) := by decide +kernel
theorem dX0_ofFloat_30 : decode cX0_ofFloat 30 = .ok (.dmul, 1) := by decide +kernel
theorem dX0_ofFloat_31 : decode cX0_ofFloat 31 = .ok (.d2i, 1) := by decide +kernel
theorem dX0_ofFloat_32 : decode cX0_ofFloat 32 = .ok (.iadd, 1) := by decide +kernel
theorem dX0_ofFloat_33 : decode cX0_ofFloat 33 = .ok (.ireturn, 1) := by decide +kernel
theorem dX0_ofDouble_0 : decode cX0_ofDouble 0 = .ok (.dload_n 0, 1) := by decide +kernel
theorem dX0_ofDouble_1 : decode cX0_ofDouble 1 = .ok (.dconst 0, 1) := by decide +kernel
theorem dX0_ofDouble_2 : decode cX0_ofDouble 2 = .ok (.dcmp .g, 1) := by decide +kernel
theorem dX0_ofDouble_3 : decode cX0_ofDouble 3 = .ok (.ifCond .gt 5, 3) := by decide +kernel
theorem dX0_ofDouble_6 : decode cX0_ofDouble 6 = .ok (.lconst 0, 1) := by decide +kernel
theorem dX0_ofDouble_7 : decode cX0_ofDouble 7 = .ok (.lreturn, 1) := by decide +kernel
theorem dX0_ofDouble_8 : decode cX0_ofDouble 8 = .ok (.dload_n 0, 1) := by decide +kernel
theorem dX0_ofDouble_9 : decode cX0_ofDouble 9 = .ok (.invokestatic 7, 3) := by decide +kernel
theorem dX0_ofDouble_12 : decode cX0_ofDouble 12 = .ok (.istore_n 2, 1) := by decide +kernel
theorem dX0_ofDouble_13 : decode cX0_ofDouble 13 = .ok (.iload_n 2, 1) := by decide +kernel
theorem dX0_ofDouble_14 : decode cX0_ofDouble 14 = .ok (.sipush 1023, 3) := by decide +kernel
theorem dX0_ofDouble_17 : decode cX0_ofDouble 17 = .ok (.iadd, 1) := by decide +kernel
theorem dX0_ofDouble_18 : decode cX0_ofDouble 18 = .ok (.i2l, 1) := by decide +kernel
theorem dX0_ofDouble_19 : decode cX0_ofDouble 19 = .ok (.bipush 52, 2) := by decide +kernel
theorem dX0_ofDouble_21 : decode cX0_ofDouble 21 = .ok (.lshl, 1) := by decide +kernel
theorem dX0_ofDouble_22 : decode cX0_ofDouble 22 = .ok (.dload_n 0, 1) := by decide +kernel
theorem dX0_ofDouble_23 : decode cX0_ofDouble 23 = .ok (.iload_n 2, 1) := by decide +kernel
theorem dX0_ofDouble_24 : decode cX0_ofDouble 24 = .ok (.invokestatic 13, 3) := by decide +kernel
theorem dX0_ofDouble_27 : decode cX0_ofDouble 27 = .ok (.ldc2_w 19, 3) := by decide +kernel
theorem dX0_ofDouble_30 : decode cX0_ofDouble 30 = .ok (.dmul, 1) := by decide +kernel
theorem dX0_ofDouble_31 : decode cX0_ofDouble 31 = .ok (.d2l, 1) := by decide +kernel
theorem dX0_ofDouble_32 : decode cX0_ofDouble 32 = .ok (.ladd, 1) := by decide +kernel
theorem dX0_ofDouble_33 : decode cX0_ofDouble 33 = .ok (.lreturn, 1) := by decide +kernel
theorem dX0_exponentOf_0 : decode cX0_exponentOf 0 = .ok (.dload_n 0, 1) := by decide +kernel
theorem dX0_exponentOf_1 : decode cX0_exponentOf 1 = .ok (.dstore_n 2, 1) := by decide +kernel
theorem dX0_exponentOf_2 : decode cX0_exponentOf 2 = .ok (.iconst 0, 1) := by decide +kernel
theorem dX0_exponentOf_3 : decode cX0_exponentOf 3 = .ok (.istore 4, 2) := by decide +kernel
theorem dX0_exponentOf_5 : decode cX0_exponentOf 5 = .ok (.dload_n 2, 1) := by decide +kernel
theorem dX0_exponentOf_6 : decode cX0_exponentOf 6 = .ok (.dconst 1, 1) := by decide +kernel
theorem dX0_exponentOf_7 : decode cX0_exponentOf 7 = .ok (.dcmp .g, 1) := by decide +kernel
theorem dX0_exponentOf_8 : decode cX0_exponentOf 8 = .ok (.ifCond .ge 22, 3) := by decide +kernel
theorem dX0_exponentOf_11 : decode cX0_exponentOf 11 = .ok (.iload 4, 2) := by decide +kernel
theorem dX0_exponentOf_13 : decode cX0_exponentOf 13 = .ok (.bipush (-100), 2) := by decide +kernel
theorem dX0_exponentOf_15 : decode cX0_exponentOf 15 = .ok (.if_icmp .le 15, 3) := by decide +kernel
theorem dX0_exponentOf_18 : decode cX0_exponentOf 18 = .ok (.dload_n 2, 1) := by decide +kernel
theorem dX0_exponentOf_19 : decode cX0_exponentOf 19 = .ok (.ldc2_w 21, 3) := by decide +kernel
theorem dX0_exponentOf_22 : decode cX0_exponentOf 22 = .ok (.dmul, 1) := by decide +kernel
theorem dX0_exponentOf_23 : decode cX0_exponentOf 23 = .ok (.dstore_n 2, 1) := by decide +kernel
theorem dX0_exponentOf_24 : decode cX0_exponentOf 24 = .ok (.iinc 4 (-1), 3) := by decide +kernel
theorem dX0_exponentOf_27 : decode cX0_exponentOf 27 = .ok (.goto (-22), 3) := by decide +kernel
theorem dX0_exponentOf_30 : decode cX0_exponentOf 30 = .ok (.iload 4, 2) := by decide +kernel
theorem dX0_exponentOf_32 : decode cX0_exponentOf 32 = .ok (.ireturn, 1) := by decide +kernel
theorem dX0_fractionOf_0 : decode cX0_fractionOf 0 = .ok (.dload_n 0, 1) := by decide +kernel
theorem dX0_fractionOf_1 : decode cX0_fractionOf 1 = .ok (.dstore_n 3, 1) := by decide +kernel
theorem dX0_fractionOf_2 : decode cX0_fractionOf 2 = .ok (.iload_n 2, 1) := by decide +kernel
theorem dX0_fractionOf_3 : decode cX0_fractionOf 3 = .ok (.istore 5, 2) := by decide +kernel
theorem dX0_fractionOf_5 : decode cX0_fractionOf 5 = .ok (.iload 5, 2) := by decide +kernel
theorem dX0_fractionOf_7 : decode cX0_fractionOf 7 = .ok (.ifCond .ge 15, 3) := by decide +kernel
theorem dX0_fractionOf_10 : decode cX0_fractionOf 10 = .ok (.dload_n 3, 1) := by decide +kernel
theorem dX0_fractionOf_11 : decode cX0_fractionOf 11 = .ok (.ldc2_w 21, 3) := by decide +kernel
theorem dX0_fractionOf_14 : decode cX0_fractionOf 14 = .ok (.dmul, 1) := by decide +kernel
theorem dX0_fractionOf_15 : decode cX0_fractionOf 15 = .ok (.dstore_n 3, 1) := by decide +kernel
theorem dX0_fractionOf_16 : decode cX0_fractionOf 16 = .ok (.iinc 5 1, 3) := by decide +kernel
theorem dX0_fractionOf_19 : decode cX0_fractionOf 19 = .ok (.goto (-14), 3) := by decide +kernel
theorem dX0_fractionOf_22 : decode cX0_fractionOf 22 = .ok (.dload_n 3, 1) := by decide +kernel
theorem dX0_fractionOf_23 : decode cX0_fractionOf 23 = .ok (.dconst 1, 1) := by decide +kernel
theorem dX0_fractionOf_24 : decode cX0_fractionOf 24 = .ok (.dsub, 1) := by decide +kernel
theorem dX0_fractionOf_25 : decode cX0_fractionOf 25 = .ok (.dreturn, 1) := by decide +kernel
theorem dX1_cornerBy_0 : decode cX1_cornerBy 0 = .ok (.iload_n 0, 1) := by decide +kernel
theorem dX1_cornerBy_1 : decode cX1_cornerBy 1 = .ok (.iconst 3, 1) := by decide +kernel
theorem dX1_cornerBy_2 : decode cX1_cornerBy 2 = .ok (.ishr, 1) := by decide +kernel
theorem dX1_cornerBy_3 : decode cX1_cornerBy 3 = .ok (.iconst 3, 1) := by decide +kernel
theorem dX1_cornerBy_4 : decode cX1_cornerBy 4 = .ok (.imul, 1) := by decide +kernel
theorem dX1_cornerBy_5 : decode cX1_cornerBy 5 = .ok (.istore_n 2, 1) := by decide +kernel
theorem dX1_cornerBy_6 : decode cX1_cornerBy 6 = .ok (.iload_n 2, 1) := by decide +kernel
theorem dX1_cornerBy_7 : decode cX1_cornerBy 7 = .ok (.ifCond .lt 13, 3) := by decide +kernel
theorem dX1_cornerBy_10 : decode cX1_cornerBy 10 = .ok (.iload_n 2, 1) := by decide +kernel
theorem dX1_cornerBy_11 : decode cX1_cornerBy 11 = .ok (.iconst 2, 1) := by decide +kernel
theorem dX1_cornerBy_12 : decode cX1_cornerBy 12 = .ok (.iadd, 1) := by decide +kernel
theorem dX1_cornerBy_13 : decode cX1_cornerBy 13 = .ok (.getstatic 9, 3) := by decide +kernel
theorem dX1_cornerBy_16 : decode cX1_cornerBy 16 = .ok (.arraylength, 1) := by decide +kernel
theorem dX1_cornerBy_17 : decode cX1_cornerBy 17 = .ok (.if_icmp .lt 5, 3) := by decide +kernel
theorem dX1_cornerBy_20 : decode cX1_cornerBy 20 = .ok (.iconst (-1), 1) := by decide +kernel
theorem dX1_cornerBy_21 : decode cX1_cornerBy 21 = .ok (.ireturn, 1) := by decide +kernel
theorem dX1_cornerBy_22 : decode cX1_cornerBy 22 = .ok (.iload_n 1, 1) := by decide +kernel
theorem dX1_cornerBy_23 : decode cX1_cornerBy 23 = .ok (.getstatic 9, 3) := by decide +kernel
theorem dX1_cornerBy_26 : decode cX1_cornerBy 26 = .ok (.iload_n 2, 1) := by decide +kernel
theorem dX1_cornerBy_27 : decode cX1_cornerBy 27 = .ok (.iaload, 1) := by decide +kernel
theorem dX1_cornerBy_28 : decode cX1_cornerBy 28 = .ok (.ishr, 1) := by decide +kernel
theorem dX1_cornerBy_29 : decode cX1_cornerBy 29 = .ok (.iconst 1, 1) := by decide +kernel
theorem dX1_cornerBy_30 : decode cX1_cornerBy 30 = .ok (.iand, 1) := by decide +kernel
theorem dX1_cornerBy_31 : decode cX1_cornerBy 31 = .ok (.istore_n 3, 1) := by decide +kernel
theorem dX1_cornerBy_32 : decode cX1_cornerBy 32 = .ok (.iload_n 1, 1) := by decide +kernel
theorem dX1_cornerBy_33 : decode cX1_cornerBy 33 = .ok (.getstatic 9, 3) := by decide +kernel
theorem dX1_cornerBy_36 : decode cX1_cornerBy 36 = .ok (.iload_n 2, 1) := by decide +kernel
theorem dX1_cornerBy_37 : decode cX1_cornerBy 37 = .ok (.iconst 1, 1) := by decide +kernel
theorem dX1_cornerBy_38 : decode cX1_cornerBy 38 = .ok (.iadd, 1) := by decide +kernel
theorem dX1_cornerBy_39 : decode cX1_cornerBy 39 = .ok (.iaload, 1) := by decide +kernel
theorem dX1_cornerBy_40 : decode cX1_cornerBy 40 = .ok (.ishr, 1) := by decide +kernel
theorem dX1_cornerBy_41 : decode cX1_cornerBy 41 = .ok (.iconst 1, 1) := by decide +kernel
theorem dX1_cornerBy_42 : decode cX1_cornerBy 42 = .ok (.iand, 1) := by decide +kernel
theorem dX1_cornerBy_43 : decode cX1_cornerBy 43 = .ok (.istore 4, 2) := by decide +kernel
theorem dX1_cornerBy_45 : decode cX1_cornerBy 45 = .ok (.iload_n 1, 1) := by decide +kernel
theorem dX1_cornerBy_46 : decode cX1_cornerBy 46 = .ok (.getstatic 9, 3) := by decide +kernel
theorem dX1_cornerBy_49 : decode cX1_cornerBy 49 = .ok (.iload_n 2, 1) := by decide +kernel
theorem dX1_cornerBy_50 : decode cX1_cornerBy 50 = .ok (.iconst 2, 1) := by decide +kernel
theorem dX1_cornerBy_51 : decode cX1_cornerBy 51 = .ok (.iadd, 1) := by decide +kernel
theorem dX1_cornerBy_52 : decode cX1_cornerBy 52 = .ok (.iaload, 1) := by decide +kernel
theorem dX1_cornerBy_53 : decode cX1_cornerBy 53 = .ok (.ishr, 1) := by decide +kernel
theorem dX1_cornerBy_54 : decode cX1_cornerBy 54 = .ok (.iconst 1, 1) := by decide +kernel
theorem dX1_cornerBy_55 : decode cX1_cornerBy 55 = .ok (.iand, 1) := by decide +kernel
theorem dX1_cornerBy_56 : decode cX1_cornerBy 56 = .ok (.istore 5, 2) := by decide +kernel
theorem dX1_cornerBy_58 : decode cX1_cornerBy 58 = .ok (.iload_n 3, 1) := by decide +kernel
theorem dX1_cornerBy_59 : decode cX1_cornerBy 59 = .ok (.iload 4, 2) := by decide +kernel
theorem dX1_cornerBy_61 : decode cX1_cornerBy 61 = .ok (.iconst 1, 1) := by decide +kernel
theorem dX1_cornerBy_62 : decode cX1_cornerBy 62 = .ok (.ishl, 1) := by decide +kernel
theorem dX1_cornerBy_63 : decode cX1_cornerBy 63 = .ok (.ior, 1) := by decide +kernel
theorem dX1_cornerBy_64 : decode cX1_cornerBy 64 = .ok (.iload 5, 2) := by decide +kernel
theorem dX1_cornerBy_66 : decode cX1_cornerBy 66 = .ok (.iconst 2, 1) := by decide +kernel
theorem dX1_cornerBy_67 : decode cX1_cornerBy 67 = .ok (.ishl, 1) := by decide +kernel
theorem dX1_cornerBy_68 : decode cX1_cornerBy 68 = .ok (.ior, 1) := by decide +kernel
theorem dX1_cornerBy_69 : decode cX1_cornerBy 69 = .ok (.iload_n 0, 1) := by decide +kernel
theorem dX1_cornerBy_70 : decode cX1_cornerBy 70 = .ok (.bipush 7, 2) := by decide +kernel
theorem dX1_cornerBy_72 : decode cX1_cornerBy 72 = .ok (.iand, 1) := by decide +kernel
theorem dX1_cornerBy_73 : decode cX1_cornerBy 73 = .ok (.ixor, 1) := by decide +kernel
theorem dX1_cornerBy_74 : decode cX1_cornerBy 74 = .ok (.ireturn, 1) := by decide +kernel
theorem dX1_imageBy_0 : decode cX1_imageBy 0 = .ok (.iconst 0, 1) := by decide +kernel
theorem dX1_imageBy_1 : decode cX1_imageBy 1 = .ok (.istore_n 2, 1) := by decide +kernel
theorem dX1_imageBy_2 : decode cX1_imageBy 2 = .ok (.iconst 0, 1) := by decide +kernel
theorem dX1_imageBy_3 : decode cX1_imageBy 3 = .ok (.istore_n 3, 1) := by decide +kernel
theorem dX1_imageBy_4 : decode cX1_imageBy 4 = .ok (.iload_n 3, 1) := by decide +kernel
theorem dX1_imageBy_5 : decode cX1_imageBy 5 = .ok (.bipush 8, 2) := by decide +kernel
theorem dX1_imageBy_7 : decode cX1_imageBy 7 = .ok (.if_icmp .ge 28, 3) := by decide +kernel
theorem dX1_imageBy_10 : decode cX1_imageBy 10 = .ok (.iload_n 1, 1) := by decide +kernel
theorem dX1_imageBy_11 : decode cX1_imageBy 11 = .ok (.iload_n 3, 1) := by decide +kernel
theorem dX1_imageBy_12 : decode cX1_imageBy 12 = .ok (.invokestatic 15, 3) := by decide +kernel
theorem dX1_imageBy_15 : decode cX1_imageBy 15 = .ok (.iconst 1, 1) := by decide +kernel
theorem dX1_imageBy_16 : decode cX1_imageBy 16 = .ok (.if_icmp .ne 13, 3) := by decide +kernel
theorem dX1_imageBy_19 : decode cX1_imageBy 19 = .ok (.iload_n 2, 1) := by decide +kernel
theorem dX1_imageBy_20 : decode cX1_imageBy 20 = .ok (.iconst 1, 1) := by decide +kernel
theorem dX1_imageBy_21 : decode cX1_imageBy 21 = .ok (.iload_n 0, 1) := by decide +kernel
theorem dX1_imageBy_22 : decode cX1_imageBy 22 = .ok (.iload_n 3, 1) := by decide +kernel
theorem dX1_imageBy_23 : decode cX1_imageBy 23 = .ok (.invokestatic 19, 3) := by decide +kernel
theorem dX1_imageBy_26 : decode cX1_imageBy 26 = .ok (.ishl, 1) := by decide +kernel
theorem dX1_imageBy_27 : decode cX1_imageBy 27 = .ok (.ior, 1) := by decide +kernel
theorem dX1_imageBy_28 : decode cX1_imageBy 28 = .ok (.istore_n 2, 1) := by decide +kernel
theorem dX1_imageBy_29 : decode cX1_imageBy 29 = .ok (.iinc 3 1, 3) := by decide +kernel
theorem dX1_imageBy_32 : decode cX1_imageBy 32 = .ok (.goto (-28), 3) := by decide +kernel
theorem dX1_imageBy_35 : decode cX1_imageBy 35 = .ok (.iload_n 2, 1) := by decide +kernel
theorem dX1_imageBy_36 : decode cX1_imageBy 36 = .ok (.ireturn, 1) := by decide +kernel
theorem dX1_formOf_0 : decode cX1_formOf 0 = .ok (.iload_n 0, 1) := by decide +kernel
theorem dX1_formOf_1 : decode cX1_formOf 1 = .ok (.istore_n 1, 1) := by decide +kernel
theorem dX1_formOf_2 : decode cX1_formOf 2 = .ok (.iconst 0, 1) := by decide +kernel
theorem dX1_formOf_3 : decode cX1_formOf 3 = .ok (.istore_n 2, 1) := by decide +kernel
theorem dX1_formOf_4 : decode cX1_formOf 4 = .ok (.iload_n 2, 1) := by decide +kernel
theorem dX1_formOf_5 : decode cX1_formOf 5 = .ok (.bipush 48, 2) := by decide +kernel
theorem dX1_formOf_7 : decode cX1_formOf 7 = .ok (.if_icmp .ge 19, 3) := by decide +kernel
theorem dX1_formOf_10 : decode cX1_formOf 10 = .ok (.iload_n 1, 1) := by decide +kernel
theorem dX1_formOf_11 : decode cX1_formOf 11 = .ok (.iload_n 2, 1) := by decide +kernel
theorem dX1_formOf_12 : decode cX1_formOf 12 = .ok (.iload_n 0, 1) := by decide +kernel
theorem dX1_formOf_13 : decode cX1_formOf 13 = .ok (.invokestatic 22, 3) := by decide +kernel
theorem dX1_formOf_16 : decode cX1_formOf 16 = .ok (.invokestatic 25, 3) := by decide +kernel
theorem dX1_formOf_19 : decode cX1_formOf 19 = .ok (.istore_n 1, 1) := by decide +kernel
theorem dX1_formOf_20 : decode cX1_formOf 20 = .ok (.iinc 2 1, 3) := by decide +kernel
theorem dX1_formOf_23 : decode cX1_formOf 23 = .ok (.goto (-19), 3) := by decide +kernel
theorem dX1_formOf_26 : decode cX1_formOf 26 = .ok (.iload_n 1, 1) := by decide +kernel
theorem dX1_formOf_27 : decode cX1_formOf 27 = .ok (.ireturn, 1) := by decide +kernel
theorem dX1_classOf_0 : decode cX1_classOf 0 = .ok (.iload_n 0, 1) := by decide +kernel
theorem dX1_classOf_1 : decode cX1_classOf 1 = .ok (.invokestatic 30, 3) := by decide +kernel
theorem dX1_classOf_4 : decode cX1_classOf 4 = .ok (.istore_n 1, 1) := by decide +kernel
theorem dX1_classOf_5 : decode cX1_classOf 5 = .ok (.iconst 0, 1) := by decide +kernel
theorem dX1_classOf_6 : decode cX1_classOf 6 = .ok (.istore_n 2, 1) := by decide +kernel
theorem dX1_classOf_7 : decode cX1_classOf 7 = .ok (.iload_n 2, 1) := by decide +kernel
theorem dX1_classOf_8 : decode cX1_classOf 8 = .ok (.getstatic 34, 3) := by decide +kernel
theorem dX1_classOf_11 : decode cX1_classOf 11 = .ok (.arraylength, 1) := by decide +kernel
theorem dX1_classOf_12 : decode cX1_classOf 12 = .ok (.if_icmp .ge 20, 3) := by decide +kernel
theorem dX1_classOf_15 : decode cX1_classOf 15 = .ok (.getstatic 34, 3) := by decide +kernel
theorem dX1_classOf_18 : decode cX1_classOf 18 = .ok (.iload_n 2, 1) := by decide +kernel
theorem dX1_classOf_19 : decode cX1_classOf 19 = .ok (.iaload, 1) := by decide +kernel
theorem dX1_classOf_20 : decode cX1_classOf 20 = .ok (.iload_n 1, 1) := by decide +kernel
theorem dX1_classOf_21 : decode cX1_classOf 21 = .ok (.if_icmp .ne 5, 3) := by decide +kernel
theorem dX1_classOf_24 : decode cX1_classOf 24 = .ok (.iload_n 2, 1) := by decide +kernel
theorem dX1_classOf_25 : decode cX1_classOf 25 = .ok (.ireturn, 1) := by decide +kernel
theorem dX1_classOf_26 : decode cX1_classOf 26 = .ok (.iinc 2 1, 3) := by decide +kernel
theorem dX1_classOf_29 : decode cX1_classOf 29 = .ok (.goto (-22), 3) := by decide +kernel
theorem dX1_classOf_32 : decode cX1_classOf 32 = .ok (.iconst (-1), 1) := by decide +kernel
theorem dX1_classOf_33 : decode cX1_classOf 33 = .ok (.ireturn, 1) := by decide +kernel
theorem dX1_classesWith_0 : decode cX1_classesWith 0 = .ok (.iconst 0, 1) := by decide +kernel
theorem dX1_classesWith_1 : decode cX1_classesWith 1 = .ok (.istore_n 1, 1) := by decide +kernel
theorem dX1_classesWith_2 : decode cX1_classesWith 2 = .ok (.iconst 0, 1) := by decide +kernel
theorem dX1_classesWith_3 : decode cX1_classesWith 3 = .ok (.istore_n 2, 1) := by decide +kernel
theorem dX1_classesWith_4 : decode cX1_classesWith 4 = .ok (.iload_n 2, 1) := by decide +kernel
theorem dX1_classesWith_5 : decode cX1_classesWith 5 = .ok (.getstatic 34, 3) := by decide +kernel
theorem dX1_classesWith_8 : decode cX1_classesWith 8 = .ok (.arraylength, 1) := by decide +kernel
theorem dX1_classesWith_9 : decode cX1_classesWith 9 = .ok (.if_icmp .ge 24, 3) := by decide +kernel
theorem dX1_classesWith_12 : decode cX1_classesWith 12 = .ok (.getstatic 34, 3) := by decide +kernel
theorem dX1_classesWith_15 : decode cX1_classesWith 15 = .ok (.iload_n 2, 1) := by decide +kernel
theorem dX1_classesWith_16 : decode cX1_classesWith 16 = .ok (.iaload, 1) := by decide +kernel
theorem dX1_classesWith_17 : decode cX1_classesWith 17 = .ok (.invokestatic 37, 3) := by decide +kernel
theorem dX1_classesWith_20 : decode cX1_classesWith 20 = .ok (.iload_n 0, 1) := by decide +kernel
theorem dX1_classesWith_21 : decode cX1_classesWith 21 = .ok (.if_icmp .ne 6, 3) := by decide +kernel
theorem dX1_classesWith_24 : decode cX1_classesWith 24 = .ok (.iinc 1 1, 3) := by decide +kernel
theorem dX1_classesWith_27 : decode cX1_classesWith 27 = .ok (.iinc 2 1, 3) := by decide +kernel
theorem dX1_classesWith_30 : decode cX1_classesWith 30 = .ok (.goto (-26), 3) := by decide +kernel
theorem dX1_classesWith_33 : decode cX1_classesWith 33 = .ok (.iload_n 1, 1) := by decide +kernel
theorem dX1_classesWith_34 : decode cX1_classesWith 34 = .ok (.ireturn, 1) := by decide +kernel
theorem dX1_stillMoves_0 : decode cX1_stillMoves 0 = .ok (.iconst 0, 1) := by decide +kernel
theorem dX1_stillMoves_1 : decode cX1_stillMoves 1 = .ok (.istore_n 1, 1) := by decide +kernel
theorem dX1_stillMoves_2 : decode cX1_stillMoves 2 = .ok (.iconst 0, 1) := by decide +kernel
theorem dX1_stillMoves_3 : decode cX1_stillMoves 3 = .ok (.istore_n 2, 1) := by decide +kernel
theorem dX1_stillMoves_4 : decode cX1_stillMoves 4 = .ok (.iload_n 2, 1) := by decide +kernel
theorem dX1_stillMoves_5 : decode cX1_stillMoves 5 = .ok (.bipush 48, 2) := by decide +kernel
theorem dX1_stillMoves_7 : decode cX1_stillMoves 7 = .ok (.if_icmp .ge 21, 3) := by decide +kernel
theorem dX1_stillMoves_10 : decode cX1_stillMoves 10 = .ok (.iload_n 2, 1) := by decide +kernel
theorem dX1_stillMoves_11 : decode cX1_stillMoves 11 = .ok (.iload_n 0, 1) := by decide +kernel
theorem dX1_stillMoves_12 : decode cX1_stillMoves 12 = .ok (.invokestatic 22, 3) := by decide +kernel
theorem dX1_stillMoves_15 : decode cX1_stillMoves 15 = .ok (.iload_n 0, 1) := by decide +kernel
theorem dX1_stillMoves_16 : decode cX1_stillMoves 16 = .ok (.if_icmp .ne 6, 3) := by decide +kernel
theorem dX1_stillMoves_19 : decode cX1_stillMoves 19 = .ok (.iinc 1 1, 3) := by decide +kernel
theorem dX1_stillMoves_22 : decode cX1_stillMoves 22 = .ok (.iinc 2 1, 3) := by decide +kernel
theorem dX1_stillMoves_25 : decode cX1_stillMoves 25 = .ok (.goto (-21), 3) := by decide +kernel
theorem dX1_stillMoves_28 : decode cX1_stillMoves 28 = .ok (.iload_n 1, 1) := by decide +kernel
theorem dX1_stillMoves_29 : decode cX1_stillMoves 29 = .ok (.ireturn, 1) := by decide +kernel
theorem dX1_unlikeImages_0 : decode cX1_unlikeImages 0 = .ok (.iload_n 0, 1) := by decide +kernel
theorem dX1_unlikeImages_1 : decode cX1_unlikeImages 1 = .ok (.invokestatic 42, 3) := by decide +kernel
theorem dX1_unlikeImages_4 : decode cX1_unlikeImages 4 = .ok (.istore_n 1, 1) := by decide +kernel
theorem dX1_unlikeImages_5 : decode cX1_unlikeImages 5 = .ok (.iload_n 1, 1) := by decide +kernel
theorem dX1_unlikeImages_6 : decode cX1_unlikeImages 6 = .ok (.ifCond .ne 8, 3) := by decide +kernel
theorem dX1_unlikeImages_9 : decode cX1_unlikeImages 9 = .ok (.bipush 48, 2) := by decide +kernel
theorem dX1_unlikeImages_11 : decode cX1_unlikeImages 11 = .ok (.goto 7, 3) := by decide +kernel
theorem dX1_unlikeImages_14 : decode cX1_unlikeImages 14 = .ok (.bipush 48, 2) := by decide +kernel
theorem dX1_unlikeImages_16 : decode cX1_unlikeImages 16 = .ok (.iload_n 1, 1) := by decide +kernel
theorem dX1_unlikeImages_17 : decode cX1_unlikeImages 17 = .ok (.idiv, 1) := by decide +kernel
theorem dX1_unlikeImages_18 : decode cX1_unlikeImages 18 = .ok (.ireturn, 1) := by decide +kernel
theorem dX1_distance_0 : decode cX1_distance 0 = .ok (.bipush 8, 2) := by decide +kernel
theorem dX1_distance_2 : decode cX1_distance 2 = .ok (.istore_n 2, 1) := by decide +kernel
theorem dX1_distance_3 : decode cX1_distance 3 = .ok (.iconst 0, 1) := by decide +kernel
theorem dX1_distance_4 : decode cX1_distance 4 = .ok (.istore_n 3, 1) := by decide +kernel
theorem dX1_distance_5 : decode cX1_distance 5 = .ok (.iload_n 3, 1) := by decide +kernel
theorem dX1_distance_6 : decode cX1_distance 6 = .ok (.bipush 48, 2) := by decide +kernel
theorem dX1_distance_8 : decode cX1_distance 8 = .ok (.if_icmp .ge 24, 3) := by decide +kernel
theorem dX1_distance_11 : decode cX1_distance 11 = .ok (.iload_n 2, 1) := by decide +kernel
theorem dX1_distance_12 : decode cX1_distance 12 = .ok (.iload_n 3, 1) := by decide +kernel
theorem dX1_distance_13 : decode cX1_distance 13 = .ok (.iload_n 0, 1) := by decide +kernel
theorem dX1_distance_14 : decode cX1_distance 14 = .ok (.invokestatic 22, 3) := by decide +kernel
theorem dX1_distance_17 : decode cX1_distance 17 = .ok (.iload_n 1, 1) := by decide +kernel
theorem dX1_distance_18 : decode cX1_distance 18 = .ok (.ixor, 1) := by decide +kernel
theorem dX1_distance_19 : decode cX1_distance 19 = .ok (.invokestatic 37, 3) := by decide +kernel
theorem dX1_distance_22 : decode cX1_distance 22 = .ok (.invokestatic 25, 3) := by decide +kernel
theorem dX1_distance_25 : decode cX1_distance 25 = .ok (.istore_n 2, 1) := by decide +kernel
theorem dX1_distance_26 : decode cX1_distance 26 = .ok (.iinc 3 1, 3) := by decide +kernel
theorem dX1_distance_29 : decode cX1_distance 29 = .ok (.goto (-24), 3) := by decide +kernel
theorem dX1_distance_32 : decode cX1_distance 32 = .ok (.iload_n 2, 1) := by decide +kernel
theorem dX1_distance_33 : decode cX1_distance 33 = .ok (.ireturn, 1) := by decide +kernel
theorem dX1_commonOverMoves_0 : decode cX1_commonOverMoves 0 = .ok (.iconst 0, 1) := by decide +kernel
theorem dX1_commonOverMoves_1 : decode cX1_commonOverMoves 1 = .ok (.istore_n 2, 1) := by decide +kernel
theorem dX1_commonOverMoves_2 : decode cX1_commonOverMoves 2 = .ok (.iconst 0, 1) := by decide +kernel
theorem dX1_commonOverMoves_3 : decode cX1_commonOverMoves 3 = .ok (.istore_n 3, 1) := by decide +kernel
theorem dX1_commonOverMoves_4 : decode cX1_commonOverMoves 4 = .ok (.iload_n 3, 1) := by decide +kernel
theorem dX1_commonOverMoves_5 : decode cX1_commonOverMoves 5 = .ok (.bipush 48, 2) := by decide +kernel
theorem dX1_commonOverMoves_7 : decode cX1_commonOverMoves 7 = .ok (.if_icmp .ge 22, 3) := by decide +kernel
theorem dX1_commonOverMoves_10 : decode cX1_commonOverMoves 10 = .ok (.iload_n 2, 1) := by decide +kernel
theorem dX1_commonOverMoves_11 : decode cX1_commonOverMoves 11 = .ok (.iload_n 3, 1) := by decide +kernel
theorem dX1_commonOverMoves_12 : decode cX1_commonOverMoves 12 = .ok (.iload_n 0, 1) := by decide +kernel
theorem dX1_commonOverMoves_13 : decode cX1_commonOverMoves 13 = .ok (.invokestatic 22, 3) := by decide +kernel
theorem dX1_commonOverMoves_16 : decode cX1_commonOverMoves 16 = .ok (.iload_n 1, 1) := by decide +kernel
theorem dX1_commonOverMoves_17 : decode cX1_commonOverMoves 17 = .ok (.iand, 1) := by decide +kernel
theorem dX1_commonOverMoves_18 : decode cX1_commonOverMoves 18 = .ok (.invokestatic 37, 3) := by decide +kernel
theorem dX1_commonOverMoves_21 : decode cX1_commonOverMoves 21 = .ok (.iadd, 1) := by decide +kernel
theorem dX1_commonOverMoves_22 : decode cX1_commonOverMoves 22 = .ok (.istore_n 2, 1) := by decide +kernel
theorem dX1_commonOverMoves_23 : decode cX1_commonOverMoves 23 = .ok (.iinc 3 1, 3) := by decide +kernel
theorem dX1_commonOverMoves_26 : decode cX1_commonOverMoves 26 = .ok (.goto (-22), 3) := by decide +kernel
theorem dX1_commonOverMoves_29 : decode cX1_commonOverMoves 29 = .ok (.iload_n 2, 1) := by decide +kernel
theorem dX1_commonOverMoves_30 : decode cX1_commonOverMoves 30 = .ok (.ireturn, 1) := by decide +kernel
theorem dX1_dimension_0 : decode cX1_dimension 0 = .ok (.iload_n 0, 1) := by decide +kernel
theorem dX1_dimension_1 : decode cX1_dimension 1 = .ok (.invokestatic 37, 3) := by decide +kernel
theorem dX1_dimension_4 : decode cX1_dimension 4 = .ok (.istore_n 1, 1) := by decide +kernel
theorem dX1_dimension_5 : decode cX1_dimension 5 = .ok (.iload_n 1, 1) := by decide +kernel
theorem dX1_dimension_6 : decode cX1_dimension 6 = .ok (.iconst 3, 1) := by decide +kernel
theorem dX1_dimension_7 : decode cX1_dimension 7 = .ok (.if_icmp .gt 7, 3) := by decide +kernel
theorem dX1_dimension_10 : decode cX1_dimension 10 = .ok (.iload_n 1, 1) := by decide +kernel
theorem dX1_dimension_11 : decode cX1_dimension 11 = .ok (.iconst 1, 1) := by decide +kernel
theorem dX1_dimension_12 : decode cX1_dimension 12 = .ok (.isub, 1) := by decide +kernel
theorem dX1_dimension_13 : decode cX1_dimension 13 = .ok (.ireturn, 1) := by decide +kernel
theorem dX1_dimension_14 : decode cX1_dimension 14 = .ok (.iload_n 0, 1) := by decide +kernel
theorem dX1_dimension_15 : decode cX1_dimension 15 = .ok (.invokestatic 45, 3) := by decide +kernel
theorem dX1_dimension_18 : decode cX1_dimension 18 = .ok (.istore_n 2, 1) := by decide +kernel
theorem dX1_dimension_19 : decode cX1_dimension 19 = .ok (.iload_n 0, 1) := by decide +kernel
theorem dX1_dimension_20 : decode cX1_dimension 20 = .ok (.iconst 1, 1) := by decide +kernel
theorem dX1_dimension_21 : decode cX1_dimension 21 = .ok (.iload_n 2, 1) := by decide +kernel
theorem dX1_dimension_22 : decode cX1_dimension 22 = .ok (.ishl, 1) := by decide +kernel
theorem dX1_dimension_23 : decode cX1_dimension 23 = .ok (.iconst (-1), 1) := by decide +kernel
theorem dX1_dimension_24 : decode cX1_dimension 24 = .ok (.ixor, 1) := by decide +kernel
theorem dX1_dimension_25 : decode cX1_dimension 25 = .ok (.iand, 1) := by decide +kernel
theorem dX1_dimension_26 : decode cX1_dimension 26 = .ok (.istore_n 3, 1) := by decide +kernel
theorem dX1_dimension_27 : decode cX1_dimension 27 = .ok (.iconst 0, 1) := by decide +kernel
theorem dX1_dimension_28 : decode cX1_dimension 28 = .ok (.istore 4, 2) := by decide +kernel
theorem dX1_dimension_30 : decode cX1_dimension 30 = .ok (.iload 4, 2) := by decide +kernel
theorem dX1_dimension_32 : decode cX1_dimension 32 = .ok (.bipush 8, 2) := by decide +kernel
theorem dX1_dimension_34 : decode cX1_dimension 34 = .ok (.if_icmp .ge 81, 3) := by decide +kernel
theorem dX1_dimension_37 : decode cX1_dimension 37 = .ok (.iconst 0, 1) := by decide +kernel
theorem dX1_dimension_38 : decode cX1_dimension 38 = .ok (.istore 5, 2) := by decide +kernel
theorem dX1_dimension_40 : decode cX1_dimension 40 = .ok (.iload 5, 2) := by decide +kernel
theorem dX1_dimension_42 : decode cX1_dimension 42 = .ok (.iload 4, 2) := by decide +kernel
theorem dX1_dimension_44 : decode cX1_dimension 44 = .ok (.if_icmp .ge 65, 3) := by decide +kernel
theorem dX1_dimension_47 : decode cX1_dimension 47 = .ok (.iconst 0, 1) := by decide +kernel
theorem dX1_dimension_48 : decode cX1_dimension 48 = .ok (.istore 6, 2) := by decide +kernel
theorem dX1_dimension_50 : decode cX1_dimension 50 = .ok (.iload 6, 2) := by decide +kernel
theorem dX1_dimension_52 : decode cX1_dimension 52 = .ok (.iload 5, 2) := by decide +kernel
theorem dX1_dimension_54 : decode cX1_dimension 54 = .ok (.if_icmp .ge 49, 3) := by decide +kernel
theorem dX1_dimension_57 : decode cX1_dimension 57 = .ok (.iconst 1, 1) := by decide +kernel
theorem dX1_dimension_58 : decode cX1_dimension 58 = .ok (.iload 4, 2) := by decide +kernel
theorem dX1_dimension_60 : decode cX1_dimension 60 = .ok (.ishl, 1) := by decide +kernel
theorem dX1_dimension_61 : decode cX1_dimension 61 = .ok (.iconst 1, 1) := by decide +kernel
theorem dX1_dimension_62 : decode cX1_dimension 62 = .ok (.iload 5, 2) := by decide +kernel
theorem dX1_dimension_64 : decode cX1_dimension 64 = .ok (.ishl, 1) := by decide +kernel
theorem dX1_dimension_65 : decode cX1_dimension 65 = .ok (.ior, 1) := by decide +kernel
theorem dX1_dimension_66 : decode cX1_dimension 66 = .ok (.iconst 1, 1) := by decide +kernel
theorem dX1_dimension_67 : decode cX1_dimension 67 = .ok (.iload 6, 2) := by decide +kernel
theorem dX1_dimension_69 : decode cX1_dimension 69 = .ok (.ishl, 1) := by decide +kernel
theorem dX1_dimension_70 : decode cX1_dimension 70 = .ok (.ior, 1) := by decide +kernel
theorem dX1_dimension_71 : decode cX1_dimension 71 = .ok (.istore 7, 2) := by decide +kernel
theorem dX1_dimension_73 : decode cX1_dimension 73 = .ok (.iload_n 3, 1) := by decide +kernel
theorem dX1_dimension_74 : decode cX1_dimension 74 = .ok (.iload 7, 2) := by decide +kernel
theorem dX1_dimension_76 : decode cX1_dimension 76 = .ok (.iand, 1) := by decide +kernel
theorem dX1_dimension_77 : decode cX1_dimension 77 = .ok (.iload 7, 2) := by decide +kernel
theorem dX1_dimension_79 : decode cX1_dimension 79 = .ok (.if_icmp .ne 18, 3) := by decide +kernel
theorem dX1_dimension_82 : decode cX1_dimension 82 = .ok (.iload_n 2, 1) := by decide +kernel
theorem dX1_dimension_83 : decode cX1_dimension 83 = .ok (.iload 4, 2) := by decide +kernel
theorem dX1_dimension_85 : decode cX1_dimension 85 = .ok (.iload 5, 2) := by decide +kernel
theorem dX1_dimension_87 : decode cX1_dimension 87 = .ok (.iload 6, 2) := by decide +kernel
theorem dX1_dimension_89 : decode cX1_dimension 89 = .ok (.invokestatic 48, 3) := by decide +kernel
theorem dX1_dimension_92 : decode cX1_dimension 92 = .ok (.ifCond .eq 5, 3) := by decide +kernel
theorem dX1_dimension_95 : decode cX1_dimension 95 = .ok (.iconst 3, 1) := by decide +kernel
theorem dX1_dimension_96 : decode cX1_dimension 96 = .ok (.ireturn, 1) := by decide +kernel
theorem dX1_dimension_97 : decode cX1_dimension 97 = .ok (.iinc 6 1, 3) := by decide +kernel
theorem dX1_dimension_100 : decode cX1_dimension 100 = .ok (.goto (-50), 3) := by decide +kernel
theorem dX1_dimension_103 : decode cX1_dimension 103 = .ok (.iinc 5 1, 3) := by decide +kernel
theorem dX1_dimension_106 : decode cX1_dimension 106 = .ok (.goto (-66), 3) := by decide +kernel
theorem dX1_dimension_109 : decode cX1_dimension 109 = .ok (.iinc 4 1, 3) := by decide +kernel
theorem dX1_dimension_112 : decode cX1_dimension 112 = .ok (.goto (-82), 3) := by decide +kernel
theorem dX1_dimension_115 : decode cX1_dimension 115 = .ok (.iconst 2, 1) := by decide +kernel
theorem dX1_dimension_116 : decode cX1_dimension 116 = .ok (.ireturn, 1) := by decide +kernel
theorem dX1_leastCorner_0 : decode cX1_leastCorner 0 = .ok (.iconst 0, 1) := by decide +kernel
theorem dX1_leastCorner_1 : decode cX1_leastCorner 1 = .ok (.istore_n 1, 1) := by decide +kernel
theorem dX1_leastCorner_2 : decode cX1_leastCorner 2 = .ok (.iload_n 1, 1) := by decide +kernel
theorem dX1_leastCorner_3 : decode cX1_leastCorner 3 = .ok (.bipush 7, 2) := by decide +kernel
theorem dX1_leastCorner_5 : decode cX1_leastCorner 5 = .ok (.if_icmp .ge 17, 3) := by decide +kernel
theorem dX1_leastCorner_8 : decode cX1_leastCorner 8 = .ok (.iload_n 0, 1) := by decide +kernel
theorem dX1_leastCorner_9 : decode cX1_leastCorner 9 = .ok (.iload_n 1, 1) := by decide +kernel
theorem dX1_leastCorner_10 : decode cX1_leastCorner 10 = .ok (.invokestatic 15, 3) := by decide +kernel
theorem dX1_leastCorner_13 : decode cX1_leastCorner 13 = .ok (.ifCond .ne 9, 3) := by decide +kernel
theorem dX1_leastCorner_16 : decode cX1_leastCorner 16 = .ok (.iinc 1 1, 3) := by decide +kernel
theorem dX1_leastCorner_19 : decode cX1_leastCorner 19 = .ok (.goto (-17), 3) := by decide +kernel
theorem dX1_leastCorner_22 : decode cX1_leastCorner 22 = .ok (.iload_n 1, 1) := by decide +kernel
theorem dX1_leastCorner_23 : decode cX1_leastCorner 23 = .ok (.ireturn, 1) := by decide +kernel
theorem dX1_determinant_0 : decode cX1_determinant 0 = .ok (.iload_n 0, 1) := by decide +kernel
theorem dX1_determinant_1 : decode cX1_determinant 1 = .ok (.iload_n 1, 1) := by decide +kernel
theorem dX1_determinant_2 : decode cX1_determinant 2 = .ok (.iconst 0, 1) := by decide +kernel
theorem dX1_determinant_3 : decode cX1_determinant 3 = .ok (.invokestatic 52, 3) := by decide +kernel
theorem dX1_determinant_6 : decode cX1_determinant 6 = .ok (.iload_n 0, 1) := by decide +kernel
theorem dX1_determinant_7 : decode cX1_determinant 7 = .ok (.iload_n 2, 1) := by decide +kernel
theorem dX1_determinant_8 : decode cX1_determinant 8 = .ok (.iload_n 3, 1) := by decide +kernel
theorem dX1_determinant_9 : decode cX1_determinant 9 = .ok (.iconst 1, 1) := by decide +kernel
theorem dX1_determinant_10 : decode cX1_determinant 10 = .ok (.iconst 2, 1) := by decide +kernel
theorem dX1_determinant_11 : decode cX1_determinant 11 = .ok (.invokestatic 56, 3) := by decide +kernel
theorem dX1_determinant_14 : decode cX1_determinant 14 = .ok (.imul, 1) := by decide +kernel
theorem dX1_determinant_15 : decode cX1_determinant 15 = .ok (.iload_n 0, 1) := by decide +kernel
theorem dX1_determinant_16 : decode cX1_determinant 16 = .ok (.iload_n 1, 1) := by decide +kernel
theorem dX1_determinant_17 : decode cX1_determinant 17 = .ok (.iconst 1, 1) := by decide +kernel
theorem dX1_determinant_18 : decode cX1_determinant 18 = .ok (.invokestatic 52, 3) := by decide +kernel
theorem dX1_determinant_21 : decode cX1_determinant 21 = .ok (.iload_n 0, 1) := by decide +kernel
theorem dX1_determinant_22 : decode cX1_determinant 22 = .ok (.iload_n 2, 1) := by decide +kernel
theorem dX1_determinant_23 : decode cX1_determinant 23 = .ok (.iload_n 3, 1) := by decide +kernel
theorem dX1_determinant_24 : decode cX1_determinant 24 = .ok (.iconst 0, 1) := by decide +kernel
theorem dX1_determinant_25 : decode cX1_determinant 25 = .ok (.iconst 2, 1) := by decide +kernel
theorem dX1_determinant_26 : decode cX1_determinant 26 = .ok (.invokestatic 56, 3) := by decide +kernel
theorem dX1_determinant_29 : decode cX1_determinant 29 = .ok (.imul, 1) := by decide +kernel
theorem dX1_determinant_30 : decode cX1_determinant 30 = .ok (.isub, 1) := by decide +kernel
theorem dX1_determinant_31 : decode cX1_determinant 31 = .ok (.iload_n 0, 1) := by decide +kernel
theorem dX1_determinant_32 : decode cX1_determinant 32 = .ok (.iload_n 1, 1) := by decide +kernel
theorem dX1_determinant_33 : decode cX1_determinant 33 = .ok (.iconst 2, 1) := by decide +kernel
theorem dX1_determinant_34 : decode cX1_determinant 34 = .ok (.invokestatic 52, 3) := by decide +kernel
theorem dX1_determinant_37 : decode cX1_determinant 37 = .ok (.iload_n 0, 1) := by decide +kernel
theorem dX1_determinant_38 : decode cX1_determinant 38 = .ok (.iload_n 2, 1) := by decide +kernel
theorem dX1_determinant_39 : decode cX1_determinant 39 = .ok (.iload_n 3, 1) := by decide +kernel
theorem dX1_determinant_40 : decode cX1_determinant 40 = .ok (.iconst 0, 1) := by decide +kernel
theorem dX1_determinant_41 : decode cX1_determinant 41 = .ok (.iconst 1, 1) := by decide +kernel
theorem dX1_determinant_42 : decode cX1_determinant 42 = .ok (.invokestatic 56, 3) := by decide +kernel
theorem dX1_determinant_45 : decode cX1_determinant 45 = .ok (.imul, 1) := by decide +kernel
theorem dX1_determinant_46 : decode cX1_determinant 46 = .ok (.iadd, 1) := by decide +kernel
theorem dX1_determinant_47 : decode cX1_determinant 47 = .ok (.ireturn, 1) := by decide +kernel
theorem dX1_minor_0 : decode cX1_minor 0 = .ok (.iload_n 0, 1) := by decide +kernel
theorem dX1_minor_1 : decode cX1_minor 1 = .ok (.iload_n 1, 1) := by decide +kernel
theorem dX1_minor_2 : decode cX1_minor 2 = .ok (.iload_n 3, 1) := by decide +kernel
theorem dX1_minor_3 : decode cX1_minor 3 = .ok (.invokestatic 52, 3) := by decide +kernel
theorem dX1_minor_6 : decode cX1_minor 6 = .ok (.iload_n 0, 1) := by decide +kernel
theorem dX1_minor_7 : decode cX1_minor 7 = .ok (.iload_n 2, 1) := by decide +kernel
theorem dX1_minor_8 : decode cX1_minor 8 = .ok (.iload 4, 2) := by decide +kernel
theorem dX1_minor_10 : decode cX1_minor 10 = .ok (.invokestatic 52, 3) := by decide +kernel
theorem dX1_minor_13 : decode cX1_minor 13 = .ok (.imul, 1) := by decide +kernel
theorem dX1_minor_14 : decode cX1_minor 14 = .ok (.iload_n 0, 1) := by decide +kernel
theorem dX1_minor_15 : decode cX1_minor 15 = .ok (.iload_n 1, 1) := by decide +kernel
theorem dX1_minor_16 : decode cX1_minor 16 = .ok (.iload 4, 2) := by decide +kernel
theorem dX1_minor_18 : decode cX1_minor 18 = .ok (.invokestatic 52, 3) := by decide +kernel
theorem dX1_minor_21 : decode cX1_minor 21 = .ok (.iload_n 0, 1) := by decide +kernel
theorem dX1_minor_22 : decode cX1_minor 22 = .ok (.iload_n 2, 1) := by decide +kernel
theorem dX1_minor_23 : decode cX1_minor 23 = .ok (.iload_n 3, 1) := by decide +kernel
theorem dX1_minor_24 : decode cX1_minor 24 = .ok (.invokestatic 52, 3) := by decide +kernel
theorem dX1_minor_27 : decode cX1_minor 27 = .ok (.imul, 1) := by decide +kernel
theorem dX1_minor_28 : decode cX1_minor 28 = .ok (.isub, 1) := by decide +kernel
theorem dX1_minor_29 : decode cX1_minor 29 = .ok (.ireturn, 1) := by decide +kernel
theorem dX1_away_0 : decode cX1_away 0 = .ok (.iload_n 1, 1) := by decide +kernel
theorem dX1_away_1 : decode cX1_away 1 = .ok (.iload_n 2, 1) := by decide +kernel
theorem dX1_away_2 : decode cX1_away 2 = .ok (.invokestatic 15, 3) := by decide +kernel
theorem dX1_away_5 : decode cX1_away 5 = .ok (.iload_n 0, 1) := by decide +kernel
theorem dX1_away_6 : decode cX1_away 6 = .ok (.iload_n 2, 1) := by decide +kernel
theorem dX1_away_7 : decode cX1_away 7 = .ok (.invokestatic 15, 3) := by decide +kernel
theorem dX1_away_10 : decode cX1_away 10 = .ok (.isub, 1) := by decide +kernel
theorem dX1_away_11 : decode cX1_away 11 = .ok (.ireturn, 1) := by decide +kernel
theorem dX1_centre_0 : decode cX1_centre 0 = .ok (.iload_n 0, 1) := by decide +kernel
theorem dX1_centre_1 : decode cX1_centre 1 = .ok (.invokestatic 37, 3) := by decide +kernel
theorem dX1_centre_4 : decode cX1_centre 4 = .ok (.istore_n 2, 1) := by decide +kernel
theorem dX1_centre_5 : decode cX1_centre 5 = .ok (.iload_n 2, 1) := by decide +kernel
theorem dX1_centre_6 : decode cX1_centre 6 = .ok (.ifCond .ne 5, 3) := by decide +kernel
theorem dX1_centre_9 : decode cX1_centre 9 = .ok (.fconst 0, 1) := by decide +kernel
theorem dX1_centre_10 : decode cX1_centre 10 = .ok (.freturn, 1) := by decide +kernel
theorem dX1_centre_11 : decode cX1_centre 11 = .ok (.fconst 0, 1) := by decide +kernel
theorem dX1_centre_12 : decode cX1_centre 12 = .ok (.fstore_n 3, 1) := by decide +kernel
theorem dX1_centre_13 : decode cX1_centre 13 = .ok (.iconst 0, 1) := by decide +kernel
theorem dX1_centre_14 : decode cX1_centre 14 = .ok (.istore 4, 2) := by decide +kernel
theorem dX1_centre_16 : decode cX1_centre 16 = .ok (.iload 4, 2) := by decide +kernel
theorem dX1_centre_18 : decode cX1_centre 18 = .ok (.bipush 8, 2) := by decide +kernel
theorem dX1_centre_20 : decode cX1_centre 20 = .ok (.if_icmp .ge 29, 3) := by decide +kernel
theorem dX1_centre_23 : decode cX1_centre 23 = .ok (.iload_n 0, 1) := by decide +kernel
theorem dX1_centre_24 : decode cX1_centre 24 = .ok (.iload 4, 2) := by decide +kernel
theorem dX1_centre_26 : decode cX1_centre 26 = .ok (.invokestatic 15, 3) := by decide +kernel
theorem dX1_centre_29 : decode cX1_centre 29 = .ok (.iconst 1, 1) := by decide +kernel
theorem dX1_centre_30 : decode cX1_centre 30 = .ok (.if_icmp .ne 13, 3) := by decide +kernel
theorem dX1_centre_33 : decode cX1_centre 33 = .ok (.fload_n 3, 1) := by decide +kernel
theorem dX1_centre_34 : decode cX1_centre 34 = .ok (.iload 4, 2) := by decide +kernel
theorem dX1_centre_36 : decode cX1_centre 36 = .ok (.iload_n 1, 1) := by decide +kernel
theorem dX1_centre_37 : decode cX1_centre 37 = .ok (.invokestatic 15, 3) := by decide +kernel
theorem dX1_centre_40 : decode cX1_centre 40 = .ok (.i2f, 1) := by decide +kernel
theorem dX1_centre_41 : decode cX1_centre 41 = .ok (.fadd, 1) := by decide +kernel
theorem dX1_centre_42 : decode cX1_centre 42 = .ok (.fstore_n 3, 1) := by decide +kernel
theorem dX1_centre_43 : decode cX1_centre 43 = .ok (.iinc 4 1, 3) := by decide +kernel
theorem dX1_centre_46 : decode cX1_centre 46 = .ok (.goto (-30), 3) := by decide +kernel
theorem dX1_centre_49 : decode cX1_centre 49 = .ok (.fload_n 3, 1) := by decide +kernel
theorem dX1_centre_50 : decode cX1_centre 50 = .ok (.iload_n 2, 1) := by decide +kernel
theorem dX1_centre_51 : decode cX1_centre 51 = .ok (.i2f, 1) := by decide +kernel
theorem dX1_centre_52 : decode cX1_centre 52 = .ok (.fdiv, 1) := by decide +kernel
theorem dX1_centre_53 : decode cX1_centre 53 = .ok (.freturn, 1) := by decide +kernel
theorem dX1_spreadOf_0 : decode cX1_spreadOf 0 = .ok (.dconst 0, 1) := by decide +kernel
theorem dX1_spreadOf_1 : decode cX1_spreadOf 1 = .ok (.dstore_n 1, 1) := by decide +kernel
theorem dX1_spreadOf_2 : decode cX1_spreadOf 2 = .ok (.iconst 0, 1) := by decide +kernel
theorem dX1_spreadOf_3 : decode cX1_spreadOf 3 = .ok (.istore_n 3, 1) := by decide +kernel
theorem dX1_spreadOf_4 : decode cX1_spreadOf 4 = .ok (.iload_n 3, 1) := by decide +kernel
theorem dX1_spreadOf_5 : decode cX1_spreadOf 5 = .ok (.iconst 3, 1) := by decide +kernel
theorem dX1_spreadOf_6 : decode cX1_spreadOf 6 = .ok (.if_icmp .ge 29, 3) := by decide +kernel
theorem dX1_spreadOf_9 : decode cX1_spreadOf 9 = .ok (.iload_n 0, 1) := by decide +kernel
theorem dX1_spreadOf_10 : decode cX1_spreadOf 10 = .ok (.iload_n 3, 1) := by decide +kernel
theorem dX1_spreadOf_11 : decode cX1_spreadOf 11 = .ok (.invokestatic 60, 3) := by decide +kernel
theorem dX1_spreadOf_14 : decode cX1_spreadOf 14 = .ok (.f2d, 1) := by decide +kernel
theorem dX1_spreadOf_15 : decode cX1_spreadOf 15 = .ok (.ldc2_w 64, 3) := by decide +kernel
theorem dX1_spreadOf_18 : decode cX1_spreadOf 18 = .ok (.dsub, 1) := by decide +kernel
theorem dX1_spreadOf_19 : decode cX1_spreadOf 19 = .ok (.dstore 4, 2) := by decide +kernel
theorem dX1_spreadOf_21 : decode cX1_spreadOf 21 = .ok (.dload_n 1, 1) := by decide +kernel
theorem dX1_spreadOf_22 : decode cX1_spreadOf 22 = .ok (.dload 4, 2) := by decide +kernel
theorem dX1_spreadOf_24 : decode cX1_spreadOf 24 = .ok (.dload 4, 2) := by decide +kernel
theorem dX1_spreadOf_26 : decode cX1_spreadOf 26 = .ok (.dmul, 1) := by decide +kernel
theorem dX1_spreadOf_27 : decode cX1_spreadOf 27 = .ok (.dadd, 1) := by decide +kernel
theorem dX1_spreadOf_28 : decode cX1_spreadOf 28 = .ok (.dstore_n 1, 1) := by decide +kernel
theorem dX1_spreadOf_29 : decode cX1_spreadOf 29 = .ok (.iinc 3 1, 3) := by decide +kernel
theorem dX1_spreadOf_32 : decode cX1_spreadOf 32 = .ok (.goto (-28), 3) := by decide +kernel
theorem dX1_spreadOf_35 : decode cX1_spreadOf 35 = .ok (.dload_n 1, 1) := by decide +kernel
theorem dX1_spreadOf_36 : decode cX1_spreadOf 36 = .ok (.dreturn, 1) := by decide +kernel
theorem dX2_init_0 : decode cX2_init 0 = .ok (.aload_n 0, 1) := by decide +kernel
theorem dX2_init_1 : decode cX2_init 1 = .ok (.invokespecial 3, 3) := by decide +kernel
theorem dX2_init_4 : decode cX2_init 4 = .ok (.aload_n 0, 1) := by decide +kernel
theorem dX2_init_5 : decode cX2_init 5 = .ok (.iconst 0, 1) := by decide +kernel
theorem dX2_init_6 : decode cX2_init 6 = .ok (.putfield 9, 3) := by decide +kernel
theorem dX2_init_9 : decode cX2_init 9 = .ok (.aload_n 0, 1) := by decide +kernel
theorem dX2_init_10 : decode cX2_init 10 = .ok (.iconst 0, 1) := by decide +kernel
theorem dX2_init_11 : decode cX2_init 11 = .ok (.putfield 15, 3) := by decide +kernel
theorem dX2_init_14 : decode cX2_init 14 = .ok (.aload_n 0, 1) := by decide +kernel
theorem dX2_init_15 : decode cX2_init 15 = .ok (.new 18, 3) := by decide +kernel
theorem dX2_init_18 : decode cX2_init 18 = .ok (.dup, 1) := by decide +kernel
theorem dX2_init_19 : decode cX2_init 19 = .ok (.invokespecial 20, 3) := by decide +kernel
theorem dX2_init_22 : decode cX2_init 22 = .ok (.putfield 21, 3) := by decide +kernel
theorem dX2_init_25 : decode cX2_init 25 = .ok (.aload_n 0, 1) := by decide +kernel
theorem dX2_init_26 : decode cX2_init 26 = .ok (.new 18, 3) := by decide +kernel
theorem dX2_init_29 : decode cX2_init 29 = .ok (.dup, 1) := by decide +kernel
theorem dX2_init_30 : decode cX2_init 30 = .ok (.invokespecial 20, 3) := by decide +kernel
theorem dX2_init_33 : decode cX2_init 33 = .ok (.putfield 25, 3) := by decide +kernel
theorem dX2_init_36 : decode cX2_init 36 = .ok (.aload_n 0, 1) := by decide +kernel
theorem dX2_init_37 : decode cX2_init 37 = .ok (.new 18, 3) := by decide +kernel
theorem dX2_init_40 : decode cX2_init 40 = .ok (.dup, 1) := by decide +kernel
theorem dX2_init_41 : decode cX2_init 41 = .ok (.invokespecial 20, 3) := by decide +kernel
theorem dX2_init_44 : decode cX2_init 44 = .ok (.putfield 28, 3) := by decide +kernel
theorem dX2_init_47 : decode cX2_init 47 = .ok (.return_, 1) := by decide +kernel
theorem dX2_change_0 : decode cX2_change 0 = .ok (.iload_n 1, 1) := by decide +kernel
theorem dX2_change_1 : decode cX2_change 1 = .ok (.tableswitch 92 0 3 #[31, 45, 60, 76], 31) := by decide +kernel
theorem dX2_change_32 : decode cX2_change 32 = .ok (.aload_n 0, 1) := by decide +kernel
theorem dX2_change_33 : decode cX2_change 33 = .ok (.aload_n 0, 1) := by decide +kernel
theorem dX2_change_34 : decode cX2_change 34 = .ok (.getfield 9, 3) := by decide +kernel
theorem dX2_change_37 : decode cX2_change 37 = .ok (.invokestatic 31, 3) := by decide +kernel
theorem dX2_change_40 : decode cX2_change 40 = .ok (.putfield 9, 3) := by decide +kernel
theorem dX2_change_43 : decode cX2_change 43 = .ok (.goto 50, 3) := by decide +kernel
theorem dX2_change_46 : decode cX2_change 46 = .ok (.aload_n 0, 1) := by decide +kernel
theorem dX2_change_47 : decode cX2_change 47 = .ok (.dup, 1) := by decide +kernel
theorem dX2_change_48 : decode cX2_change 48 = .ok (.getfield 9, 3) := by decide +kernel
theorem dX2_change_51 : decode cX2_change 51 = .ok (.sipush 255, 3) := by decide +kernel
theorem dX2_change_54 : decode cX2_change 54 = .ok (.ixor, 1) := by decide +kernel
theorem dX2_change_55 : decode cX2_change 55 = .ok (.putfield 9, 3) := by decide +kernel
theorem dX2_change_58 : decode cX2_change 58 = .ok (.goto 35, 3) := by decide +kernel
theorem dX2_change_61 : decode cX2_change 61 = .ok (.aload_n 0, 1) := by decide +kernel
theorem dX2_change_62 : decode cX2_change 62 = .ok (.dup, 1) := by decide +kernel
theorem dX2_change_63 : decode cX2_change 63 = .ok (.getfield 9, 3) := by decide +kernel
theorem dX2_change_66 : decode cX2_change 66 = .ok (.aload_n 0, 1) := by decide +kernel
theorem dX2_change_67 : decode cX2_change 67 = .ok (.getfield 15, 3) := by decide +kernel
theorem dX2_change_70 : decode cX2_change 70 = .ok (.ior, 1) := by decide +kernel
theorem dX2_change_71 : decode cX2_change 71 = .ok (.putfield 9, 3) := by decide +kernel
theorem dX2_change_74 : decode cX2_change 74 = .ok (.goto 19, 3) := by decide +kernel
theorem dX2_change_77 : decode cX2_change 77 = .ok (.aload_n 0, 1) := by decide +kernel
theorem dX2_change_78 : decode cX2_change 78 = .ok (.dup, 1) := by decide +kernel
theorem dX2_change_79 : decode cX2_change 79 = .ok (.getfield 9, 3) := by decide +kernel
theorem dX2_change_82 : decode cX2_change 82 = .ok (.aload_n 0, 1) := by decide +kernel
theorem dX2_change_83 : decode cX2_change 83 = .ok (.getfield 15, 3) := by decide +kernel
theorem dX2_change_86 : decode cX2_change 86 = .ok (.iand, 1) := by decide +kernel
theorem dX2_change_87 : decode cX2_change 87 = .ok (.putfield 9, 3) := by decide +kernel
theorem dX2_change_90 : decode cX2_change 90 = .ok (.goto 3, 3) := by decide +kernel
theorem dX2_change_93 : decode cX2_change 93 = .ok (.return_, 1) := by decide +kernel
theorem dX2_copyFrom_0 : decode cX2_copyFrom 0 = .ok (.aload_n 0, 1) := by decide +kernel
theorem dX2_copyFrom_1 : decode cX2_copyFrom 1 = .ok (.aload_n 1, 1) := by decide +kernel
theorem dX2_copyFrom_2 : decode cX2_copyFrom 2 = .ok (.getfield 9, 3) := by decide +kernel
theorem dX2_copyFrom_5 : decode cX2_copyFrom 5 = .ok (.putfield 9, 3) := by decide +kernel
theorem dX2_copyFrom_8 : decode cX2_copyFrom 8 = .ok (.aload_n 0, 1) := by decide +kernel
theorem dX2_copyFrom_9 : decode cX2_copyFrom 9 = .ok (.aload_n 1, 1) := by decide +kernel
theorem dX2_copyFrom_10 : decode cX2_copyFrom 10 = .ok (.getfield 15, 3) := by decide +kernel
theorem dX2_copyFrom_13 : decode cX2_copyFrom 13 = .ok (.putfield 15, 3) := by decide +kernel
theorem dX2_copyFrom_16 : decode cX2_copyFrom 16 = .ok (.aload_n 0, 1) := by decide +kernel
theorem dX2_copyFrom_17 : decode cX2_copyFrom 17 = .ok (.getfield 21, 3) := by decide +kernel
theorem dX2_copyFrom_20 : decode cX2_copyFrom 20 = .ok (.aload_n 1, 1) := by decide +kernel
theorem dX2_copyFrom_21 : decode cX2_copyFrom 21 = .ok (.getfield 21, 3) := by decide +kernel
theorem dX2_copyFrom_24 : decode cX2_copyFrom 24 = .ok (.invokevirtual 37, 3) := by decide +kernel
theorem dX2_copyFrom_27 : decode cX2_copyFrom 27 = .ok (.aload_n 0, 1) := by decide +kernel
theorem dX2_copyFrom_28 : decode cX2_copyFrom 28 = .ok (.getfield 25, 3) := by decide +kernel
theorem dX2_copyFrom_31 : decode cX2_copyFrom 31 = .ok (.aload_n 1, 1) := by decide +kernel
theorem dX2_copyFrom_32 : decode cX2_copyFrom 32 = .ok (.getfield 25, 3) := by decide +kernel
theorem dX2_copyFrom_35 : decode cX2_copyFrom 35 = .ok (.invokevirtual 37, 3) := by decide +kernel
theorem dX2_copyFrom_38 : decode cX2_copyFrom 38 = .ok (.aload_n 0, 1) := by decide +kernel
theorem dX2_copyFrom_39 : decode cX2_copyFrom 39 = .ok (.getfield 28, 3) := by decide +kernel
theorem dX2_copyFrom_42 : decode cX2_copyFrom 42 = .ok (.aload_n 1, 1) := by decide +kernel
theorem dX2_copyFrom_43 : decode cX2_copyFrom 43 = .ok (.getfield 28, 3) := by decide +kernel
theorem dX2_copyFrom_46 : decode cX2_copyFrom 46 = .ok (.invokevirtual 37, 3) := by decide +kernel
theorem dX2_copyFrom_49 : decode cX2_copyFrom 49 = .ok (.return_, 1) := by decide +kernel
theorem dX3_init_0 : decode cX3_init 0 = .ok (.aload_n 0, 1) := by decide +kernel
theorem dX3_init_1 : decode cX3_init 1 = .ok (.invokespecial 3, 3) := by decide +kernel
theorem dX3_init_4 : decode cX3_init 4 = .ok (.aload_n 0, 1) := by decide +kernel
theorem dX3_init_5 : decode cX3_init 5 = .ok (.bipush 8, 2) := by decide +kernel
theorem dX3_init_7 : decode cX3_init 7 = .ok (.newarray .int, 2) := by decide +kernel
theorem dX3_init_9 : decode cX3_init 9 = .ok (.putfield 11, 3) := by decide +kernel
theorem dX3_init_12 : decode cX3_init 12 = .ok (.aload_n 0, 1) := by decide +kernel
theorem dX3_init_13 : decode cX3_init 13 = .ok (.bipush 8, 2) := by decide +kernel
theorem dX3_init_15 : decode cX3_init 15 = .ok (.newarray .int, 2) := by decide +kernel
theorem dX3_init_17 : decode cX3_init 17 = .ok (.putfield 15, 3) := by decide +kernel
theorem dX3_init_20 : decode cX3_init 20 = .ok (.aload_n 0, 1) := by decide +kernel
theorem dX3_init_21 : decode cX3_init 21 = .ok (.iconst 0, 1) := by decide +kernel
theorem dX3_init_22 : decode cX3_init 22 = .ok (.putfield 18, 3) := by decide +kernel
theorem dX3_init_25 : decode cX3_init 25 = .ok (.return_, 1) := by decide +kernel
theorem dX3_empty_0 : decode cX3_empty 0 = .ok (.aload_n 0, 1) := by decide +kernel
theorem dX3_empty_1 : decode cX3_empty 1 = .ok (.iconst 0, 1) := by decide +kernel
theorem dX3_empty_2 : decode cX3_empty 2 = .ok (.putfield 18, 3) := by decide +kernel
theorem dX3_empty_5 : decode cX3_empty 5 = .ok (.iconst 0, 1) := by decide +kernel
theorem dX3_empty_6 : decode cX3_empty 6 = .ok (.ireturn, 1) := by decide +kernel
theorem dX3_append_0 : decode cX3_append 0 = .ok (.aload_n 0, 1) := by decide +kernel
theorem dX3_append_1 : decode cX3_append 1 = .ok (.getfield 18, 3) := by decide +kernel
theorem dX3_append_4 : decode cX3_append 4 = .ok (.iload_n 3, 1) := by decide +kernel
theorem dX3_append_5 : decode cX3_append 5 = .ok (.if_icmp .ge 12, 3) := by decide +kernel
theorem dX3_append_8 : decode cX3_append 8 = .ok (.aload_n 0, 1) := by decide +kernel
theorem dX3_append_9 : decode cX3_append 9 = .ok (.getfield 18, 3) := by decide +kernel
theorem dX3_append_12 : decode cX3_append 12 = .ok (.bipush 8, 2) := by decide +kernel
theorem dX3_append_14 : decode cX3_append 14 = .ok (.if_icmp .lt 6, 3) := by decide +kernel
theorem dX3_append_17 : decode cX3_append 17 = .ok (.bipush (-4), 2) := by decide +kernel
theorem dX3_append_19 : decode cX3_append 19 = .ok (.ireturn, 1) := by decide +kernel
theorem dX3_append_20 : decode cX3_append 20 = .ok (.aload_n 0, 1) := by decide +kernel
theorem dX3_append_21 : decode cX3_append 21 = .ok (.getfield 11, 3) := by decide +kernel
theorem dX3_append_24 : decode cX3_append 24 = .ok (.aload_n 0, 1) := by decide +kernel
theorem dX3_append_25 : decode cX3_append 25 = .ok (.getfield 18, 3) := by decide +kernel
theorem dX3_append_28 : decode cX3_append 28 = .ok (.iload_n 1, 1) := by decide +kernel
theorem dX3_append_29 : decode cX3_append 29 = .ok (.iastore, 1) := by decide +kernel
theorem dX3_append_30 : decode cX3_append 30 = .ok (.aload_n 0, 1) := by decide +kernel
theorem dX3_append_31 : decode cX3_append 31 = .ok (.getfield 15, 3) := by decide +kernel
theorem dX3_append_34 : decode cX3_append 34 = .ok (.aload_n 0, 1) := by decide +kernel
theorem dX3_append_35 : decode cX3_append 35 = .ok (.getfield 18, 3) := by decide +kernel
theorem dX3_append_38 : decode cX3_append 38 = .ok (.iload_n 2, 1) := by decide +kernel
theorem dX3_append_39 : decode cX3_append 39 = .ok (.iastore, 1) := by decide +kernel
theorem dX3_append_40 : decode cX3_append 40 = .ok (.aload_n 0, 1) := by decide +kernel
theorem dX3_append_41 : decode cX3_append 41 = .ok (.dup, 1) := by decide +kernel
theorem dX3_append_42 : decode cX3_append 42 = .ok (.getfield 18, 3) := by decide +kernel
theorem dX3_append_45 : decode cX3_append 45 = .ok (.iconst 1, 1) := by decide +kernel
theorem dX3_append_46 : decode cX3_append 46 = .ok (.iadd, 1) := by decide +kernel
theorem dX3_append_47 : decode cX3_append 47 = .ok (.putfield 18, 3) := by decide +kernel
theorem dX3_append_50 : decode cX3_append 50 = .ok (.aload_n 0, 1) := by decide +kernel
theorem dX3_append_51 : decode cX3_append 51 = .ok (.getfield 18, 3) := by decide +kernel
theorem dX3_append_54 : decode cX3_append 54 = .ok (.ireturn, 1) := by decide +kernel
theorem dX3_whatAt_0 : decode cX3_whatAt 0 = .ok (.iload_n 1, 1) := by decide +kernel
theorem dX3_whatAt_1 : decode cX3_whatAt 1 = .ok (.ifCond .lt 18, 3) := by decide +kernel
theorem dX3_whatAt_4 : decode cX3_whatAt 4 = .ok (.iload_n 1, 1) := by decide +kernel
theorem dX3_whatAt_5 : decode cX3_whatAt 5 = .ok (.bipush 8, 2) := by decide +kernel
theorem dX3_whatAt_7 : decode cX3_whatAt 7 = .ok (.if_icmp .ge 12, 3) := by decide +kernel
theorem dX3_whatAt_10 : decode cX3_whatAt 10 = .ok (.aload_n 0, 1) := by decide +kernel
theorem dX3_whatAt_11 : decode cX3_whatAt 11 = .ok (.getfield 11, 3) := by decide +kernel
theorem dX3_whatAt_14 : decode cX3_whatAt 14 = .ok (.iload_n 1, 1) := by decide +kernel
theorem dX3_whatAt_15 : decode cX3_whatAt 15 = .ok (.iaload, 1) := by decide +kernel
theorem dX3_whatAt_16 : decode cX3_whatAt 16 = .ok (.goto 4, 3) := by decide +kernel
theorem dX3_whatAt_19 : decode cX3_whatAt 19 = .ok (.iconst 0, 1) := by decide +kernel
theorem dX3_whatAt_20 : decode cX3_whatAt 20 = .ok (.ireturn, 1) := by decide +kernel
theorem dX3_numberAt_0 : decode cX3_numberAt 0 = .ok (.iload_n 1, 1) := by decide +kernel
theorem dX3_numberAt_1 : decode cX3_numberAt 1 = .ok (.ifCond .lt 18, 3) := by decide +kernel
theorem dX3_numberAt_4 : decode cX3_numberAt 4 = .ok (.iload_n 1, 1) := by decide +kernel
theorem dX3_numberAt_5 : decode cX3_numberAt 5 = .ok (.bipush 8, 2) := by decide +kernel
theorem dX3_numberAt_7 : decode cX3_numberAt 7 = .ok (.if_icmp .ge 12, 3) := by decide +kernel
theorem dX3_numberAt_10 : decode cX3_numberAt 10 = .ok (.aload_n 0, 1) := by decide +kernel
theorem dX3_numberAt_11 : decode cX3_numberAt 11 = .ok (.getfield 15, 3) := by decide +kernel
theorem dX3_numberAt_14 : decode cX3_numberAt 14 = .ok (.iload_n 1, 1) := by decide +kernel
theorem dX3_numberAt_15 : decode cX3_numberAt 15 = .ok (.iaload, 1) := by decide +kernel
theorem dX3_numberAt_16 : decode cX3_numberAt 16 = .ok (.goto 4, 3) := by decide +kernel
theorem dX3_numberAt_19 : decode cX3_numberAt 19 = .ok (.iconst 0, 1) := by decide +kernel
theorem dX3_numberAt_20 : decode cX3_numberAt 20 = .ok (.ireturn, 1) := by decide +kernel
theorem dX3_copyFrom_0 : decode cX3_copyFrom 0 = .ok (.aload_n 1, 1) := by decide +kernel
theorem dX3_copyFrom_1 : decode cX3_copyFrom 1 = .ok (.getfield 11, 3) := by decide +kernel
theorem dX3_copyFrom_4 : decode cX3_copyFrom 4 = .ok (.iconst 0, 1) := by decide +kernel
theorem dX3_copyFrom_5 : decode cX3_copyFrom 5 = .ok (.aload_n 0, 1) := by decide +kernel
theorem dX3_copyFrom_6 : decode cX3_copyFrom 6 = .ok (.getfield 11, 3) := by decide +kernel
theorem dX3_copyFrom_9 : decode cX3_copyFrom 9 = .ok (.iconst 0, 1) := by decide +kernel
theorem dX3_copyFrom_10 : decode cX3_copyFrom 10 = .ok (.bipush 8, 2) := by decide +kernel
theorem dX3_copyFrom_12 : decode cX3_copyFrom 12 = .ok (.invokestatic 22, 3) := by decide +kernel
theorem dX3_copyFrom_15 : decode cX3_copyFrom 15 = .ok (.aload_n 1, 1) := by decide +kernel
theorem dX3_copyFrom_16 : decode cX3_copyFrom 16 = .ok (.getfield 15, 3) := by decide +kernel
theorem dX3_copyFrom_19 : decode cX3_copyFrom 19 = .ok (.iconst 0, 1) := by decide +kernel
theorem dX3_copyFrom_20 : decode cX3_copyFrom 20 = .ok (.aload_n 0, 1) := by decide +kernel
theorem dX3_copyFrom_21 : decode cX3_copyFrom 21 = .ok (.getfield 15, 3) := by decide +kernel
theorem dX3_copyFrom_24 : decode cX3_copyFrom 24 = .ok (.iconst 0, 1) := by decide +kernel
theorem dX3_copyFrom_25 : decode cX3_copyFrom 25 = .ok (.bipush 8, 2) := by decide +kernel
theorem dX3_copyFrom_27 : decode cX3_copyFrom 27 = .ok (.invokestatic 22, 3) := by decide +kernel
theorem dX3_copyFrom_30 : decode cX3_copyFrom 30 = .ok (.aload_n 0, 1) := by decide +kernel
theorem dX3_copyFrom_31 : decode cX3_copyFrom 31 = .ok (.aload_n 1, 1) := by decide +kernel
theorem dX3_copyFrom_32 : decode cX3_copyFrom 32 = .ok (.getfield 18, 3) := by decide +kernel
theorem dX3_copyFrom_35 : decode cX3_copyFrom 35 = .ok (.putfield 18, 3) := by decide +kernel
theorem dX3_copyFrom_38 : decode cX3_copyFrom 38 = .ok (.return_, 1) := by decide +kernel
theorem dX4_init_0 : decode cX4_init 0 = .ok (.aload_n 0, 1) := by decide +kernel
theorem dX4_init_1 : decode cX4_init 1 = .ok (.invokespecial 3, 3) := by decide +kernel
theorem dX4_init_4 : decode cX4_init 4 = .ok (.aload_n 0, 1) := by decide +kernel
theorem dX4_init_5 : decode cX4_init 5 = .ok (.iconst 0, 1) := by decide +kernel
theorem dX4_init_6 : decode cX4_init 6 = .ok (.putfield 9, 3) := by decide +kernel
theorem dX4_init_9 : decode cX4_init 9 = .ok (.aload_n 0, 1) := by decide +kernel
theorem dX4_init_10 : decode cX4_init 10 = .ok (.bipush (-5), 2) := by decide +kernel
theorem dX4_init_12 : decode cX4_init 12 = .ok (.putfield 15, 3) := by decide +kernel
theorem dX4_init_15 : decode cX4_init 15 = .ok (.aload_n 0, 1) := by decide +kernel
theorem dX4_init_16 : decode cX4_init 16 = .ok (.sipush 171, 3) := by decide +kernel
theorem dX4_init_19 : decode cX4_init 19 = .ok (.newarray .int, 2) := by decide +kernel
theorem dX4_init_21 : decode cX4_init 21 = .ok (.putfield 18, 3) := by decide +kernel
theorem dX4_init_24 : decode cX4_init 24 = .ok (.aload_n 0, 1) := by decide +kernel
theorem dX4_init_25 : decode cX4_init 25 = .ok (.sipush 171, 3) := by decide +kernel
theorem dX4_init_28 : decode cX4_init 28 = .ok (.newarray .int, 2) := by decide +kernel
theorem dX4_init_30 : decode cX4_init 30 = .ok (.putfield 22, 3) := by decide +kernel
theorem dX4_init_33 : decode cX4_init 33 = .ok (.aload_n 0, 1) := by decide +kernel
theorem dX4_init_34 : decode cX4_init 34 = .ok (.sipush 256, 3) := by decide +kernel
theorem dX4_init_37 : decode cX4_init 37 = .ok (.newarray .int, 2) := by decide +kernel
theorem dX4_init_39 : decode cX4_init 39 = .ok (.putfield 25, 3) := by decide +kernel
theorem dX4_init_42 : decode cX4_init 42 = .ok (.aload_n 0, 1) := by decide +kernel
theorem dX4_init_43 : decode cX4_init 43 = .ok (.sipush 768, 3) := by decide +kernel
theorem dX4_init_46 : decode cX4_init 46 = .ok (.newarray .int, 2) := by decide +kernel
theorem dX4_init_48 : decode cX4_init 48 = .ok (.putfield 28, 3) := by decide +kernel
theorem dX4_init_51 : decode cX4_init 51 = .ok (.return_, 1) := by decide +kernel
theorem dX4_cornerWeight_0 : decode cX4_cornerWeight 0 = .ok (.iload_n 1, 1) := by decide +kernel
theorem dX4_cornerWeight_1 : decode cX4_cornerWeight 1 = .ok (.iload_n 0, 1) := by decide +kernel
theorem dX4_cornerWeight_2 : decode cX4_cornerWeight 2 = .ok (.iconst 1, 1) := by decide +kernel
theorem dX4_cornerWeight_3 : decode cX4_cornerWeight 3 = .ok (.iand, 1) := by decide +kernel
theorem dX4_cornerWeight_4 : decode cX4_cornerWeight 4 = .ok (.imul, 1) := by decide +kernel
theorem dX4_cornerWeight_5 : decode cX4_cornerWeight 5 = .ok (.iload_n 2, 1) := by decide +kernel
theorem dX4_cornerWeight_6 : decode cX4_cornerWeight 6 = .ok (.iload_n 0, 1) := by decide +kernel
theorem dX4_cornerWeight_7 : decode cX4_cornerWeight 7 = .ok (.iconst 1, 1) := by decide +kernel
theorem dX4_cornerWeight_8 : decode cX4_cornerWeight 8 = .ok (.ishr, 1) := by decide +kernel
theorem dX4_cornerWeight_9 : decode cX4_cornerWeight 9 = .ok (.iconst 1, 1) := by decide +kernel
theorem dX4_cornerWeight_10 : decode cX4_cornerWeight 10 = .ok (.iand, 1) := by decide +kernel
theorem dX4_cornerWeight_11 : decode cX4_cornerWeight 11 = .ok (.imul, 1) := by decide +kernel
theorem dX4_cornerWeight_12 : decode cX4_cornerWeight 12 = .ok (.iadd, 1) := by decide +kernel
theorem dX4_cornerWeight_13 : decode cX4_cornerWeight 13 = .ok (.iload_n 3, 1) := by decide +kernel
theorem dX4_cornerWeight_14 : decode cX4_cornerWeight 14 = .ok (.iload_n 0, 1) := by decide +kernel
theorem dX4_cornerWeight_15 : decode cX4_cornerWeight 15 = .ok (.iconst 2, 1) := by decide +kernel
theorem dX4_cornerWeight_16 : decode cX4_cornerWeight 16 = .ok (.ishr, 1) := by decide +kernel
theorem dX4_cornerWeight_17 : decode cX4_cornerWeight 17 = .ok (.iconst 1, 1) := by decide +kernel
theorem dX4_cornerWeight_18 : decode cX4_cornerWeight 18 = .ok (.iand, 1) := by decide +kernel
theorem dX4_cornerWeight_19 : decode cX4_cornerWeight 19 = .ok (.imul, 1) := by decide +kernel
theorem dX4_cornerWeight_20 : decode cX4_cornerWeight 20 = .ok (.iadd, 1) := by decide +kernel
theorem dX4_cornerWeight_21 : decode cX4_cornerWeight 21 = .ok (.ireturn, 1) := by decide +kernel
theorem dX4_mostBy_0 : decode cX4_mostBy 0 = .ok (.ldc 33, 2) := by decide +kernel
theorem dX4_mostBy_2 : decode cX4_mostBy 2 = .ok (.istore 4, 2) := by decide +kernel
theorem dX4_mostBy_4 : decode cX4_mostBy 4 = .ok (.iconst 0, 1) := by decide +kernel
theorem dX4_mostBy_5 : decode cX4_mostBy 5 = .ok (.istore 5, 2) := by decide +kernel
theorem dX4_mostBy_7 : decode cX4_mostBy 7 = .ok (.iload 5, 2) := by decide +kernel
theorem dX4_mostBy_9 : decode cX4_mostBy 9 = .ok (.bipush 8, 2) := by decide +kernel
theorem dX4_mostBy_11 : decode cX4_mostBy 11 = .ok (.if_icmp .ge 34, 3) := by decide +kernel
theorem dX4_mostBy_14 : decode cX4_mostBy 14 = .ok (.iload_n 0, 1) := by decide +kernel
theorem dX4_mostBy_15 : decode cX4_mostBy 15 = .ok (.iload 5, 2) := by decide +kernel
theorem dX4_mostBy_17 : decode cX4_mostBy 17 = .ok (.invokestatic 34, 3) := by decide +kernel
theorem dX4_mostBy_20 : decode cX4_mostBy 20 = .ok (.iconst 1, 1) := by decide +kernel
theorem dX4_mostBy_21 : decode cX4_mostBy 21 = .ok (.if_icmp .ne 18, 3) := by decide +kernel
theorem dX4_mostBy_24 : decode cX4_mostBy 24 = .ok (.iload 4, 2) := by decide +kernel
theorem dX4_mostBy_26 : decode cX4_mostBy 26 = .ok (.iload 5, 2) := by decide +kernel
theorem dX4_mostBy_28 : decode cX4_mostBy 28 = .ok (.iload_n 1, 1) := by decide +kernel
theorem dX4_mostBy_29 : decode cX4_mostBy 29 = .ok (.iload_n 2, 1) := by decide +kernel
theorem dX4_mostBy_30 : decode cX4_mostBy 30 = .ok (.iload_n 3, 1) := by decide +kernel
theorem dX4_mostBy_31 : decode cX4_mostBy 31 = .ok (.invokestatic 38, 3) := by decide +kernel
theorem dX4_mostBy_34 : decode cX4_mostBy 34 = .ok (.invokestatic 42, 3) := by decide +kernel
theorem dX4_mostBy_37 : decode cX4_mostBy 37 = .ok (.istore 4, 2) := by decide +kernel
theorem dX4_mostBy_39 : decode cX4_mostBy 39 = .ok (.iinc 5 1, 3) := by decide +kernel
theorem dX4_mostBy_42 : decode cX4_mostBy 42 = .ok (.goto (-35), 3) := by decide +kernel
theorem dX4_mostBy_45 : decode cX4_mostBy 45 = .ok (.iload 4, 2) := by decide +kernel
theorem dX4_mostBy_47 : decode cX4_mostBy 47 = .ok (.ireturn, 1) := by decide +kernel
theorem dX4_thoseThatWeigh_0 : decode cX4_thoseThatWeigh 0 = .ok (.iconst 0, 1) := by decide +kernel
theorem dX4_thoseThatWeigh_1 : decode cX4_thoseThatWeigh 1 = .ok (.istore 5, 2) := by decide +kernel
theorem dX4_thoseThatWeigh_3 : decode cX4_thoseThatWeigh 3 = .ok (.iconst 0, 1) := by decide +kernel
theorem dX4_thoseThatWeigh_4 : decode cX4_thoseThatWeigh 4 = .ok (.istore 6, 2) := by decide +kernel
theorem dX4_thoseThatWeigh_6 : decode cX4_thoseThatWeigh 6 = .ok (.iload 6, 2) := by decide +kernel
theorem dX4_thoseThatWeigh_8 : decode cX4_thoseThatWeigh 8 = .ok (.bipush 8, 2) := by decide +kernel
theorem dX4_thoseThatWeigh_10 : decode cX4_thoseThatWeigh 10 = .ok (.if_icmp .ge 41, 3) := by decide +kernel
theorem dX4_thoseThatWeigh_13 : decode cX4_thoseThatWeigh 13 = .ok (.iload_n 0, 1) := by decide +kernel
theorem dX4_thoseThatWeigh_14 : decode cX4_thoseThatWeigh 14 = .ok (.iload 6, 2) := by decide +kernel
theorem dX4_thoseThatWeigh_16 : decode cX4_thoseThatWeigh 16 = .ok (.invokestatic 34, 3) := by decide +kernel
theorem dX4_thoseThatWeigh_19 : decode cX4_thoseThatWeigh 19 = .ok (.iconst 1, 1) := by decide +kernel
theorem dX4_thoseThatWeigh_20 : decode cX4_thoseThatWeigh 20 = .ok (.if_icmp .ne 25, 3) := by decide +kernel
theorem dX4_thoseThatWeigh_23 : decode cX4_thoseThatWeigh 23 = .ok (.iload 6, 2) := by decide +kernel
theorem dX4_thoseThatWeigh_25 : decode cX4_thoseThatWeigh 25 = .ok (.iload_n 1, 1) := by decide +kernel
theorem dX4_thoseThatWeigh_26 : decode cX4_thoseThatWeigh 26 = .ok (.iload_n 2, 1) := by decide +kernel
theorem dX4_thoseThatWeigh_27 : decode cX4_thoseThatWeigh 27 = .ok (.iload_n 3, 1) := by decide +kernel
theorem dX4_thoseThatWeigh_28 : decode cX4_thoseThatWeigh 28 = .ok (.invokestatic 38, 3) := by decide +kernel
theorem dX4_thoseThatWeigh_31 : decode cX4_thoseThatWeigh 31 = .ok (.iload 4, 2) := by decide +kernel
theorem dX4_thoseThatWeigh_33 : decode cX4_thoseThatWeigh 33 = .ok (.if_icmp .ne 12, 3) := by decide +kernel
theorem dX4_thoseThatWeigh_36 : decode cX4_thoseThatWeigh 36 = .ok (.iload 5, 2) := by decide +kernel
theorem dX4_thoseThatWeigh_38 : decode cX4_thoseThatWeigh 38 = .ok (.iconst 1, 1) := by decide +kernel
theorem dX4_thoseThatWeigh_39 : decode cX4_thoseThatWeigh 39 = .ok (.iload 6, 2) := by decide +kernel
theorem dX4_thoseThatWeigh_41 : decode cX4_thoseThatWeigh 41 = .ok (.ishl, 1) := by decide +kernel
theorem dX4_thoseThatWeigh_42 : decode cX4_thoseThatWeigh 42 = .ok (.ior, 1) := by decide +kernel
theorem dX4_thoseThatWeigh_43 : decode cX4_thoseThatWeigh 43 = .ok (.istore 5, 2) := by decide +kernel
theorem dX4_thoseThatWeigh_45 : decode cX4_thoseThatWeigh 45 = .ok (.iinc 6 1, 3) := by decide +kernel
theorem dX4_thoseThatWeigh_48 : decode cX4_thoseThatWeigh 48 = .ok (.goto (-42), 3) := by decide +kernel
theorem dX4_thoseThatWeigh_51 : decode cX4_thoseThatWeigh 51 = .ok (.iload 5, 2) := by decide +kernel
theorem dX4_thoseThatWeigh_53 : decode cX4_thoseThatWeigh 53 = .ok (.ireturn, 1) := by decide +kernel
theorem dX4_measure_0 : decode cX4_measure 0 = .ok (.iload_n 1, 1) := by decide +kernel
theorem dX4_measure_1 : decode cX4_measure 1 = .ok (.aload_n 0, 1) := by decide +kernel
theorem dX4_measure_2 : decode cX4_measure 2 = .ok (.getfield 9, 3) := by decide +kernel
theorem dX4_measure_5 : decode cX4_measure 5 = .ok (.if_icmp .ne 4, 3) := by decide +kernel
theorem dX4_measure_8 : decode cX4_measure 8 = .ok (.return_, 1) := by decide +kernel
theorem dX4_measure_9 : decode cX4_measure 9 = .ok (.aload_n 0, 1) := by decide +kernel
theorem dX4_measure_10 : decode cX4_measure 10 = .ok (.iload_n 1, 1) := by decide +kernel
theorem dX4_measure_11 : decode cX4_measure 11 = .ok (.putfield 9, 3) := by decide +kernel
theorem dX4_measure_14 : decode cX4_measure 14 = .ok (.aload_n 0, 1) := by decide +kernel
theorem dX4_measure_15 : decode cX4_measure 15 = .ok (.bipush (-5), 2) := by decide +kernel
theorem dX4_measure_17 : decode cX4_measure 17 = .ok (.putfield 15, 3) := by decide +kernel
theorem dX4_measure_20 : decode cX4_measure 20 = .ok (.iconst 0, 1) := by decide +kernel
theorem dX4_measure_21 : decode cX4_measure 21 = .ok (.istore_n 2, 1) := by decide +kernel
theorem dX4_measure_22 : decode cX4_measure 22 = .ok (.iload_n 2, 1) := by decide +kernel
theorem dX4_measure_23 : decode cX4_measure 23 = .ok (.sipush 256, 3) := by decide +kernel
theorem dX4_measure_26 : decode cX4_measure 26 = .ok (.if_icmp .ge 16, 3) := by decide +kernel
theorem dX4_measure_29 : decode cX4_measure 29 = .ok (.aload_n 0, 1) := by decide +kernel
theorem dX4_measure_30 : decode cX4_measure 30 = .ok (.getfield 25, 3) := by decide +kernel
theorem dX4_measure_33 : decode cX4_measure 33 = .ok (.iload_n 2, 1) := by decide +kernel
theorem dX4_measure_34 : decode cX4_measure 34 = .ok (.iconst 0, 1) := by decide +kernel
theorem dX4_measure_35 : decode cX4_measure 35 = .ok (.iastore, 1) := by decide +kernel
theorem dX4_measure_36 : decode cX4_measure 36 = .ok (.iinc 2 1, 3) := by decide +kernel
theorem dX4_measure_39 : decode cX4_measure 39 = .ok (.goto (-17), 3) := by decide +kernel
theorem dX4_measure_42 : decode cX4_measure 42 = .ok (.iload_n 1, 1) := by decide +kernel
theorem dX4_measure_43 : decode cX4_measure 43 = .ok (.ifCond .ne 4, 3) := by decide +kernel
theorem dX4_measure_46 : decode cX4_measure 46 = .ok (.return_, 1) := by decide +kernel
theorem dX4_measure_47 : decode cX4_measure 47 = .ok (.aload_n 0, 1) := by decide +kernel
theorem dX4_measure_48 : decode cX4_measure 48 = .ok (.ldc 47, 2) := by decide +kernel
theorem dX4_measure_50 : decode cX4_measure 50 = .ok (.putfield 15, 3) := by decide +kernel
theorem dX4_measure_53 : decode cX4_measure 53 = .ok (.iconst 0, 1) := by decide +kernel
theorem dX4_measure_54 : decode cX4_measure 54 = .ok (.istore_n 2, 1) := by decide +kernel
theorem dX4_measure_55 : decode cX4_measure 55 = .ok (.iload_n 2, 1) := by decide +kernel
theorem dX4_measure_56 : decode cX4_measure 56 = .ok (.sipush 171, 3) := by decide +kernel
theorem dX4_measure_59 : decode cX4_measure 59 = .ok (.if_icmp .ge 38, 3) := by decide +kernel
theorem dX4_measure_62 : decode cX4_measure 62 = .ok (.aload_n 0, 1) := by decide +kernel
theorem dX4_measure_63 : decode cX4_measure 63 = .ok (.iload_n 2, 1) := by decide +kernel
theorem dX4_measure_64 : decode cX4_measure 64 = .ok (.invokevirtual 48, 3) := by decide +kernel
theorem dX4_measure_67 : decode cX4_measure 67 = .ok (.aload_n 0, 1) := by decide +kernel
theorem dX4_measure_68 : decode cX4_measure 68 = .ok (.aload_n 0, 1) := by decide +kernel
theorem dX4_measure_69 : decode cX4_measure 69 = .ok (.getfield 15, 3) := by decide +kernel
theorem dX4_measure_72 : decode cX4_measure 72 = .ok (.aload_n 0, 1) := by decide +kernel
theorem dX4_measure_73 : decode cX4_measure 73 = .ok (.getfield 18, 3) := by decide +kernel
theorem dX4_measure_76 : decode cX4_measure 76 = .ok (.iload_n 2, 1) := by decide +kernel
theorem dX4_measure_77 : decode cX4_measure 77 = .ok (.iaload, 1) := by decide +kernel
theorem dX4_measure_78 : decode cX4_measure 78 = .ok (.aload_n 0, 1) := by decide +kernel
theorem dX4_measure_79 : decode cX4_measure 79 = .ok (.getfield 22, 3) := by decide +kernel
theorem dX4_measure_82 : decode cX4_measure 82 = .ok (.iload_n 2, 1) := by decide +kernel
theorem dX4_measure_83 : decode cX4_measure 83 = .ok (.iaload, 1) := by decide +kernel
theorem dX4_measure_84 : decode cX4_measure 84 = .ok (.isub, 1) := by decide +kernel
theorem dX4_measure_85 : decode cX4_measure 85 = .ok (.invokestatic 52, 3) := by decide +kernel
theorem dX4_measure_88 : decode cX4_measure 88 = .ok (.putfield 15, 3) := by decide +kernel
theorem dX4_measure_91 : decode cX4_measure 91 = .ok (.iinc 2 1, 3) := by decide +kernel
theorem dX4_measure_94 : decode cX4_measure 94 = .ok (.goto (-39), 3) := by decide +kernel
theorem dX4_measure_97 : decode cX4_measure 97 = .ok (.return_, 1) := by decide +kernel
theorem dX4_measureBy_0 : decode cX4_measureBy 0 = .ok (.iload_n 1, 1) := by decide +kernel
theorem dX4_measureBy_1 : decode cX4_measureBy 1 = .ok (.ifCond .lt 10, 3) := by decide +kernel
theorem dX4_measureBy_4 : decode cX4_measureBy 4 = .ok (.iload_n 1, 1) := by decide +kernel
theorem dX4_measureBy_5 : decode cX4_measureBy 5 = .ok (.sipush 171, 3) := by decide +kernel
theorem dX4_measureBy_8 : decode cX4_measureBy 8 = .ok (.if_icmp .lt 4, 3) := by decide +kernel
theorem dX4_measureBy_11 : decode cX4_measureBy 11 = .ok (.return_, 1) := by decide +kernel
theorem dX4_measureBy_12 : decode cX4_measureBy 12 = .ok (.ldc 33, 2) := by decide +kernel
theorem dX4_measureBy_14 : decode cX4_measureBy 14 = .ok (.istore_n 2, 1) := by decide +kernel
theorem dX4_measureBy_15 : decode cX4_measureBy 15 = .ok (.ldc 47, 2) := by decide +kernel
theorem dX4_measureBy_17 : decode cX4_measureBy 17 = .ok (.istore_n 3, 1) := by decide +kernel
theorem dX4_measureBy_18 : decode cX4_measureBy 18 = .ok (.iconst 0, 1) := by decide +kernel
theorem dX4_measureBy_19 : decode cX4_measureBy 19 = .ok (.istore 4, 2) := by decide +kernel
theorem dX4_measureBy_21 : decode cX4_measureBy 21 = .ok (.iconst 0, 1) := by decide +kernel
theorem dX4_measureBy_22 : decode cX4_measureBy 22 = .ok (.istore 5, 2) := by decide +kernel
theorem dX4_measureBy_24 : decode cX4_measureBy 24 = .ok (.iconst 0, 1) := by decide +kernel
theorem dX4_measureBy_25 : decode cX4_measureBy 25 = .ok (.istore 6, 2) := by decide +kernel
theorem dX4_measureBy_27 : decode cX4_measureBy 27 = .ok (.iload 6, 2) := by decide +kernel
theorem dX4_measureBy_29 : decode cX4_measureBy 29 = .ok (.bipush 8, 2) := by decide +kernel
theorem dX4_measureBy_31 : decode cX4_measureBy 31 = .ok (.if_icmp .ge 128, 3) := by decide +kernel
theorem dX4_measureBy_34 : decode cX4_measureBy 34 = .ok (.iconst 1, 1) := by decide +kernel
theorem dX4_measureBy_35 : decode cX4_measureBy 35 = .ok (.iload 6, 2) := by decide +kernel
theorem dX4_measureBy_37 : decode cX4_measureBy 37 = .ok (.ishl, 1) := by decide +kernel
theorem dX4_measureBy_38 : decode cX4_measureBy 38 = .ok (.aload_n 0, 1) := by decide +kernel
theorem dX4_measureBy_39 : decode cX4_measureBy 39 = .ok (.getfield 9, 3) := by decide +kernel
theorem dX4_measureBy_42 : decode cX4_measureBy 42 = .ok (.iand, 1) := by decide +kernel
theorem dX4_measureBy_43 : decode cX4_measureBy 43 = .ok (.istore 7, 2) := by decide +kernel
theorem dX4_measureBy_45 : decode cX4_measureBy 45 = .ok (.iload_n 1, 1) := by decide +kernel
theorem dX4_measureBy_46 : decode cX4_measureBy 46 = .ok (.bipush 49, 2) := by decide +kernel
theorem dX4_measureBy_48 : decode cX4_measureBy 48 = .ok (.idiv, 1) := by decide +kernel
theorem dX4_measureBy_49 : decode cX4_measureBy 49 = .ok (.iconst 3, 1) := by decide +kernel
theorem dX4_measureBy_50 : decode cX4_measureBy 50 = .ok (.isub, 1) := by decide +kernel
theorem dX4_measureBy_51 : decode cX4_measureBy 51 = .ok (.iload 6, 2) := by decide +kernel
theorem dX4_measureBy_53 : decode cX4_measureBy 53 = .ok (.iconst 1, 1) := by decide +kernel
theorem dX4_measureBy_54 : decode cX4_measureBy 54 = .ok (.iand, 1) := by decide +kernel
theorem dX4_measureBy_55 : decode cX4_measureBy 55 = .ok (.imul, 1) := by decide +kernel
theorem dX4_measureBy_56 : decode cX4_measureBy 56 = .ok (.iload_n 1, 1) := by decide +kernel
theorem dX4_measureBy_57 : decode cX4_measureBy 57 = .ok (.bipush 7, 2) := by decide +kernel
theorem dX4_measureBy_59 : decode cX4_measureBy 59 = .ok (.idiv, 1) := by decide +kernel
theorem dX4_measureBy_60 : decode cX4_measureBy 60 = .ok (.bipush 7, 2) := by decide +kernel
theorem dX4_measureBy_62 : decode cX4_measureBy 62 = .ok (.irem, 1) := by decide +kernel
theorem dX4_measureBy_63 : decode cX4_measureBy 63 = .ok (.iconst 3, 1) := by decide +kernel
theorem dX4_measureBy_64 : decode cX4_measureBy 64 = .ok (.isub, 1) := by decide +kernel
theorem dX4_measureBy_65 : decode cX4_measureBy 65 = .ok (.iload 6, 2) := by decide +kernel
theorem dX4_measureBy_67 : decode cX4_measureBy 67 = .ok (.iconst 1, 1) := by decide +kernel
theorem dX4_measureBy_68 : decode cX4_measureBy 68 = .ok (.ishr, 1) := by decide +kernel
theorem dX4_measureBy_69 : decode cX4_measureBy 69 = .ok (.iconst 1, 1) := by decide +kernel
theorem dX4_measureBy_70 : decode cX4_measureBy 70 = .ok (.iand, 1) := by decide +kernel
theorem dX4_measureBy_71 : decode cX4_measureBy 71 = .ok (.imul, 1) := by decide +kernel
theorem dX4_measureBy_72 : decode cX4_measureBy 72 = .ok (.iadd, 1) := by decide +kernel
theorem dX4_measureBy_73 : decode cX4_measureBy 73 = .ok (.iload_n 1, 1) := by decide +kernel
theorem dX4_measureBy_74 : decode cX4_measureBy 74 = .ok (.bipush 7, 2) := by decide +kernel
theorem dX4_measureBy_76 : decode cX4_measureBy 76 = .ok (.irem, 1) := by decide +kernel
theorem dX4_measureBy_77 : decode cX4_measureBy 77 = .ok (.iconst 3, 1) := by decide +kernel
theorem dX4_measureBy_78 : decode cX4_measureBy 78 = .ok (.isub, 1) := by decide +kernel
theorem dX4_measureBy_79 : decode cX4_measureBy 79 = .ok (.iload 6, 2) := by decide +kernel
theorem dX4_measureBy_81 : decode cX4_measureBy 81 = .ok (.iconst 2, 1) := by decide +kernel
theorem dX4_measureBy_82 : decode cX4_measureBy 82 = .ok (.ishr, 1) := by decide +kernel
theorem dX4_measureBy_83 : decode cX4_measureBy 83 = .ok (.iconst 1, 1) := by decide +kernel
theorem dX4_measureBy_84 : decode cX4_measureBy 84 = .ok (.iand, 1) := by decide +kernel
theorem dX4_measureBy_85 : decode cX4_measureBy 85 = .ok (.imul, 1) := by decide +kernel
theorem dX4_measureBy_86 : decode cX4_measureBy 86 = .ok (.iadd, 1) := by decide +kernel
theorem dX4_measureBy_87 : decode cX4_measureBy 87 = .ok (.istore 8, 2) := by decide +kernel
theorem dX4_measureBy_89 : decode cX4_measureBy 89 = .ok (.iload 7, 2) := by decide +kernel
theorem dX4_measureBy_91 : decode cX4_measureBy 91 = .ok (.ifCond .eq 30, 3) := by decide +kernel
theorem dX4_measureBy_94 : decode cX4_measureBy 94 = .ok (.iload 8, 2) := by decide +kernel
theorem dX4_measureBy_96 : decode cX4_measureBy 96 = .ok (.iload_n 2, 1) := by decide +kernel
theorem dX4_measureBy_97 : decode cX4_measureBy 97 = .ok (.if_icmp .lt 24, 3) := by decide +kernel
theorem dX4_measureBy_100 : decode cX4_measureBy 100 = .ok (.iload 8, 2) := by decide +kernel
theorem dX4_measureBy_102 : decode cX4_measureBy 102 = .ok (.iload_n 2, 1) := by decide +kernel
theorem dX4_measureBy_103 : decode cX4_measureBy 103 = .ok (.if_icmp .le 8, 3) := by decide +kernel
theorem dX4_measureBy_106 : decode cX4_measureBy 106 = .ok (.iload 7, 2) := by decide +kernel
theorem dX4_measureBy_108 : decode cX4_measureBy 108 = .ok (.goto 8, 3) := by decide +kernel
theorem dX4_measureBy_111 : decode cX4_measureBy 111 = .ok (.iload 4, 2) := by decide +kernel
theorem dX4_measureBy_113 : decode cX4_measureBy 113 = .ok (.iload 7, 2) := by decide +kernel
theorem dX4_measureBy_115 : decode cX4_measureBy 115 = .ok (.ior, 1) := by decide +kernel
theorem dX4_measureBy_116 : decode cX4_measureBy 116 = .ok (.istore 4, 2) := by decide +kernel
theorem dX4_measureBy_118 : decode cX4_measureBy 118 = .ok (.iload 8, 2) := by decide +kernel
theorem dX4_measureBy_120 : decode cX4_measureBy 120 = .ok (.istore_n 2, 1) := by decide +kernel
theorem dX4_measureBy_121 : decode cX4_measureBy 121 = .ok (.iload 7, 2) := by decide +kernel
theorem dX4_measureBy_123 : decode cX4_measureBy 123 = .ok (.ifCond .eq 30, 3) := by decide +kernel
theorem dX4_measureBy_126 : decode cX4_measureBy 126 = .ok (.iload 8, 2) := by decide +kernel
theorem dX4_measureBy_128 : decode cX4_measureBy 128 = .ok (.iload_n 3, 1) := by decide +kernel
theorem dX4_measureBy_129 : decode cX4_measureBy 129 = .ok (.if_icmp .gt 24, 3) := by decide +kernel
theorem dX4_measureBy_132 : decode cX4_measureBy 132 = .ok (.iload 8, 2) := by decide +kernel
theorem dX4_measureBy_134 : decode cX4_measureBy 134 = .ok (.iload_n 3, 1) := by decide +kernel
theorem dX4_measureBy_135 : decode cX4_measureBy 135 = .ok (.if_icmp .ge 8, 3) := by decide +kernel
theorem dX4_measureBy_138 : decode cX4_measureBy 138 = .ok (.iload 7, 2) := by decide +kernel
theorem dX4_measureBy_140 : decode cX4_measureBy 140 = .ok (.goto 8, 3) := by decide +kernel
theorem dX4_measureBy_143 : decode cX4_measureBy 143 = .ok (.iload 5, 2) := by decide +kernel
theorem dX4_measureBy_145 : decode cX4_measureBy 145 = .ok (.iload 7, 2) := by decide +kernel
theorem dX4_measureBy_147 : decode cX4_measureBy 147 = .ok (.ior, 1) := by decide +kernel
theorem dX4_measureBy_148 : decode cX4_measureBy 148 = .ok (.istore 5, 2) := by decide +kernel
theorem dX4_measureBy_150 : decode cX4_measureBy 150 = .ok (.iload 8, 2) := by decide +kernel
theorem dX4_measureBy_152 : decode cX4_measureBy 152 = .ok (.istore_n 3, 1) := by decide +kernel
theorem dX4_measureBy_153 : decode cX4_measureBy 153 = .ok (.iinc 6 1, 3) := by decide +kernel
theorem dX4_measureBy_156 : decode cX4_measureBy 156 = .ok (.goto (-129), 3) := by decide +kernel
theorem dX4_measureBy_159 : decode cX4_measureBy 159 = .ok (.aload_n 0, 1) := by decide +kernel
theorem dX4_measureBy_160 : decode cX4_measureBy 160 = .ok (.getfield 18, 3) := by decide +kernel
theorem dX4_measureBy_163 : decode cX4_measureBy 163 = .ok (.iload_n 1, 1) := by decide +kernel
theorem dX4_measureBy_164 : decode cX4_measureBy 164 = .ok (.iload_n 2, 1) := by decide +kernel
theorem dX4_measureBy_165 : decode cX4_measureBy 165 = .ok (.iastore, 1) := by decide +kernel
theorem dX4_measureBy_166 : decode cX4_measureBy 166 = .ok (.aload_n 0, 1) := by decide +kernel
theorem dX4_measureBy_167 : decode cX4_measureBy 167 = .ok (.getfield 22, 3) := by decide +kernel
theorem dX4_measureBy_170 : decode cX4_measureBy 170 = .ok (.iload_n 1, 1) := by decide +kernel
theorem dX4_measureBy_171 : decode cX4_measureBy 171 = .ok (.iload_n 3, 1) := by decide +kernel
theorem dX4_measureBy_172 : decode cX4_measureBy 172 = .ok (.iastore, 1) := by decide +kernel
theorem dX4_measureBy_173 : decode cX4_measureBy 173 = .ok (.aload_n 0, 1) := by decide +kernel
theorem dX4_measureBy_174 : decode cX4_measureBy 174 = .ok (.getfield 25, 3) := by decide +kernel
theorem dX4_measureBy_177 : decode cX4_measureBy 177 = .ok (.iload 4, 2) := by decide +kernel
theorem dX4_measureBy_179 : decode cX4_measureBy 179 = .ok (.sipush 255, 3) := by decide +kernel
theorem dX4_measureBy_182 : decode cX4_measureBy 182 = .ok (.iand, 1) := by decide +kernel
theorem dX4_measureBy_183 : decode cX4_measureBy 183 = .ok (.iconst 1, 1) := by decide +kernel
theorem dX4_measureBy_184 : decode cX4_measureBy 184 = .ok (.iastore, 1) := by decide +kernel
theorem dX4_measureBy_185 : decode cX4_measureBy 185 = .ok (.aload_n 0, 1) := by decide +kernel
theorem dX4_measureBy_186 : decode cX4_measureBy 186 = .ok (.getfield 25, 3) := by decide +kernel
theorem dX4_measureBy_189 : decode cX4_measureBy 189 = .ok (.iload 5, 2) := by decide +kernel
theorem dX4_measureBy_191 : decode cX4_measureBy 191 = .ok (.sipush 255, 3) := by decide +kernel
theorem dX4_measureBy_194 : decode cX4_measureBy 194 = .ok (.iand, 1) := by decide +kernel
theorem dX4_measureBy_195 : decode cX4_measureBy 195 = .ok (.iconst 1, 1) := by decide +kernel
theorem dX4_measureBy_196 : decode cX4_measureBy 196 = .ok (.iastore, 1) := by decide +kernel
theorem dX4_measureBy_197 : decode cX4_measureBy 197 = .ok (.return_, 1) := by decide +kernel
theorem dX4_width_0 : decode cX4_width 0 = .ok (.aload_n 0, 1) := by decide +kernel
theorem dX4_width_1 : decode cX4_width 1 = .ok (.iload_n 1, 1) := by decide +kernel
theorem dX4_width_2 : decode cX4_width 2 = .ok (.invokevirtual 55, 3) := by decide +kernel
theorem dX4_width_5 : decode cX4_width 5 = .ok (.aload_n 0, 1) := by decide +kernel
theorem dX4_width_6 : decode cX4_width 6 = .ok (.getfield 15, 3) := by decide +kernel
theorem dX4_width_9 : decode cX4_width 9 = .ok (.ireturn, 1) := by decide +kernel
theorem dX4_isEdge_0 : decode cX4_isEdge 0 = .ok (.aload_n 0, 1) := by decide +kernel
theorem dX4_isEdge_1 : decode cX4_isEdge 1 = .ok (.iload_n 1, 1) := by decide +kernel
theorem dX4_isEdge_2 : decode cX4_isEdge 2 = .ok (.invokevirtual 55, 3) := by decide +kernel
theorem dX4_isEdge_5 : decode cX4_isEdge 5 = .ok (.aload_n 0, 1) := by decide +kernel
theorem dX4_isEdge_6 : decode cX4_isEdge 6 = .ok (.iload_n 2, 1) := by decide +kernel
theorem dX4_isEdge_7 : decode cX4_isEdge 7 = .ok (.invokevirtual 58, 3) := by decide +kernel
theorem dX4_isEdge_10 : decode cX4_isEdge 10 = .ok (.ifCond .eq 15, 3) := by decide +kernel
theorem dX4_isEdge_13 : decode cX4_isEdge 13 = .ok (.iload_n 2, 1) := by decide +kernel
theorem dX4_isEdge_14 : decode cX4_isEdge 14 = .ok (.invokestatic 62, 3) := by decide +kernel
theorem dX4_isEdge_17 : decode cX4_isEdge 17 = .ok (.iconst 2, 1) := by decide +kernel
theorem dX4_isEdge_18 : decode cX4_isEdge 18 = .ok (.if_icmp .ne 7, 3) := by decide +kernel
theorem dX4_isEdge_21 : decode cX4_isEdge 21 = .ok (.iconst 1, 1) := by decide +kernel
theorem dX4_isEdge_22 : decode cX4_isEdge 22 = .ok (.goto 4, 3) := by decide +kernel
theorem dX4_isEdge_25 : decode cX4_isEdge 25 = .ok (.iconst 0, 1) := by decide +kernel
theorem dX4_isEdge_26 : decode cX4_isEdge 26 = .ok (.ireturn, 1) := by decide +kernel
theorem dX4_edgeCount_0 : decode cX4_edgeCount 0 = .ok (.aload_n 0, 1) := by decide +kernel
theorem dX4_edgeCount_1 : decode cX4_edgeCount 1 = .ok (.iload_n 1, 1) := by decide +kernel
theorem dX4_edgeCount_2 : decode cX4_edgeCount 2 = .ok (.invokevirtual 55, 3) := by decide +kernel
theorem dX4_edgeCount_5 : decode cX4_edgeCount 5 = .ok (.iconst 0, 1) := by decide +kernel
theorem dX4_edgeCount_6 : decode cX4_edgeCount 6 = .ok (.istore_n 2, 1) := by decide +kernel
theorem dX4_edgeCount_7 : decode cX4_edgeCount 7 = .ok (.iconst 0, 1) := by decide +kernel
theorem dX4_edgeCount_8 : decode cX4_edgeCount 8 = .ok (.istore_n 3, 1) := by decide +kernel
theorem dX4_edgeCount_9 : decode cX4_edgeCount 9 = .ok (.iload_n 3, 1) := by decide +kernel
theorem dX4_edgeCount_10 : decode cX4_edgeCount 10 = .ok (.sipush 256, 3) := by decide +kernel
theorem dX4_edgeCount_13 : decode cX4_edgeCount 13 = .ok (.if_icmp .ge 28, 3) := by decide +kernel
theorem dX4_edgeCount_16 : decode cX4_edgeCount 16 = .ok (.aload_n 0, 1) := by decide +kernel
theorem dX4_edgeCount_17 : decode cX4_edgeCount 17 = .ok (.iload_n 3, 1) := by decide +kernel
theorem dX4_edgeCount_18 : decode cX4_edgeCount 18 = .ok (.invokevirtual 58, 3) := by decide +kernel
theorem dX4_edgeCount_21 : decode cX4_edgeCount 21 = .ok (.ifCond .eq 14, 3) := by decide +kernel
theorem dX4_edgeCount_24 : decode cX4_edgeCount 24 = .ok (.iload_n 3, 1) := by decide +kernel
theorem dX4_edgeCount_25 : decode cX4_edgeCount 25 = .ok (.invokestatic 62, 3) := by decide +kernel
theorem dX4_edgeCount_28 : decode cX4_edgeCount 28 = .ok (.iconst 2, 1) := by decide +kernel
theorem dX4_edgeCount_29 : decode cX4_edgeCount 29 = .ok (.if_icmp .ne 6, 3) := by decide +kernel
theorem dX4_edgeCount_32 : decode cX4_edgeCount 32 = .ok (.iinc 2 1, 3) := by decide +kernel
theorem dX4_edgeCount_35 : decode cX4_edgeCount 35 = .ok (.iinc 3 1, 3) := by decide +kernel
theorem dX4_edgeCount_38 : decode cX4_edgeCount 38 = .ok (.goto (-29), 3) := by decide +kernel
theorem dX4_edgeCount_41 : decode cX4_edgeCount 41 = .ok (.iload_n 2, 1) := by decide +kernel
theorem dX4_edgeCount_42 : decode cX4_edgeCount 42 = .ok (.ireturn, 1) := by decide +kernel
theorem dX4_isMeasuredTop_0 : decode cX4_isMeasuredTop 0 = .ok (.iload_n 1, 1) := by decide +kernel
theorem dX4_isMeasuredTop_1 : decode cX4_isMeasuredTop 1 = .ok (.ifCond .lt 24, 3) := by decide +kernel
theorem dX4_isMeasuredTop_4 : decode cX4_isMeasuredTop 4 = .ok (.iload_n 1, 1) := by decide +kernel
theorem dX4_isMeasuredTop_5 : decode cX4_isMeasuredTop 5 = .ok (.sipush 256, 3) := by decide +kernel
theorem dX4_isMeasuredTop_8 : decode cX4_isMeasuredTop 8 = .ok (.if_icmp .ge 17, 3) := by decide +kernel
theorem dX4_isMeasuredTop_11 : decode cX4_isMeasuredTop 11 = .ok (.aload_n 0, 1) := by decide +kernel
theorem dX4_isMeasuredTop_12 : decode cX4_isMeasuredTop 12 = .ok (.getfield 25, 3) := by decide +kernel
theorem dX4_isMeasuredTop_15 : decode cX4_isMeasuredTop 15 = .ok (.iload_n 1, 1) := by decide +kernel
theorem dX4_isMeasuredTop_16 : decode cX4_isMeasuredTop 16 = .ok (.iaload, 1) := by decide +kernel
theorem dX4_isMeasuredTop_17 : decode cX4_isMeasuredTop 17 = .ok (.iconst 1, 1) := by decide +kernel
theorem dX4_isMeasuredTop_18 : decode cX4_isMeasuredTop 18 = .ok (.if_icmp .ne 7, 3) := by decide +kernel
theorem dX4_isMeasuredTop_21 : decode cX4_isMeasuredTop 21 = .ok (.iconst 1, 1) := by decide +kernel
theorem dX4_isMeasuredTop_22 : decode cX4_isMeasuredTop 22 = .ok (.goto 4, 3) := by decide +kernel
theorem dX4_isMeasuredTop_25 : decode cX4_isMeasuredTop 25 = .ok (.iconst 0, 1) := by decide +kernel
theorem dX4_isMeasuredTop_26 : decode cX4_isMeasuredTop 26 = .ok (.ireturn, 1) := by decide +kernel
theorem dX4_isMeasuredFace_0 : decode cX4_isMeasuredFace 0 = .ok (.aload_n 0, 1) := by decide +kernel
theorem dX4_isMeasuredFace_1 : decode cX4_isMeasuredFace 1 = .ok (.iload_n 1, 1) := by decide +kernel
theorem dX4_isMeasuredFace_2 : decode cX4_isMeasuredFace 2 = .ok (.invokevirtual 58, 3) := by decide +kernel
theorem dX4_isMeasuredFace_5 : decode cX4_isMeasuredFace 5 = .ok (.ifCond .eq 23, 3) := by decide +kernel
theorem dX4_isMeasuredFace_8 : decode cX4_isMeasuredFace 8 = .ok (.iload_n 1, 1) := by decide +kernel
theorem dX4_isMeasuredFace_9 : decode cX4_isMeasuredFace 9 = .ok (.aload_n 0, 1) := by decide +kernel
theorem dX4_isMeasuredFace_10 : decode cX4_isMeasuredFace 10 = .ok (.getfield 9, 3) := by decide +kernel
theorem dX4_isMeasuredFace_13 : decode cX4_isMeasuredFace 13 = .ok (.if_icmp .eq 15, 3) := by decide +kernel
theorem dX4_isMeasuredFace_16 : decode cX4_isMeasuredFace 16 = .ok (.iload_n 1, 1) := by decide +kernel
theorem dX4_isMeasuredFace_17 : decode cX4_isMeasuredFace 17 = .ok (.invokestatic 62, 3) := by decide +kernel
theorem dX4_isMeasuredFace_20 : decode cX4_isMeasuredFace 20 = .ok (.iconst 3, 1) := by decide +kernel
theorem dX4_isMeasuredFace_21 : decode cX4_isMeasuredFace 21 = .ok (.if_icmp .lt 7, 3) := by decide +kernel
theorem dX4_isMeasuredFace_24 : decode cX4_isMeasuredFace 24 = .ok (.iconst 1, 1) := by decide +kernel
theorem dX4_isMeasuredFace_25 : decode cX4_isMeasuredFace 25 = .ok (.goto 4, 3) := by decide +kernel
theorem dX4_isMeasuredFace_28 : decode cX4_isMeasuredFace 28 = .ok (.iconst 0, 1) := by decide +kernel
theorem dX4_isMeasuredFace_29 : decode cX4_isMeasuredFace 29 = .ok (.ireturn, 1) := by decide +kernel
theorem dX4_faceCount_0 : decode cX4_faceCount 0 = .ok (.aload_n 0, 1) := by decide +kernel
theorem dX4_faceCount_1 : decode cX4_faceCount 1 = .ok (.iload_n 1, 1) := by decide +kernel
theorem dX4_faceCount_2 : decode cX4_faceCount 2 = .ok (.invokevirtual 55, 3) := by decide +kernel
theorem dX4_faceCount_5 : decode cX4_faceCount 5 = .ok (.iconst 0, 1) := by decide +kernel
theorem dX4_faceCount_6 : decode cX4_faceCount 6 = .ok (.istore_n 2, 1) := by decide +kernel
theorem dX4_faceCount_7 : decode cX4_faceCount 7 = .ok (.iconst 0, 1) := by decide +kernel
theorem dX4_faceCount_8 : decode cX4_faceCount 8 = .ok (.istore_n 3, 1) := by decide +kernel
theorem dX4_faceCount_9 : decode cX4_faceCount 9 = .ok (.iload_n 3, 1) := by decide +kernel
theorem dX4_faceCount_10 : decode cX4_faceCount 10 = .ok (.sipush 256, 3) := by decide +kernel
theorem dX4_faceCount_13 : decode cX4_faceCount 13 = .ok (.if_icmp .ge 20, 3) := by decide +kernel
theorem dX4_faceCount_16 : decode cX4_faceCount 16 = .ok (.aload_n 0, 1) := by decide +kernel
theorem dX4_faceCount_17 : decode cX4_faceCount 17 = .ok (.iload_n 3, 1) := by decide +kernel
theorem dX4_faceCount_18 : decode cX4_faceCount 18 = .ok (.invokevirtual 66, 3) := by decide +kernel
theorem dX4_faceCount_21 : decode cX4_faceCount 21 = .ok (.ifCond .eq 6, 3) := by decide +kernel
theorem dX4_faceCount_24 : decode cX4_faceCount 24 = .ok (.iinc 2 1, 3) := by decide +kernel
theorem dX4_faceCount_27 : decode cX4_faceCount 27 = .ok (.iinc 3 1, 3) := by decide +kernel
theorem dX4_faceCount_30 : decode cX4_faceCount 30 = .ok (.goto (-21), 3) := by decide +kernel
theorem dX4_faceCount_33 : decode cX4_faceCount 33 = .ok (.iload_n 2, 1) := by decide +kernel
theorem dX4_faceCount_34 : decode cX4_faceCount 34 = .ok (.ireturn, 1) := by decide +kernel
theorem dX4_faceAt_0 : decode cX4_faceAt 0 = .ok (.aload_n 0, 1) := by decide +kernel
theorem dX4_faceAt_1 : decode cX4_faceAt 1 = .ok (.iload_n 1, 1) := by decide +kernel
theorem dX4_faceAt_2 : decode cX4_faceAt 2 = .ok (.invokevirtual 55, 3) := by decide +kernel
theorem dX4_faceAt_5 : decode cX4_faceAt 5 = .ok (.iconst 0, 1) := by decide +kernel
theorem dX4_faceAt_6 : decode cX4_faceAt 6 = .ok (.istore_n 3, 1) := by decide +kernel
theorem dX4_faceAt_7 : decode cX4_faceAt 7 = .ok (.iconst 0, 1) := by decide +kernel
theorem dX4_faceAt_8 : decode cX4_faceAt 8 = .ok (.istore 4, 2) := by decide +kernel
theorem dX4_faceAt_10 : decode cX4_faceAt 10 = .ok (.iload 4, 2) := by decide +kernel
theorem dX4_faceAt_12 : decode cX4_faceAt 12 = .ok (.sipush 256, 3) := by decide +kernel
theorem dX4_faceAt_15 : decode cX4_faceAt 15 = .ok (.if_icmp .ge 29, 3) := by decide +kernel
theorem dX4_faceAt_18 : decode cX4_faceAt 18 = .ok (.aload_n 0, 1) := by decide +kernel
theorem dX4_faceAt_19 : decode cX4_faceAt 19 = .ok (.iload 4, 2) := by decide +kernel
theorem dX4_faceAt_21 : decode cX4_faceAt 21 = .ok (.invokevirtual 66, 3) := by decide +kernel
theorem dX4_faceAt_24 : decode cX4_faceAt 24 = .ok (.ifCond .eq 14, 3) := by decide +kernel
theorem dX4_faceAt_27 : decode cX4_faceAt 27 = .ok (.iload_n 3, 1) := by decide +kernel
theorem dX4_faceAt_28 : decode cX4_faceAt 28 = .ok (.iload_n 2, 1) := by decide +kernel
theorem dX4_faceAt_29 : decode cX4_faceAt 29 = .ok (.if_icmp .ne 6, 3) := by decide +kernel
theorem dX4_faceAt_32 : decode cX4_faceAt 32 = .ok (.iload 4, 2) := by decide +kernel
theorem dX4_faceAt_34 : decode cX4_faceAt 34 = .ok (.ireturn, 1) := by decide +kernel
theorem dX4_faceAt_35 : decode cX4_faceAt 35 = .ok (.iinc 3 1, 3) := by decide +kernel
theorem dX4_faceAt_38 : decode cX4_faceAt 38 = .ok (.iinc 4 1, 3) := by decide +kernel
theorem dX4_faceAt_41 : decode cX4_faceAt 41 = .ok (.goto (-31), 3) := by decide +kernel
theorem dX4_faceAt_44 : decode cX4_faceAt 44 = .ok (.bipush (-5), 2) := by decide +kernel
theorem dX4_faceAt_46 : decode cX4_faceAt 46 = .ok (.ireturn, 1) := by decide +kernel
theorem dX4_isIn_0 : decode cX4_isIn 0 = .ok (.aload_n 0, 1) := by decide +kernel
theorem dX4_isIn_1 : decode cX4_isIn 1 = .ok (.iload_n 1, 1) := by decide +kernel
theorem dX4_isIn_2 : decode cX4_isIn 2 = .ok (.invokevirtual 55, 3) := by decide +kernel
theorem dX4_isIn_5 : decode cX4_isIn 5 = .ok (.aload_n 0, 1) := by decide +kernel
theorem dX4_isIn_6 : decode cX4_isIn 6 = .ok (.iload_n 2, 1) := by decide +kernel
theorem dX4_isIn_7 : decode cX4_isIn 7 = .ok (.iload_n 3, 1) := by decide +kernel
theorem dX4_isIn_8 : decode cX4_isIn 8 = .ok (.iload 4, 2) := by decide +kernel
theorem dX4_isIn_10 : decode cX4_isIn 10 = .ok (.iload 5, 2) := by decide +kernel
theorem dX4_isIn_12 : decode cX4_isIn 12 = .ok (.invokevirtual 69, 3) := by decide +kernel
theorem dX4_isIn_15 : decode cX4_isIn 15 = .ok (.ireturn, 1) := by decide +kernel
theorem dX4_isInMeasured_0 : decode cX4_isInMeasured 0 = .ok (.iconst 0, 1) := by decide +kernel
theorem dX4_isInMeasured_1 : decode cX4_isInMeasured 1 = .ok (.istore 5, 2) := by decide +kernel
theorem dX4_isInMeasured_3 : decode cX4_isInMeasured 3 = .ok (.iload 5, 2) := by decide +kernel
theorem dX4_isInMeasured_5 : decode cX4_isInMeasured 5 = .ok (.sipush 171, 3) := by decide +kernel
theorem dX4_isInMeasured_8 : decode cX4_isInMeasured 8 = .ok (.if_icmp .ge 74, 3) := by decide +kernel
theorem dX4_isInMeasured_11 : decode cX4_isInMeasured 11 = .ok (.iload 5, 2) := by decide +kernel
theorem dX4_isInMeasured_13 : decode cX4_isInMeasured 13 = .ok (.bipush 49, 2) := by decide +kernel
theorem dX4_isInMeasured_15 : decode cX4_isInMeasured 15 = .ok (.idiv, 1) := by decide +kernel
theorem dX4_isInMeasured_16 : decode cX4_isInMeasured 16 = .ok (.iconst 3, 1) := by decide +kernel
theorem dX4_isInMeasured_17 : decode cX4_isInMeasured 17 = .ok (.isub, 1) := by decide +kernel
theorem dX4_isInMeasured_18 : decode cX4_isInMeasured 18 = .ok (.iload_n 2, 1) := by decide +kernel
theorem dX4_isInMeasured_19 : decode cX4_isInMeasured 19 = .ok (.imul, 1) := by decide +kernel
theorem dX4_isInMeasured_20 : decode cX4_isInMeasured 20 = .ok (.iload 5, 2) := by decide +kernel
theorem dX4_isInMeasured_22 : decode cX4_isInMeasured 22 = .ok (.bipush 7, 2) := by decide +kernel
theorem dX4_isInMeasured_24 : decode cX4_isInMeasured 24 = .ok (.idiv, 1) := by decide +kernel
theorem dX4_isInMeasured_25 : decode cX4_isInMeasured 25 = .ok (.bipush 7, 2) := by decide +kernel
theorem dX4_isInMeasured_27 : decode cX4_isInMeasured 27 = .ok (.irem, 1) := by decide +kernel
theorem dX4_isInMeasured_28 : decode cX4_isInMeasured 28 = .ok (.iconst 3, 1) := by decide +kernel
theorem dX4_isInMeasured_29 : decode cX4_isInMeasured 29 = .ok (.isub, 1) := by decide +kernel
theorem dX4_isInMeasured_30 : decode cX4_isInMeasured 30 = .ok (.iload_n 3, 1) := by decide +kernel
theorem dX4_isInMeasured_31 : decode cX4_isInMeasured 31 = .ok (.imul, 1) := by decide +kernel
theorem dX4_isInMeasured_32 : decode cX4_isInMeasured 32 = .ok (.iadd, 1) := by decide +kernel
theorem dX4_isInMeasured_33 : decode cX4_isInMeasured 33 = .ok (.iload 5, 2) := by decide +kernel
theorem dX4_isInMeasured_35 : decode cX4_isInMeasured 35 = .ok (.bipush 7, 2) := by decide +kernel
theorem dX4_isInMeasured_37 : decode cX4_isInMeasured 37 = .ok (.irem, 1) := by decide +kernel
theorem dX4_isInMeasured_38 : decode cX4_isInMeasured 38 = .ok (.iconst 3, 1) := by decide +kernel
theorem dX4_isInMeasured_39 : decode cX4_isInMeasured 39 = .ok (.isub, 1) := by decide +kernel
theorem dX4_isInMeasured_40 : decode cX4_isInMeasured 40 = .ok (.iload 4, 2) := by decide +kernel
theorem dX4_isInMeasured_42 : decode cX4_isInMeasured 42 = .ok (.imul, 1) := by decide +kernel
theorem dX4_isInMeasured_43 : decode cX4_isInMeasured 43 = .ok (.iadd, 1) := by decide +kernel
theorem dX4_isInMeasured_44 : decode cX4_isInMeasured 44 = .ok (.istore 6, 2) := by decide +kernel
theorem dX4_isInMeasured_46 : decode cX4_isInMeasured 46 = .ok (.iload 6, 2) := by decide +kernel
theorem dX4_isInMeasured_48 : decode cX4_isInMeasured 48 = .ok (.iload_n 1, 1) := by decide +kernel
theorem dX4_isInMeasured_49 : decode cX4_isInMeasured 49 = .ok (.aload_n 0, 1) := by decide +kernel
theorem dX4_isInMeasured_50 : decode cX4_isInMeasured 50 = .ok (.getfield 18, 3) := by decide +kernel
theorem dX4_isInMeasured_53 : decode cX4_isInMeasured 53 = .ok (.iload 5, 2) := by decide +kernel
theorem dX4_isInMeasured_55 : decode cX4_isInMeasured 55 = .ok (.iaload, 1) := by decide +kernel
theorem dX4_isInMeasured_56 : decode cX4_isInMeasured 56 = .ok (.imul, 1) := by decide +kernel
theorem dX4_isInMeasured_57 : decode cX4_isInMeasured 57 = .ok (.if_icmp .gt 17, 3) := by decide +kernel
theorem dX4_isInMeasured_60 : decode cX4_isInMeasured 60 = .ok (.iload 6, 2) := by decide +kernel
theorem dX4_isInMeasured_62 : decode cX4_isInMeasured 62 = .ok (.iload_n 1, 1) := by decide +kernel
theorem dX4_isInMeasured_63 : decode cX4_isInMeasured 63 = .ok (.aload_n 0, 1) := by decide +kernel
theorem dX4_isInMeasured_64 : decode cX4_isInMeasured 64 = .ok (.getfield 22, 3) := by decide +kernel
theorem dX4_isInMeasured_67 : decode cX4_isInMeasured 67 = .ok (.iload 5, 2) := by decide +kernel
theorem dX4_isInMeasured_69 : decode cX4_isInMeasured 69 = .ok (.iaload, 1) := by decide +kernel
theorem dX4_isInMeasured_70 : decode cX4_isInMeasured 70 = .ok (.imul, 1) := by decide +kernel
theorem dX4_isInMeasured_71 : decode cX4_isInMeasured 71 = .ok (.if_icmp .ge 5, 3) := by decide +kernel
theorem dX4_isInMeasured_74 : decode cX4_isInMeasured 74 = .ok (.iconst 0, 1) := by decide +kernel
theorem dX4_isInMeasured_75 : decode cX4_isInMeasured 75 = .ok (.ireturn, 1) := by decide +kernel
theorem dX4_isInMeasured_76 : decode cX4_isInMeasured 76 = .ok (.iinc 5 1, 3) := by decide +kernel
theorem dX4_isInMeasured_79 : decode cX4_isInMeasured 79 = .ok (.goto (-76), 3) := by decide +kernel
theorem dX4_isInMeasured_82 : decode cX4_isInMeasured 82 = .ok (.iconst 1, 1) := by decide +kernel
theorem dX4_isInMeasured_83 : decode cX4_isInMeasured 83 = .ok (.ireturn, 1) := by decide +kernel
theorem dX4_pointsIn_0 : decode cX4_pointsIn 0 = .ok (.iload_n 1, 1) := by decide +kernel
theorem dX4_pointsIn_1 : decode cX4_pointsIn 1 = .ok (.iconst 3, 1) := by decide +kernel
theorem dX4_pointsIn_2 : decode cX4_pointsIn 2 = .ok (.imul, 1) := by decide +kernel
theorem dX4_pointsIn_3 : decode cX4_pointsIn 3 = .ok (.iload_n 2, 1) := by decide +kernel
theorem dX4_pointsIn_4 : decode cX4_pointsIn 4 = .ok (.iadd, 1) := by decide +kernel
theorem dX4_pointsIn_5 : decode cX4_pointsIn 5 = .ok (.iconst 1, 1) := by decide +kernel
theorem dX4_pointsIn_6 : decode cX4_pointsIn 6 = .ok (.isub, 1) := by decide +kernel
theorem dX4_pointsIn_7 : decode cX4_pointsIn 7 = .ok (.istore_n 3, 1) := by decide +kernel
theorem dX4_pointsIn_8 : decode cX4_pointsIn 8 = .ok (.iload_n 3, 1) := by decide +kernel
theorem dX4_pointsIn_9 : decode cX4_pointsIn 9 = .ok (.ifCond .lt 12, 3) := by decide +kernel
theorem dX4_pointsIn_12 : decode cX4_pointsIn 12 = .ok (.iload_n 3, 1) := by decide +kernel
theorem dX4_pointsIn_13 : decode cX4_pointsIn 13 = .ok (.aload_n 0, 1) := by decide +kernel
theorem dX4_pointsIn_14 : decode cX4_pointsIn 14 = .ok (.getfield 28, 3) := by decide +kernel
theorem dX4_pointsIn_17 : decode cX4_pointsIn 17 = .ok (.arraylength, 1) := by decide +kernel
theorem dX4_pointsIn_18 : decode cX4_pointsIn 18 = .ok (.if_icmp .lt 5, 3) := by decide +kernel
theorem dX4_pointsIn_21 : decode cX4_pointsIn 21 = .ok (.iconst 0, 1) := by decide +kernel
theorem dX4_pointsIn_22 : decode cX4_pointsIn 22 = .ok (.ireturn, 1) := by decide +kernel
theorem dX4_pointsIn_23 : decode cX4_pointsIn 23 = .ok (.aload_n 0, 1) := by decide +kernel
theorem dX4_pointsIn_24 : decode cX4_pointsIn 24 = .ok (.getfield 28, 3) := by decide +kernel
theorem dX4_pointsIn_27 : decode cX4_pointsIn 27 = .ok (.iload_n 3, 1) := by decide +kernel
theorem dX4_pointsIn_28 : decode cX4_pointsIn 28 = .ok (.iaload, 1) := by decide +kernel
theorem dX4_pointsIn_29 : decode cX4_pointsIn 29 = .ok (.ifCond .ne 58, 3) := by decide +kernel
theorem dX4_pointsIn_32 : decode cX4_pointsIn 32 = .ok (.aload_n 0, 1) := by decide +kernel
theorem dX4_pointsIn_33 : decode cX4_pointsIn 33 = .ok (.iload_n 1, 1) := by decide +kernel
theorem dX4_pointsIn_34 : decode cX4_pointsIn 34 = .ok (.invokevirtual 55, 3) := by decide +kernel
theorem dX4_pointsIn_37 : decode cX4_pointsIn 37 = .ok (.iconst 0, 1) := by decide +kernel
theorem dX4_pointsIn_38 : decode cX4_pointsIn 38 = .ok (.istore 4, 2) := by decide +kernel
theorem dX4_pointsIn_40 : decode cX4_pointsIn 40 = .ok (.iload 4, 2) := by decide +kernel
theorem dX4_pointsIn_42 : decode cX4_pointsIn 42 = .ok (.bipush 64, 2) := by decide +kernel
theorem dX4_pointsIn_44 : decode cX4_pointsIn 44 = .ok (.if_icmp .ge 43, 3) := by decide +kernel
theorem dX4_pointsIn_47 : decode cX4_pointsIn 47 = .ok (.aload_n 0, 1) := by decide +kernel
theorem dX4_pointsIn_48 : decode cX4_pointsIn 48 = .ok (.iload_n 2, 1) := by decide +kernel
theorem dX4_pointsIn_49 : decode cX4_pointsIn 49 = .ok (.iload 4, 2) := by decide +kernel
theorem dX4_pointsIn_51 : decode cX4_pointsIn 51 = .ok (.iconst 3, 1) := by decide +kernel
theorem dX4_pointsIn_52 : decode cX4_pointsIn 52 = .ok (.iand, 1) := by decide +kernel
theorem dX4_pointsIn_53 : decode cX4_pointsIn 53 = .ok (.iload 4, 2) := by decide +kernel
theorem dX4_pointsIn_55 : decode cX4_pointsIn 55 = .ok (.iconst 2, 1) := by decide +kernel
theorem dX4_pointsIn_56 : decode cX4_pointsIn 56 = .ok (.ishr, 1) := by decide +kernel
theorem dX4_pointsIn_57 : decode cX4_pointsIn 57 = .ok (.iconst 3, 1) := by decide +kernel
theorem dX4_pointsIn_58 : decode cX4_pointsIn 58 = .ok (.iand, 1) := by decide +kernel
theorem dX4_pointsIn_59 : decode cX4_pointsIn 59 = .ok (.iload 4, 2) := by decide +kernel
theorem dX4_pointsIn_61 : decode cX4_pointsIn 61 = .ok (.iconst 4, 1) := by decide +kernel
theorem dX4_pointsIn_62 : decode cX4_pointsIn 62 = .ok (.ishr, 1) := by decide +kernel
theorem dX4_pointsIn_63 : decode cX4_pointsIn 63 = .ok (.iconst 3, 1) := by decide +kernel
theorem dX4_pointsIn_64 : decode cX4_pointsIn 64 = .ok (.iand, 1) := by decide +kernel
theorem dX4_pointsIn_65 : decode cX4_pointsIn 65 = .ok (.invokevirtual 69, 3) := by decide +kernel
theorem dX4_pointsIn_68 : decode cX4_pointsIn 68 = .ok (.ifCond .eq 13, 3) := by decide +kernel
theorem dX4_pointsIn_71 : decode cX4_pointsIn 71 = .ok (.aload_n 0, 1) := by decide +kernel
theorem dX4_pointsIn_72 : decode cX4_pointsIn 72 = .ok (.getfield 28, 3) := by decide +kernel
theorem dX4_pointsIn_75 : decode cX4_pointsIn 75 = .ok (.iload_n 3, 1) := by decide +kernel
theorem dX4_pointsIn_76 : decode cX4_pointsIn 76 = .ok (.dup2, 1) := by decide +kernel
theorem dX4_pointsIn_77 : decode cX4_pointsIn 77 = .ok (.iaload, 1) := by decide +kernel
theorem dX4_pointsIn_78 : decode cX4_pointsIn 78 = .ok (.iconst 1, 1) := by decide +kernel
theorem dX4_pointsIn_79 : decode cX4_pointsIn 79 = .ok (.iadd, 1) := by decide +kernel
theorem dX4_pointsIn_80 : decode cX4_pointsIn 80 = .ok (.iastore, 1) := by decide +kernel
theorem dX4_pointsIn_81 : decode cX4_pointsIn 81 = .ok (.iinc 4 1, 3) := by decide +kernel
theorem dX4_pointsIn_84 : decode cX4_pointsIn 84 = .ok (.goto (-44), 3) := by decide +kernel
theorem dX4_pointsIn_87 : decode cX4_pointsIn 87 = .ok (.aload_n 0, 1) := by decide +kernel
theorem dX4_pointsIn_88 : decode cX4_pointsIn 88 = .ok (.getfield 28, 3) := by decide +kernel
theorem dX4_pointsIn_91 : decode cX4_pointsIn 91 = .ok (.iload_n 3, 1) := by decide +kernel
theorem dX4_pointsIn_92 : decode cX4_pointsIn 92 = .ok (.iaload, 1) := by decide +kernel
theorem dX4_pointsIn_93 : decode cX4_pointsIn 93 = .ok (.ireturn, 1) := by decide +kernel
theorem dX4_sixfold_0 : decode cX4_sixfold 0 = .ok (.iload_n 1, 1) := by decide +kernel
theorem dX4_sixfold_1 : decode cX4_sixfold 1 = .ok (.ifCond .ne 7, 3) := by decide +kernel
theorem dX4_sixfold_4 : decode cX4_sixfold 4 = .ok (.iconst 0, 1) := by decide +kernel
theorem dX4_sixfold_5 : decode cX4_sixfold 5 = .ok (.goto 29, 3) := by decide +kernel
theorem dX4_sixfold_8 : decode cX4_sixfold 8 = .ok (.aload_n 0, 1) := by decide +kernel
theorem dX4_sixfold_9 : decode cX4_sixfold 9 = .ok (.iload_n 1, 1) := by decide +kernel
theorem dX4_sixfold_10 : decode cX4_sixfold 10 = .ok (.iconst 3, 1) := by decide +kernel
theorem dX4_sixfold_11 : decode cX4_sixfold 11 = .ok (.invokevirtual 73, 3) := by decide +kernel
theorem dX4_sixfold_14 : decode cX4_sixfold 14 = .ok (.iconst 3, 1) := by decide +kernel
theorem dX4_sixfold_15 : decode cX4_sixfold 15 = .ok (.aload_n 0, 1) := by decide +kernel
theorem dX4_sixfold_16 : decode cX4_sixfold 16 = .ok (.iload_n 1, 1) := by decide +kernel
theorem dX4_sixfold_17 : decode cX4_sixfold 17 = .ok (.iconst 2, 1) := by decide +kernel
theorem dX4_sixfold_18 : decode cX4_sixfold 18 = .ok (.invokevirtual 73, 3) := by decide +kernel
theorem dX4_sixfold_21 : decode cX4_sixfold 21 = .ok (.imul, 1) := by decide +kernel
theorem dX4_sixfold_22 : decode cX4_sixfold 22 = .ok (.isub, 1) := by decide +kernel
theorem dX4_sixfold_23 : decode cX4_sixfold 23 = .ok (.iconst 3, 1) := by decide +kernel
theorem dX4_sixfold_24 : decode cX4_sixfold 24 = .ok (.aload_n 0, 1) := by decide +kernel
theorem dX4_sixfold_25 : decode cX4_sixfold 25 = .ok (.iload_n 1, 1) := by decide +kernel
theorem dX4_sixfold_26 : decode cX4_sixfold 26 = .ok (.iconst 1, 1) := by decide +kernel
theorem dX4_sixfold_27 : decode cX4_sixfold 27 = .ok (.invokevirtual 73, 3) := by decide +kernel
theorem dX4_sixfold_30 : decode cX4_sixfold 30 = .ok (.imul, 1) := by decide +kernel
theorem dX4_sixfold_31 : decode cX4_sixfold 31 = .ok (.iadd, 1) := by decide +kernel
theorem dX4_sixfold_32 : decode cX4_sixfold 32 = .ok (.iconst 1, 1) := by decide +kernel
theorem dX4_sixfold_33 : decode cX4_sixfold 33 = .ok (.isub, 1) := by decide +kernel
theorem dX4_sixfold_34 : decode cX4_sixfold 34 = .ok (.ireturn, 1) := by decide +kernel
theorem dX4_fat_0 : decode cX4_fat 0 = .ok (.aload_n 0, 1) := by decide +kernel
theorem dX4_fat_1 : decode cX4_fat 1 = .ok (.iload_n 1, 1) := by decide +kernel
theorem dX4_fat_2 : decode cX4_fat 2 = .ok (.invokevirtual 76, 3) := by decide +kernel
theorem dX4_fat_5 : decode cX4_fat 5 = .ok (.istore_n 2, 1) := by decide +kernel
theorem dX4_fat_6 : decode cX4_fat 6 = .ok (.iload_n 2, 1) := by decide +kernel
theorem dX4_fat_7 : decode cX4_fat 7 = .ok (.ifCond .ne 7, 3) := by decide +kernel
theorem dX4_fat_10 : decode cX4_fat 10 = .ok (.fconst 0, 1) := by decide +kernel
theorem dX4_fat_11 : decode cX4_fat 11 = .ok (.goto 15, 3) := by decide +kernel
theorem dX4_fat_14 : decode cX4_fat 14 = .ok (.aload_n 0, 1) := by decide +kernel
theorem dX4_fat_15 : decode cX4_fat 15 = .ok (.iload_n 1, 1) := by decide +kernel
theorem dX4_fat_16 : decode cX4_fat 16 = .ok (.invokevirtual 79, 3) := by decide +kernel
theorem dX4_fat_19 : decode cX4_fat 19 = .ok (.i2f, 1) := by decide +kernel
theorem dX4_fat_20 : decode cX4_fat 20 = .ok (.ldc 82, 2) := by decide +kernel
theorem dX4_fat_22 : decode cX4_fat 22 = .ok (.fdiv, 1) := by decide +kernel
theorem dX4_fat_23 : decode cX4_fat 23 = .ok (.iload_n 2, 1) := by decide +kernel
theorem dX4_fat_24 : decode cX4_fat 24 = .ok (.i2f, 1) := by decide +kernel
theorem dX4_fat_25 : decode cX4_fat 25 = .ok (.fdiv, 1) := by decide +kernel
theorem dX4_fat_26 : decode cX4_fat 26 = .ok (.freturn, 1) := by decide +kernel
theorem dX5_init_0 : decode cX5_init 0 = .ok (.aload_n 0, 1) := by decide +kernel
theorem dX5_init_1 : decode cX5_init 1 = .ok (.invokespecial 1, 3) := by decide +kernel
theorem dX5_init_4 : decode cX5_init 4 = .ok (.aload_n 0, 1) := by decide +kernel
theorem dX5_init_5 : decode cX5_init 5 = .ok (.bipush 60, 2) := by decide +kernel
theorem dX5_init_7 : decode cX5_init 7 = .ok (.newarray .long, 2) := by decide +kernel
theorem dX5_init_9 : decode cX5_init 9 = .ok (.putfield 9, 3) := by decide +kernel
theorem dX5_init_12 : decode cX5_init 12 = .ok (.aload_n 0, 1) := by decide +kernel
theorem dX5_init_13 : decode cX5_init 13 = .ok (.iconst (-1), 1) := by decide +kernel
theorem dX5_init_14 : decode cX5_init 14 = .ok (.putfield 13, 3) := by decide +kernel
theorem dX5_init_17 : decode cX5_init 17 = .ok (.aload_n 0, 1) := by decide +kernel
theorem dX5_init_18 : decode cX5_init 18 = .ok (.iconst 0, 1) := by decide +kernel
theorem dX5_init_19 : decode cX5_init 19 = .ok (.putfield 17, 3) := by decide +kernel
theorem dX5_init_22 : decode cX5_init 22 = .ok (.return_, 1) := by decide +kernel
theorem dX5_becomeRow_0 : decode cX5_becomeRow 0 = .ok (.aload_n 0, 1) := by decide +kernel
theorem dX5_becomeRow_1 : decode cX5_becomeRow 1 = .ok (.iload_n 1, 1) := by decide +kernel
theorem dX5_becomeRow_2 : decode cX5_becomeRow 2 = .ok (.putfield 13, 3) := by decide +kernel
theorem dX5_becomeRow_5 : decode cX5_becomeRow 5 = .ok (.aload_n 0, 1) := by decide +kernel
theorem dX5_becomeRow_6 : decode cX5_becomeRow 6 = .ok (.iload_n 2, 1) := by decide +kernel
theorem dX5_becomeRow_7 : decode cX5_becomeRow 7 = .ok (.putfield 17, 3) := by decide +kernel
theorem dX5_becomeRow_10 : decode cX5_becomeRow 10 = .ok (.iconst 0, 1) := by decide +kernel
theorem dX5_becomeRow_11 : decode cX5_becomeRow 11 = .ok (.istore_n 3, 1) := by decide +kernel
theorem dX5_becomeRow_12 : decode cX5_becomeRow 12 = .ok (.iload_n 3, 1) := by decide +kernel
theorem dX5_becomeRow_13 : decode cX5_becomeRow 13 = .ok (.bipush 60, 2) := by decide +kernel
theorem dX5_becomeRow_15 : decode cX5_becomeRow 15 = .ok (.if_icmp .ge 16, 3) := by decide +kernel
theorem dX5_becomeRow_18 : decode cX5_becomeRow 18 = .ok (.aload_n 0, 1) := by decide +kernel
theorem dX5_becomeRow_19 : decode cX5_becomeRow 19 = .ok (.getfield 9, 3) := by decide +kernel
theorem dX5_becomeRow_22 : decode cX5_becomeRow 22 = .ok (.iload_n 3, 1) := by decide +kernel
theorem dX5_becomeRow_23 : decode cX5_becomeRow 23 = .ok (.lconst 0, 1) := by decide +kernel
theorem dX5_becomeRow_24 : decode cX5_becomeRow 24 = .ok (.lastore, 1) := by decide +kernel
theorem dX5_becomeRow_25 : decode cX5_becomeRow 25 = .ok (.iinc 3 1, 3) := by decide +kernel
theorem dX5_becomeRow_28 : decode cX5_becomeRow 28 = .ok (.goto (-16), 3) := by decide +kernel
theorem dX5_becomeRow_31 : decode cX5_becomeRow 31 = .ok (.return_, 1) := by decide +kernel
theorem dX5_holdsRow_0 : decode cX5_holdsRow 0 = .ok (.aload_n 0, 1) := by decide +kernel
theorem dX5_holdsRow_1 : decode cX5_holdsRow 1 = .ok (.getfield 13, 3) := by decide +kernel
theorem dX5_holdsRow_4 : decode cX5_holdsRow 4 = .ok (.iconst (-1), 1) := by decide +kernel
theorem dX5_holdsRow_5 : decode cX5_holdsRow 5 = .ok (.if_icmp .eq 7, 3) := by decide +kernel
theorem dX5_holdsRow_8 : decode cX5_holdsRow 8 = .ok (.iconst 1, 1) := by decide +kernel
theorem dX5_holdsRow_9 : decode cX5_holdsRow 9 = .ok (.goto 4, 3) := by decide +kernel
theorem dX5_holdsRow_12 : decode cX5_holdsRow 12 = .ok (.iconst 0, 1) := by decide +kernel
theorem dX5_holdsRow_13 : decode cX5_holdsRow 13 = .ok (.ireturn, 1) := by decide +kernel
theorem dX5_hasPlace_0 : decode cX5_hasPlace 0 = .ok (.iload_n 1, 1) := by decide +kernel
theorem dX5_hasPlace_1 : decode cX5_hasPlace 1 = .ok (.ifCond .lt 21, 3) := by decide +kernel
theorem dX5_hasPlace_4 : decode cX5_hasPlace 4 = .ok (.iload_n 1, 1) := by decide +kernel
theorem dX5_hasPlace_5 : decode cX5_hasPlace 5 = .ok (.aload_n 0, 1) := by decide +kernel
theorem dX5_hasPlace_6 : decode cX5_hasPlace 6 = .ok (.getfield 17, 3) := by decide +kernel
theorem dX5_hasPlace_9 : decode cX5_hasPlace 9 = .ok (.if_icmp .ge 13, 3) := by decide +kernel
theorem dX5_hasPlace_12 : decode cX5_hasPlace 12 = .ok (.iload_n 1, 1) := by decide +kernel
theorem dX5_hasPlace_13 : decode cX5_hasPlace 13 = .ok (.bipush 60, 2) := by decide +kernel
theorem dX5_hasPlace_15 : decode cX5_hasPlace 15 = .ok (.if_icmp .ge 7, 3) := by decide +kernel
theorem dX5_hasPlace_18 : decode cX5_hasPlace 18 = .ok (.iconst 1, 1) := by decide +kernel
theorem dX5_hasPlace_19 : decode cX5_hasPlace 19 = .ok (.goto 4, 3) := by decide +kernel
theorem dX5_hasPlace_22 : decode cX5_hasPlace 22 = .ok (.iconst 0, 1) := by decide +kernel
theorem dX5_hasPlace_23 : decode cX5_hasPlace 23 = .ok (.ireturn, 1) := by decide +kernel
theorem dX5_hasRun_0 : decode cX5_hasRun 0 = .ok (.iload_n 2, 1) := by decide +kernel
theorem dX5_hasRun_1 : decode cX5_hasRun 1 = .ok (.ifCond .lt 29, 3) := by decide +kernel
theorem dX5_hasRun_4 : decode cX5_hasRun 4 = .ok (.iload_n 1, 1) := by decide +kernel
theorem dX5_hasRun_5 : decode cX5_hasRun 5 = .ok (.ifCond .lt 25, 3) := by decide +kernel
theorem dX5_hasRun_8 : decode cX5_hasRun 8 = .ok (.iload_n 2, 1) := by decide +kernel
theorem dX5_hasRun_9 : decode cX5_hasRun 9 = .ok (.aload_n 0, 1) := by decide +kernel
theorem dX5_hasRun_10 : decode cX5_hasRun 10 = .ok (.getfield 17, 3) := by decide +kernel
theorem dX5_hasRun_13 : decode cX5_hasRun 13 = .ok (.if_icmp .gt 17, 3) := by decide +kernel
theorem dX5_hasRun_16 : decode cX5_hasRun 16 = .ok (.iload_n 1, 1) := by decide +kernel
theorem dX5_hasRun_17 : decode cX5_hasRun 17 = .ok (.aload_n 0, 1) := by decide +kernel
theorem dX5_hasRun_18 : decode cX5_hasRun 18 = .ok (.getfield 17, 3) := by decide +kernel
theorem dX5_hasRun_21 : decode cX5_hasRun 21 = .ok (.iload_n 2, 1) := by decide +kernel
theorem dX5_hasRun_22 : decode cX5_hasRun 22 = .ok (.isub, 1) := by decide +kernel
theorem dX5_hasRun_23 : decode cX5_hasRun 23 = .ok (.if_icmp .gt 7, 3) := by decide +kernel
theorem dX5_hasRun_26 : decode cX5_hasRun 26 = .ok (.iconst 1, 1) := by decide +kernel
theorem dX5_hasRun_27 : decode cX5_hasRun 27 = .ok (.goto 4, 3) := by decide +kernel
theorem dX5_hasRun_30 : decode cX5_hasRun 30 = .ok (.iconst 0, 1) := by decide +kernel
theorem dX5_hasRun_31 : decode cX5_hasRun 31 = .ok (.ireturn, 1) := by decide +kernel
theorem dX5_itemAt_0 : decode cX5_itemAt 0 = .ok (.aload_n 0, 1) := by decide +kernel
theorem dX5_itemAt_1 : decode cX5_itemAt 1 = .ok (.iload_n 1, 1) := by decide +kernel
theorem dX5_itemAt_2 : decode cX5_itemAt 2 = .ok (.invokevirtual 20, 3) := by decide +kernel
theorem dX5_itemAt_5 : decode cX5_itemAt 5 = .ok (.ifCond .eq 12, 3) := by decide +kernel
theorem dX5_itemAt_8 : decode cX5_itemAt 8 = .ok (.aload_n 0, 1) := by decide +kernel
theorem dX5_itemAt_9 : decode cX5_itemAt 9 = .ok (.getfield 9, 3) := by decide +kernel
theorem dX5_itemAt_12 : decode cX5_itemAt 12 = .ok (.iload_n 1, 1) := by decide +kernel
theorem dX5_itemAt_13 : decode cX5_itemAt 13 = .ok (.laload, 1) := by decide +kernel
theorem dX5_itemAt_14 : decode cX5_itemAt 14 = .ok (.goto 4, 3) := by decide +kernel
theorem dX5_itemAt_17 : decode cX5_itemAt 17 = .ok (.lconst 0, 1) := by decide +kernel
theorem dX5_itemAt_18 : decode cX5_itemAt 18 = .ok (.lreturn, 1) := by decide +kernel
theorem dX5_put_0 : decode cX5_put 0 = .ok (.aload_n 0, 1) := by decide +kernel
theorem dX5_put_1 : decode cX5_put 1 = .ok (.iload_n 1, 1) := by decide +kernel
theorem dX5_put_2 : decode cX5_put 2 = .ok (.invokevirtual 20, 3) := by decide +kernel
theorem dX5_put_5 : decode cX5_put 5 = .ok (.ifCond .eq 14, 3) := by decide +kernel
theorem dX5_put_8 : decode cX5_put 8 = .ok (.aload_n 0, 1) := by decide +kernel
theorem dX5_put_9 : decode cX5_put 9 = .ok (.getfield 9, 3) := by decide +kernel
theorem dX5_put_12 : decode cX5_put 12 = .ok (.iload_n 1, 1) := by decide +kernel
theorem dX5_put_13 : decode cX5_put 13 = .ok (.aload_n 0, 1) := by decide +kernel
theorem dX5_put_14 : decode cX5_put 14 = .ok (.lload_n 2, 1) := by decide +kernel
theorem dX5_put_15 : decode cX5_put 15 = .ok (.invokevirtual 24, 3) := by decide +kernel
theorem dX5_put_18 : decode cX5_put 18 = .ok (.lastore, 1) := by decide +kernel
theorem dX5_put_19 : decode cX5_put 19 = .ok (.return_, 1) := by decide +kernel
theorem dX5_cut_0 : decode cX5_cut 0 = .ok (.aload_n 0, 1) := by decide +kernel
theorem dX5_cut_1 : decode cX5_cut 1 = .ok (.getfield 13, 3) := by decide +kernel
theorem dX5_cut_4 : decode cX5_cut 4 = .ok (.tableswitch 48 0 3 #[32, 37, 42, 46], 32) := by decide +kernel
theorem dX5_cut_36 : decode cX5_cut 36 = .ok (.lload_n 1, 1) := by decide +kernel
theorem dX5_cut_37 : decode cX5_cut 37 = .ok (.l2i, 1) := by decide +kernel
theorem dX5_cut_38 : decode cX5_cut 38 = .ok (.i2b, 1) := by decide +kernel
theorem dX5_cut_39 : decode cX5_cut 39 = .ok (.i2l, 1) := by decide +kernel
theorem dX5_cut_40 : decode cX5_cut 40 = .ok (.lreturn, 1) := by decide +kernel
theorem dX5_cut_41 : decode cX5_cut 41 = .ok (.lload_n 1, 1) := by decide +kernel
theorem dX5_cut_42 : decode cX5_cut 42 = .ok (.l2i, 1) := by decide +kernel
theorem dX5_cut_43 : decode cX5_cut 43 = .ok (.i2s, 1) := by decide +kernel
theorem dX5_cut_44 : decode cX5_cut 44 = .ok (.i2l, 1) := by decide +kernel
theorem dX5_cut_45 : decode cX5_cut 45 = .ok (.lreturn, 1) := by decide +kernel
theorem dX5_cut_46 : decode cX5_cut 46 = .ok (.lload_n 1, 1) := by decide +kernel
theorem dX5_cut_47 : decode cX5_cut 47 = .ok (.l2i, 1) := by decide +kernel
theorem dX5_cut_48 : decode cX5_cut 48 = .ok (.i2l, 1) := by decide +kernel
theorem dX5_cut_49 : decode cX5_cut 49 = .ok (.lreturn, 1) := by decide +kernel
theorem dX5_cut_50 : decode cX5_cut 50 = .ok (.lload_n 1, 1) := by decide +kernel
theorem dX5_cut_51 : decode cX5_cut 51 = .ok (.lreturn, 1) := by decide +kernel
theorem dX5_cut_52 : decode cX5_cut 52 = .ok (.lload_n 1, 1) := by decide +kernel
theorem dX5_cut_53 : decode cX5_cut 53 = .ok (.lconst 0, 1) := by decide +kernel
theorem dX5_cut_54 : decode cX5_cut 54 = .ok (.lcmp, 1) := by decide +kernel
theorem dX5_cut_55 : decode cX5_cut 55 = .ok (.ifCond .eq 7, 3) := by decide +kernel
theorem dX5_cut_58 : decode cX5_cut 58 = .ok (.lconst 1, 1) := by decide +kernel
theorem dX5_cut_59 : decode cX5_cut 59 = .ok (.goto 4, 3) := by decide +kernel
theorem dX5_cut_62 : decode cX5_cut 62 = .ok (.lconst 0, 1) := by decide +kernel
theorem dX5_cut_63 : decode cX5_cut 63 = .ok (.lreturn, 1) := by decide +kernel
theorem dX6_init_0 : decode cX6_init 0 = .ok (.aload_n 0, 1) := by decide +kernel
theorem dX6_init_1 : decode cX6_init 1 = .ok (.invokespecial 3, 3) := by decide +kernel
theorem dX6_init_4 : decode cX6_init 4 = .ok (.aload_n 0, 1) := by decide +kernel
theorem dX6_init_5 : decode cX6_init 5 = .ok (.bipush 100, 2) := by decide +kernel
theorem dX6_init_7 : decode cX6_init 7 = .ok (.newarray .byte, 2) := by decide +kernel
theorem dX6_init_9 : decode cX6_init 9 = .ok (.putfield 11, 3) := by decide +kernel
theorem dX6_init_12 : decode cX6_init 12 = .ok (.aload_n 0, 1) := by decide +kernel
theorem dX6_init_13 : decode cX6_init 13 = .ok (.iconst 0, 1) := by decide +kernel
theorem dX6_init_14 : decode cX6_init 14 = .ok (.putfield 15, 3) := by decide +kernel
theorem dX6_init_17 : decode cX6_init 17 = .ok (.return_, 1) := by decide +kernel
theorem dX6_append_0 : decode cX6_append 0 = .ok (.aload_n 0, 1) := by decide +kernel
theorem dX6_append_1 : decode cX6_append 1 = .ok (.getfield 15, 3) := by decide +kernel
theorem dX6_append_4 : decode cX6_append 4 = .ok (.bipush 100, 2) := by decide +kernel
theorem dX6_append_6 : decode cX6_append 6 = .ok (.if_icmp .lt 6, 3) := by decide +kernel
theorem dX6_append_9 : decode cX6_append 9 = .ok (.bipush (-4), 2) := by decide +kernel
theorem dX6_append_11 : decode cX6_append 11 = .ok (.ireturn, 1) := by decide +kernel
theorem dX6_append_12 : decode cX6_append 12 = .ok (.aload_n 0, 1) := by decide +kernel
theorem dX6_append_13 : decode cX6_append 13 = .ok (.getfield 11, 3) := by decide +kernel
theorem dX6_append_16 : decode cX6_append 16 = .ok (.aload_n 0, 1) := by decide +kernel
theorem dX6_append_17 : decode cX6_append 17 = .ok (.getfield 15, 3) := by decide +kernel
theorem dX6_append_20 : decode cX6_append 20 = .ok (.iload_n 1, 1) := by decide +kernel
theorem dX6_append_21 : decode cX6_append 21 = .ok (.i2b, 1) := by decide +kernel
theorem dX6_append_22 : decode cX6_append 22 = .ok (.bastore, 1) := by decide +kernel
theorem dX6_append_23 : decode cX6_append 23 = .ok (.aload_n 0, 1) := by decide +kernel
theorem dX6_append_24 : decode cX6_append 24 = .ok (.dup, 1) := by decide +kernel
theorem dX6_append_25 : decode cX6_append 25 = .ok (.getfield 15, 3) := by decide +kernel
theorem dX6_append_28 : decode cX6_append 28 = .ok (.iconst 1, 1) := by decide +kernel
theorem dX6_append_29 : decode cX6_append 29 = .ok (.iadd, 1) := by decide +kernel
theorem dX6_append_30 : decode cX6_append 30 = .ok (.putfield 15, 3) := by decide +kernel
theorem dX6_append_33 : decode cX6_append 33 = .ok (.aload_n 0, 1) := by decide +kernel
theorem dX6_append_34 : decode cX6_append 34 = .ok (.getfield 15, 3) := by decide +kernel
theorem dX6_append_37 : decode cX6_append 37 = .ok (.ireturn, 1) := by decide +kernel
theorem dX6_signAt_0 : decode cX6_signAt 0 = .ok (.iload_n 1, 1) := by decide +kernel
theorem dX6_signAt_1 : decode cX6_signAt 1 = .ok (.ifCond .lt 26, 3) := by decide +kernel
theorem dX6_signAt_4 : decode cX6_signAt 4 = .ok (.iload_n 1, 1) := by decide +kernel
theorem dX6_signAt_5 : decode cX6_signAt 5 = .ok (.aload_n 0, 1) := by decide +kernel
theorem dX6_signAt_6 : decode cX6_signAt 6 = .ok (.getfield 15, 3) := by decide +kernel
theorem dX6_signAt_9 : decode cX6_signAt 9 = .ok (.if_icmp .ge 18, 3) := by decide +kernel
theorem dX6_signAt_12 : decode cX6_signAt 12 = .ok (.iload_n 1, 1) := by decide +kernel
theorem dX6_signAt_13 : decode cX6_signAt 13 = .ok (.bipush 100, 2) := by decide +kernel
theorem dX6_signAt_15 : decode cX6_signAt 15 = .ok (.if_icmp .ge 12, 3) := by decide +kernel
theorem dX6_signAt_18 : decode cX6_signAt 18 = .ok (.aload_n 0, 1) := by decide +kernel
theorem dX6_signAt_19 : decode cX6_signAt 19 = .ok (.getfield 11, 3) := by decide +kernel
theorem dX6_signAt_22 : decode cX6_signAt 22 = .ok (.iload_n 1, 1) := by decide +kernel
theorem dX6_signAt_23 : decode cX6_signAt 23 = .ok (.baload, 1) := by decide +kernel
theorem dX6_signAt_24 : decode cX6_signAt 24 = .ok (.goto 4, 3) := by decide +kernel
theorem dX6_signAt_27 : decode cX6_signAt 27 = .ok (.iconst (-1), 1) := by decide +kernel
theorem dX6_signAt_28 : decode cX6_signAt 28 = .ok (.ireturn, 1) := by decide +kernel
theorem dX6_mostDigits_0 : decode cX6_mostDigits 0 = .ok (.iload_n 0, 1) := by decide +kernel
theorem dX6_mostDigits_1 : decode cX6_mostDigits 1 = .ok (.lookupswitch 82 #[(43, 75), (45, 75), (102, 80), (105, 80), (107, 80), (109, 78), (111, 80), (117, 80)], 75) := by decide +kernel
theorem dX6_mostDigits_76 : decode cX6_mostDigits 76 = .ok (.bipush 8, 2) := by decide +kernel
theorem dX6_mostDigits_78 : decode cX6_mostDigits 78 = .ok (.ireturn, 1) := by decide +kernel
theorem dX6_mostDigits_79 : decode cX6_mostDigits 79 = .ok (.iconst 2, 1) := by decide +kernel
theorem dX6_mostDigits_80 : decode cX6_mostDigits 80 = .ok (.ireturn, 1) := by decide +kernel
theorem dX6_mostDigits_81 : decode cX6_mostDigits 81 = .ok (.iconst 0, 1) := by decide +kernel
theorem dX6_mostDigits_82 : decode cX6_mostDigits 82 = .ok (.ireturn, 1) := by decide +kernel
theorem dX6_mostDigits_83 : decode cX6_mostDigits 83 = .ok (.iconst (-1), 1) := by decide +kernel
theorem dX6_mostDigits_84 : decode cX6_mostDigits 84 = .ok (.ireturn, 1) := by decide +kernel
theorem dX6_digitsFrom_0 : decode cX6_digitsFrom 0 = .ok (.iconst 0, 1) := by decide +kernel
theorem dX6_digitsFrom_1 : decode cX6_digitsFrom 1 = .ok (.istore_n 3, 1) := by decide +kernel
theorem dX6_digitsFrom_2 : decode cX6_digitsFrom 2 = .ok (.iload_n 3, 1) := by decide +kernel
theorem dX6_digitsFrom_3 : decode cX6_digitsFrom 3 = .ok (.iload_n 2, 1) := by decide +kernel
theorem dX6_digitsFrom_4 : decode cX6_digitsFrom 4 = .ok (.if_icmp .ge 33, 3) := by decide +kernel
theorem dX6_digitsFrom_7 : decode cX6_digitsFrom 7 = .ok (.aload_n 0, 1) := by decide +kernel
theorem dX6_digitsFrom_8 : decode cX6_digitsFrom 8 = .ok (.iload_n 1, 1) := by decide +kernel
theorem dX6_digitsFrom_9 : decode cX6_digitsFrom 9 = .ok (.iload_n 3, 1) := by decide +kernel
theorem dX6_digitsFrom_10 : decode cX6_digitsFrom 10 = .ok (.iadd, 1) := by decide +kernel
theorem dX6_digitsFrom_11 : decode cX6_digitsFrom 11 = .ok (.invokevirtual 19, 3) := by decide +kernel
theorem dX6_digitsFrom_14 : decode cX6_digitsFrom 14 = .ok (.bipush 48, 2) := by decide +kernel
theorem dX6_digitsFrom_16 : decode cX6_digitsFrom 16 = .ok (.if_icmp .lt 21, 3) := by decide +kernel
theorem dX6_digitsFrom_19 : decode cX6_digitsFrom 19 = .ok (.aload_n 0, 1) := by decide +kernel
theorem dX6_digitsFrom_20 : decode cX6_digitsFrom 20 = .ok (.iload_n 1, 1) := by decide +kernel
theorem dX6_digitsFrom_21 : decode cX6_digitsFrom 21 = .ok (.iload_n 3, 1) := by decide +kernel
theorem dX6_digitsFrom_22 : decode cX6_digitsFrom 22 = .ok (.iadd, 1) := by decide +kernel
theorem dX6_digitsFrom_23 : decode cX6_digitsFrom 23 = .ok (.invokevirtual 19, 3) := by decide +kernel
theorem dX6_digitsFrom_26 : decode cX6_digitsFrom 26 = .ok (.bipush 57, 2) := by decide +kernel
theorem dX6_digitsFrom_28 : decode cX6_digitsFrom 28 = .ok (.if_icmp .gt 9, 3) := by decide +kernel
theorem dX6_digitsFrom_31 : decode cX6_digitsFrom 31 = .ok (.iinc 3 1, 3) := by decide +kernel
theorem dX6_digitsFrom_34 : decode cX6_digitsFrom 34 = .ok (.goto (-32), 3) := by decide +kernel
theorem dX6_digitsFrom_37 : decode cX6_digitsFrom 37 = .ok (.iload_n 3, 1) := by decide +kernel
theorem dX6_digitsFrom_38 : decode cX6_digitsFrom 38 = .ok (.ireturn, 1) := by decide +kernel
theorem dX6_firstFault_0 : decode cX6_firstFault 0 = .ok (.iconst 0, 1) := by decide +kernel
theorem dX6_firstFault_1 : decode cX6_firstFault 1 = .ok (.istore_n 1, 1) := by decide +kernel
theorem dX6_firstFault_2 : decode cX6_firstFault 2 = .ok (.iconst 1, 1) := by decide +kernel
theorem dX6_firstFault_3 : decode cX6_firstFault 3 = .ok (.istore_n 2, 1) := by decide +kernel
theorem dX6_firstFault_4 : decode cX6_firstFault 4 = .ok (.iload_n 2, 1) := by decide +kernel
theorem dX6_firstFault_5 : decode cX6_firstFault 5 = .ok (.bipush 12, 2) := by decide +kernel
theorem dX6_firstFault_7 : decode cX6_firstFault 7 = .ok (.if_icmp .gt 78, 3) := by decide +kernel
theorem dX6_firstFault_10 : decode cX6_firstFault 10 = .ok (.aload_n 0, 1) := by decide +kernel
theorem dX6_firstFault_11 : decode cX6_firstFault 11 = .ok (.iload_n 1, 1) := by decide +kernel
theorem dX6_firstFault_12 : decode cX6_firstFault 12 = .ok (.invokevirtual 19, 3) := by decide +kernel
theorem dX6_firstFault_15 : decode cX6_firstFault 15 = .ok (.invokestatic 23, 3) := by decide +kernel
theorem dX6_firstFault_18 : decode cX6_firstFault 18 = .ok (.istore_n 3, 1) := by decide +kernel
theorem dX6_firstFault_19 : decode cX6_firstFault 19 = .ok (.iload_n 3, 1) := by decide +kernel
theorem dX6_firstFault_20 : decode cX6_firstFault 20 = .ok (.iconst (-1), 1) := by decide +kernel
theorem dX6_firstFault_21 : decode cX6_firstFault 21 = .ok (.if_icmp .ne 5, 3) := by decide +kernel
theorem dX6_firstFault_24 : decode cX6_firstFault 24 = .ok (.iload_n 1, 1) := by decide +kernel
theorem dX6_firstFault_25 : decode cX6_firstFault 25 = .ok (.ireturn, 1) := by decide +kernel
theorem dX6_firstFault_26 : decode cX6_firstFault 26 = .ok (.aload_n 0, 1) := by decide +kernel
theorem dX6_firstFault_27 : decode cX6_firstFault 27 = .ok (.iload_n 1, 1) := by decide +kernel
theorem dX6_firstFault_28 : decode cX6_firstFault 28 = .ok (.iconst 1, 1) := by decide +kernel
theorem dX6_firstFault_29 : decode cX6_firstFault 29 = .ok (.iadd, 1) := by decide +kernel
theorem dX6_firstFault_30 : decode cX6_firstFault 30 = .ok (.iload_n 3, 1) := by decide +kernel
theorem dX6_firstFault_31 : decode cX6_firstFault 31 = .ok (.invokevirtual 26, 3) := by decide +kernel
theorem dX6_firstFault_34 : decode cX6_firstFault 34 = .ok (.istore 4, 2) := by decide +kernel
theorem dX6_firstFault_36 : decode cX6_firstFault 36 = .ok (.iload_n 1, 1) := by decide +kernel
theorem dX6_firstFault_37 : decode cX6_firstFault 37 = .ok (.iconst 1, 1) := by decide +kernel
theorem dX6_firstFault_38 : decode cX6_firstFault 38 = .ok (.iload 4, 2) := by decide +kernel
theorem dX6_firstFault_40 : decode cX6_firstFault 40 = .ok (.iadd, 1) := by decide +kernel
theorem dX6_firstFault_41 : decode cX6_firstFault 41 = .ok (.iadd, 1) := by decide +kernel
theorem dX6_firstFault_42 : decode cX6_firstFault 42 = .ok (.istore_n 1, 1) := by decide +kernel
theorem dX6_firstFault_43 : decode cX6_firstFault 43 = .ok (.iload_n 3, 1) := by decide +kernel
theorem dX6_firstFault_44 : decode cX6_firstFault 44 = .ok (.ifCond .le 10, 3) := by decide +kernel
theorem dX6_firstFault_47 : decode cX6_firstFault 47 = .ok (.iload 4, 2) := by decide +kernel
theorem dX6_firstFault_49 : decode cX6_firstFault 49 = .ok (.ifCond .ne 5, 3) := by decide +kernel
theorem dX6_firstFault_52 : decode cX6_firstFault 52 = .ok (.iload_n 1, 1) := by decide +kernel
theorem dX6_firstFault_53 : decode cX6_firstFault 53 = .ok (.ireturn, 1) := by decide +kernel
theorem dX6_firstFault_54 : decode cX6_firstFault 54 = .ok (.iload_n 1, 1) := by decide +kernel
theorem dX6_firstFault_55 : decode cX6_firstFault 55 = .ok (.aload_n 0, 1) := by decide +kernel
theorem dX6_firstFault_56 : decode cX6_firstFault 56 = .ok (.getfield 15, 3) := by decide +kernel
theorem dX6_firstFault_59 : decode cX6_firstFault 59 = .ok (.if_icmp .lt 5, 3) := by decide +kernel
theorem dX6_firstFault_62 : decode cX6_firstFault 62 = .ok (.iconst (-1), 1) := by decide +kernel
theorem dX6_firstFault_63 : decode cX6_firstFault 63 = .ok (.ireturn, 1) := by decide +kernel
theorem dX6_firstFault_64 : decode cX6_firstFault 64 = .ok (.aload_n 0, 1) := by decide +kernel
theorem dX6_firstFault_65 : decode cX6_firstFault 65 = .ok (.iload_n 1, 1) := by decide +kernel
theorem dX6_firstFault_66 : decode cX6_firstFault 66 = .ok (.invokevirtual 19, 3) := by decide +kernel
theorem dX6_firstFault_69 : decode cX6_firstFault 69 = .ok (.bipush 59, 2) := by decide +kernel
theorem dX6_firstFault_71 : decode cX6_firstFault 71 = .ok (.if_icmp .eq 5, 3) := by decide +kernel
theorem dX6_firstFault_74 : decode cX6_firstFault 74 = .ok (.iload_n 1, 1) := by decide +kernel
theorem dX6_firstFault_75 : decode cX6_firstFault 75 = .ok (.ireturn, 1) := by decide +kernel
theorem dX6_firstFault_76 : decode cX6_firstFault 76 = .ok (.iinc 1 1, 3) := by decide +kernel
theorem dX6_firstFault_79 : decode cX6_firstFault 79 = .ok (.iinc 2 1, 3) := by decide +kernel
theorem dX6_firstFault_82 : decode cX6_firstFault 82 = .ok (.goto (-78), 3) := by decide +kernel
theorem dX6_firstFault_85 : decode cX6_firstFault 85 = .ok (.iload_n 1, 1) := by decide +kernel
theorem dX6_firstFault_86 : decode cX6_firstFault 86 = .ok (.iconst 1, 1) := by decide +kernel
theorem dX6_firstFault_87 : decode cX6_firstFault 87 = .ok (.isub, 1) := by decide +kernel
theorem dX6_firstFault_88 : decode cX6_firstFault 88 = .ok (.ireturn, 1) := by decide +kernel
theorem dX6_perform_0 : decode cX6_perform 0 = .ok (.iconst 0, 1) := by decide +kernel
theorem dX6_perform_1 : decode cX6_perform 1 = .ok (.istore_n 2, 1) := by decide +kernel
theorem dX6_perform_2 : decode cX6_perform 2 = .ok (.iconst 0, 1) := by decide +kernel
theorem dX6_perform_3 : decode cX6_perform 3 = .ok (.istore_n 3, 1) := by decide +kernel
theorem dX6_perform_4 : decode cX6_perform 4 = .ok (.iconst 0, 1) := by decide +kernel
theorem dX6_perform_5 : decode cX6_perform 5 = .ok (.istore 4, 2) := by decide +kernel
theorem dX6_perform_7 : decode cX6_perform 7 = .ok (.iload 4, 2) := by decide +kernel
theorem dX6_perform_9 : decode cX6_perform 9 = .ok (.bipush 12, 2) := by decide +kernel
theorem dX6_perform_11 : decode cX6_perform 11 = .ok (.if_icmp .ge 63, 3) := by decide +kernel
theorem dX6_perform_14 : decode cX6_perform 14 = .ok (.iload_n 3, 1) := by decide +kernel
theorem dX6_perform_15 : decode cX6_perform 15 = .ok (.aload_n 0, 1) := by decide +kernel
theorem dX6_perform_16 : decode cX6_perform 16 = .ok (.getfield 15, 3) := by decide +kernel
theorem dX6_perform_19 : decode cX6_perform 19 = .ok (.if_icmp .ge 55, 3) := by decide +kernel
theorem dX6_perform_22 : decode cX6_perform 22 = .ok (.aload_n 0, 1) := by decide +kernel
theorem dX6_perform_23 : decode cX6_perform 23 = .ok (.iload_n 3, 1) := by decide +kernel
theorem dX6_perform_24 : decode cX6_perform 24 = .ok (.invokevirtual 19, 3) := by decide +kernel
theorem dX6_perform_27 : decode cX6_perform 27 = .ok (.istore 5, 2) := by decide +kernel
theorem dX6_perform_29 : decode cX6_perform 29 = .ok (.aload_n 0, 1) := by decide +kernel
theorem dX6_perform_30 : decode cX6_perform 30 = .ok (.iload_n 3, 1) := by decide +kernel
theorem dX6_perform_31 : decode cX6_perform 31 = .ok (.iconst 1, 1) := by decide +kernel
theorem dX6_perform_32 : decode cX6_perform 32 = .ok (.iadd, 1) := by decide +kernel
theorem dX6_perform_33 : decode cX6_perform 33 = .ok (.iload 5, 2) := by decide +kernel
theorem dX6_perform_35 : decode cX6_perform 35 = .ok (.invokestatic 23, 3) := by decide +kernel
theorem dX6_perform_38 : decode cX6_perform 38 = .ok (.invokevirtual 26, 3) := by decide +kernel
theorem dX6_perform_41 : decode cX6_perform 41 = .ok (.istore 6, 2) := by decide +kernel
theorem dX6_perform_43 : decode cX6_perform 43 = .ok (.aload_n 0, 1) := by decide +kernel
theorem dX6_perform_44 : decode cX6_perform 44 = .ok (.aload_n 1, 1) := by decide +kernel
theorem dX6_perform_45 : decode cX6_perform 45 = .ok (.iload 5, 2) := by decide +kernel
theorem dX6_perform_47 : decode cX6_perform 47 = .ok (.iload_n 3, 1) := by decide +kernel
theorem dX6_perform_48 : decode cX6_perform 48 = .ok (.iconst 1, 1) := by decide +kernel
theorem dX6_perform_49 : decode cX6_perform 49 = .ok (.iadd, 1) := by decide +kernel
theorem dX6_perform_50 : decode cX6_perform 50 = .ok (.iload 6, 2) := by decide +kernel
theorem dX6_perform_52 : decode cX6_perform 52 = .ok (.invokevirtual 30, 3) := by decide +kernel
theorem dX6_perform_55 : decode cX6_perform 55 = .ok (.ifCond .eq 6, 3) := by decide +kernel
theorem dX6_perform_58 : decode cX6_perform 58 = .ok (.iinc 2 1, 3) := by decide +kernel
theorem dX6_perform_61 : decode cX6_perform 61 = .ok (.iload_n 3, 1) := by decide +kernel
theorem dX6_perform_62 : decode cX6_perform 62 = .ok (.iload 6, 2) := by decide +kernel
theorem dX6_perform_64 : decode cX6_perform 64 = .ok (.iconst 2, 1) := by decide +kernel
theorem dX6_perform_65 : decode cX6_perform 65 = .ok (.iadd, 1) := by decide +kernel
theorem dX6_perform_66 : decode cX6_perform 66 = .ok (.iadd, 1) := by decide +kernel
theorem dX6_perform_67 : decode cX6_perform 67 = .ok (.istore_n 3, 1) := by decide +kernel
theorem dX6_perform_68 : decode cX6_perform 68 = .ok (.iinc 4 1, 3) := by decide +kernel
theorem dX6_perform_71 : decode cX6_perform 71 = .ok (.goto (-64), 3) := by decide +kernel
theorem dX6_perform_74 : decode cX6_perform 74 = .ok (.iload_n 2, 1) := by decide +kernel
theorem dX6_perform_75 : decode cX6_perform 75 = .ok (.ireturn, 1) := by decide +kernel
theorem dX6_performClause_0 : decode cX6_performClause 0 = .ok (.iload_n 2, 1) := by decide +kernel
theorem dX6_performClause_1 : decode cX6_performClause 1 = .ok (.lookupswitch 148 #[(43, 75), (45, 75), (102, 110), (105, 141), (107, 124), (109, 98), (111, 117), (117, 134)], 75) := by decide +kernel
theorem dX6_performClause_76 : decode cX6_performClause 76 = .ok (.aload_n 1, 1) := by decide +kernel
theorem dX6_performClause_77 : decode cX6_performClause 77 = .ok (.iload_n 2, 1) := by decide +kernel
theorem dX6_performClause_78 : decode cX6_performClause 78 = .ok (.bipush 43, 2) := by decide +kernel
theorem dX6_performClause_80 : decode cX6_performClause 80 = .ok (.if_icmp .ne 7, 3) := by decide +kernel
theorem dX6_performClause_83 : decode cX6_performClause 83 = .ok (.iconst 1, 1) := by decide +kernel
theorem dX6_performClause_84 : decode cX6_performClause 84 = .ok (.goto 4, 3) := by decide +kernel
theorem dX6_performClause_87 : decode cX6_performClause 87 = .ok (.iconst 0, 1) := by decide +kernel
theorem dX6_performClause_88 : decode cX6_performClause 88 = .ok (.aload_n 0, 1) := by decide +kernel
theorem dX6_performClause_89 : decode cX6_performClause 89 = .ok (.iload_n 3, 1) := by decide +kernel
theorem dX6_performClause_90 : decode cX6_performClause 90 = .ok (.iload 4, 2) := by decide +kernel
theorem dX6_performClause_92 : decode cX6_performClause 92 = .ok (.invokevirtual 34, 3) := by decide +kernel
theorem dX6_performClause_95 : decode cX6_performClause 95 = .ok (.invokestatic 37, 3) := by decide +kernel
theorem dX6_performClause_98 : decode cX6_performClause 98 = .ok (.ireturn, 1) := by decide +kernel
theorem dX6_performClause_99 : decode cX6_performClause 99 = .ok (.aload_n 1, 1) := by decide +kernel
theorem dX6_performClause_100 : decode cX6_performClause 100 = .ok (.aload_n 0, 1) := by decide +kernel
theorem dX6_performClause_101 : decode cX6_performClause 101 = .ok (.iload_n 3, 1) := by decide +kernel
theorem dX6_performClause_102 : decode cX6_performClause 102 = .ok (.iload 4, 2) := by decide +kernel
theorem dX6_performClause_104 : decode cX6_performClause 104 = .ok (.invokevirtual 41, 3) := by decide +kernel
theorem dX6_performClause_107 : decode cX6_performClause 107 = .ok (.invokestatic 44, 3) := by decide +kernel
theorem dX6_performClause_110 : decode cX6_performClause 110 = .ok (.ireturn, 1) := by decide +kernel
theorem dX6_performClause_111 : decode cX6_performClause 111 = .ok (.aload_n 1, 1) := by decide +kernel
theorem dX6_performClause_112 : decode cX6_performClause 112 = .ok (.iconst 0, 1) := by decide +kernel
theorem dX6_performClause_113 : decode cX6_performClause 113 = .ok (.invokevirtual 50, 3) := by decide +kernel
theorem dX6_performClause_116 : decode cX6_performClause 116 = .ok (.iconst 1, 1) := by decide +kernel
theorem dX6_performClause_117 : decode cX6_performClause 117 = .ok (.ireturn, 1) := by decide +kernel
theorem dX6_performClause_118 : decode cX6_performClause 118 = .ok (.aload_n 1, 1) := by decide +kernel
theorem dX6_performClause_119 : decode cX6_performClause 119 = .ok (.iconst 1, 1) := by decide +kernel
theorem dX6_performClause_120 : decode cX6_performClause 120 = .ok (.invokevirtual 50, 3) := by decide +kernel
theorem dX6_performClause_123 : decode cX6_performClause 123 = .ok (.iconst 1, 1) := by decide +kernel
theorem dX6_performClause_124 : decode cX6_performClause 124 = .ok (.ireturn, 1) := by decide +kernel
theorem dX6_performClause_125 : decode cX6_performClause 125 = .ok (.aload_n 1, 1) := by decide +kernel
theorem dX6_performClause_126 : decode cX6_performClause 126 = .ok (.aload_n 1, 1) := by decide +kernel
theorem dX6_performClause_127 : decode cX6_performClause 127 = .ok (.getfield 54, 3) := by decide +kernel
theorem dX6_performClause_130 : decode cX6_performClause 130 = .ok (.putfield 57, 3) := by decide +kernel
theorem dX6_performClause_133 : decode cX6_performClause 133 = .ok (.iconst 1, 1) := by decide +kernel
theorem dX6_performClause_134 : decode cX6_performClause 134 = .ok (.ireturn, 1) := by decide +kernel
theorem dX6_performClause_135 : decode cX6_performClause 135 = .ok (.aload_n 1, 1) := by decide +kernel
theorem dX6_performClause_136 : decode cX6_performClause 136 = .ok (.iconst 2, 1) := by decide +kernel
theorem dX6_performClause_137 : decode cX6_performClause 137 = .ok (.invokevirtual 50, 3) := by decide +kernel
theorem dX6_performClause_140 : decode cX6_performClause 140 = .ok (.iconst 1, 1) := by decide +kernel
theorem dX6_performClause_141 : decode cX6_performClause 141 = .ok (.ireturn, 1) := by decide +kernel
theorem dX6_performClause_142 : decode cX6_performClause 142 = .ok (.aload_n 1, 1) := by decide +kernel
theorem dX6_performClause_143 : decode cX6_performClause 143 = .ok (.iconst 3, 1) := by decide +kernel
theorem dX6_performClause_144 : decode cX6_performClause 144 = .ok (.invokevirtual 50, 3) := by decide +kernel
theorem dX6_performClause_147 : decode cX6_performClause 147 = .ok (.iconst 1, 1) := by decide +kernel
theorem dX6_performClause_148 : decode cX6_performClause 148 = .ok (.ireturn, 1) := by decide +kernel
theorem dX6_performClause_149 : decode cX6_performClause 149 = .ok (.iconst 0, 1) := by decide +kernel
theorem dX6_performClause_150 : decode cX6_performClause 150 = .ok (.ireturn, 1) := by decide +kernel
theorem dX6_performCorners_0 : decode cX6_performCorners 0 = .ok (.iload_n 2, 1) := by decide +kernel
theorem dX6_performCorners_1 : decode cX6_performCorners 1 = .ok (.iconst (-1), 1) := by decide +kernel
theorem dX6_performCorners_2 : decode cX6_performCorners 2 = .ok (.if_icmp .ne 5, 3) := by decide +kernel
theorem dX6_performCorners_5 : decode cX6_performCorners 5 = .ok (.iconst 0, 1) := by decide +kernel
theorem dX6_performCorners_6 : decode cX6_performCorners 6 = .ok (.ireturn, 1) := by decide +kernel
theorem dX6_performCorners_7 : decode cX6_performCorners 7 = .ok (.aload_n 0, 1) := by decide +kernel
theorem dX6_performCorners_8 : decode cX6_performCorners 8 = .ok (.iload_n 1, 1) := by decide +kernel
theorem dX6_performCorners_9 : decode cX6_performCorners 9 = .ok (.ifCond .eq 12, 3) := by decide +kernel
theorem dX6_performCorners_12 : decode cX6_performCorners 12 = .ok (.aload_n 0, 1) := by decide +kernel
theorem dX6_performCorners_13 : decode cX6_performCorners 13 = .ok (.getfield 54, 3) := by decide +kernel
theorem dX6_performCorners_16 : decode cX6_performCorners 16 = .ok (.iload_n 2, 1) := by decide +kernel
theorem dX6_performCorners_17 : decode cX6_performCorners 17 = .ok (.ior, 1) := by decide +kernel
theorem dX6_performCorners_18 : decode cX6_performCorners 18 = .ok (.goto 11, 3) := by decide +kernel
theorem dX6_performCorners_21 : decode cX6_performCorners 21 = .ok (.aload_n 0, 1) := by decide +kernel
theorem dX6_performCorners_22 : decode cX6_performCorners 22 = .ok (.getfield 54, 3) := by decide +kernel
theorem dX6_performCorners_25 : decode cX6_performCorners 25 = .ok (.iload_n 2, 1) := by decide +kernel
theorem dX6_performCorners_26 : decode cX6_performCorners 26 = .ok (.iconst (-1), 1) := by decide +kernel
theorem dX6_performCorners_27 : decode cX6_performCorners 27 = .ok (.ixor, 1) := by decide +kernel
theorem dX6_performCorners_28 : decode cX6_performCorners 28 = .ok (.iand, 1) := by decide +kernel
theorem dX6_performCorners_29 : decode cX6_performCorners 29 = .ok (.putfield 54, 3) := by decide +kernel
theorem dX6_performCorners_32 : decode cX6_performCorners 32 = .ok (.iconst 1, 1) := by decide +kernel
theorem dX6_performCorners_33 : decode cX6_performCorners 33 = .ok (.ireturn, 1) := by decide +kernel
theorem dX6_performMove_0 : decode cX6_performMove 0 = .ok (.iload_n 1, 1) := by decide +kernel
theorem dX6_performMove_1 : decode cX6_performMove 1 = .ok (.invokestatic 60, 3) := by decide +kernel
theorem dX6_performMove_4 : decode cX6_performMove 4 = .ok (.ifCond .ne 5, 3) := by decide +kernel
theorem dX6_performMove_7 : decode cX6_performMove 7 = .ok (.iconst 0, 1) := by decide +kernel
theorem dX6_performMove_8 : decode cX6_performMove 8 = .ok (.ireturn, 1) := by decide +kernel
theorem dX6_performMove_9 : decode cX6_performMove 9 = .ok (.aload_n 0, 1) := by decide +kernel
theorem dX6_performMove_10 : decode cX6_performMove 10 = .ok (.iload_n 1, 1) := by decide +kernel
theorem dX6_performMove_11 : decode cX6_performMove 11 = .ok (.aload_n 0, 1) := by decide +kernel
theorem dX6_performMove_12 : decode cX6_performMove 12 = .ok (.getfield 54, 3) := by decide +kernel
theorem dX6_performMove_15 : decode cX6_performMove 15 = .ok (.invokestatic 64, 3) := by decide +kernel
theorem dX6_performMove_18 : decode cX6_performMove 18 = .ok (.putfield 54, 3) := by decide +kernel
theorem dX6_performMove_21 : decode cX6_performMove 21 = .ok (.iconst 1, 1) := by decide +kernel
theorem dX6_performMove_22 : decode cX6_performMove 22 = .ok (.ireturn, 1) := by decide +kernel
theorem dX6_cornersAt_0 : decode cX6_cornersAt 0 = .ok (.iconst 0, 1) := by decide +kernel
theorem dX6_cornersAt_1 : decode cX6_cornersAt 1 = .ok (.istore_n 3, 1) := by decide +kernel
theorem dX6_cornersAt_2 : decode cX6_cornersAt 2 = .ok (.iconst 0, 1) := by decide +kernel
theorem dX6_cornersAt_3 : decode cX6_cornersAt 3 = .ok (.istore 4, 2) := by decide +kernel
theorem dX6_cornersAt_5 : decode cX6_cornersAt 5 = .ok (.iload 4, 2) := by decide +kernel
theorem dX6_cornersAt_7 : decode cX6_cornersAt 7 = .ok (.iload_n 2, 1) := by decide +kernel
theorem dX6_cornersAt_8 : decode cX6_cornersAt 8 = .ok (.if_icmp .ge 39, 3) := by decide +kernel
theorem dX6_cornersAt_11 : decode cX6_cornersAt 11 = .ok (.aload_n 0, 1) := by decide +kernel
theorem dX6_cornersAt_12 : decode cX6_cornersAt 12 = .ok (.iload_n 1, 1) := by decide +kernel
theorem dX6_cornersAt_13 : decode cX6_cornersAt 13 = .ok (.iload 4, 2) := by decide +kernel
theorem dX6_cornersAt_15 : decode cX6_cornersAt 15 = .ok (.iadd, 1) := by decide +kernel
theorem dX6_cornersAt_16 : decode cX6_cornersAt 16 = .ok (.invokevirtual 19, 3) := by decide +kernel
theorem dX6_cornersAt_19 : decode cX6_cornersAt 19 = .ok (.bipush 48, 2) := by decide +kernel
theorem dX6_cornersAt_21 : decode cX6_cornersAt 21 = .ok (.isub, 1) := by decide +kernel
theorem dX6_cornersAt_22 : decode cX6_cornersAt 22 = .ok (.istore 5, 2) := by decide +kernel
theorem dX6_cornersAt_24 : decode cX6_cornersAt 24 = .ok (.iload 5, 2) := by decide +kernel
theorem dX6_cornersAt_26 : decode cX6_cornersAt 26 = .ok (.invokestatic 69, 3) := by decide +kernel
theorem dX6_cornersAt_29 : decode cX6_cornersAt 29 = .ok (.ifCond .ne 5, 3) := by decide +kernel
theorem dX6_cornersAt_32 : decode cX6_cornersAt 32 = .ok (.iconst (-1), 1) := by decide +kernel
theorem dX6_cornersAt_33 : decode cX6_cornersAt 33 = .ok (.ireturn, 1) := by decide +kernel
theorem dX6_cornersAt_34 : decode cX6_cornersAt 34 = .ok (.iload_n 3, 1) := by decide +kernel
theorem dX6_cornersAt_35 : decode cX6_cornersAt 35 = .ok (.iconst 1, 1) := by decide +kernel
theorem dX6_cornersAt_36 : decode cX6_cornersAt 36 = .ok (.iload 5, 2) := by decide +kernel
theorem dX6_cornersAt_38 : decode cX6_cornersAt 38 = .ok (.ishl, 1) := by decide +kernel
theorem dX6_cornersAt_39 : decode cX6_cornersAt 39 = .ok (.ior, 1) := by decide +kernel
theorem dX6_cornersAt_40 : decode cX6_cornersAt 40 = .ok (.istore_n 3, 1) := by decide +kernel
theorem dX6_cornersAt_41 : decode cX6_cornersAt 41 = .ok (.iinc 4 1, 3) := by decide +kernel
theorem dX6_cornersAt_44 : decode cX6_cornersAt 44 = .ok (.goto (-39), 3) := by decide +kernel
theorem dX6_cornersAt_47 : decode cX6_cornersAt 47 = .ok (.iload_n 3, 1) := by decide +kernel
theorem dX6_cornersAt_48 : decode cX6_cornersAt 48 = .ok (.ireturn, 1) := by decide +kernel
theorem dX6_numberAt_0 : decode cX6_numberAt 0 = .ok (.iconst 0, 1) := by decide +kernel
theorem dX6_numberAt_1 : decode cX6_numberAt 1 = .ok (.istore_n 3, 1) := by decide +kernel
theorem dX6_numberAt_2 : decode cX6_numberAt 2 = .ok (.iconst 0, 1) := by decide +kernel
theorem dX6_numberAt_3 : decode cX6_numberAt 3 = .ok (.istore 4, 2) := by decide +kernel
theorem dX6_numberAt_5 : decode cX6_numberAt 5 = .ok (.iload 4, 2) := by decide +kernel
theorem dX6_numberAt_7 : decode cX6_numberAt 7 = .ok (.iload_n 2, 1) := by decide +kernel
theorem dX6_numberAt_8 : decode cX6_numberAt 8 = .ok (.if_icmp .ge 26, 3) := by decide +kernel
theorem dX6_numberAt_11 : decode cX6_numberAt 11 = .ok (.iload_n 3, 1) := by decide +kernel
theorem dX6_numberAt_12 : decode cX6_numberAt 12 = .ok (.bipush 10, 2) := by decide +kernel
theorem dX6_numberAt_14 : decode cX6_numberAt 14 = .ok (.imul, 1) := by decide +kernel
theorem dX6_numberAt_15 : decode cX6_numberAt 15 = .ok (.aload_n 0, 1) := by decide +kernel
theorem dX6_numberAt_16 : decode cX6_numberAt 16 = .ok (.iload_n 1, 1) := by decide +kernel
theorem dX6_numberAt_17 : decode cX6_numberAt 17 = .ok (.iload 4, 2) := by decide +kernel
theorem dX6_numberAt_19 : decode cX6_numberAt 19 = .ok (.iadd, 1) := by decide +kernel
theorem dX6_numberAt_20 : decode cX6_numberAt 20 = .ok (.invokevirtual 19, 3) := by decide +kernel
theorem dX6_numberAt_23 : decode cX6_numberAt 23 = .ok (.iadd, 1) := by decide +kernel
theorem dX6_numberAt_24 : decode cX6_numberAt 24 = .ok (.bipush 48, 2) := by decide +kernel
theorem dX6_numberAt_26 : decode cX6_numberAt 26 = .ok (.isub, 1) := by decide +kernel
theorem dX6_numberAt_27 : decode cX6_numberAt 27 = .ok (.istore_n 3, 1) := by decide +kernel
theorem dX6_numberAt_28 : decode cX6_numberAt 28 = .ok (.iinc 4 1, 3) := by decide +kernel
theorem dX6_numberAt_31 : decode cX6_numberAt 31 = .ok (.goto (-26), 3) := by decide +kernel
theorem dX6_numberAt_34 : decode cX6_numberAt 34 = .ok (.iload_n 3, 1) := by decide +kernel
theorem dX6_numberAt_35 : decode cX6_numberAt 35 = .ok (.ireturn, 1) := by decide +kernel
theorem dJxe99ae_isNaN_b9ae7_0 : decode cJxe99ae_isNaN_b9ae7 0 = .ok (.dload_n 0, 1) := by decide +kernel
theorem dJxe99ae_isNaN_b9ae7_1 : decode cJxe99ae_isNaN_b9ae7 1 = .ok (.dload_n 0, 1) := by decide +kernel
theorem dJxe99ae_isNaN_b9ae7_2 : decode cJxe99ae_isNaN_b9ae7 2 = .ok (.dcmp .l, 1) := by decide +kernel
theorem dJxe99ae_isNaN_b9ae7_3 : decode cJxe99ae_isNaN_b9ae7 3 = .ok (.ifCond .eq 7, 3) := by decide +kernel
theorem dJxe99ae_isNaN_b9ae7_6 : decode cJxe99ae_isNaN_b9ae7 6 = .ok (.iconst 1, 1) := by decide +kernel
theorem dJxe99ae_isNaN_b9ae7_7 : decode cJxe99ae_isNaN_b9ae7 7 = .ok (.goto 4, 3) := by decide +kernel
theorem dJxe99ae_isNaN_b9ae7_10 : decode cJxe99ae_isNaN_b9ae7 10 = .ok (.iconst 0, 1) := by decide +kernel
theorem dJxe99ae_isNaN_b9ae7_11 : decode cJxe99ae_isNaN_b9ae7 11 = .ok (.ireturn, 1) := by decide +kernel
theorem dJxe99ae_doubleToLongBits_ccdee_0 : decode cJxe99ae_doubleToLongBits_ccdee 0 = .ok (.dload_n 0, 1) := by decide +kernel
theorem dJxe99ae_doubleToLongBits_ccdee_1 : decode cJxe99ae_doubleToLongBits_ccdee 1 = .ok (.invokestatic 122, 3) := by decide +kernel
theorem dJxe99ae_doubleToLongBits_ccdee_4 : decode cJxe99ae_doubleToLongBits_ccdee 4 = .ok (.ifCond .ne 8, 3) := by decide +kernel
theorem dJxe99ae_doubleToLongBits_ccdee_7 : decode cJxe99ae_doubleToLongBits_ccdee 7 = .ok (.dload_n 0, 1) := by decide +kernel
theorem dJxe99ae_doubleToLongBits_ccdee_8 : decode cJxe99ae_doubleToLongBits_ccdee 8 = .ok (.invokestatic 134, 3) := by decide +kernel
theorem dJxe99ae_doubleToLongBits_ccdee_11 : decode cJxe99ae_doubleToLongBits_ccdee 11 = .ok (.lreturn, 1) := by decide +kernel
theorem dJxe99ae_doubleToLongBits_ccdee_12 : decode cJxe99ae_doubleToLongBits_ccdee 12 = .ok (.ldc2_w 137, 3) := by decide +kernel
theorem dJxe99ae_doubleToLongBits_ccdee_15 : decode cJxe99ae_doubleToLongBits_ccdee 15 = .ok (.lreturn, 1) := by decide +kernel
theorem dJxf58ca_isNaN_12338_0 : decode cJxf58ca_isNaN_12338 0 = .ok (.fload_n 0, 1) := by decide +kernel
theorem dJxf58ca_isNaN_12338_1 : decode cJxf58ca_isNaN_12338 1 = .ok (.fload_n 0, 1) := by decide +kernel
theorem dJxf58ca_isNaN_12338_2 : decode cJxf58ca_isNaN_12338 2 = .ok (.fcmp .l, 1) := by decide +kernel
theorem dJxf58ca_isNaN_12338_3 : decode cJxf58ca_isNaN_12338 3 = .ok (.ifCond .eq 7, 3) := by decide +kernel
theorem dJxf58ca_isNaN_12338_6 : decode cJxf58ca_isNaN_12338 6 = .ok (.iconst 1, 1) := by decide +kernel
theorem dJxf58ca_isNaN_12338_7 : decode cJxf58ca_isNaN_12338 7 = .ok (.goto 4, 3) := by decide +kernel
theorem dJxf58ca_isNaN_12338_10 : decode cJxf58ca_isNaN_12338 10 = .ok (.iconst 0, 1) := by decide +kernel
theorem dJxf58ca_isNaN_12338_11 : decode cJxf58ca_isNaN_12338 11 = .ok (.ireturn, 1) := by decide +kernel
theorem dJxf58ca_floatToIntBits_5c35a_0 : decode cJxf58ca_floatToIntBits_5c35a 0 = .ok (.fload_n 0, 1) := by decide +kernel
theorem dJxf58ca_floatToIntBits_5c35a_1 : decode cJxf58ca_floatToIntBits_5c35a 1 = .ok (.invokestatic 59, 3) := by decide +kernel
theorem dJxf58ca_floatToIntBits_5c35a_4 : decode cJxf58ca_floatToIntBits_5c35a 4 = .ok (.ifCond .ne 8, 3) := by decide +kernel
theorem dJxf58ca_floatToIntBits_5c35a_7 : decode cJxf58ca_floatToIntBits_5c35a 7 = .ok (.fload_n 0, 1) := by decide +kernel
theorem dJxf58ca_floatToIntBits_5c35a_8 : decode cJxf58ca_floatToIntBits_5c35a 8 = .ok (.invokestatic 74, 3) := by decide +kernel
theorem dJxf58ca_floatToIntBits_5c35a_11 : decode cJxf58ca_floatToIntBits_5c35a 11 = .ok (.ireturn, 1) := by decide +kernel
theorem dJxf58ca_floatToIntBits_5c35a_12 : decode cJxf58ca_floatToIntBits_5c35a 12 = .ok (.ldc 77, 2) := by decide +kernel
theorem dJxf58ca_floatToIntBits_5c35a_14 : decode cJxf58ca_floatToIntBits_5c35a 14 = .ok (.ireturn, 1) := by decide +kernel
theorem dJ6_bitCount_0f7a4_0 : decode cJ6_bitCount_0f7a4 0 = .ok (.iload_n 0, 1) := by decide +kernel
theorem dJ6_bitCount_0f7a4_1 : decode cJ6_bitCount_0f7a4 1 = .ok (.iload_n 0, 1) := by decide +kernel
theorem dJ6_bitCount_0f7a4_2 : decode cJ6_bitCount_0f7a4 2 = .ok (.iconst 1, 1) := by decide +kernel
theorem dJ6_bitCount_0f7a4_3 : decode cJ6_bitCount_0f7a4 3 = .ok (.iushr, 1) := by decide +kernel
theorem dJ6_bitCount_0f7a4_4 : decode cJ6_bitCount_0f7a4 4 = .ok (.ldc_w 265, 3) := by decide +kernel
theorem dJ6_bitCount_0f7a4_7 : decode cJ6_bitCount_0f7a4 7 = .ok (.iand, 1) := by decide +kernel
theorem dJ6_bitCount_0f7a4_8 : decode cJ6_bitCount_0f7a4 8 = .ok (.isub, 1) := by decide +kernel
theorem dJ6_bitCount_0f7a4_9 : decode cJ6_bitCount_0f7a4 9 = .ok (.istore_n 0, 1) := by decide +kernel
theorem dJ6_bitCount_0f7a4_10 : decode cJ6_bitCount_0f7a4 10 = .ok (.iload_n 0, 1) := by decide +kernel
theorem dJ6_bitCount_0f7a4_11 : decode cJ6_bitCount_0f7a4 11 = .ok (.ldc_w 266, 3) := by decide +kernel
theorem dJ6_bitCount_0f7a4_14 : decode cJ6_bitCount_0f7a4 14 = .ok (.iand, 1) := by decide +kernel
theorem dJ6_bitCount_0f7a4_15 : decode cJ6_bitCount_0f7a4 15 = .ok (.iload_n 0, 1) := by decide +kernel
theorem dJ6_bitCount_0f7a4_16 : decode cJ6_bitCount_0f7a4 16 = .ok (.iconst 2, 1) := by decide +kernel
theorem dJ6_bitCount_0f7a4_17 : decode cJ6_bitCount_0f7a4 17 = .ok (.iushr, 1) := by decide +kernel
theorem dJ6_bitCount_0f7a4_18 : decode cJ6_bitCount_0f7a4 18 = .ok (.ldc_w 266, 3) := by decide +kernel
theorem dJ6_bitCount_0f7a4_21 : decode cJ6_bitCount_0f7a4 21 = .ok (.iand, 1) := by decide +kernel
theorem dJ6_bitCount_0f7a4_22 : decode cJ6_bitCount_0f7a4 22 = .ok (.iadd, 1) := by decide +kernel
theorem dJ6_bitCount_0f7a4_23 : decode cJ6_bitCount_0f7a4 23 = .ok (.istore_n 0, 1) := by decide +kernel
theorem dJ6_bitCount_0f7a4_24 : decode cJ6_bitCount_0f7a4 24 = .ok (.iload_n 0, 1) := by decide +kernel
theorem dJ6_bitCount_0f7a4_25 : decode cJ6_bitCount_0f7a4 25 = .ok (.iload_n 0, 1) := by decide +kernel
theorem dJ6_bitCount_0f7a4_26 : decode cJ6_bitCount_0f7a4 26 = .ok (.iconst 4, 1) := by decide +kernel
theorem dJ6_bitCount_0f7a4_27 : decode cJ6_bitCount_0f7a4 27 = .ok (.iushr, 1) := by decide +kernel
theorem dJ6_bitCount_0f7a4_28 : decode cJ6_bitCount_0f7a4 28 = .ok (.iadd, 1) := by decide +kernel
theorem dJ6_bitCount_0f7a4_29 : decode cJ6_bitCount_0f7a4 29 = .ok (.ldc_w 267, 3) := by decide +kernel
theorem dJ6_bitCount_0f7a4_32 : decode cJ6_bitCount_0f7a4 32 = .ok (.iand, 1) := by decide +kernel
theorem dJ6_bitCount_0f7a4_33 : decode cJ6_bitCount_0f7a4 33 = .ok (.istore_n 0, 1) := by decide +kernel
theorem dJ6_bitCount_0f7a4_34 : decode cJ6_bitCount_0f7a4 34 = .ok (.iload_n 0, 1) := by decide +kernel
theorem dJ6_bitCount_0f7a4_35 : decode cJ6_bitCount_0f7a4 35 = .ok (.iload_n 0, 1) := by decide +kernel
theorem dJ6_bitCount_0f7a4_36 : decode cJ6_bitCount_0f7a4 36 = .ok (.bipush 8, 2) := by decide +kernel
theorem dJ6_bitCount_0f7a4_38 : decode cJ6_bitCount_0f7a4 38 = .ok (.iushr, 1) := by decide +kernel
theorem dJ6_bitCount_0f7a4_39 : decode cJ6_bitCount_0f7a4 39 = .ok (.iadd, 1) := by decide +kernel
theorem dJ6_bitCount_0f7a4_40 : decode cJ6_bitCount_0f7a4 40 = .ok (.istore_n 0, 1) := by decide +kernel
theorem dJ6_bitCount_0f7a4_41 : decode cJ6_bitCount_0f7a4 41 = .ok (.iload_n 0, 1) := by decide +kernel
theorem dJ6_bitCount_0f7a4_42 : decode cJ6_bitCount_0f7a4 42 = .ok (.iload_n 0, 1) := by decide +kernel
theorem dJ6_bitCount_0f7a4_43 : decode cJ6_bitCount_0f7a4 43 = .ok (.bipush 16, 2) := by decide +kernel
theorem dJ6_bitCount_0f7a4_45 : decode cJ6_bitCount_0f7a4 45 = .ok (.iushr, 1) := by decide +kernel
theorem dJ6_bitCount_0f7a4_46 : decode cJ6_bitCount_0f7a4 46 = .ok (.iadd, 1) := by decide +kernel
theorem dJ6_bitCount_0f7a4_47 : decode cJ6_bitCount_0f7a4 47 = .ok (.istore_n 0, 1) := by decide +kernel
theorem dJ6_bitCount_0f7a4_48 : decode cJ6_bitCount_0f7a4 48 = .ok (.iload_n 0, 1) := by decide +kernel
theorem dJ6_bitCount_0f7a4_49 : decode cJ6_bitCount_0f7a4 49 = .ok (.bipush 63, 2) := by decide +kernel
theorem dJ6_bitCount_0f7a4_51 : decode cJ6_bitCount_0f7a4 51 = .ok (.iand, 1) := by decide +kernel
theorem dJ6_bitCount_0f7a4_52 : decode cJ6_bitCount_0f7a4 52 = .ok (.ireturn, 1) := by decide +kernel
end
section
theorem dX7_init_0 : decode cX7_init 0 = .ok (.aload_n 0, 1) := by decide +kernel
theorem dX7_init_1 : decode cX7_init 1 = .ok (.invokespecial 5, 3) := by decide +kernel
theorem dX7_init_4 : decode cX7_init 4 = .ok (.aload_n 0, 1) := by decide +kernel
theorem dX7_init_5 : decode cX7_init 5 = .ok (.new 11, 3) := by decide +kernel
theorem dX7_init_8 : decode cX7_init 8 = .ok (.dup, 1) := by decide +kernel
theorem dX7_init_9 : decode cX7_init 9 = .ok (.invokespecial 13, 3) := by decide +kernel
theorem dX7_init_12 : decode cX7_init 12 = .ok (.putfield 14, 3) := by decide +kernel
theorem dX7_init_15 : decode cX7_init 15 = .ok (.aload_n 0, 1) := by decide +kernel
theorem dX7_init_16 : decode cX7_init 16 = .ok (.new 11, 3) := by decide +kernel
theorem dX7_init_19 : decode cX7_init 19 = .ok (.dup, 1) := by decide +kernel
theorem dX7_init_20 : decode cX7_init 20 = .ok (.invokespecial 13, 3) := by decide +kernel
theorem dX7_init_23 : decode cX7_init 23 = .ok (.putfield 18, 3) := by decide +kernel
theorem dX7_init_26 : decode cX7_init 26 = .ok (.aload_n 0, 1) := by decide +kernel
theorem dX7_init_27 : decode cX7_init 27 = .ok (.iconst 0, 1) := by decide +kernel
theorem dX7_init_28 : decode cX7_init 28 = .ok (.putfield 21, 3) := by decide +kernel
theorem dX7_init_31 : decode cX7_init 31 = .ok (.aload_n 0, 1) := by decide +kernel
theorem dX7_init_32 : decode cX7_init 32 = .ok (.new 25, 3) := by decide +kernel
theorem dX7_init_35 : decode cX7_init 35 = .ok (.dup, 1) := by decide +kernel
theorem dX7_init_36 : decode cX7_init 36 = .ok (.invokespecial 27, 3) := by decide +kernel
theorem dX7_init_39 : decode cX7_init 39 = .ok (.putfield 28, 3) := by decide +kernel
theorem dX7_init_42 : decode cX7_init 42 = .ok (.aload_n 0, 1) := by decide +kernel
theorem dX7_init_43 : decode cX7_init 43 = .ok (.new 32, 3) := by decide +kernel
theorem dX7_init_46 : decode cX7_init 46 = .ok (.dup, 1) := by decide +kernel
theorem dX7_init_47 : decode cX7_init 47 = .ok (.invokespecial 34, 3) := by decide +kernel
theorem dX7_init_50 : decode cX7_init 50 = .ok (.putfield 35, 3) := by decide +kernel
theorem dX7_init_53 : decode cX7_init 53 = .ok (.aload_n 0, 1) := by decide +kernel
theorem dX7_init_54 : decode cX7_init 54 = .ok (.bipush 6, 2) := by decide +kernel
theorem dX7_init_56 : decode cX7_init 56 = .ok (.anewarray 39, 3) := by decide +kernel
theorem dX7_init_59 : decode cX7_init 59 = .ok (.putfield 41, 3) := by decide +kernel
theorem dX7_init_62 : decode cX7_init 62 = .ok (.iconst 0, 1) := by decide +kernel
theorem dX7_init_63 : decode cX7_init 63 = .ok (.istore_n 1, 1) := by decide +kernel
theorem dX7_init_64 : decode cX7_init 64 = .ok (.iload_n 1, 1) := by decide +kernel
theorem dX7_init_65 : decode cX7_init 65 = .ok (.bipush 6, 2) := by decide +kernel
theorem dX7_init_67 : decode cX7_init 67 = .ok (.if_icmp .ge 22, 3) := by decide +kernel
theorem dX7_init_70 : decode cX7_init 70 = .ok (.aload_n 0, 1) := by decide +kernel
theorem dX7_init_71 : decode cX7_init 71 = .ok (.getfield 41, 3) := by decide +kernel
theorem dX7_init_74 : decode cX7_init 74 = .ok (.iload_n 1, 1) := by decide +kernel
theorem dX7_init_75 : decode cX7_init 75 = .ok (.new 39, 3) := by decide +kernel
theorem dX7_init_78 : decode cX7_init 78 = .ok (.dup, 1) := by decide +kernel
theorem dX7_init_79 : decode cX7_init 79 = .ok (.invokespecial 45, 3) := by decide +kernel
theorem dX7_init_82 : decode cX7_init 82 = .ok (.aastore, 1) := by decide +kernel
theorem dX7_init_83 : decode cX7_init 83 = .ok (.iinc 1 1, 3) := by decide +kernel
theorem dX7_init_86 : decode cX7_init 86 = .ok (.goto (-22), 3) := by decide +kernel
theorem dX7_init_89 : decode cX7_init 89 = .ok (.return_, 1) := by decide +kernel
theorem dX7_corner_0 : decode cX7_corner 0 = .ok (.iload_n 1, 1) := by decide +kernel
theorem dX7_corner_1 : decode cX7_corner 1 = .ok (.invokestatic 46, 3) := by decide +kernel
theorem dX7_corner_4 : decode cX7_corner 4 = .ok (.ifCond .ne 5, 3) := by decide +kernel
theorem dX7_corner_7 : decode cX7_corner 7 = .ok (.iconst (-1), 1) := by decide +kernel
theorem dX7_corner_8 : decode cX7_corner 8 = .ok (.ireturn, 1) := by decide +kernel
theorem dX7_corner_9 : decode cX7_corner 9 = .ok (.iload_n 2, 1) := by decide +kernel
theorem dX7_corner_10 : decode cX7_corner 10 = .ok (.invokestatic 50, 3) := by decide +kernel
theorem dX7_corner_13 : decode cX7_corner 13 = .ok (.ifCond .ne 6, 3) := by decide +kernel
theorem dX7_corner_16 : decode cX7_corner 16 = .ok (.bipush (-2), 2) := by decide +kernel
theorem dX7_corner_18 : decode cX7_corner 18 = .ok (.ireturn, 1) := by decide +kernel
theorem dX7_corner_19 : decode cX7_corner 19 = .ok (.aload_n 0, 1) := by decide +kernel
theorem dX7_corner_20 : decode cX7_corner 20 = .ok (.getfield 14, 3) := by decide +kernel
theorem dX7_corner_23 : decode cX7_corner 23 = .ok (.getfield 53, 3) := by decide +kernel
theorem dX7_corner_26 : decode cX7_corner 26 = .ok (.iload_n 1, 1) := by decide +kernel
theorem dX7_corner_27 : decode cX7_corner 27 = .ok (.invokestatic 57, 3) := by decide +kernel
theorem dX7_corner_30 : decode cX7_corner 30 = .ok (.istore_n 3, 1) := by decide +kernel
theorem dX7_corner_31 : decode cX7_corner 31 = .ok (.aload_n 0, 1) := by decide +kernel
theorem dX7_corner_32 : decode cX7_corner 32 = .ok (.getfield 14, 3) := by decide +kernel
theorem dX7_corner_35 : decode cX7_corner 35 = .ok (.iload_n 2, 1) := by decide +kernel
theorem dX7_corner_36 : decode cX7_corner 36 = .ok (.iconst 1, 1) := by decide +kernel
theorem dX7_corner_37 : decode cX7_corner 37 = .ok (.if_icmp .ne 17, 3) := by decide +kernel
theorem dX7_corner_40 : decode cX7_corner 40 = .ok (.aload_n 0, 1) := by decide +kernel
theorem dX7_corner_41 : decode cX7_corner 41 = .ok (.getfield 14, 3) := by decide +kernel
theorem dX7_corner_44 : decode cX7_corner 44 = .ok (.getfield 53, 3) := by decide +kernel
theorem dX7_corner_47 : decode cX7_corner 47 = .ok (.iconst 1, 1) := by decide +kernel
theorem dX7_corner_48 : decode cX7_corner 48 = .ok (.iload_n 1, 1) := by decide +kernel
theorem dX7_corner_49 : decode cX7_corner 49 = .ok (.ishl, 1) := by decide +kernel
theorem dX7_corner_50 : decode cX7_corner 50 = .ok (.ior, 1) := by decide +kernel
theorem dX7_corner_51 : decode cX7_corner 51 = .ok (.goto 16, 3) := by decide +kernel
theorem dX7_corner_54 : decode cX7_corner 54 = .ok (.aload_n 0, 1) := by decide +kernel
theorem dX7_corner_55 : decode cX7_corner 55 = .ok (.getfield 14, 3) := by decide +kernel
theorem dX7_corner_58 : decode cX7_corner 58 = .ok (.getfield 53, 3) := by decide +kernel
theorem dX7_corner_61 : decode cX7_corner 61 = .ok (.iconst 1, 1) := by decide +kernel
theorem dX7_corner_62 : decode cX7_corner 62 = .ok (.iload_n 1, 1) := by decide +kernel
theorem dX7_corner_63 : decode cX7_corner 63 = .ok (.ishl, 1) := by decide +kernel
theorem dX7_corner_64 : decode cX7_corner 64 = .ok (.iconst (-1), 1) := by decide +kernel
theorem dX7_corner_65 : decode cX7_corner 65 = .ok (.ixor, 1) := by decide +kernel
theorem dX7_corner_66 : decode cX7_corner 66 = .ok (.iand, 1) := by decide +kernel
theorem dX7_corner_67 : decode cX7_corner 67 = .ok (.putfield 53, 3) := by decide +kernel
theorem dX7_corner_70 : decode cX7_corner 70 = .ok (.iload_n 3, 1) := by decide +kernel
theorem dX7_corner_71 : decode cX7_corner 71 = .ok (.ireturn, 1) := by decide +kernel
theorem dX7_code_0 : decode cX7_code 0 = .ok (.iload_n 1, 1) := by decide +kernel
theorem dX7_code_1 : decode cX7_code 1 = .ok (.ifCond .lt 10, 3) := by decide +kernel
theorem dX7_code_4 : decode cX7_code 4 = .ok (.iload_n 1, 1) := by decide +kernel
theorem dX7_code_5 : decode cX7_code 5 = .ok (.sipush 256, 3) := by decide +kernel
theorem dX7_code_8 : decode cX7_code 8 = .ok (.if_icmp .lt 6, 3) := by decide +kernel
theorem dX7_code_11 : decode cX7_code 11 = .ok (.bipush (-2), 2) := by decide +kernel
theorem dX7_code_13 : decode cX7_code 13 = .ok (.ireturn, 1) := by decide +kernel
theorem dX7_code_14 : decode cX7_code 14 = .ok (.aload_n 0, 1) := by decide +kernel
theorem dX7_code_15 : decode cX7_code 15 = .ok (.getfield 14, 3) := by decide +kernel
theorem dX7_code_18 : decode cX7_code 18 = .ok (.getfield 53, 3) := by decide +kernel
theorem dX7_code_21 : decode cX7_code 21 = .ok (.istore_n 2, 1) := by decide +kernel
theorem dX7_code_22 : decode cX7_code 22 = .ok (.aload_n 0, 1) := by decide +kernel
theorem dX7_code_23 : decode cX7_code 23 = .ok (.getfield 14, 3) := by decide +kernel
theorem dX7_code_26 : decode cX7_code 26 = .ok (.iload_n 1, 1) := by decide +kernel
theorem dX7_code_27 : decode cX7_code 27 = .ok (.putfield 53, 3) := by decide +kernel
theorem dX7_code_30 : decode cX7_code 30 = .ok (.iload_n 2, 1) := by decide +kernel
theorem dX7_code_31 : decode cX7_code 31 = .ok (.ireturn, 1) := by decide +kernel
theorem dX7_move_0 : decode cX7_move 0 = .ok (.iload_n 1, 1) := by decide +kernel
theorem dX7_move_1 : decode cX7_move 1 = .ok (.invokestatic 61, 3) := by decide +kernel
theorem dX7_move_4 : decode cX7_move 4 = .ok (.ifCond .ne 5, 3) := by decide +kernel
theorem dX7_move_7 : decode cX7_move 7 = .ok (.iconst (-1), 1) := by decide +kernel
theorem dX7_move_8 : decode cX7_move 8 = .ok (.ireturn, 1) := by decide +kernel
theorem dX7_move_9 : decode cX7_move 9 = .ok (.aload_n 0, 1) := by decide +kernel
theorem dX7_move_10 : decode cX7_move 10 = .ok (.getfield 14, 3) := by decide +kernel
theorem dX7_move_13 : decode cX7_move 13 = .ok (.iload_n 1, 1) := by decide +kernel
theorem dX7_move_14 : decode cX7_move 14 = .ok (.aload_n 0, 1) := by decide +kernel
theorem dX7_move_15 : decode cX7_move 15 = .ok (.getfield 14, 3) := by decide +kernel
theorem dX7_move_18 : decode cX7_move 18 = .ok (.getfield 53, 3) := by decide +kernel
theorem dX7_move_21 : decode cX7_move 21 = .ok (.invokestatic 64, 3) := by decide +kernel
theorem dX7_move_24 : decode cX7_move 24 = .ok (.putfield 53, 3) := by decide +kernel
theorem dX7_move_27 : decode cX7_move 27 = .ok (.aload_n 0, 1) := by decide +kernel
theorem dX7_move_28 : decode cX7_move 28 = .ok (.getfield 14, 3) := by decide +kernel
theorem dX7_move_31 : decode cX7_move 31 = .ok (.getfield 53, 3) := by decide +kernel
theorem dX7_move_34 : decode cX7_move 34 = .ok (.ireturn, 1) := by decide +kernel
theorem dX7_becomes_0 : decode cX7_becomes 0 = .ok (.iload_n 1, 1) := by decide +kernel
theorem dX7_becomes_1 : decode cX7_becomes 1 = .ok (.ifCond .lt 8, 3) := by decide +kernel
theorem dX7_becomes_4 : decode cX7_becomes 4 = .ok (.iload_n 1, 1) := by decide +kernel
theorem dX7_becomes_5 : decode cX7_becomes 5 = .ok (.iconst 3, 1) := by decide +kernel
theorem dX7_becomes_6 : decode cX7_becomes 6 = .ok (.if_icmp .le 5, 3) := by decide +kernel
theorem dX7_becomes_9 : decode cX7_becomes 9 = .ok (.iconst (-1), 1) := by decide +kernel
theorem dX7_becomes_10 : decode cX7_becomes 10 = .ok (.ireturn, 1) := by decide +kernel
theorem dX7_becomes_11 : decode cX7_becomes 11 = .ok (.aload_n 0, 1) := by decide +kernel
theorem dX7_becomes_12 : decode cX7_becomes 12 = .ok (.getfield 14, 3) := by decide +kernel
theorem dX7_becomes_15 : decode cX7_becomes 15 = .ok (.iload_n 1, 1) := by decide +kernel
theorem dX7_becomes_16 : decode cX7_becomes 16 = .ok (.invokevirtual 69, 3) := by decide +kernel
theorem dX7_becomes_19 : decode cX7_becomes 19 = .ok (.aload_n 0, 1) := by decide +kernel
theorem dX7_becomes_20 : decode cX7_becomes 20 = .ok (.getfield 14, 3) := by decide +kernel
theorem dX7_becomes_23 : decode cX7_becomes 23 = .ok (.getfield 53, 3) := by decide +kernel
theorem dX7_becomes_26 : decode cX7_becomes 26 = .ok (.ireturn, 1) := by decide +kernel
theorem dX7_keep_0 : decode cX7_keep 0 = .ok (.aload_n 0, 1) := by decide +kernel
theorem dX7_keep_1 : decode cX7_keep 1 = .ok (.getfield 14, 3) := by decide +kernel
theorem dX7_keep_4 : decode cX7_keep 4 = .ok (.aload_n 0, 1) := by decide +kernel
theorem dX7_keep_5 : decode cX7_keep 5 = .ok (.getfield 14, 3) := by decide +kernel
theorem dX7_keep_8 : decode cX7_keep 8 = .ok (.getfield 53, 3) := by decide +kernel
theorem dX7_keep_11 : decode cX7_keep 11 = .ok (.putfield 73, 3) := by decide +kernel
theorem dX7_keep_14 : decode cX7_keep 14 = .ok (.aload_n 0, 1) := by decide +kernel
theorem dX7_keep_15 : decode cX7_keep 15 = .ok (.getfield 14, 3) := by decide +kernel
theorem dX7_keep_18 : decode cX7_keep 18 = .ok (.getfield 73, 3) := by decide +kernel
theorem dX7_keep_21 : decode cX7_keep 21 = .ok (.ireturn, 1) := by decide +kernel
theorem dX7_feed_0 : decode cX7_feed 0 = .ok (.iload_n 1, 1) := by decide +kernel
theorem dX7_feed_1 : decode cX7_feed 1 = .ok (.ifCond .lt 9, 3) := by decide +kernel
theorem dX7_feed_4 : decode cX7_feed 4 = .ok (.iload_n 1, 1) := by decide +kernel
theorem dX7_feed_5 : decode cX7_feed 5 = .ok (.bipush 127, 2) := by decide +kernel
theorem dX7_feed_7 : decode cX7_feed 7 = .ok (.if_icmp .le 6, 3) := by decide +kernel
theorem dX7_feed_10 : decode cX7_feed 10 = .ok (.bipush (-2), 2) := by decide +kernel
theorem dX7_feed_12 : decode cX7_feed 12 = .ok (.ireturn, 1) := by decide +kernel
theorem dX7_feed_13 : decode cX7_feed 13 = .ok (.aload_n 0, 1) := by decide +kernel
theorem dX7_feed_14 : decode cX7_feed 14 = .ok (.getfield 28, 3) := by decide +kernel
theorem dX7_feed_17 : decode cX7_feed 17 = .ok (.iload_n 1, 1) := by decide +kernel
theorem dX7_feed_18 : decode cX7_feed 18 = .ok (.invokevirtual 76, 3) := by decide +kernel
theorem dX7_feed_21 : decode cX7_feed 21 = .ok (.ireturn, 1) := by decide +kernel
theorem dX7_read_0 : decode cX7_read 0 = .ok (.aload_n 0, 1) := by decide +kernel
theorem dX7_read_1 : decode cX7_read 1 = .ok (.getfield 28, 3) := by decide +kernel
theorem dX7_read_4 : decode cX7_read 4 = .ok (.invokevirtual 80, 3) := by decide +kernel
theorem dX7_read_7 : decode cX7_read 7 = .ok (.istore_n 1, 1) := by decide +kernel
theorem dX7_read_8 : decode cX7_read 8 = .ok (.iload_n 1, 1) := by decide +kernel
theorem dX7_read_9 : decode cX7_read 9 = .ok (.iconst (-1), 1) := by decide +kernel
theorem dX7_read_10 : decode cX7_read 10 = .ok (.if_icmp .ne 17, 3) := by decide +kernel
theorem dX7_read_13 : decode cX7_read 13 = .ok (.aload_n 0, 1) := by decide +kernel
theorem dX7_read_14 : decode cX7_read 14 = .ok (.getfield 28, 3) := by decide +kernel
theorem dX7_read_17 : decode cX7_read 17 = .ok (.aload_n 0, 1) := by decide +kernel
theorem dX7_read_18 : decode cX7_read 18 = .ok (.getfield 14, 3) := by decide +kernel
theorem dX7_read_21 : decode cX7_read 21 = .ok (.invokevirtual 84, 3) := by decide +kernel
theorem dX7_read_24 : decode cX7_read 24 = .ok (.goto 7, 3) := by decide +kernel
theorem dX7_read_27 : decode cX7_read 27 = .ok (.bipush (-10), 2) := by decide +kernel
theorem dX7_read_29 : decode cX7_read 29 = .ok (.iload_n 1, 1) := by decide +kernel
theorem dX7_read_30 : decode cX7_read 30 = .ok (.isub, 1) := by decide +kernel
theorem dX7_read_31 : decode cX7_read 31 = .ok (.istore_n 2, 1) := by decide +kernel
theorem dX7_read_32 : decode cX7_read 32 = .ok (.aload_n 0, 1) := by decide +kernel
theorem dX7_read_33 : decode cX7_read 33 = .ok (.getfield 28, 3) := by decide +kernel
theorem dX7_read_36 : decode cX7_read 36 = .ok (.iconst 0, 1) := by decide +kernel
theorem dX7_read_37 : decode cX7_read 37 = .ok (.putfield 88, 3) := by decide +kernel
theorem dX7_read_40 : decode cX7_read 40 = .ok (.iload_n 2, 1) := by decide +kernel
theorem dX7_read_41 : decode cX7_read 41 = .ok (.ireturn, 1) := by decide +kernel
theorem dX7_told_0 : decode cX7_told 0 = .ok (.iload_n 1, 1) := by decide +kernel
theorem dX7_told_1 : decode cX7_told 1 = .ok (.tableswitch 229 0 12 #[67, 75, 83, 94, 105, 116, 127, 138, 156, 171, 186, 199, 214], 67) := by decide +kernel
theorem dX7_told_68 : decode cX7_told 68 = .ok (.aload_n 0, 1) := by decide +kernel
theorem dX7_told_69 : decode cX7_told 69 = .ok (.getfield 14, 3) := by decide +kernel
theorem dX7_told_72 : decode cX7_told 72 = .ok (.getfield 53, 3) := by decide +kernel
theorem dX7_told_75 : decode cX7_told 75 = .ok (.ireturn, 1) := by decide +kernel
theorem dX7_told_76 : decode cX7_told 76 = .ok (.aload_n 0, 1) := by decide +kernel
theorem dX7_told_77 : decode cX7_told 77 = .ok (.getfield 14, 3) := by decide +kernel
theorem dX7_told_80 : decode cX7_told 80 = .ok (.getfield 73, 3) := by decide +kernel
theorem dX7_told_83 : decode cX7_told 83 = .ok (.ireturn, 1) := by decide +kernel
theorem dX7_told_84 : decode cX7_told 84 = .ok (.aload_n 0, 1) := by decide +kernel
theorem dX7_told_85 : decode cX7_told 85 = .ok (.getfield 14, 3) := by decide +kernel
theorem dX7_told_88 : decode cX7_told 88 = .ok (.getfield 53, 3) := by decide +kernel
theorem dX7_told_91 : decode cX7_told 91 = .ok (.invokestatic 91, 3) := by decide +kernel
theorem dX7_told_94 : decode cX7_told 94 = .ok (.ireturn, 1) := by decide +kernel
theorem dX7_told_95 : decode cX7_told 95 = .ok (.aload_n 0, 1) := by decide +kernel
theorem dX7_told_96 : decode cX7_told 96 = .ok (.getfield 14, 3) := by decide +kernel
theorem dX7_told_99 : decode cX7_told 99 = .ok (.getfield 53, 3) := by decide +kernel
theorem dX7_told_102 : decode cX7_told 102 = .ok (.invokestatic 96, 3) := by decide +kernel
theorem dX7_told_105 : decode cX7_told 105 = .ok (.ireturn, 1) := by decide +kernel
theorem dX7_told_106 : decode cX7_told 106 = .ok (.aload_n 0, 1) := by decide +kernel
theorem dX7_told_107 : decode cX7_told 107 = .ok (.getfield 14, 3) := by decide +kernel
theorem dX7_told_110 : decode cX7_told 110 = .ok (.getfield 53, 3) := by decide +kernel
theorem dX7_told_113 : decode cX7_told 113 = .ok (.invokestatic 99, 3) := by decide +kernel
theorem dX7_told_116 : decode cX7_told 116 = .ok (.ireturn, 1) := by decide +kernel
theorem dX7_told_117 : decode cX7_told 117 = .ok (.aload_n 0, 1) := by decide +kernel
theorem dX7_told_118 : decode cX7_told 118 = .ok (.getfield 14, 3) := by decide +kernel
theorem dX7_told_121 : decode cX7_told 121 = .ok (.getfield 53, 3) := by decide +kernel
theorem dX7_told_124 : decode cX7_told 124 = .ok (.invokestatic 102, 3) := by decide +kernel
theorem dX7_told_127 : decode cX7_told 127 = .ok (.ireturn, 1) := by decide +kernel
theorem dX7_told_128 : decode cX7_told 128 = .ok (.aload_n 0, 1) := by decide +kernel
theorem dX7_told_129 : decode cX7_told 129 = .ok (.getfield 14, 3) := by decide +kernel
theorem dX7_told_132 : decode cX7_told 132 = .ok (.getfield 53, 3) := by decide +kernel
theorem dX7_told_135 : decode cX7_told 135 = .ok (.invokestatic 105, 3) := by decide +kernel
theorem dX7_told_138 : decode cX7_told 138 = .ok (.ireturn, 1) := by decide +kernel
theorem dX7_told_139 : decode cX7_told 139 = .ok (.aload_n 0, 1) := by decide +kernel
theorem dX7_told_140 : decode cX7_told 140 = .ok (.getfield 14, 3) := by decide +kernel
theorem dX7_told_143 : decode cX7_told 143 = .ok (.getfield 53, 3) := by decide +kernel
theorem dX7_told_146 : decode cX7_told 146 = .ok (.aload_n 0, 1) := by decide +kernel
theorem dX7_told_147 : decode cX7_told 147 = .ok (.getfield 14, 3) := by decide +kernel
theorem dX7_told_150 : decode cX7_told 150 = .ok (.getfield 73, 3) := by decide +kernel
theorem dX7_told_153 : decode cX7_told 153 = .ok (.invokestatic 108, 3) := by decide +kernel
theorem dX7_told_156 : decode cX7_told 156 = .ok (.ireturn, 1) := by decide +kernel
theorem dX7_told_157 : decode cX7_told 157 = .ok (.aload_n 0, 1) := by decide +kernel
theorem dX7_told_158 : decode cX7_told 158 = .ok (.getfield 35, 3) := by decide +kernel
theorem dX7_told_161 : decode cX7_told 161 = .ok (.aload_n 0, 1) := by decide +kernel
theorem dX7_told_162 : decode cX7_told 162 = .ok (.getfield 14, 3) := by decide +kernel
theorem dX7_told_165 : decode cX7_told 165 = .ok (.getfield 53, 3) := by decide +kernel
theorem dX7_told_168 : decode cX7_told 168 = .ok (.invokevirtual 111, 3) := by decide +kernel
theorem dX7_told_171 : decode cX7_told 171 = .ok (.ireturn, 1) := by decide +kernel
theorem dX7_told_172 : decode cX7_told 172 = .ok (.aload_n 0, 1) := by decide +kernel
theorem dX7_told_173 : decode cX7_told 173 = .ok (.getfield 35, 3) := by decide +kernel
theorem dX7_told_176 : decode cX7_told 176 = .ok (.aload_n 0, 1) := by decide +kernel
theorem dX7_told_177 : decode cX7_told 177 = .ok (.getfield 14, 3) := by decide +kernel
theorem dX7_told_180 : decode cX7_told 180 = .ok (.getfield 53, 3) := by decide +kernel
theorem dX7_told_183 : decode cX7_told 183 = .ok (.invokevirtual 114, 3) := by decide +kernel
theorem dX7_told_186 : decode cX7_told 186 = .ok (.ireturn, 1) := by decide +kernel
theorem dX7_told_187 : decode cX7_told 187 = .ok (.aload_n 0, 1) := by decide +kernel
theorem dX7_told_188 : decode cX7_told 188 = .ok (.getfield 14, 3) := by decide +kernel
theorem dX7_told_191 : decode cX7_told 191 = .ok (.getfield 53, 3) := by decide +kernel
theorem dX7_told_194 : decode cX7_told 194 = .ok (.invokestatic 117, 3) := by decide +kernel
theorem dX7_told_197 : decode cX7_told 197 = .ok (.iconst 1, 1) := by decide +kernel
theorem dX7_told_198 : decode cX7_told 198 = .ok (.iadd, 1) := by decide +kernel
theorem dX7_told_199 : decode cX7_told 199 = .ok (.ireturn, 1) := by decide +kernel
theorem dX7_told_200 : decode cX7_told 200 = .ok (.aload_n 0, 1) := by decide +kernel
theorem dX7_told_201 : decode cX7_told 201 = .ok (.getfield 35, 3) := by decide +kernel
theorem dX7_told_204 : decode cX7_told 204 = .ok (.aload_n 0, 1) := by decide +kernel
theorem dX7_told_205 : decode cX7_told 205 = .ok (.getfield 14, 3) := by decide +kernel
theorem dX7_told_208 : decode cX7_told 208 = .ok (.getfield 53, 3) := by decide +kernel
theorem dX7_told_211 : decode cX7_told 211 = .ok (.invokevirtual 120, 3) := by decide +kernel
theorem dX7_told_214 : decode cX7_told 214 = .ok (.ireturn, 1) := by decide +kernel
theorem dX7_told_215 : decode cX7_told 215 = .ok (.aload_n 0, 1) := by decide +kernel
theorem dX7_told_216 : decode cX7_told 216 = .ok (.getfield 35, 3) := by decide +kernel
theorem dX7_told_219 : decode cX7_told 219 = .ok (.aload_n 0, 1) := by decide +kernel
theorem dX7_told_220 : decode cX7_told 220 = .ok (.getfield 14, 3) := by decide +kernel
theorem dX7_told_223 : decode cX7_told 223 = .ok (.getfield 53, 3) := by decide +kernel
theorem dX7_told_226 : decode cX7_told 226 = .ok (.invokevirtual 123, 3) := by decide +kernel
theorem dX7_told_229 : decode cX7_told 229 = .ok (.ireturn, 1) := by decide +kernel
theorem dX7_told_230 : decode cX7_told 230 = .ok (.iconst (-1), 1) := by decide +kernel
theorem dX7_told_231 : decode cX7_told 231 = .ok (.ireturn, 1) := by decide +kernel
theorem dX7_carried_0 : decode cX7_carried 0 = .ok (.iload_n 1, 1) := by decide +kernel
theorem dX7_carried_1 : decode cX7_carried 1 = .ok (.invokestatic 61, 3) := by decide +kernel
theorem dX7_carried_4 : decode cX7_carried 4 = .ok (.ifCond .eq 18, 3) := by decide +kernel
theorem dX7_carried_7 : decode cX7_carried 7 = .ok (.iload_n 2, 1) := by decide +kernel
theorem dX7_carried_8 : decode cX7_carried 8 = .ok (.invokestatic 46, 3) := by decide +kernel
theorem dX7_carried_11 : decode cX7_carried 11 = .ok (.ifCond .eq 11, 3) := by decide +kernel
theorem dX7_carried_14 : decode cX7_carried 14 = .ok (.iload_n 1, 1) := by decide +kernel
theorem dX7_carried_15 : decode cX7_carried 15 = .ok (.iload_n 2, 1) := by decide +kernel
theorem dX7_carried_16 : decode cX7_carried 16 = .ok (.invokestatic 126, 3) := by decide +kernel
theorem dX7_carried_19 : decode cX7_carried 19 = .ok (.goto 4, 3) := by decide +kernel
theorem dX7_carried_22 : decode cX7_carried 22 = .ok (.iconst (-1), 1) := by decide +kernel
theorem dX7_carried_23 : decode cX7_carried 23 = .ok (.ireturn, 1) := by decide +kernel
theorem dX7_imaged_0 : decode cX7_imaged 0 = .ok (.iload_n 1, 1) := by decide +kernel
theorem dX7_imaged_1 : decode cX7_imaged 1 = .ok (.invokestatic 61, 3) := by decide +kernel
theorem dX7_imaged_4 : decode cX7_imaged 4 = .ok (.ifCond .eq 17, 3) := by decide +kernel
theorem dX7_imaged_7 : decode cX7_imaged 7 = .ok (.iload_n 1, 1) := by decide +kernel
theorem dX7_imaged_8 : decode cX7_imaged 8 = .ok (.aload_n 0, 1) := by decide +kernel
theorem dX7_imaged_9 : decode cX7_imaged 9 = .ok (.getfield 14, 3) := by decide +kernel
theorem dX7_imaged_12 : decode cX7_imaged 12 = .ok (.getfield 53, 3) := by decide +kernel
theorem dX7_imaged_15 : decode cX7_imaged 15 = .ok (.invokestatic 64, 3) := by decide +kernel
theorem dX7_imaged_18 : decode cX7_imaged 18 = .ok (.goto 4, 3) := by decide +kernel
theorem dX7_imaged_21 : decode cX7_imaged 21 = .ok (.iconst (-1), 1) := by decide +kernel
theorem dX7_imaged_22 : decode cX7_imaged 22 = .ok (.ireturn, 1) := by decide +kernel
theorem dX7_form_0 : decode cX7_form 0 = .ok (.iload_n 1, 1) := by decide +kernel
theorem dX7_form_1 : decode cX7_form 1 = .ok (.ifCond .ge 5, 3) := by decide +kernel
theorem dX7_form_4 : decode cX7_form 4 = .ok (.iconst (-1), 1) := by decide +kernel
theorem dX7_form_5 : decode cX7_form 5 = .ok (.ireturn, 1) := by decide +kernel
theorem dX7_form_6 : decode cX7_form 6 = .ok (.iload_n 1, 1) := by decide +kernel
theorem dX7_form_7 : decode cX7_form 7 = .ok (.getstatic 129, 3) := by decide +kernel
theorem dX7_form_10 : decode cX7_form 10 = .ok (.arraylength, 1) := by decide +kernel
theorem dX7_form_11 : decode cX7_form 11 = .ok (.if_icmp .ge 11, 3) := by decide +kernel
theorem dX7_form_14 : decode cX7_form 14 = .ok (.getstatic 129, 3) := by decide +kernel
theorem dX7_form_17 : decode cX7_form 17 = .ok (.iload_n 1, 1) := by decide +kernel
theorem dX7_form_18 : decode cX7_form 18 = .ok (.iaload, 1) := by decide +kernel
theorem dX7_form_19 : decode cX7_form 19 = .ok (.goto 5, 3) := by decide +kernel
theorem dX7_form_22 : decode cX7_form 22 = .ok (.bipush (-5), 2) := by decide +kernel
theorem dX7_form_24 : decode cX7_form 24 = .ok (.ireturn, 1) := by decide +kernel
theorem dX7_classes_0 : decode cX7_classes 0 = .ok (.iload_n 1, 1) := by decide +kernel
theorem dX7_classes_1 : decode cX7_classes 1 = .ok (.ifCond .lt 9, 3) := by decide +kernel
theorem dX7_classes_4 : decode cX7_classes 4 = .ok (.iload_n 1, 1) := by decide +kernel
theorem dX7_classes_5 : decode cX7_classes 5 = .ok (.bipush 8, 2) := by decide +kernel
theorem dX7_classes_7 : decode cX7_classes 7 = .ok (.if_icmp .le 8, 3) := by decide +kernel
theorem dX7_classes_10 : decode cX7_classes 10 = .ok (.bipush (-2), 2) := by decide +kernel
theorem dX7_classes_12 : decode cX7_classes 12 = .ok (.goto 7, 3) := by decide +kernel
theorem dX7_classes_15 : decode cX7_classes 15 = .ok (.iload_n 1, 1) := by decide +kernel
theorem dX7_classes_16 : decode cX7_classes 16 = .ok (.invokestatic 133, 3) := by decide +kernel
theorem dX7_classes_19 : decode cX7_classes 19 = .ok (.ireturn, 1) := by decide +kernel
theorem dX7_weighs_0 : decode cX7_weighs 0 = .ok (.iload_n 1, 1) := by decide +kernel
theorem dX7_weighs_1 : decode cX7_weighs 1 = .ok (.invokestatic 136, 3) := by decide +kernel
theorem dX7_weighs_4 : decode cX7_weighs 4 = .ok (.ifCond .eq 29, 3) := by decide +kernel
theorem dX7_weighs_7 : decode cX7_weighs 7 = .ok (.iload_n 2, 1) := by decide +kernel
theorem dX7_weighs_8 : decode cX7_weighs 8 = .ok (.invokestatic 136, 3) := by decide +kernel
theorem dX7_weighs_11 : decode cX7_weighs 11 = .ok (.ifCond .eq 22, 3) := by decide +kernel
theorem dX7_weighs_14 : decode cX7_weighs 14 = .ok (.iload_n 3, 1) := by decide +kernel
theorem dX7_weighs_15 : decode cX7_weighs 15 = .ok (.invokestatic 136, 3) := by decide +kernel
theorem dX7_weighs_18 : decode cX7_weighs 18 = .ok (.ifCond .eq 15, 3) := by decide +kernel
theorem dX7_weighs_21 : decode cX7_weighs 21 = .ok (.iload_n 1, 1) := by decide +kernel
theorem dX7_weighs_22 : decode cX7_weighs 22 = .ok (.ifCond .ne 14, 3) := by decide +kernel
theorem dX7_weighs_25 : decode cX7_weighs 25 = .ok (.iload_n 2, 1) := by decide +kernel
theorem dX7_weighs_26 : decode cX7_weighs 26 = .ok (.ifCond .ne 10, 3) := by decide +kernel
theorem dX7_weighs_29 : decode cX7_weighs 29 = .ok (.iload_n 3, 1) := by decide +kernel
theorem dX7_weighs_30 : decode cX7_weighs 30 = .ok (.ifCond .ne 6, 3) := by decide +kernel
theorem dX7_weighs_33 : decode cX7_weighs 33 = .ok (.bipush (-2), 2) := by decide +kernel
theorem dX7_weighs_35 : decode cX7_weighs 35 = .ok (.ireturn, 1) := by decide +kernel
theorem dX7_weighs_36 : decode cX7_weighs 36 = .ok (.iload 4, 2) := by decide +kernel
theorem dX7_weighs_38 : decode cX7_weighs 38 = .ok (.ifCond .lt 9, 3) := by decide +kernel
theorem dX7_weighs_41 : decode cX7_weighs 41 = .ok (.iload 4, 2) := by decide +kernel
theorem dX7_weighs_43 : decode cX7_weighs 43 = .ok (.iconst 2, 1) := by decide +kernel
theorem dX7_weighs_44 : decode cX7_weighs 44 = .ok (.if_icmp .le 5, 3) := by decide +kernel
theorem dX7_weighs_47 : decode cX7_weighs 47 = .ok (.iconst (-1), 1) := by decide +kernel
theorem dX7_weighs_48 : decode cX7_weighs 48 = .ok (.ireturn, 1) := by decide +kernel
theorem dX7_weighs_49 : decode cX7_weighs 49 = .ok (.aload_n 0, 1) := by decide +kernel
theorem dX7_weighs_50 : decode cX7_weighs 50 = .ok (.getfield 14, 3) := by decide +kernel
theorem dX7_weighs_53 : decode cX7_weighs 53 = .ok (.getfield 53, 3) := by decide +kernel
theorem dX7_weighs_56 : decode cX7_weighs 56 = .ok (.ifCond .ne 6, 3) := by decide +kernel
theorem dX7_weighs_59 : decode cX7_weighs 59 = .ok (.bipush (-3), 2) := by decide +kernel
theorem dX7_weighs_61 : decode cX7_weighs 61 = .ok (.ireturn, 1) := by decide +kernel
theorem dX7_weighs_62 : decode cX7_weighs 62 = .ok (.aload_n 0, 1) := by decide +kernel
theorem dX7_weighs_63 : decode cX7_weighs 63 = .ok (.getfield 14, 3) := by decide +kernel
theorem dX7_weighs_66 : decode cX7_weighs 66 = .ok (.getfield 53, 3) := by decide +kernel
theorem dX7_weighs_69 : decode cX7_weighs 69 = .ok (.iload_n 1, 1) := by decide +kernel
theorem dX7_weighs_70 : decode cX7_weighs 70 = .ok (.iload_n 2, 1) := by decide +kernel
theorem dX7_weighs_71 : decode cX7_weighs 71 = .ok (.iload_n 3, 1) := by decide +kernel
theorem dX7_weighs_72 : decode cX7_weighs 72 = .ok (.invokestatic 139, 3) := by decide +kernel
theorem dX7_weighs_75 : decode cX7_weighs 75 = .ok (.istore 5, 2) := by decide +kernel
theorem dX7_weighs_77 : decode cX7_weighs 77 = .ok (.iload 4, 2) := by decide +kernel
theorem dX7_weighs_79 : decode cX7_weighs 79 = .ok (.ifCond .ne 9, 3) := by decide +kernel
theorem dX7_weighs_82 : decode cX7_weighs 82 = .ok (.iload 5, 2) := by decide +kernel
theorem dX7_weighs_84 : decode cX7_weighs 84 = .ok (.bipush 100, 2) := by decide +kernel
theorem dX7_weighs_86 : decode cX7_weighs 86 = .ok (.iadd, 1) := by decide +kernel
theorem dX7_weighs_87 : decode cX7_weighs 87 = .ok (.ireturn, 1) := by decide +kernel
theorem dX7_weighs_88 : decode cX7_weighs 88 = .ok (.iload 4, 2) := by decide +kernel
theorem dX7_weighs_90 : decode cX7_weighs 90 = .ok (.iconst 1, 1) := by decide +kernel
theorem dX7_weighs_91 : decode cX7_weighs 91 = .ok (.if_icmp .ne 25, 3) := by decide +kernel
theorem dX7_weighs_94 : decode cX7_weighs 94 = .ok (.bipush 100, 2) := by decide +kernel
theorem dX7_weighs_96 : decode cX7_weighs 96 = .ok (.aload_n 0, 1) := by decide +kernel
theorem dX7_weighs_97 : decode cX7_weighs 97 = .ok (.getfield 14, 3) := by decide +kernel
theorem dX7_weighs_100 : decode cX7_weighs 100 = .ok (.getfield 53, 3) := by decide +kernel
theorem dX7_weighs_103 : decode cX7_weighs 103 = .ok (.iload_n 1, 1) := by decide +kernel
theorem dX7_weighs_104 : decode cX7_weighs 104 = .ok (.ineg, 1) := by decide +kernel
theorem dX7_weighs_105 : decode cX7_weighs 105 = .ok (.iload_n 2, 1) := by decide +kernel
theorem dX7_weighs_106 : decode cX7_weighs 106 = .ok (.ineg, 1) := by decide +kernel
theorem dX7_weighs_107 : decode cX7_weighs 107 = .ok (.iload_n 3, 1) := by decide +kernel
theorem dX7_weighs_108 : decode cX7_weighs 108 = .ok (.ineg, 1) := by decide +kernel
theorem dX7_weighs_109 : decode cX7_weighs 109 = .ok (.invokestatic 139, 3) := by decide +kernel
theorem dX7_weighs_112 : decode cX7_weighs 112 = .ok (.isub, 1) := by decide +kernel
theorem dX7_weighs_113 : decode cX7_weighs 113 = .ok (.goto 18, 3) := by decide +kernel
theorem dX7_weighs_116 : decode cX7_weighs 116 = .ok (.aload_n 0, 1) := by decide +kernel
theorem dX7_weighs_117 : decode cX7_weighs 117 = .ok (.getfield 14, 3) := by decide +kernel
theorem dX7_weighs_120 : decode cX7_weighs 120 = .ok (.getfield 53, 3) := by decide +kernel
theorem dX7_weighs_123 : decode cX7_weighs 123 = .ok (.iload_n 1, 1) := by decide +kernel
theorem dX7_weighs_124 : decode cX7_weighs 124 = .ok (.iload_n 2, 1) := by decide +kernel
theorem dX7_weighs_125 : decode cX7_weighs 125 = .ok (.iload_n 3, 1) := by decide +kernel
theorem dX7_weighs_126 : decode cX7_weighs 126 = .ok (.iload 5, 2) := by decide +kernel
theorem dX7_weighs_128 : decode cX7_weighs 128 = .ok (.invokestatic 143, 3) := by decide +kernel
theorem dX7_weighs_131 : decode cX7_weighs 131 = .ok (.ireturn, 1) := by decide +kernel
theorem dX7_face_0 : decode cX7_face 0 = .ok (.iload_n 1, 1) := by decide +kernel
theorem dX7_face_1 : decode cX7_face 1 = .ok (.ifCond .ge 7, 3) := by decide +kernel
theorem dX7_face_4 : decode cX7_face 4 = .ok (.iconst (-1), 1) := by decide +kernel
theorem dX7_face_5 : decode cX7_face 5 = .ok (.goto 18, 3) := by decide +kernel
theorem dX7_face_8 : decode cX7_face 8 = .ok (.aload_n 0, 1) := by decide +kernel
theorem dX7_face_9 : decode cX7_face 9 = .ok (.getfield 35, 3) := by decide +kernel
theorem dX7_face_12 : decode cX7_face 12 = .ok (.aload_n 0, 1) := by decide +kernel
theorem dX7_face_13 : decode cX7_face 13 = .ok (.getfield 14, 3) := by decide +kernel
theorem dX7_face_16 : decode cX7_face 16 = .ok (.getfield 53, 3) := by decide +kernel
theorem dX7_face_19 : decode cX7_face 19 = .ok (.iload_n 1, 1) := by decide +kernel
theorem dX7_face_20 : decode cX7_face 20 = .ok (.invokevirtual 147, 3) := by decide +kernel
theorem dX7_face_23 : decode cX7_face 23 = .ok (.ireturn, 1) := by decide +kernel
theorem dX7_edge_0 : decode cX7_edge 0 = .ok (.iload_n 1, 1) := by decide +kernel
theorem dX7_edge_1 : decode cX7_edge 1 = .ok (.invokestatic 46, 3) := by decide +kernel
theorem dX7_edge_4 : decode cX7_edge 4 = .ok (.ifCond .eq 10, 3) := by decide +kernel
theorem dX7_edge_7 : decode cX7_edge 7 = .ok (.iload_n 2, 1) := by decide +kernel
theorem dX7_edge_8 : decode cX7_edge 8 = .ok (.invokestatic 46, 3) := by decide +kernel
theorem dX7_edge_11 : decode cX7_edge 11 = .ok (.ifCond .ne 5, 3) := by decide +kernel
theorem dX7_edge_14 : decode cX7_edge 14 = .ok (.iconst (-1), 1) := by decide +kernel
theorem dX7_edge_15 : decode cX7_edge 15 = .ok (.ireturn, 1) := by decide +kernel
theorem dX7_edge_16 : decode cX7_edge 16 = .ok (.iload_n 1, 1) := by decide +kernel
theorem dX7_edge_17 : decode cX7_edge 17 = .ok (.iload_n 2, 1) := by decide +kernel
theorem dX7_edge_18 : decode cX7_edge 18 = .ok (.if_icmp .eq 31, 3) := by decide +kernel
theorem dX7_edge_21 : decode cX7_edge 21 = .ok (.aload_n 0, 1) := by decide +kernel
theorem dX7_edge_22 : decode cX7_edge 22 = .ok (.getfield 14, 3) := by decide +kernel
theorem dX7_edge_25 : decode cX7_edge 25 = .ok (.getfield 53, 3) := by decide +kernel
theorem dX7_edge_28 : decode cX7_edge 28 = .ok (.iload_n 1, 1) := by decide +kernel
theorem dX7_edge_29 : decode cX7_edge 29 = .ok (.invokestatic 57, 3) := by decide +kernel
theorem dX7_edge_32 : decode cX7_edge 32 = .ok (.ifCond .eq 17, 3) := by decide +kernel
theorem dX7_edge_35 : decode cX7_edge 35 = .ok (.aload_n 0, 1) := by decide +kernel
theorem dX7_edge_36 : decode cX7_edge 36 = .ok (.getfield 14, 3) := by decide +kernel
theorem dX7_edge_39 : decode cX7_edge 39 = .ok (.getfield 53, 3) := by decide +kernel
theorem dX7_edge_42 : decode cX7_edge 42 = .ok (.iload_n 2, 1) := by decide +kernel
theorem dX7_edge_43 : decode cX7_edge 43 = .ok (.invokestatic 57, 3) := by decide +kernel
theorem dX7_edge_46 : decode cX7_edge 46 = .ok (.ifCond .ne 6, 3) := by decide +kernel
theorem dX7_edge_49 : decode cX7_edge 49 = .ok (.bipush (-5), 2) := by decide +kernel
theorem dX7_edge_51 : decode cX7_edge 51 = .ok (.ireturn, 1) := by decide +kernel
theorem dX7_edge_52 : decode cX7_edge 52 = .ok (.aload_n 0, 1) := by decide +kernel
theorem dX7_edge_53 : decode cX7_edge 53 = .ok (.getfield 35, 3) := by decide +kernel
theorem dX7_edge_56 : decode cX7_edge 56 = .ok (.aload_n 0, 1) := by decide +kernel
theorem dX7_edge_57 : decode cX7_edge 57 = .ok (.getfield 14, 3) := by decide +kernel
theorem dX7_edge_60 : decode cX7_edge 60 = .ok (.getfield 53, 3) := by decide +kernel
theorem dX7_edge_63 : decode cX7_edge 63 = .ok (.iconst 1, 1) := by decide +kernel
theorem dX7_edge_64 : decode cX7_edge 64 = .ok (.iload_n 1, 1) := by decide +kernel
theorem dX7_edge_65 : decode cX7_edge 65 = .ok (.ishl, 1) := by decide +kernel
theorem dX7_edge_66 : decode cX7_edge 66 = .ok (.iconst 1, 1) := by decide +kernel
theorem dX7_edge_67 : decode cX7_edge 67 = .ok (.iload_n 2, 1) := by decide +kernel
theorem dX7_edge_68 : decode cX7_edge 68 = .ok (.ishl, 1) := by decide +kernel
theorem dX7_edge_69 : decode cX7_edge 69 = .ok (.ior, 1) := by decide +kernel
theorem dX7_edge_70 : decode cX7_edge 70 = .ok (.invokevirtual 150, 3) := by decide +kernel
theorem dX7_edge_73 : decode cX7_edge 73 = .ok (.ifCond .eq 7, 3) := by decide +kernel
theorem dX7_edge_76 : decode cX7_edge 76 = .ok (.iconst 1, 1) := by decide +kernel
theorem dX7_edge_77 : decode cX7_edge 77 = .ok (.goto 4, 3) := by decide +kernel
theorem dX7_edge_80 : decode cX7_edge 80 = .ok (.iconst 0, 1) := by decide +kernel
theorem dX7_edge_81 : decode cX7_edge 81 = .ok (.ireturn, 1) := by decide +kernel
theorem dX7_points_0 : decode cX7_points 0 = .ok (.iload_n 1, 1) := by decide +kernel
theorem dX7_points_1 : decode cX7_points 1 = .ok (.invokestatic 154, 3) := by decide +kernel
theorem dX7_points_4 : decode cX7_points 4 = .ok (.ifCond .ne 6, 3) := by decide +kernel
theorem dX7_points_7 : decode cX7_points 7 = .ok (.bipush (-2), 2) := by decide +kernel
theorem dX7_points_9 : decode cX7_points 9 = .ok (.ireturn, 1) := by decide +kernel
theorem dX7_points_10 : decode cX7_points 10 = .ok (.aload_n 0, 1) := by decide +kernel
theorem dX7_points_11 : decode cX7_points 11 = .ok (.getfield 14, 3) := by decide +kernel
theorem dX7_points_14 : decode cX7_points 14 = .ok (.getfield 53, 3) := by decide +kernel
theorem dX7_points_17 : decode cX7_points 17 = .ok (.ifCond .ne 8, 3) := by decide +kernel
theorem dX7_points_20 : decode cX7_points 20 = .ok (.bipush (-3), 2) := by decide +kernel
theorem dX7_points_22 : decode cX7_points 22 = .ok (.goto 18, 3) := by decide +kernel
theorem dX7_points_25 : decode cX7_points 25 = .ok (.aload_n 0, 1) := by decide +kernel
theorem dX7_points_26 : decode cX7_points 26 = .ok (.getfield 35, 3) := by decide +kernel
theorem dX7_points_29 : decode cX7_points 29 = .ok (.aload_n 0, 1) := by decide +kernel
theorem dX7_points_30 : decode cX7_points 30 = .ok (.getfield 14, 3) := by decide +kernel
theorem dX7_points_33 : decode cX7_points 33 = .ok (.getfield 53, 3) := by decide +kernel
theorem dX7_points_36 : decode cX7_points 36 = .ok (.iload_n 1, 1) := by decide +kernel
theorem dX7_points_37 : decode cX7_points 37 = .ok (.invokevirtual 157, 3) := by decide +kernel
theorem dX7_points_40 : decode cX7_points 40 = .ok (.ireturn, 1) := by decide +kernel
theorem dX7_holds_0 : decode cX7_holds 0 = .ok (.iload_n 1, 1) := by decide +kernel
theorem dX7_holds_1 : decode cX7_holds 1 = .ok (.invokestatic 154, 3) := by decide +kernel
theorem dX7_holds_4 : decode cX7_holds 4 = .ok (.ifCond .eq 25, 3) := by decide +kernel
theorem dX7_holds_7 : decode cX7_holds 7 = .ok (.iload_n 2, 1) := by decide +kernel
theorem dX7_holds_8 : decode cX7_holds 8 = .ok (.invokestatic 160, 3) := by decide +kernel
theorem dX7_holds_11 : decode cX7_holds 11 = .ok (.ifCond .eq 18, 3) := by decide +kernel
theorem dX7_holds_14 : decode cX7_holds 14 = .ok (.iload_n 3, 1) := by decide +kernel
theorem dX7_holds_15 : decode cX7_holds 15 = .ok (.invokestatic 160, 3) := by decide +kernel
theorem dX7_holds_18 : decode cX7_holds 18 = .ok (.ifCond .eq 11, 3) := by decide +kernel
theorem dX7_holds_21 : decode cX7_holds 21 = .ok (.iload 4, 2) := by decide +kernel
theorem dX7_holds_23 : decode cX7_holds 23 = .ok (.invokestatic 160, 3) := by decide +kernel
theorem dX7_holds_26 : decode cX7_holds 26 = .ok (.ifCond .ne 6, 3) := by decide +kernel
theorem dX7_holds_29 : decode cX7_holds 29 = .ok (.bipush (-2), 2) := by decide +kernel
theorem dX7_holds_31 : decode cX7_holds 31 = .ok (.ireturn, 1) := by decide +kernel
theorem dX7_holds_32 : decode cX7_holds 32 = .ok (.aload_n 0, 1) := by decide +kernel
theorem dX7_holds_33 : decode cX7_holds 33 = .ok (.getfield 14, 3) := by decide +kernel
theorem dX7_holds_36 : decode cX7_holds 36 = .ok (.getfield 53, 3) := by decide +kernel
theorem dX7_holds_39 : decode cX7_holds 39 = .ok (.ifCond .ne 6, 3) := by decide +kernel
theorem dX7_holds_42 : decode cX7_holds 42 = .ok (.bipush (-3), 2) := by decide +kernel
theorem dX7_holds_44 : decode cX7_holds 44 = .ok (.ireturn, 1) := by decide +kernel
theorem dX7_holds_45 : decode cX7_holds 45 = .ok (.aload_n 0, 1) := by decide +kernel
theorem dX7_holds_46 : decode cX7_holds 46 = .ok (.getfield 35, 3) := by decide +kernel
theorem dX7_holds_49 : decode cX7_holds 49 = .ok (.aload_n 0, 1) := by decide +kernel
theorem dX7_holds_50 : decode cX7_holds 50 = .ok (.getfield 14, 3) := by decide +kernel
theorem dX7_holds_53 : decode cX7_holds 53 = .ok (.getfield 53, 3) := by decide +kernel
theorem dX7_holds_56 : decode cX7_holds 56 = .ok (.iload_n 1, 1) := by decide +kernel
theorem dX7_holds_57 : decode cX7_holds 57 = .ok (.iload_n 2, 1) := by decide +kernel
theorem dX7_holds_58 : decode cX7_holds 58 = .ok (.iload_n 3, 1) := by decide +kernel
theorem dX7_holds_59 : decode cX7_holds 59 = .ok (.iload 4, 2) := by decide +kernel
theorem dX7_holds_61 : decode cX7_holds 61 = .ok (.invokevirtual 163, 3) := by decide +kernel
theorem dX7_holds_64 : decode cX7_holds 64 = .ok (.ifCond .eq 7, 3) := by decide +kernel
theorem dX7_holds_67 : decode cX7_holds 67 = .ok (.iconst 1, 1) := by decide +kernel
theorem dX7_holds_68 : decode cX7_holds 68 = .ok (.goto 4, 3) := by decide +kernel
theorem dX7_holds_71 : decode cX7_holds 71 = .ok (.iconst 0, 1) := by decide +kernel
theorem dX7_holds_72 : decode cX7_holds 72 = .ok (.ireturn, 1) := by decide +kernel
theorem dX7_floats_0 : decode cX7_floats 0 = .ok (.iload_n 1, 1) := by decide +kernel
theorem dX7_floats_1 : decode cX7_floats 1 = .ok (.ifCond .lt 8, 3) := by decide +kernel
theorem dX7_floats_4 : decode cX7_floats 4 = .ok (.iload_n 1, 1) := by decide +kernel
theorem dX7_floats_5 : decode cX7_floats 5 = .ok (.iconst 3, 1) := by decide +kernel
theorem dX7_floats_6 : decode cX7_floats 6 = .ok (.if_icmp .le 5, 3) := by decide +kernel
theorem dX7_floats_9 : decode cX7_floats 9 = .ok (.iconst (-1), 1) := by decide +kernel
theorem dX7_floats_10 : decode cX7_floats 10 = .ok (.ireturn, 1) := by decide +kernel
theorem dX7_floats_11 : decode cX7_floats 11 = .ok (.aload_n 0, 1) := by decide +kernel
theorem dX7_floats_12 : decode cX7_floats 12 = .ok (.getfield 14, 3) := by decide +kernel
theorem dX7_floats_15 : decode cX7_floats 15 = .ok (.getfield 53, 3) := by decide +kernel
theorem dX7_floats_18 : decode cX7_floats 18 = .ok (.ifCond .ne 6, 3) := by decide +kernel
theorem dX7_floats_21 : decode cX7_floats 21 = .ok (.bipush (-3), 2) := by decide +kernel
theorem dX7_floats_23 : decode cX7_floats 23 = .ok (.ireturn, 1) := by decide +kernel
theorem dX7_floats_24 : decode cX7_floats 24 = .ok (.iload_n 1, 1) := by decide +kernel
theorem dX7_floats_25 : decode cX7_floats 25 = .ok (.iconst 3, 1) := by decide +kernel
theorem dX7_floats_26 : decode cX7_floats 26 = .ok (.if_icmp .ne 20, 3) := by decide +kernel
theorem dX7_floats_29 : decode cX7_floats 29 = .ok (.aload_n 0, 1) := by decide +kernel
theorem dX7_floats_30 : decode cX7_floats 30 = .ok (.getfield 35, 3) := by decide +kernel
theorem dX7_floats_33 : decode cX7_floats 33 = .ok (.aload_n 0, 1) := by decide +kernel
theorem dX7_floats_34 : decode cX7_floats 34 = .ok (.getfield 14, 3) := by decide +kernel
theorem dX7_floats_37 : decode cX7_floats 37 = .ok (.getfield 53, 3) := by decide +kernel
theorem dX7_floats_40 : decode cX7_floats 40 = .ok (.invokevirtual 167, 3) := by decide +kernel
theorem dX7_floats_43 : decode cX7_floats 43 = .ok (.goto 14, 3) := by decide +kernel
theorem dX7_floats_46 : decode cX7_floats 46 = .ok (.aload_n 0, 1) := by decide +kernel
theorem dX7_floats_47 : decode cX7_floats 47 = .ok (.getfield 14, 3) := by decide +kernel
theorem dX7_floats_50 : decode cX7_floats 50 = .ok (.getfield 53, 3) := by decide +kernel
theorem dX7_floats_53 : decode cX7_floats 53 = .ok (.iload_n 1, 1) := by decide +kernel
theorem dX7_floats_54 : decode cX7_floats 54 = .ok (.invokestatic 171, 3) := by decide +kernel
theorem dX7_floats_57 : decode cX7_floats 57 = .ok (.invokestatic 175, 3) := by decide +kernel
theorem dX7_floats_60 : decode cX7_floats 60 = .ok (.ireturn, 1) := by decide +kernel
theorem dX7_spread_0 : decode cX7_spread 0 = .ok (.aload_n 0, 1) := by decide +kernel
theorem dX7_spread_1 : decode cX7_spread 1 = .ok (.getfield 14, 3) := by decide +kernel
theorem dX7_spread_4 : decode cX7_spread 4 = .ok (.getfield 53, 3) := by decide +kernel
theorem dX7_spread_7 : decode cX7_spread 7 = .ok (.ifCond .ne 9, 3) := by decide +kernel
theorem dX7_spread_10 : decode cX7_spread 10 = .ok (.ldc2_w 181, 3) := by decide +kernel
theorem dX7_spread_13 : decode cX7_spread 13 = .ok (.goto 16, 3) := by decide +kernel
theorem dX7_spread_16 : decode cX7_spread 16 = .ok (.aload_n 0, 1) := by decide +kernel
theorem dX7_spread_17 : decode cX7_spread 17 = .ok (.getfield 14, 3) := by decide +kernel
theorem dX7_spread_20 : decode cX7_spread 20 = .ok (.getfield 53, 3) := by decide +kernel
theorem dX7_spread_23 : decode cX7_spread 23 = .ok (.invokestatic 183, 3) := by decide +kernel
theorem dX7_spread_26 : decode cX7_spread 26 = .ok (.invokestatic 187, 3) := by decide +kernel
theorem dX7_spread_29 : decode cX7_spread 29 = .ok (.lreturn, 1) := by decide +kernel
theorem dX7_see_0 : decode cX7_see 0 = .ok (.iload_n 1, 1) := by decide +kernel
theorem dX7_see_1 : decode cX7_see 1 = .ok (.iconst (-1), 1) := by decide +kernel
theorem dX7_see_2 : decode cX7_see 2 = .ok (.if_icmp .ne 14, 3) := by decide +kernel
theorem dX7_see_5 : decode cX7_see 5 = .ok (.aload_n 0, 1) := by decide +kernel
theorem dX7_see_6 : decode cX7_see 6 = .ok (.getfield 14, 3) := by decide +kernel
theorem dX7_see_9 : decode cX7_see 9 = .ok (.getfield 191, 3) := by decide +kernel
theorem dX7_see_12 : decode cX7_see 12 = .ok (.invokevirtual 195, 3) := by decide +kernel
theorem dX7_see_15 : decode cX7_see 15 = .ok (.ireturn, 1) := by decide +kernel
theorem dX7_see_16 : decode cX7_see 16 = .ok (.iload_n 1, 1) := by decide +kernel
theorem dX7_see_17 : decode cX7_see 17 = .ok (.ifCond .lt 8, 3) := by decide +kernel
theorem dX7_see_20 : decode cX7_see 20 = .ok (.iload_n 1, 1) := by decide +kernel
theorem dX7_see_21 : decode cX7_see 21 = .ok (.iconst 3, 1) := by decide +kernel
theorem dX7_see_22 : decode cX7_see 22 = .ok (.if_icmp .le 5, 3) := by decide +kernel
theorem dX7_see_25 : decode cX7_see 25 = .ok (.iconst (-1), 1) := by decide +kernel
theorem dX7_see_26 : decode cX7_see 26 = .ok (.ireturn, 1) := by decide +kernel
theorem dX7_see_27 : decode cX7_see 27 = .ok (.iload_n 2, 1) := by decide +kernel
theorem dX7_see_28 : decode cX7_see 28 = .ok (.ifCond .lt 9, 3) := by decide +kernel
theorem dX7_see_31 : decode cX7_see 31 = .ok (.iload_n 2, 1) := by decide +kernel
theorem dX7_see_32 : decode cX7_see 32 = .ok (.bipush 99, 2) := by decide +kernel
theorem dX7_see_34 : decode cX7_see 34 = .ok (.if_icmp .le 6, 3) := by decide +kernel
theorem dX7_see_37 : decode cX7_see 37 = .ok (.bipush (-2), 2) := by decide +kernel
theorem dX7_see_39 : decode cX7_see 39 = .ok (.ireturn, 1) := by decide +kernel
theorem dX7_see_40 : decode cX7_see 40 = .ok (.aload_n 0, 1) := by decide +kernel
theorem dX7_see_41 : decode cX7_see 41 = .ok (.getfield 14, 3) := by decide +kernel
theorem dX7_see_44 : decode cX7_see 44 = .ok (.getfield 191, 3) := by decide +kernel
theorem dX7_see_47 : decode cX7_see 47 = .ok (.iload_n 1, 1) := by decide +kernel
theorem dX7_see_48 : decode cX7_see 48 = .ok (.iload_n 2, 1) := by decide +kernel
theorem dX7_see_49 : decode cX7_see 49 = .ok (.iconst 4, 1) := by decide +kernel
theorem dX7_see_50 : decode cX7_see 50 = .ok (.invokevirtual 200, 3) := by decide +kernel
theorem dX7_see_53 : decode cX7_see 53 = .ok (.ireturn, 1) := by decide +kernel
theorem dX7_fits_0 : decode cX7_fits 0 = .ok (.iconst 0, 1) := by decide +kernel
theorem dX7_fits_1 : decode cX7_fits 1 = .ok (.istore_n 1, 1) := by decide +kernel
theorem dX7_fits_2 : decode cX7_fits 2 = .ok (.iconst 0, 1) := by decide +kernel
theorem dX7_fits_3 : decode cX7_fits 3 = .ok (.istore_n 2, 1) := by decide +kernel
theorem dX7_fits_4 : decode cX7_fits 4 = .ok (.iload_n 2, 1) := by decide +kernel
theorem dX7_fits_5 : decode cX7_fits 5 = .ok (.bipush 8, 2) := by decide +kernel
theorem dX7_fits_7 : decode cX7_fits 7 = .ok (.if_icmp .ge 33, 3) := by decide +kernel
theorem dX7_fits_10 : decode cX7_fits 10 = .ok (.aload_n 0, 1) := by decide +kernel
theorem dX7_fits_11 : decode cX7_fits 11 = .ok (.aload_n 0, 1) := by decide +kernel
theorem dX7_fits_12 : decode cX7_fits 12 = .ok (.getfield 14, 3) := by decide +kernel
theorem dX7_fits_15 : decode cX7_fits 15 = .ok (.getfield 53, 3) := by decide +kernel
theorem dX7_fits_18 : decode cX7_fits 18 = .ok (.iconst 1, 1) := by decide +kernel
theorem dX7_fits_19 : decode cX7_fits 19 = .ok (.iload_n 2, 1) := by decide +kernel
theorem dX7_fits_20 : decode cX7_fits 20 = .ok (.ishl, 1) := by decide +kernel
theorem dX7_fits_21 : decode cX7_fits 21 = .ok (.ixor, 1) := by decide +kernel
theorem dX7_fits_22 : decode cX7_fits 22 = .ok (.invokevirtual 203, 3) := by decide +kernel
theorem dX7_fits_25 : decode cX7_fits 25 = .ok (.ifCond .eq 9, 3) := by decide +kernel
theorem dX7_fits_28 : decode cX7_fits 28 = .ok (.iload_n 1, 1) := by decide +kernel
theorem dX7_fits_29 : decode cX7_fits 29 = .ok (.iconst 1, 1) := by decide +kernel
theorem dX7_fits_30 : decode cX7_fits 30 = .ok (.iload_n 2, 1) := by decide +kernel
theorem dX7_fits_31 : decode cX7_fits 31 = .ok (.ishl, 1) := by decide +kernel
theorem dX7_fits_32 : decode cX7_fits 32 = .ok (.ior, 1) := by decide +kernel
theorem dX7_fits_33 : decode cX7_fits 33 = .ok (.istore_n 1, 1) := by decide +kernel
theorem dX7_fits_34 : decode cX7_fits 34 = .ok (.iinc 2 1, 3) := by decide +kernel
theorem dX7_fits_37 : decode cX7_fits 37 = .ok (.goto (-33), 3) := by decide +kernel
theorem dX7_fits_40 : decode cX7_fits 40 = .ok (.iload_n 1, 1) := by decide +kernel
theorem dX7_fits_41 : decode cX7_fits 41 = .ok (.ireturn, 1) := by decide +kernel
theorem dX7_allSeenIn_0 : decode cX7_allSeenIn 0 = .ok (.iconst 0, 1) := by decide +kernel
theorem dX7_allSeenIn_1 : decode cX7_allSeenIn 1 = .ok (.istore_n 2, 1) := by decide +kernel
theorem dX7_allSeenIn_2 : decode cX7_allSeenIn 2 = .ok (.iload_n 2, 1) := by decide +kernel
theorem dX7_allSeenIn_3 : decode cX7_allSeenIn 3 = .ok (.aload_n 0, 1) := by decide +kernel
theorem dX7_allSeenIn_4 : decode cX7_allSeenIn 4 = .ok (.getfield 14, 3) := by decide +kernel
theorem dX7_allSeenIn_7 : decode cX7_allSeenIn 7 = .ok (.getfield 191, 3) := by decide +kernel
theorem dX7_allSeenIn_10 : decode cX7_allSeenIn 10 = .ok (.getfield 206, 3) := by decide +kernel
theorem dX7_allSeenIn_13 : decode cX7_allSeenIn 13 = .ok (.if_icmp .ge 41, 3) := by decide +kernel
theorem dX7_allSeenIn_16 : decode cX7_allSeenIn 16 = .ok (.aload_n 0, 1) := by decide +kernel
theorem dX7_allSeenIn_17 : decode cX7_allSeenIn 17 = .ok (.iload_n 1, 1) := by decide +kernel
theorem dX7_allSeenIn_18 : decode cX7_allSeenIn 18 = .ok (.aload_n 0, 1) := by decide +kernel
theorem dX7_allSeenIn_19 : decode cX7_allSeenIn 19 = .ok (.getfield 14, 3) := by decide +kernel
theorem dX7_allSeenIn_22 : decode cX7_allSeenIn 22 = .ok (.getfield 191, 3) := by decide +kernel
theorem dX7_allSeenIn_25 : decode cX7_allSeenIn 25 = .ok (.iload_n 2, 1) := by decide +kernel
theorem dX7_allSeenIn_26 : decode cX7_allSeenIn 26 = .ok (.invokevirtual 207, 3) := by decide +kernel
theorem dX7_allSeenIn_29 : decode cX7_allSeenIn 29 = .ok (.invokevirtual 210, 3) := by decide +kernel
theorem dX7_allSeenIn_32 : decode cX7_allSeenIn 32 = .ok (.aload_n 0, 1) := by decide +kernel
theorem dX7_allSeenIn_33 : decode cX7_allSeenIn 33 = .ok (.getfield 14, 3) := by decide +kernel
theorem dX7_allSeenIn_36 : decode cX7_allSeenIn 36 = .ok (.getfield 191, 3) := by decide +kernel
theorem dX7_allSeenIn_39 : decode cX7_allSeenIn 39 = .ok (.iload_n 2, 1) := by decide +kernel
theorem dX7_allSeenIn_40 : decode cX7_allSeenIn 40 = .ok (.invokevirtual 213, 3) := by decide +kernel
theorem dX7_allSeenIn_43 : decode cX7_allSeenIn 43 = .ok (.if_icmp .eq 5, 3) := by decide +kernel
theorem dX7_allSeenIn_46 : decode cX7_allSeenIn 46 = .ok (.iconst 0, 1) := by decide +kernel
theorem dX7_allSeenIn_47 : decode cX7_allSeenIn 47 = .ok (.ireturn, 1) := by decide +kernel
theorem dX7_allSeenIn_48 : decode cX7_allSeenIn 48 = .ok (.iinc 2 1, 3) := by decide +kernel
theorem dX7_allSeenIn_51 : decode cX7_allSeenIn 51 = .ok (.goto (-49), 3) := by decide +kernel
theorem dX7_allSeenIn_54 : decode cX7_allSeenIn 54 = .ok (.iconst 1, 1) := by decide +kernel
theorem dX7_allSeenIn_55 : decode cX7_allSeenIn 55 = .ok (.ireturn, 1) := by decide +kernel
theorem dX7_sightOf_0 : decode cX7_sightOf 0 = .ok (.iload_n 2, 1) := by decide +kernel
theorem dX7_sightOf_1 : decode cX7_sightOf 1 = .ok (.tableswitch 50 0 2 #[27, 32, 41], 27) := by decide +kernel
theorem dX7_sightOf_28 : decode cX7_sightOf 28 = .ok (.iload_n 1, 1) := by decide +kernel
theorem dX7_sightOf_29 : decode cX7_sightOf 29 = .ok (.invokestatic 91, 3) := by decide +kernel
theorem dX7_sightOf_32 : decode cX7_sightOf 32 = .ok (.ireturn, 1) := by decide +kernel
theorem dX7_sightOf_33 : decode cX7_sightOf 33 = .ok (.aload_n 0, 1) := by decide +kernel
theorem dX7_sightOf_34 : decode cX7_sightOf 34 = .ok (.getfield 35, 3) := by decide +kernel
theorem dX7_sightOf_37 : decode cX7_sightOf 37 = .ok (.iload_n 1, 1) := by decide +kernel
theorem dX7_sightOf_38 : decode cX7_sightOf 38 = .ok (.invokevirtual 120, 3) := by decide +kernel
theorem dX7_sightOf_41 : decode cX7_sightOf 41 = .ok (.ireturn, 1) := by decide +kernel
theorem dX7_sightOf_42 : decode cX7_sightOf 42 = .ok (.aload_n 0, 1) := by decide +kernel
theorem dX7_sightOf_43 : decode cX7_sightOf 43 = .ok (.getfield 35, 3) := by decide +kernel
theorem dX7_sightOf_46 : decode cX7_sightOf 46 = .ok (.iload_n 1, 1) := by decide +kernel
theorem dX7_sightOf_47 : decode cX7_sightOf 47 = .ok (.invokevirtual 111, 3) := by decide +kernel
theorem dX7_sightOf_50 : decode cX7_sightOf 50 = .ok (.ireturn, 1) := by decide +kernel
theorem dX7_sightOf_51 : decode cX7_sightOf 51 = .ok (.iload_n 1, 1) := by decide +kernel
theorem dX7_sightOf_52 : decode cX7_sightOf 52 = .ok (.invokestatic 99, 3) := by decide +kernel
theorem dX7_sightOf_55 : decode cX7_sightOf 55 = .ok (.ireturn, 1) := by decide +kernel
theorem dX7_odds_0 : decode cX7_odds 0 = .ok (.iload_n 1, 1) := by decide +kernel
theorem dX7_odds_1 : decode cX7_odds 1 = .ok (.invokestatic 46, 3) := by decide +kernel
theorem dX7_odds_4 : decode cX7_odds 4 = .ok (.ifCond .eq 10, 3) := by decide +kernel
theorem dX7_odds_7 : decode cX7_odds 7 = .ok (.iload_n 2, 1) := by decide +kernel
theorem dX7_odds_8 : decode cX7_odds 8 = .ok (.invokestatic 50, 3) := by decide +kernel
theorem dX7_odds_11 : decode cX7_odds 11 = .ok (.ifCond .ne 7, 3) := by decide +kernel
theorem dX7_odds_14 : decode cX7_odds 14 = .ok (.ldc2_w 181, 3) := by decide +kernel
theorem dX7_odds_17 : decode cX7_odds 17 = .ok (.lreturn, 1) := by decide +kernel
theorem dX7_odds_18 : decode cX7_odds 18 = .ok (.aload_n 0, 1) := by decide +kernel
theorem dX7_odds_19 : decode cX7_odds 19 = .ok (.getfield 14, 3) := by decide +kernel
theorem dX7_odds_22 : decode cX7_odds 22 = .ok (.getfield 53, 3) := by decide +kernel
theorem dX7_odds_25 : decode cX7_odds 25 = .ok (.iconst 1, 1) := by decide +kernel
theorem dX7_odds_26 : decode cX7_odds 26 = .ok (.iload_n 1, 1) := by decide +kernel
theorem dX7_odds_27 : decode cX7_odds 27 = .ok (.ishl, 1) := by decide +kernel
theorem dX7_odds_28 : decode cX7_odds 28 = .ok (.invokestatic 216, 3) := by decide +kernel
theorem dX7_odds_31 : decode cX7_odds 31 = .ok (.iload_n 2, 1) := by decide +kernel
theorem dX7_odds_32 : decode cX7_odds 32 = .ok (.invokestatic 219, 3) := by decide +kernel
theorem dX7_odds_35 : decode cX7_odds 35 = .ok (.lreturn, 1) := by decide +kernel
theorem dX7_mean_0 : decode cX7_mean 0 = .ok (.iload_n 1, 1) := by decide +kernel
theorem dX7_mean_1 : decode cX7_mean 1 = .ok (.invokestatic 50, 3) := by decide +kernel
theorem dX7_mean_4 : decode cX7_mean 4 = .ok (.ifCond .eq 27, 3) := by decide +kernel
theorem dX7_mean_7 : decode cX7_mean 7 = .ok (.aload_n 0, 1) := by decide +kernel
theorem dX7_mean_8 : decode cX7_mean 8 = .ok (.getfield 14, 3) := by decide +kernel
theorem dX7_mean_11 : decode cX7_mean 11 = .ok (.getfield 53, 3) := by decide +kernel
theorem dX7_mean_14 : decode cX7_mean 14 = .ok (.aload_n 0, 1) := by decide +kernel
theorem dX7_mean_15 : decode cX7_mean 15 = .ok (.getfield 14, 3) := by decide +kernel
theorem dX7_mean_18 : decode cX7_mean 18 = .ok (.getfield 73, 3) := by decide +kernel
theorem dX7_mean_21 : decode cX7_mean 21 = .ok (.invokestatic 216, 3) := by decide +kernel
theorem dX7_mean_24 : decode cX7_mean 24 = .ok (.iload_n 1, 1) := by decide +kernel
theorem dX7_mean_25 : decode cX7_mean 25 = .ok (.invokestatic 219, 3) := by decide +kernel
theorem dX7_mean_28 : decode cX7_mean 28 = .ok (.goto 6, 3) := by decide +kernel
theorem dX7_mean_31 : decode cX7_mean 31 = .ok (.ldc2_w 181, 3) := by decide +kernel
theorem dX7_mean_34 : decode cX7_mean 34 = .ok (.lreturn, 1) := by decide +kernel
theorem dX7_lowestOfMoves_0 : decode cX7_lowestOfMoves 0 = .ok (.iload_n 0, 1) := by decide +kernel
theorem dX7_lowestOfMoves_1 : decode cX7_lowestOfMoves 1 = .ok (.bipush 48, 2) := by decide +kernel
theorem dX7_lowestOfMoves_3 : decode cX7_lowestOfMoves 3 = .ok (.invokestatic 223, 3) := by decide +kernel
theorem dX7_lowestOfMoves_6 : decode cX7_lowestOfMoves 6 = .ok (.istore_n 2, 1) := by decide +kernel
theorem dX7_lowestOfMoves_7 : decode cX7_lowestOfMoves 7 = .ok (.iload_n 2, 1) := by decide +kernel
theorem dX7_lowestOfMoves_8 : decode cX7_lowestOfMoves 8 = .ok (.iconst 1, 1) := by decide +kernel
theorem dX7_lowestOfMoves_9 : decode cX7_lowestOfMoves 9 = .ok (.if_icmp .ge 7, 3) := by decide +kernel
theorem dX7_lowestOfMoves_12 : decode cX7_lowestOfMoves 12 = .ok (.ldc2_w 181, 3) := by decide +kernel
theorem dX7_lowestOfMoves_15 : decode cX7_lowestOfMoves 15 = .ok (.lreturn, 1) := by decide +kernel
theorem dX7_lowestOfMoves_16 : decode cX7_lowestOfMoves 16 = .ok (.iload_n 1, 1) := by decide +kernel
theorem dX7_lowestOfMoves_17 : decode cX7_lowestOfMoves 17 = .ok (.ifCond .ne 10, 3) := by decide +kernel
theorem dX7_lowestOfMoves_20 : decode cX7_lowestOfMoves 20 = .ok (.iload_n 0, 1) := by decide +kernel
theorem dX7_lowestOfMoves_21 : decode cX7_lowestOfMoves 21 = .ok (.iload_n 2, 1) := by decide +kernel
theorem dX7_lowestOfMoves_22 : decode cX7_lowestOfMoves 22 = .ok (.idiv, 1) := by decide +kernel
theorem dX7_lowestOfMoves_23 : decode cX7_lowestOfMoves 23 = .ok (.i2l, 1) := by decide +kernel
theorem dX7_lowestOfMoves_24 : decode cX7_lowestOfMoves 24 = .ok (.goto 8, 3) := by decide +kernel
theorem dX7_lowestOfMoves_27 : decode cX7_lowestOfMoves 27 = .ok (.bipush 48, 2) := by decide +kernel
theorem dX7_lowestOfMoves_29 : decode cX7_lowestOfMoves 29 = .ok (.iload_n 2, 1) := by decide +kernel
theorem dX7_lowestOfMoves_30 : decode cX7_lowestOfMoves 30 = .ok (.idiv, 1) := by decide +kernel
theorem dX7_lowestOfMoves_31 : decode cX7_lowestOfMoves 31 = .ok (.i2l, 1) := by decide +kernel
theorem dX7_lowestOfMoves_32 : decode cX7_lowestOfMoves 32 = .ok (.lreturn, 1) := by decide +kernel
theorem dX7_commonDivisor_0 : decode cX7_commonDivisor 0 = .ok (.iload_n 0, 1) := by decide +kernel
theorem dX7_commonDivisor_1 : decode cX7_commonDivisor 1 = .ok (.istore_n 2, 1) := by decide +kernel
theorem dX7_commonDivisor_2 : decode cX7_commonDivisor 2 = .ok (.iload_n 1, 1) := by decide +kernel
theorem dX7_commonDivisor_3 : decode cX7_commonDivisor 3 = .ok (.istore_n 3, 1) := by decide +kernel
theorem dX7_commonDivisor_4 : decode cX7_commonDivisor 4 = .ok (.iconst 0, 1) := by decide +kernel
theorem dX7_commonDivisor_5 : decode cX7_commonDivisor 5 = .ok (.istore 4, 2) := by decide +kernel
theorem dX7_commonDivisor_7 : decode cX7_commonDivisor 7 = .ok (.iload 4, 2) := by decide +kernel
theorem dX7_commonDivisor_9 : decode cX7_commonDivisor 9 = .ok (.bipush 100, 2) := by decide +kernel
theorem dX7_commonDivisor_11 : decode cX7_commonDivisor 11 = .ok (.if_icmp .ge 23, 3) := by decide +kernel
theorem dX7_commonDivisor_14 : decode cX7_commonDivisor 14 = .ok (.iload_n 3, 1) := by decide +kernel
theorem dX7_commonDivisor_15 : decode cX7_commonDivisor 15 = .ok (.ifCond .eq 19, 3) := by decide +kernel
theorem dX7_commonDivisor_18 : decode cX7_commonDivisor 18 = .ok (.iload_n 2, 1) := by decide +kernel
theorem dX7_commonDivisor_19 : decode cX7_commonDivisor 19 = .ok (.iload_n 3, 1) := by decide +kernel
theorem dX7_commonDivisor_20 : decode cX7_commonDivisor 20 = .ok (.irem, 1) := by decide +kernel
theorem dX7_commonDivisor_21 : decode cX7_commonDivisor 21 = .ok (.istore 5, 2) := by decide +kernel
theorem dX7_commonDivisor_23 : decode cX7_commonDivisor 23 = .ok (.iload_n 3, 1) := by decide +kernel
theorem dX7_commonDivisor_24 : decode cX7_commonDivisor 24 = .ok (.istore_n 2, 1) := by decide +kernel
theorem dX7_commonDivisor_25 : decode cX7_commonDivisor 25 = .ok (.iload 5, 2) := by decide +kernel
theorem dX7_commonDivisor_27 : decode cX7_commonDivisor 27 = .ok (.istore_n 3, 1) := by decide +kernel
theorem dX7_commonDivisor_28 : decode cX7_commonDivisor 28 = .ok (.iinc 4 1, 3) := by decide +kernel
theorem dX7_commonDivisor_31 : decode cX7_commonDivisor 31 = .ok (.goto (-24), 3) := by decide +kernel
theorem dX7_commonDivisor_34 : decode cX7_commonDivisor 34 = .ok (.iload_n 2, 1) := by decide +kernel
theorem dX7_commonDivisor_35 : decode cX7_commonDivisor 35 = .ok (.ireturn, 1) := by decide +kernel
theorem dX7_event_0 : decode cX7_event 0 = .ok (.iload_n 1, 1) := by decide +kernel
theorem dX7_event_1 : decode cX7_event 1 = .ok (.tableswitch 118 (-1) 2 #[31, 42, 68, 94], 31) := by decide +kernel
theorem dX7_event_32 : decode cX7_event 32 = .ok (.aload_n 0, 1) := by decide +kernel
theorem dX7_event_33 : decode cX7_event 33 = .ok (.getfield 14, 3) := by decide +kernel
theorem dX7_event_36 : decode cX7_event 36 = .ok (.getfield 226, 3) := by decide +kernel
theorem dX7_event_39 : decode cX7_event 39 = .ok (.invokevirtual 195, 3) := by decide +kernel
theorem dX7_event_42 : decode cX7_event 42 = .ok (.ireturn, 1) := by decide +kernel
theorem dX7_event_43 : decode cX7_event 43 = .ok (.iload_n 2, 1) := by decide +kernel
theorem dX7_event_44 : decode cX7_event 44 = .ok (.invokestatic 46, 3) := by decide +kernel
theorem dX7_event_47 : decode cX7_event 47 = .ok (.ifCond .eq 20, 3) := by decide +kernel
theorem dX7_event_50 : decode cX7_event 50 = .ok (.aload_n 0, 1) := by decide +kernel
theorem dX7_event_51 : decode cX7_event 51 = .ok (.getfield 14, 3) := by decide +kernel
theorem dX7_event_54 : decode cX7_event 54 = .ok (.getfield 226, 3) := by decide +kernel
theorem dX7_event_57 : decode cX7_event 57 = .ok (.iload_n 1, 1) := by decide +kernel
theorem dX7_event_58 : decode cX7_event 58 = .ok (.iload_n 2, 1) := by decide +kernel
theorem dX7_event_59 : decode cX7_event 59 = .ok (.bipush 8, 2) := by decide +kernel
theorem dX7_event_61 : decode cX7_event 61 = .ok (.invokevirtual 200, 3) := by decide +kernel
theorem dX7_event_64 : decode cX7_event 64 = .ok (.goto 4, 3) := by decide +kernel
theorem dX7_event_67 : decode cX7_event 67 = .ok (.iconst (-1), 1) := by decide +kernel
theorem dX7_event_68 : decode cX7_event 68 = .ok (.ireturn, 1) := by decide +kernel
theorem dX7_event_69 : decode cX7_event 69 = .ok (.iload_n 2, 1) := by decide +kernel
theorem dX7_event_70 : decode cX7_event 70 = .ok (.invokestatic 61, 3) := by decide +kernel
theorem dX7_event_73 : decode cX7_event 73 = .ok (.ifCond .eq 20, 3) := by decide +kernel
theorem dX7_event_76 : decode cX7_event 76 = .ok (.aload_n 0, 1) := by decide +kernel
theorem dX7_event_77 : decode cX7_event 77 = .ok (.getfield 14, 3) := by decide +kernel
theorem dX7_event_80 : decode cX7_event 80 = .ok (.getfield 226, 3) := by decide +kernel
theorem dX7_event_83 : decode cX7_event 83 = .ok (.iload_n 1, 1) := by decide +kernel
theorem dX7_event_84 : decode cX7_event 84 = .ok (.iload_n 2, 1) := by decide +kernel
theorem dX7_event_85 : decode cX7_event 85 = .ok (.bipush 8, 2) := by decide +kernel
theorem dX7_event_87 : decode cX7_event 87 = .ok (.invokevirtual 200, 3) := by decide +kernel
theorem dX7_event_90 : decode cX7_event 90 = .ok (.goto 4, 3) := by decide +kernel
theorem dX7_event_93 : decode cX7_event 93 = .ok (.iconst (-1), 1) := by decide +kernel
theorem dX7_event_94 : decode cX7_event 94 = .ok (.ireturn, 1) := by decide +kernel
theorem dX7_event_95 : decode cX7_event 95 = .ok (.iload_n 2, 1) := by decide +kernel
theorem dX7_event_96 : decode cX7_event 96 = .ok (.ifCond .ne 20, 3) := by decide +kernel
theorem dX7_event_99 : decode cX7_event 99 = .ok (.aload_n 0, 1) := by decide +kernel
theorem dX7_event_100 : decode cX7_event 100 = .ok (.getfield 14, 3) := by decide +kernel
theorem dX7_event_103 : decode cX7_event 103 = .ok (.getfield 226, 3) := by decide +kernel
theorem dX7_event_106 : decode cX7_event 106 = .ok (.iload_n 1, 1) := by decide +kernel
theorem dX7_event_107 : decode cX7_event 107 = .ok (.iload_n 2, 1) := by decide +kernel
theorem dX7_event_108 : decode cX7_event 108 = .ok (.bipush 8, 2) := by decide +kernel
theorem dX7_event_110 : decode cX7_event 110 = .ok (.invokevirtual 200, 3) := by decide +kernel
theorem dX7_event_113 : decode cX7_event 113 = .ok (.goto 5, 3) := by decide +kernel
theorem dX7_event_116 : decode cX7_event 116 = .ok (.bipush (-2), 2) := by decide +kernel
theorem dX7_event_118 : decode cX7_event 118 = .ok (.ireturn, 1) := by decide +kernel
theorem dX7_event_119 : decode cX7_event 119 = .ok (.iconst (-1), 1) := by decide +kernel
theorem dX7_event_120 : decode cX7_event 120 = .ok (.ireturn, 1) := by decide +kernel
theorem dX7_after_0 : decode cX7_after 0 = .ok (.iload_n 1, 1) := by decide +kernel
theorem dX7_after_1 : decode cX7_after 1 = .ok (.tableswitch 52 0 2 #[27, 32, 44], 27) := by decide +kernel
theorem dX7_after_28 : decode cX7_after 28 = .ok (.aload_n 0, 1) := by decide +kernel
theorem dX7_after_29 : decode cX7_after 29 = .ok (.invokevirtual 229, 3) := by decide +kernel
theorem dX7_after_32 : decode cX7_after 32 = .ok (.ireturn, 1) := by decide +kernel
theorem dX7_after_33 : decode cX7_after 33 = .ok (.aload_n 0, 1) := by decide +kernel
theorem dX7_after_34 : decode cX7_after 34 = .ok (.getfield 35, 3) := by decide +kernel
theorem dX7_after_37 : decode cX7_after 37 = .ok (.aload_n 0, 1) := by decide +kernel
theorem dX7_after_38 : decode cX7_after 38 = .ok (.invokevirtual 229, 3) := by decide +kernel
theorem dX7_after_41 : decode cX7_after 41 = .ok (.invokevirtual 120, 3) := by decide +kernel
theorem dX7_after_44 : decode cX7_after 44 = .ok (.ireturn, 1) := by decide +kernel
theorem dX7_after_45 : decode cX7_after 45 = .ok (.aload_n 0, 1) := by decide +kernel
theorem dX7_after_46 : decode cX7_after 46 = .ok (.invokevirtual 229, 3) := by decide +kernel
theorem dX7_after_49 : decode cX7_after 49 = .ok (.invokestatic 99, 3) := by decide +kernel
theorem dX7_after_52 : decode cX7_after 52 = .ok (.ireturn, 1) := by decide +kernel
theorem dX7_after_53 : decode cX7_after 53 = .ok (.iconst (-1), 1) := by decide +kernel
theorem dX7_after_54 : decode cX7_after 54 = .ok (.ireturn, 1) := by decide +kernel
theorem dX7_bodyAfterEvents_0 : decode cX7_bodyAfterEvents 0 = .ok (.aload_n 0, 1) := by decide +kernel
theorem dX7_bodyAfterEvents_1 : decode cX7_bodyAfterEvents 1 = .ok (.getfield 14, 3) := by decide +kernel
theorem dX7_bodyAfterEvents_4 : decode cX7_bodyAfterEvents 4 = .ok (.getfield 53, 3) := by decide +kernel
theorem dX7_bodyAfterEvents_7 : decode cX7_bodyAfterEvents 7 = .ok (.istore_n 1, 1) := by decide +kernel
theorem dX7_bodyAfterEvents_8 : decode cX7_bodyAfterEvents 8 = .ok (.iconst 0, 1) := by decide +kernel
theorem dX7_bodyAfterEvents_9 : decode cX7_bodyAfterEvents 9 = .ok (.istore_n 2, 1) := by decide +kernel
theorem dX7_bodyAfterEvents_10 : decode cX7_bodyAfterEvents 10 = .ok (.iload_n 2, 1) := by decide +kernel
theorem dX7_bodyAfterEvents_11 : decode cX7_bodyAfterEvents 11 = .ok (.aload_n 0, 1) := by decide +kernel
theorem dX7_bodyAfterEvents_12 : decode cX7_bodyAfterEvents 12 = .ok (.getfield 14, 3) := by decide +kernel
theorem dX7_bodyAfterEvents_15 : decode cX7_bodyAfterEvents 15 = .ok (.getfield 226, 3) := by decide +kernel
theorem dX7_bodyAfterEvents_18 : decode cX7_bodyAfterEvents 18 = .ok (.getfield 206, 3) := by decide +kernel
theorem dX7_bodyAfterEvents_21 : decode cX7_bodyAfterEvents 21 = .ok (.if_icmp .ge 81, 3) := by decide +kernel
theorem dX7_bodyAfterEvents_24 : decode cX7_bodyAfterEvents 24 = .ok (.aload_n 0, 1) := by decide +kernel
theorem dX7_bodyAfterEvents_25 : decode cX7_bodyAfterEvents 25 = .ok (.getfield 14, 3) := by decide +kernel
theorem dX7_bodyAfterEvents_28 : decode cX7_bodyAfterEvents 28 = .ok (.getfield 226, 3) := by decide +kernel
theorem dX7_bodyAfterEvents_31 : decode cX7_bodyAfterEvents 31 = .ok (.iload_n 2, 1) := by decide +kernel
theorem dX7_bodyAfterEvents_32 : decode cX7_bodyAfterEvents 32 = .ok (.invokevirtual 213, 3) := by decide +kernel
theorem dX7_bodyAfterEvents_35 : decode cX7_bodyAfterEvents 35 = .ok (.istore_n 3, 1) := by decide +kernel
theorem dX7_bodyAfterEvents_36 : decode cX7_bodyAfterEvents 36 = .ok (.aload_n 0, 1) := by decide +kernel
theorem dX7_bodyAfterEvents_37 : decode cX7_bodyAfterEvents 37 = .ok (.getfield 14, 3) := by decide +kernel
theorem dX7_bodyAfterEvents_40 : decode cX7_bodyAfterEvents 40 = .ok (.getfield 226, 3) := by decide +kernel
theorem dX7_bodyAfterEvents_43 : decode cX7_bodyAfterEvents 43 = .ok (.iload_n 2, 1) := by decide +kernel
theorem dX7_bodyAfterEvents_44 : decode cX7_bodyAfterEvents 44 = .ok (.invokevirtual 207, 3) := by decide +kernel
theorem dX7_bodyAfterEvents_47 : decode cX7_bodyAfterEvents 47 = .ok (.lookupswitch 43 #[(0, 25), (1, 34)], 25) := by decide +kernel
theorem dX7_bodyAfterEvents_72 : decode cX7_bodyAfterEvents 72 = .ok (.iload_n 1, 1) := by decide +kernel
theorem dX7_bodyAfterEvents_73 : decode cX7_bodyAfterEvents 73 = .ok (.iconst 1, 1) := by decide +kernel
theorem dX7_bodyAfterEvents_74 : decode cX7_bodyAfterEvents 74 = .ok (.iload_n 3, 1) := by decide +kernel
theorem dX7_bodyAfterEvents_75 : decode cX7_bodyAfterEvents 75 = .ok (.ishl, 1) := by decide +kernel
theorem dX7_bodyAfterEvents_76 : decode cX7_bodyAfterEvents 76 = .ok (.ixor, 1) := by decide +kernel
theorem dX7_bodyAfterEvents_77 : decode cX7_bodyAfterEvents 77 = .ok (.istore_n 1, 1) := by decide +kernel
theorem dX7_bodyAfterEvents_78 : decode cX7_bodyAfterEvents 78 = .ok (.goto 18, 3) := by decide +kernel
theorem dX7_bodyAfterEvents_81 : decode cX7_bodyAfterEvents 81 = .ok (.iload_n 3, 1) := by decide +kernel
theorem dX7_bodyAfterEvents_82 : decode cX7_bodyAfterEvents 82 = .ok (.iload_n 1, 1) := by decide +kernel
theorem dX7_bodyAfterEvents_83 : decode cX7_bodyAfterEvents 83 = .ok (.invokestatic 64, 3) := by decide +kernel
theorem dX7_bodyAfterEvents_86 : decode cX7_bodyAfterEvents 86 = .ok (.istore_n 1, 1) := by decide +kernel
theorem dX7_bodyAfterEvents_87 : decode cX7_bodyAfterEvents 87 = .ok (.goto 9, 3) := by decide +kernel
theorem dX7_bodyAfterEvents_90 : decode cX7_bodyAfterEvents 90 = .ok (.iload_n 1, 1) := by decide +kernel
theorem dX7_bodyAfterEvents_91 : decode cX7_bodyAfterEvents 91 = .ok (.sipush 255, 3) := by decide +kernel
theorem dX7_bodyAfterEvents_94 : decode cX7_bodyAfterEvents 94 = .ok (.ixor, 1) := by decide +kernel
theorem dX7_bodyAfterEvents_95 : decode cX7_bodyAfterEvents 95 = .ok (.istore_n 1, 1) := by decide +kernel
theorem dX7_bodyAfterEvents_96 : decode cX7_bodyAfterEvents 96 = .ok (.iinc 2 1, 3) := by decide +kernel
theorem dX7_bodyAfterEvents_99 : decode cX7_bodyAfterEvents 99 = .ok (.goto (-89), 3) := by decide +kernel
theorem dX7_bodyAfterEvents_102 : decode cX7_bodyAfterEvents 102 = .ok (.iload_n 1, 1) := by decide +kernel
theorem dX7_bodyAfterEvents_103 : decode cX7_bodyAfterEvents 103 = .ok (.ireturn, 1) := by decide +kernel
theorem dX7_book_0 : decode cX7_book 0 = .ok (.iload_n 1, 1) := by decide +kernel
theorem dX7_book_1 : decode cX7_book 1 = .ok (.iconst (-1), 1) := by decide +kernel
theorem dX7_book_2 : decode cX7_book 2 = .ok (.if_icmp .ne 14, 3) := by decide +kernel
theorem dX7_book_5 : decode cX7_book 5 = .ok (.aload_n 0, 1) := by decide +kernel
theorem dX7_book_6 : decode cX7_book 6 = .ok (.getfield 14, 3) := by decide +kernel
theorem dX7_book_9 : decode cX7_book 9 = .ok (.getfield 232, 3) := by decide +kernel
theorem dX7_book_12 : decode cX7_book 12 = .ok (.invokevirtual 195, 3) := by decide +kernel
theorem dX7_book_15 : decode cX7_book 15 = .ok (.ireturn, 1) := by decide +kernel
theorem dX7_book_16 : decode cX7_book 16 = .ok (.iload_n 1, 1) := by decide +kernel
theorem dX7_book_17 : decode cX7_book 17 = .ok (.invokestatic 46, 3) := by decide +kernel
theorem dX7_book_20 : decode cX7_book 20 = .ok (.ifCond .ne 5, 3) := by decide +kernel
theorem dX7_book_23 : decode cX7_book 23 = .ok (.iconst (-1), 1) := by decide +kernel
theorem dX7_book_24 : decode cX7_book 24 = .ok (.ireturn, 1) := by decide +kernel
theorem dX7_book_25 : decode cX7_book 25 = .ok (.iload_n 2, 1) := by decide +kernel
theorem dX7_book_26 : decode cX7_book 26 = .ok (.invokestatic 50, 3) := by decide +kernel
theorem dX7_book_29 : decode cX7_book 29 = .ok (.ifCond .eq 20, 3) := by decide +kernel
theorem dX7_book_32 : decode cX7_book 32 = .ok (.aload_n 0, 1) := by decide +kernel
theorem dX7_book_33 : decode cX7_book 33 = .ok (.getfield 14, 3) := by decide +kernel
theorem dX7_book_36 : decode cX7_book 36 = .ok (.getfield 232, 3) := by decide +kernel
theorem dX7_book_39 : decode cX7_book 39 = .ok (.iload_n 1, 1) := by decide +kernel
theorem dX7_book_40 : decode cX7_book 40 = .ok (.iload_n 2, 1) := by decide +kernel
theorem dX7_book_41 : decode cX7_book 41 = .ok (.bipush 8, 2) := by decide +kernel
theorem dX7_book_43 : decode cX7_book 43 = .ok (.invokevirtual 200, 3) := by decide +kernel
theorem dX7_book_46 : decode cX7_book 46 = .ok (.goto 5, 3) := by decide +kernel
theorem dX7_book_49 : decode cX7_book 49 = .ok (.bipush (-2), 2) := by decide +kernel
theorem dX7_book_51 : decode cX7_book 51 = .ok (.ireturn, 1) := by decide +kernel
theorem dX7_looked_0 : decode cX7_looked 0 = .ok (.iconst 0, 1) := by decide +kernel
theorem dX7_looked_1 : decode cX7_looked 1 = .ok (.istore_n 1, 1) := by decide +kernel
theorem dX7_looked_2 : decode cX7_looked 2 = .ok (.iload_n 1, 1) := by decide +kernel
theorem dX7_looked_3 : decode cX7_looked 3 = .ok (.aload_n 0, 1) := by decide +kernel
theorem dX7_looked_4 : decode cX7_looked 4 = .ok (.getfield 14, 3) := by decide +kernel
theorem dX7_looked_7 : decode cX7_looked 7 = .ok (.getfield 232, 3) := by decide +kernel
theorem dX7_looked_10 : decode cX7_looked 10 = .ok (.getfield 206, 3) := by decide +kernel
theorem dX7_looked_13 : decode cX7_looked 13 = .ok (.if_icmp .ge 46, 3) := by decide +kernel
theorem dX7_looked_16 : decode cX7_looked 16 = .ok (.aload_n 0, 1) := by decide +kernel
theorem dX7_looked_17 : decode cX7_looked 17 = .ok (.getfield 14, 3) := by decide +kernel
theorem dX7_looked_20 : decode cX7_looked 20 = .ok (.getfield 53, 3) := by decide +kernel
theorem dX7_looked_23 : decode cX7_looked 23 = .ok (.aload_n 0, 1) := by decide +kernel
theorem dX7_looked_24 : decode cX7_looked 24 = .ok (.getfield 14, 3) := by decide +kernel
theorem dX7_looked_27 : decode cX7_looked 27 = .ok (.getfield 232, 3) := by decide +kernel
theorem dX7_looked_30 : decode cX7_looked 30 = .ok (.iload_n 1, 1) := by decide +kernel
theorem dX7_looked_31 : decode cX7_looked 31 = .ok (.invokevirtual 207, 3) := by decide +kernel
theorem dX7_looked_34 : decode cX7_looked 34 = .ok (.invokestatic 57, 3) := by decide +kernel
theorem dX7_looked_37 : decode cX7_looked 37 = .ok (.aload_n 0, 1) := by decide +kernel
theorem dX7_looked_38 : decode cX7_looked 38 = .ok (.getfield 14, 3) := by decide +kernel
theorem dX7_looked_41 : decode cX7_looked 41 = .ok (.getfield 232, 3) := by decide +kernel
theorem dX7_looked_44 : decode cX7_looked 44 = .ok (.iload_n 1, 1) := by decide +kernel
theorem dX7_looked_45 : decode cX7_looked 45 = .ok (.invokevirtual 213, 3) := by decide +kernel
theorem dX7_looked_48 : decode cX7_looked 48 = .ok (.if_icmp .eq 5, 3) := by decide +kernel
theorem dX7_looked_51 : decode cX7_looked 51 = .ok (.iload_n 1, 1) := by decide +kernel
theorem dX7_looked_52 : decode cX7_looked 52 = .ok (.ireturn, 1) := by decide +kernel
theorem dX7_looked_53 : decode cX7_looked 53 = .ok (.iinc 1 1, 3) := by decide +kernel
theorem dX7_looked_56 : decode cX7_looked 56 = .ok (.goto (-54), 3) := by decide +kernel
theorem dX7_looked_59 : decode cX7_looked 59 = .ok (.bipush (-5), 2) := by decide +kernel
theorem dX7_looked_61 : decode cX7_looked 61 = .ok (.ireturn, 1) := by decide +kernel
theorem dX7_judge_0 : decode cX7_judge 0 = .ok (.iload_n 1, 1) := by decide +kernel
theorem dX7_judge_1 : decode cX7_judge 1 = .ok (.invokestatic 235, 3) := by decide +kernel
theorem dX7_judge_4 : decode cX7_judge 4 = .ok (.ifCond .ne 5, 3) := by decide +kernel
theorem dX7_judge_7 : decode cX7_judge 7 = .ok (.iconst (-1), 1) := by decide +kernel
theorem dX7_judge_8 : decode cX7_judge 8 = .ok (.ireturn, 1) := by decide +kernel
theorem dX7_judge_9 : decode cX7_judge 9 = .ok (.aload_n 0, 1) := by decide +kernel
theorem dX7_judge_10 : decode cX7_judge 10 = .ok (.getfield 41, 3) := by decide +kernel
theorem dX7_judge_13 : decode cX7_judge 13 = .ok (.iload_n 1, 1) := by decide +kernel
theorem dX7_judge_14 : decode cX7_judge 14 = .ok (.aaload, 1) := by decide +kernel
theorem dX7_judge_15 : decode cX7_judge 15 = .ok (.astore_n 3, 1) := by decide +kernel
theorem dX7_judge_16 : decode cX7_judge 16 = .ok (.aload_n 3, 1) := by decide +kernel
theorem dX7_judge_17 : decode cX7_judge 17 = .ok (.invokevirtual 238, 3) := by decide +kernel
theorem dX7_judge_20 : decode cX7_judge 20 = .ok (.ifCond .ne 6, 3) := by decide +kernel
theorem dX7_judge_23 : decode cX7_judge 23 = .ok (.bipush 100, 2) := by decide +kernel
theorem dX7_judge_25 : decode cX7_judge 25 = .ok (.ireturn, 1) := by decide +kernel
theorem dX7_judge_26 : decode cX7_judge 26 = .ok (.aload_n 3, 1) := by decide +kernel
theorem dX7_judge_27 : decode cX7_judge 27 = .ok (.getfield 242, 3) := by decide +kernel
theorem dX7_judge_30 : decode cX7_judge 30 = .ok (.iconst 4, 1) := by decide +kernel
theorem dX7_judge_31 : decode cX7_judge 31 = .ok (.if_icmp .eq 6, 3) := by decide +kernel
theorem dX7_judge_34 : decode cX7_judge 34 = .ok (.bipush (-12), 2) := by decide +kernel
theorem dX7_judge_36 : decode cX7_judge 36 = .ok (.ireturn, 1) := by decide +kernel
theorem dX7_judge_37 : decode cX7_judge 37 = .ok (.iconst 0, 1) := by decide +kernel
theorem dX7_judge_38 : decode cX7_judge 38 = .ok (.istore 4, 2) := by decide +kernel
theorem dX7_judge_40 : decode cX7_judge 40 = .ok (.iload 4, 2) := by decide +kernel
theorem dX7_judge_42 : decode cX7_judge 42 = .ok (.bipush 8, 2) := by decide +kernel
theorem dX7_judge_44 : decode cX7_judge 44 = .ok (.if_icmp .ge 62, 3) := by decide +kernel
theorem dX7_judge_47 : decode cX7_judge 47 = .ok (.aload_n 3, 1) := by decide +kernel
theorem dX7_judge_48 : decode cX7_judge 48 = .ok (.iload_n 2, 1) := by decide +kernel
theorem dX7_judge_49 : decode cX7_judge 49 = .ok (.invokevirtual 245, 3) := by decide +kernel
theorem dX7_judge_52 : decode cX7_judge 52 = .ok (.ifCond .eq 14, 3) := by decide +kernel
theorem dX7_judge_55 : decode cX7_judge 55 = .ok (.aload_n 3, 1) := by decide +kernel
theorem dX7_judge_56 : decode cX7_judge 56 = .ok (.iload_n 2, 1) := by decide +kernel
theorem dX7_judge_57 : decode cX7_judge 57 = .ok (.iload 4, 2) := by decide +kernel
theorem dX7_judge_59 : decode cX7_judge 59 = .ok (.iadd, 1) := by decide +kernel
theorem dX7_judge_60 : decode cX7_judge 60 = .ok (.invokevirtual 245, 3) := by decide +kernel
theorem dX7_judge_63 : decode cX7_judge 63 = .ok (.ifCond .ne 9, 3) := by decide +kernel
theorem dX7_judge_66 : decode cX7_judge 66 = .ok (.bipush 100, 2) := by decide +kernel
theorem dX7_judge_68 : decode cX7_judge 68 = .ok (.iload 4, 2) := by decide +kernel
theorem dX7_judge_70 : decode cX7_judge 70 = .ok (.iadd, 1) := by decide +kernel
theorem dX7_judge_71 : decode cX7_judge 71 = .ok (.ireturn, 1) := by decide +kernel
theorem dX7_judge_72 : decode cX7_judge 72 = .ok (.aload_n 3, 1) := by decide +kernel
theorem dX7_judge_73 : decode cX7_judge 73 = .ok (.iload_n 2, 1) := by decide +kernel
theorem dX7_judge_74 : decode cX7_judge 74 = .ok (.iload 4, 2) := by decide +kernel
theorem dX7_judge_76 : decode cX7_judge 76 = .ok (.iadd, 1) := by decide +kernel
theorem dX7_judge_77 : decode cX7_judge 77 = .ok (.invokevirtual 248, 3) := by decide +kernel
theorem dX7_judge_80 : decode cX7_judge 80 = .ok (.aload_n 0, 1) := by decide +kernel
theorem dX7_judge_81 : decode cX7_judge 81 = .ok (.getfield 14, 3) := by decide +kernel
theorem dX7_judge_84 : decode cX7_judge 84 = .ok (.getfield 53, 3) := by decide +kernel
theorem dX7_judge_87 : decode cX7_judge 87 = .ok (.iload 4, 2) := by decide +kernel
theorem dX7_judge_89 : decode cX7_judge 89 = .ok (.invokestatic 57, 3) := by decide +kernel
theorem dX7_judge_92 : decode cX7_judge 92 = .ok (.i2l, 1) := by decide +kernel
theorem dX7_judge_93 : decode cX7_judge 93 = .ok (.lcmp, 1) := by decide +kernel
theorem dX7_judge_94 : decode cX7_judge 94 = .ok (.ifCond .eq 6, 3) := by decide +kernel
theorem dX7_judge_97 : decode cX7_judge 97 = .ok (.iload 4, 2) := by decide +kernel
theorem dX7_judge_99 : decode cX7_judge 99 = .ok (.ireturn, 1) := by decide +kernel
theorem dX7_judge_100 : decode cX7_judge 100 = .ok (.iinc 4 1, 3) := by decide +kernel
theorem dX7_judge_103 : decode cX7_judge 103 = .ok (.goto (-63), 3) := by decide +kernel
theorem dX7_judge_106 : decode cX7_judge 106 = .ok (.bipush (-5), 2) := by decide +kernel
theorem dX7_judge_108 : decode cX7_judge 108 = .ok (.ireturn, 1) := by decide +kernel
theorem dX7_image_0 : decode cX7_image 0 = .ok (.aload_n 0, 1) := by decide +kernel
theorem dX7_image_1 : decode cX7_image 1 = .ok (.getfield 18, 3) := by decide +kernel
theorem dX7_image_4 : decode cX7_image 4 = .ok (.aload_n 0, 1) := by decide +kernel
theorem dX7_image_5 : decode cX7_image 5 = .ok (.getfield 14, 3) := by decide +kernel
theorem dX7_image_8 : decode cX7_image 8 = .ok (.invokevirtual 252, 3) := by decide +kernel
theorem dX7_image_11 : decode cX7_image 11 = .ok (.aload_n 0, 1) := by decide +kernel
theorem dX7_image_12 : decode cX7_image 12 = .ok (.iconst 1, 1) := by decide +kernel
theorem dX7_image_13 : decode cX7_image 13 = .ok (.putfield 21, 3) := by decide +kernel
theorem dX7_image_16 : decode cX7_image 16 = .ok (.aload_n 0, 1) := by decide +kernel
theorem dX7_image_17 : decode cX7_image 17 = .ok (.getfield 14, 3) := by decide +kernel
theorem dX7_image_20 : decode cX7_image 20 = .ok (.getfield 53, 3) := by decide +kernel
theorem dX7_image_23 : decode cX7_image 23 = .ok (.ireturn, 1) := by decide +kernel
theorem dX7_undo_0 : decode cX7_undo 0 = .ok (.aload_n 0, 1) := by decide +kernel
theorem dX7_undo_1 : decode cX7_undo 1 = .ok (.getfield 21, 3) := by decide +kernel
theorem dX7_undo_4 : decode cX7_undo 4 = .ok (.ifCond .ne 6, 3) := by decide +kernel
theorem dX7_undo_7 : decode cX7_undo 7 = .ok (.bipush (-3), 2) := by decide +kernel
theorem dX7_undo_9 : decode cX7_undo 9 = .ok (.ireturn, 1) := by decide +kernel
theorem dX7_undo_10 : decode cX7_undo 10 = .ok (.aload_n 0, 1) := by decide +kernel
theorem dX7_undo_11 : decode cX7_undo 11 = .ok (.getfield 14, 3) := by decide +kernel
theorem dX7_undo_14 : decode cX7_undo 14 = .ok (.aload_n 0, 1) := by decide +kernel
theorem dX7_undo_15 : decode cX7_undo 15 = .ok (.getfield 18, 3) := by decide +kernel
theorem dX7_undo_18 : decode cX7_undo 18 = .ok (.invokevirtual 252, 3) := by decide +kernel
theorem dX7_undo_21 : decode cX7_undo 21 = .ok (.aload_n 0, 1) := by decide +kernel
theorem dX7_undo_22 : decode cX7_undo 22 = .ok (.getfield 14, 3) := by decide +kernel
theorem dX7_undo_25 : decode cX7_undo 25 = .ok (.getfield 53, 3) := by decide +kernel
theorem dX7_undo_28 : decode cX7_undo 28 = .ok (.ireturn, 1) := by decide +kernel
theorem dX7_count_0 : decode cX7_count 0 = .ok (.iload_n 1, 1) := by decide +kernel
theorem dX7_count_1 : decode cX7_count 1 = .ok (.tableswitch 72 0 3 #[31, 42, 53, 64], 31) := by decide +kernel
theorem dX7_count_32 : decode cX7_count 32 = .ok (.aload_n 0, 1) := by decide +kernel
theorem dX7_count_33 : decode cX7_count 33 = .ok (.getfield 14, 3) := by decide +kernel
theorem dX7_count_36 : decode cX7_count 36 = .ok (.getfield 191, 3) := by decide +kernel
theorem dX7_count_39 : decode cX7_count 39 = .ok (.getfield 206, 3) := by decide +kernel
theorem dX7_count_42 : decode cX7_count 42 = .ok (.ireturn, 1) := by decide +kernel
theorem dX7_count_43 : decode cX7_count 43 = .ok (.aload_n 0, 1) := by decide +kernel
theorem dX7_count_44 : decode cX7_count 44 = .ok (.getfield 14, 3) := by decide +kernel
theorem dX7_count_47 : decode cX7_count 47 = .ok (.getfield 226, 3) := by decide +kernel
theorem dX7_count_50 : decode cX7_count 50 = .ok (.getfield 206, 3) := by decide +kernel
theorem dX7_count_53 : decode cX7_count 53 = .ok (.ireturn, 1) := by decide +kernel
theorem dX7_count_54 : decode cX7_count 54 = .ok (.aload_n 0, 1) := by decide +kernel
theorem dX7_count_55 : decode cX7_count 55 = .ok (.getfield 14, 3) := by decide +kernel
theorem dX7_count_58 : decode cX7_count 58 = .ok (.getfield 232, 3) := by decide +kernel
theorem dX7_count_61 : decode cX7_count 61 = .ok (.getfield 206, 3) := by decide +kernel
theorem dX7_count_64 : decode cX7_count 64 = .ok (.ireturn, 1) := by decide +kernel
theorem dX7_count_65 : decode cX7_count 65 = .ok (.aload_n 0, 1) := by decide +kernel
theorem dX7_count_66 : decode cX7_count 66 = .ok (.getfield 28, 3) := by decide +kernel
theorem dX7_count_69 : decode cX7_count 69 = .ok (.getfield 88, 3) := by decide +kernel
theorem dX7_count_72 : decode cX7_count 72 = .ok (.ireturn, 1) := by decide +kernel
theorem dX7_count_73 : decode cX7_count 73 = .ok (.bipush (-2), 2) := by decide +kernel
theorem dX7_count_75 : decode cX7_count 75 = .ok (.ireturn, 1) := by decide +kernel
theorem dX7_tape_0 : decode cX7_tape 0 = .ok (.iload_n 1, 1) := by decide +kernel
theorem dX7_tape_1 : decode cX7_tape 1 = .ok (.invokestatic 235, 3) := by decide +kernel
theorem dX7_tape_4 : decode cX7_tape 4 = .ok (.ifCond .ne 5, 3) := by decide +kernel
theorem dX7_tape_7 : decode cX7_tape 7 = .ok (.iconst (-1), 1) := by decide +kernel
theorem dX7_tape_8 : decode cX7_tape 8 = .ok (.ireturn, 1) := by decide +kernel
theorem dX7_tape_9 : decode cX7_tape 9 = .ok (.iload_n 2, 1) := by decide +kernel
theorem dX7_tape_10 : decode cX7_tape 10 = .ok (.iconst (-1), 1) := by decide +kernel
theorem dX7_tape_11 : decode cX7_tape 11 = .ok (.if_icmp .ne 16, 3) := by decide +kernel
theorem dX7_tape_14 : decode cX7_tape 14 = .ok (.aload_n 0, 1) := by decide +kernel
theorem dX7_tape_15 : decode cX7_tape 15 = .ok (.getfield 41, 3) := by decide +kernel
theorem dX7_tape_18 : decode cX7_tape 18 = .ok (.iload_n 1, 1) := by decide +kernel
theorem dX7_tape_19 : decode cX7_tape 19 = .ok (.aaload, 1) := by decide +kernel
theorem dX7_tape_20 : decode cX7_tape 20 = .ok (.iconst (-1), 1) := by decide +kernel
theorem dX7_tape_21 : decode cX7_tape 21 = .ok (.iconst 0, 1) := by decide +kernel
theorem dX7_tape_22 : decode cX7_tape 22 = .ok (.invokevirtual 256, 3) := by decide +kernel
theorem dX7_tape_25 : decode cX7_tape 25 = .ok (.iconst 1, 1) := by decide +kernel
theorem dX7_tape_26 : decode cX7_tape 26 = .ok (.ireturn, 1) := by decide +kernel
theorem dX7_tape_27 : decode cX7_tape 27 = .ok (.iload_n 2, 1) := by decide +kernel
theorem dX7_tape_28 : decode cX7_tape 28 = .ok (.ifCond .lt 14, 3) := by decide +kernel
theorem dX7_tape_31 : decode cX7_tape 31 = .ok (.iload_n 2, 1) := by decide +kernel
theorem dX7_tape_32 : decode cX7_tape 32 = .ok (.iconst 4, 1) := by decide +kernel
theorem dX7_tape_33 : decode cX7_tape 33 = .ok (.if_icmp .gt 9, 3) := by decide +kernel
theorem dX7_tape_36 : decode cX7_tape 36 = .ok (.iload_n 3, 1) := by decide +kernel
theorem dX7_tape_37 : decode cX7_tape 37 = .ok (.bipush 60, 2) := by decide +kernel
theorem dX7_tape_39 : decode cX7_tape 39 = .ok (.if_icmp .le 6, 3) := by decide +kernel
theorem dX7_tape_42 : decode cX7_tape 42 = .ok (.bipush (-2), 2) := by decide +kernel
theorem dX7_tape_44 : decode cX7_tape 44 = .ok (.ireturn, 1) := by decide +kernel
theorem dX7_tape_45 : decode cX7_tape 45 = .ok (.iload_n 3, 1) := by decide +kernel
theorem dX7_tape_46 : decode cX7_tape 46 = .ok (.ifCond .ge 6, 3) := by decide +kernel
theorem dX7_tape_49 : decode cX7_tape 49 = .ok (.bipush (-14), 2) := by decide +kernel
theorem dX7_tape_51 : decode cX7_tape 51 = .ok (.ireturn, 1) := by decide +kernel
theorem dX7_tape_52 : decode cX7_tape 52 = .ok (.aload_n 0, 1) := by decide +kernel
theorem dX7_tape_53 : decode cX7_tape 53 = .ok (.getfield 41, 3) := by decide +kernel
theorem dX7_tape_56 : decode cX7_tape 56 = .ok (.iload_n 1, 1) := by decide +kernel
theorem dX7_tape_57 : decode cX7_tape 57 = .ok (.aaload, 1) := by decide +kernel
theorem dX7_tape_58 : decode cX7_tape 58 = .ok (.iload_n 2, 1) := by decide +kernel
theorem dX7_tape_59 : decode cX7_tape 59 = .ok (.iload_n 3, 1) := by decide +kernel
theorem dX7_tape_60 : decode cX7_tape 60 = .ok (.invokevirtual 256, 3) := by decide +kernel
theorem dX7_tape_63 : decode cX7_tape 63 = .ok (.iconst 1, 1) := by decide +kernel
theorem dX7_tape_64 : decode cX7_tape 64 = .ok (.ireturn, 1) := by decide +kernel
theorem dX7_item_0 : decode cX7_item 0 = .ok (.iload_n 1, 1) := by decide +kernel
theorem dX7_item_1 : decode cX7_item 1 = .ok (.invokestatic 235, 3) := by decide +kernel
theorem dX7_item_4 : decode cX7_item 4 = .ok (.ifCond .ne 5, 3) := by decide +kernel
theorem dX7_item_7 : decode cX7_item 7 = .ok (.iconst (-1), 1) := by decide +kernel
theorem dX7_item_8 : decode cX7_item 8 = .ok (.ireturn, 1) := by decide +kernel
theorem dX7_item_9 : decode cX7_item 9 = .ok (.aload_n 0, 1) := by decide +kernel
theorem dX7_item_10 : decode cX7_item 10 = .ok (.getfield 41, 3) := by decide +kernel
theorem dX7_item_13 : decode cX7_item 13 = .ok (.iload_n 1, 1) := by decide +kernel
theorem dX7_item_14 : decode cX7_item 14 = .ok (.aaload, 1) := by decide +kernel
theorem dX7_item_15 : decode cX7_item 15 = .ok (.astore 5, 2) := by decide +kernel
theorem dX7_item_17 : decode cX7_item 17 = .ok (.aload 5, 2) := by decide +kernel
theorem dX7_item_19 : decode cX7_item 19 = .ok (.invokevirtual 238, 3) := by decide +kernel
theorem dX7_item_22 : decode cX7_item 22 = .ok (.ifCond .ne 6, 3) := by decide +kernel
theorem dX7_item_25 : decode cX7_item 25 = .ok (.bipush (-11), 2) := by decide +kernel
theorem dX7_item_27 : decode cX7_item 27 = .ok (.ireturn, 1) := by decide +kernel
theorem dX7_item_28 : decode cX7_item 28 = .ok (.aload 5, 2) := by decide +kernel
theorem dX7_item_30 : decode cX7_item 30 = .ok (.iload_n 2, 1) := by decide +kernel
theorem dX7_item_31 : decode cX7_item 31 = .ok (.invokevirtual 245, 3) := by decide +kernel
theorem dX7_item_34 : decode cX7_item 34 = .ok (.ifCond .ne 6, 3) := by decide +kernel
theorem dX7_item_37 : decode cX7_item 37 = .ok (.bipush (-13), 2) := by decide +kernel
theorem dX7_item_39 : decode cX7_item 39 = .ok (.ireturn, 1) := by decide +kernel
theorem dX7_item_40 : decode cX7_item 40 = .ok (.aload 5, 2) := by decide +kernel
theorem dX7_item_42 : decode cX7_item 42 = .ok (.iload_n 2, 1) := by decide +kernel
theorem dX7_item_43 : decode cX7_item 43 = .ok (.lload_n 3, 1) := by decide +kernel
theorem dX7_item_44 : decode cX7_item 44 = .ok (.invokevirtual 260, 3) := by decide +kernel
theorem dX7_item_47 : decode cX7_item 47 = .ok (.iconst 1, 1) := by decide +kernel
theorem dX7_item_48 : decode cX7_item 48 = .ok (.ireturn, 1) := by decide +kernel
theorem dX7_peek_0 : decode cX7_peek 0 = .ok (.iload_n 1, 1) := by decide +kernel
theorem dX7_peek_1 : decode cX7_peek 1 = .ok (.invokestatic 235, 3) := by decide +kernel
theorem dX7_peek_4 : decode cX7_peek 4 = .ok (.ifCond .eq 16, 3) := by decide +kernel
theorem dX7_peek_7 : decode cX7_peek 7 = .ok (.aload_n 0, 1) := by decide +kernel
theorem dX7_peek_8 : decode cX7_peek 8 = .ok (.getfield 41, 3) := by decide +kernel
theorem dX7_peek_11 : decode cX7_peek 11 = .ok (.iload_n 1, 1) := by decide +kernel
theorem dX7_peek_12 : decode cX7_peek 12 = .ok (.aaload, 1) := by decide +kernel
theorem dX7_peek_13 : decode cX7_peek 13 = .ok (.iload_n 2, 1) := by decide +kernel
theorem dX7_peek_14 : decode cX7_peek 14 = .ok (.invokevirtual 245, 3) := by decide +kernel
theorem dX7_peek_17 : decode cX7_peek 17 = .ok (.ifCond .ne 7, 3) := by decide +kernel
theorem dX7_peek_20 : decode cX7_peek 20 = .ok (.ldc2_w 181, 3) := by decide +kernel
theorem dX7_peek_23 : decode cX7_peek 23 = .ok (.lreturn, 1) := by decide +kernel
theorem dX7_peek_24 : decode cX7_peek 24 = .ok (.aload_n 0, 1) := by decide +kernel
theorem dX7_peek_25 : decode cX7_peek 25 = .ok (.getfield 41, 3) := by decide +kernel
theorem dX7_peek_28 : decode cX7_peek 28 = .ok (.iload_n 1, 1) := by decide +kernel
theorem dX7_peek_29 : decode cX7_peek 29 = .ok (.aaload, 1) := by decide +kernel
theorem dX7_peek_30 : decode cX7_peek 30 = .ok (.iload_n 2, 1) := by decide +kernel
theorem dX7_peek_31 : decode cX7_peek 31 = .ok (.invokevirtual 248, 3) := by decide +kernel
theorem dX7_peek_34 : decode cX7_peek 34 = .ok (.lreturn, 1) := by decide +kernel
theorem dX7_shift_0 : decode cX7_shift 0 = .ok (.iload_n 1, 1) := by decide +kernel
theorem dX7_shift_1 : decode cX7_shift 1 = .ok (.invokestatic 235, 3) := by decide +kernel
theorem dX7_shift_4 : decode cX7_shift 4 = .ok (.ifCond .eq 10, 3) := by decide +kernel
theorem dX7_shift_7 : decode cX7_shift 7 = .ok (.iload_n 3, 1) := by decide +kernel
theorem dX7_shift_8 : decode cX7_shift 8 = .ok (.invokestatic 235, 3) := by decide +kernel
theorem dX7_shift_11 : decode cX7_shift 11 = .ok (.ifCond .ne 5, 3) := by decide +kernel
theorem dX7_shift_14 : decode cX7_shift 14 = .ok (.iconst (-1), 1) := by decide +kernel
theorem dX7_shift_15 : decode cX7_shift 15 = .ok (.ireturn, 1) := by decide +kernel
theorem dX7_shift_16 : decode cX7_shift 16 = .ok (.aload_n 0, 1) := by decide +kernel
theorem dX7_shift_17 : decode cX7_shift 17 = .ok (.getfield 41, 3) := by decide +kernel
theorem dX7_shift_20 : decode cX7_shift 20 = .ok (.iload_n 1, 1) := by decide +kernel
theorem dX7_shift_21 : decode cX7_shift 21 = .ok (.aaload, 1) := by decide +kernel
theorem dX7_shift_22 : decode cX7_shift 22 = .ok (.astore 6, 2) := by decide +kernel
theorem dX7_shift_24 : decode cX7_shift 24 = .ok (.aload_n 0, 1) := by decide +kernel
theorem dX7_shift_25 : decode cX7_shift 25 = .ok (.getfield 41, 3) := by decide +kernel
theorem dX7_shift_28 : decode cX7_shift 28 = .ok (.iload_n 3, 1) := by decide +kernel
theorem dX7_shift_29 : decode cX7_shift 29 = .ok (.aaload, 1) := by decide +kernel
theorem dX7_shift_30 : decode cX7_shift 30 = .ok (.astore 7, 2) := by decide +kernel
theorem dX7_shift_32 : decode cX7_shift 32 = .ok (.aload 6, 2) := by decide +kernel
theorem dX7_shift_34 : decode cX7_shift 34 = .ok (.invokevirtual 238, 3) := by decide +kernel
theorem dX7_shift_37 : decode cX7_shift 37 = .ok (.ifCond .eq 11, 3) := by decide +kernel
theorem dX7_shift_40 : decode cX7_shift 40 = .ok (.aload 7, 2) := by decide +kernel
theorem dX7_shift_42 : decode cX7_shift 42 = .ok (.invokevirtual 238, 3) := by decide +kernel
theorem dX7_shift_45 : decode cX7_shift 45 = .ok (.ifCond .ne 6, 3) := by decide +kernel
theorem dX7_shift_48 : decode cX7_shift 48 = .ok (.bipush (-11), 2) := by decide +kernel
theorem dX7_shift_50 : decode cX7_shift 50 = .ok (.ireturn, 1) := by decide +kernel
theorem dX7_shift_51 : decode cX7_shift 51 = .ok (.aload 6, 2) := by decide +kernel
theorem dX7_shift_53 : decode cX7_shift 53 = .ok (.getfield 242, 3) := by decide +kernel
theorem dX7_shift_56 : decode cX7_shift 56 = .ok (.aload 7, 2) := by decide +kernel
theorem dX7_shift_58 : decode cX7_shift 58 = .ok (.getfield 242, 3) := by decide +kernel
theorem dX7_shift_61 : decode cX7_shift 61 = .ok (.if_icmp .eq 6, 3) := by decide +kernel
theorem dX7_shift_64 : decode cX7_shift 64 = .ok (.bipush (-12), 2) := by decide +kernel
theorem dX7_shift_66 : decode cX7_shift 66 = .ok (.ireturn, 1) := by decide +kernel
theorem dX7_shift_67 : decode cX7_shift 67 = .ok (.aload 6, 2) := by decide +kernel
theorem dX7_shift_69 : decode cX7_shift 69 = .ok (.iload_n 2, 1) := by decide +kernel
theorem dX7_shift_70 : decode cX7_shift 70 = .ok (.iload 5, 2) := by decide +kernel
theorem dX7_shift_72 : decode cX7_shift 72 = .ok (.invokevirtual 264, 3) := by decide +kernel
theorem dX7_shift_75 : decode cX7_shift 75 = .ok (.ifCond .eq 15, 3) := by decide +kernel
theorem dX7_shift_78 : decode cX7_shift 78 = .ok (.aload 7, 2) := by decide +kernel
theorem dX7_shift_80 : decode cX7_shift 80 = .ok (.iload 4, 2) := by decide +kernel
theorem dX7_shift_82 : decode cX7_shift 82 = .ok (.iload 5, 2) := by decide +kernel
theorem dX7_shift_84 : decode cX7_shift 84 = .ok (.invokevirtual 264, 3) := by decide +kernel
theorem dX7_shift_87 : decode cX7_shift 87 = .ok (.ifCond .ne 6, 3) := by decide +kernel
theorem dX7_shift_90 : decode cX7_shift 90 = .ok (.bipush (-13), 2) := by decide +kernel
theorem dX7_shift_92 : decode cX7_shift 92 = .ok (.ireturn, 1) := by decide +kernel
theorem dX7_shift_93 : decode cX7_shift 93 = .ok (.aload 6, 2) := by decide +kernel
theorem dX7_shift_95 : decode cX7_shift 95 = .ok (.getfield 267, 3) := by decide +kernel
theorem dX7_shift_98 : decode cX7_shift 98 = .ok (.iload_n 2, 1) := by decide +kernel
theorem dX7_shift_99 : decode cX7_shift 99 = .ok (.aload 7, 2) := by decide +kernel
theorem dX7_shift_101 : decode cX7_shift 101 = .ok (.getfield 267, 3) := by decide +kernel
theorem dX7_shift_104 : decode cX7_shift 104 = .ok (.iload 4, 2) := by decide +kernel
theorem dX7_shift_106 : decode cX7_shift 106 = .ok (.iload 5, 2) := by decide +kernel
theorem dX7_shift_108 : decode cX7_shift 108 = .ok (.invokestatic 271, 3) := by decide +kernel
theorem dX7_shift_111 : decode cX7_shift 111 = .ok (.iload 5, 2) := by decide +kernel
theorem dX7_shift_113 : decode cX7_shift 113 = .ok (.ireturn, 1) := by decide +kernel
theorem dX7_isCorner_0 : decode cX7_isCorner 0 = .ok (.iload_n 0, 1) := by decide +kernel
theorem dX7_isCorner_1 : decode cX7_isCorner 1 = .ok (.ifCond .lt 13, 3) := by decide +kernel
theorem dX7_isCorner_4 : decode cX7_isCorner 4 = .ok (.iload_n 0, 1) := by decide +kernel
theorem dX7_isCorner_5 : decode cX7_isCorner 5 = .ok (.bipush 8, 2) := by decide +kernel
theorem dX7_isCorner_7 : decode cX7_isCorner 7 = .ok (.if_icmp .ge 7, 3) := by decide +kernel
theorem dX7_isCorner_10 : decode cX7_isCorner 10 = .ok (.iconst 1, 1) := by decide +kernel
theorem dX7_isCorner_11 : decode cX7_isCorner 11 = .ok (.goto 4, 3) := by decide +kernel
theorem dX7_isCorner_14 : decode cX7_isCorner 14 = .ok (.iconst 0, 1) := by decide +kernel
theorem dX7_isCorner_15 : decode cX7_isCorner 15 = .ok (.ireturn, 1) := by decide +kernel
theorem dX7_isMove_0 : decode cX7_isMove 0 = .ok (.iload_n 0, 1) := by decide +kernel
theorem dX7_isMove_1 : decode cX7_isMove 1 = .ok (.ifCond .lt 13, 3) := by decide +kernel
theorem dX7_isMove_4 : decode cX7_isMove 4 = .ok (.iload_n 0, 1) := by decide +kernel
theorem dX7_isMove_5 : decode cX7_isMove 5 = .ok (.bipush 48, 2) := by decide +kernel
theorem dX7_isMove_7 : decode cX7_isMove 7 = .ok (.if_icmp .ge 7, 3) := by decide +kernel
theorem dX7_isMove_10 : decode cX7_isMove 10 = .ok (.iconst 1, 1) := by decide +kernel
theorem dX7_isMove_11 : decode cX7_isMove 11 = .ok (.goto 4, 3) := by decide +kernel
theorem dX7_isMove_14 : decode cX7_isMove 14 = .ok (.iconst 0, 1) := by decide +kernel
theorem dX7_isMove_15 : decode cX7_isMove 15 = .ok (.ireturn, 1) := by decide +kernel
theorem dX7_isBit_0 : decode cX7_isBit 0 = .ok (.iload_n 0, 1) := by decide +kernel
theorem dX7_isBit_1 : decode cX7_isBit 1 = .ok (.ifCond .eq 8, 3) := by decide +kernel
theorem dX7_isBit_4 : decode cX7_isBit 4 = .ok (.iload_n 0, 1) := by decide +kernel
theorem dX7_isBit_5 : decode cX7_isBit 5 = .ok (.iconst 1, 1) := by decide +kernel
theorem dX7_isBit_6 : decode cX7_isBit 6 = .ok (.if_icmp .ne 7, 3) := by decide +kernel
theorem dX7_isBit_9 : decode cX7_isBit 9 = .ok (.iconst 1, 1) := by decide +kernel
theorem dX7_isBit_10 : decode cX7_isBit 10 = .ok (.goto 4, 3) := by decide +kernel
theorem dX7_isBit_13 : decode cX7_isBit 13 = .ok (.iconst 0, 1) := by decide +kernel
theorem dX7_isBit_14 : decode cX7_isBit 14 = .ok (.ireturn, 1) := by decide +kernel
theorem dX7_isWeight_0 : decode cX7_isWeight 0 = .ok (.iload_n 0, 1) := by decide +kernel
theorem dX7_isWeight_1 : decode cX7_isWeight 1 = .ok (.bipush (-3), 2) := by decide +kernel
theorem dX7_isWeight_3 : decode cX7_isWeight 3 = .ok (.if_icmp .lt 12, 3) := by decide +kernel
theorem dX7_isWeight_6 : decode cX7_isWeight 6 = .ok (.iload_n 0, 1) := by decide +kernel
theorem dX7_isWeight_7 : decode cX7_isWeight 7 = .ok (.iconst 3, 1) := by decide +kernel
theorem dX7_isWeight_8 : decode cX7_isWeight 8 = .ok (.if_icmp .gt 7, 3) := by decide +kernel
theorem dX7_isWeight_11 : decode cX7_isWeight 11 = .ok (.iconst 1, 1) := by decide +kernel
theorem dX7_isWeight_12 : decode cX7_isWeight 12 = .ok (.goto 4, 3) := by decide +kernel
theorem dX7_isWeight_15 : decode cX7_isWeight 15 = .ok (.iconst 0, 1) := by decide +kernel
theorem dX7_isWeight_16 : decode cX7_isWeight 16 = .ok (.ireturn, 1) := by decide +kernel
theorem dX7_isTimes_0 : decode cX7_isTimes 0 = .ok (.iload_n 0, 1) := by decide +kernel
theorem dX7_isTimes_1 : decode cX7_isTimes 1 = .ok (.iconst 1, 1) := by decide +kernel
theorem dX7_isTimes_2 : decode cX7_isTimes 2 = .ok (.if_icmp .lt 12, 3) := by decide +kernel
theorem dX7_isTimes_5 : decode cX7_isTimes 5 = .ok (.iload_n 0, 1) := by decide +kernel
theorem dX7_isTimes_6 : decode cX7_isTimes 6 = .ok (.iconst 3, 1) := by decide +kernel
theorem dX7_isTimes_7 : decode cX7_isTimes 7 = .ok (.if_icmp .gt 7, 3) := by decide +kernel
theorem dX7_isTimes_10 : decode cX7_isTimes 10 = .ok (.iconst 1, 1) := by decide +kernel
theorem dX7_isTimes_11 : decode cX7_isTimes 11 = .ok (.goto 4, 3) := by decide +kernel
theorem dX7_isTimes_14 : decode cX7_isTimes 14 = .ok (.iconst 0, 1) := by decide +kernel
theorem dX7_isTimes_15 : decode cX7_isTimes 15 = .ok (.ireturn, 1) := by decide +kernel
theorem dX7_isPlace_0 : decode cX7_isPlace 0 = .ok (.iload_n 0, 1) := by decide +kernel
theorem dX7_isPlace_1 : decode cX7_isPlace 1 = .ok (.ifCond .lt 12, 3) := by decide +kernel
theorem dX7_isPlace_4 : decode cX7_isPlace 4 = .ok (.iload_n 0, 1) := by decide +kernel
theorem dX7_isPlace_5 : decode cX7_isPlace 5 = .ok (.iconst 3, 1) := by decide +kernel
theorem dX7_isPlace_6 : decode cX7_isPlace 6 = .ok (.if_icmp .gt 7, 3) := by decide +kernel
theorem dX7_isPlace_9 : decode cX7_isPlace 9 = .ok (.iconst 1, 1) := by decide +kernel
theorem dX7_isPlace_10 : decode cX7_isPlace 10 = .ok (.goto 4, 3) := by decide +kernel
theorem dX7_isPlace_13 : decode cX7_isPlace 13 = .ok (.iconst 0, 1) := by decide +kernel
theorem dX7_isPlace_14 : decode cX7_isPlace 14 = .ok (.ireturn, 1) := by decide +kernel
theorem dX7_isTape_0 : decode cX7_isTape 0 = .ok (.iload_n 0, 1) := by decide +kernel
theorem dX7_isTape_1 : decode cX7_isTape 1 = .ok (.ifCond .lt 13, 3) := by decide +kernel
theorem dX7_isTape_4 : decode cX7_isTape 4 = .ok (.iload_n 0, 1) := by decide +kernel
theorem dX7_isTape_5 : decode cX7_isTape 5 = .ok (.bipush 6, 2) := by decide +kernel
theorem dX7_isTape_7 : decode cX7_isTape 7 = .ok (.if_icmp .ge 7, 3) := by decide +kernel
theorem dX7_isTape_10 : decode cX7_isTape 10 = .ok (.iconst 1, 1) := by decide +kernel
theorem dX7_isTape_11 : decode cX7_isTape 11 = .ok (.goto 4, 3) := by decide +kernel
theorem dX7_isTape_14 : decode cX7_isTape 14 = .ok (.iconst 0, 1) := by decide +kernel
theorem dX7_isTape_15 : decode cX7_isTape 15 = .ok (.ireturn, 1) := by decide +kernel
theorem dX7_bitOf_0 : decode cX7_bitOf 0 = .ok (.iload_n 0, 1) := by decide +kernel
theorem dX7_bitOf_1 : decode cX7_bitOf 1 = .ok (.iload_n 1, 1) := by decide +kernel
theorem dX7_bitOf_2 : decode cX7_bitOf 2 = .ok (.ishr, 1) := by decide +kernel
theorem dX7_bitOf_3 : decode cX7_bitOf 3 = .ok (.iconst 1, 1) := by decide +kernel
theorem dX7_bitOf_4 : decode cX7_bitOf 4 = .ok (.iand, 1) := by decide +kernel
theorem dX7_bitOf_5 : decode cX7_bitOf 5 = .ok (.ireturn, 1) := by decide +kernel
end
section
theorem dX8_isIn_0 : decode cX8_isIn 0 = .ok (.iload_n 0, 1) := by decide +kernel
theorem dX8_isIn_1 : decode cX8_isIn 1 = .ok (.iload_n 1, 1) := by decide +kernel
theorem dX8_isIn_2 : decode cX8_isIn 2 = .ok (.if_icmp .lt 12, 3) := by decide +kernel
theorem dX8_isIn_5 : decode cX8_isIn 5 = .ok (.iload_n 0, 1) := by decide +kernel
theorem dX8_isIn_6 : decode cX8_isIn 6 = .ok (.iload_n 2, 1) := by decide +kernel
theorem dX8_isIn_7 : decode cX8_isIn 7 = .ok (.if_icmp .gt 7, 3) := by decide +kernel
theorem dX8_isIn_10 : decode cX8_isIn 10 = .ok (.iconst 1, 1) := by decide +kernel
theorem dX8_isIn_11 : decode cX8_isIn 11 = .ok (.goto 4, 3) := by decide +kernel
theorem dX8_isIn_14 : decode cX8_isIn 14 = .ok (.iconst 0, 1) := by decide +kernel
theorem dX8_isIn_15 : decode cX8_isIn 15 = .ok (.ireturn, 1) := by decide +kernel
theorem dX8_isCorner_0 : decode cX8_isCorner 0 = .ok (.iload_n 0, 1) := by decide +kernel
theorem dX8_isCorner_1 : decode cX8_isCorner 1 = .ok (.iconst 0, 1) := by decide +kernel
theorem dX8_isCorner_2 : decode cX8_isCorner 2 = .ok (.bipush 7, 2) := by decide +kernel
theorem dX8_isCorner_4 : decode cX8_isCorner 4 = .ok (.invokestatic 5, 3) := by decide +kernel
theorem dX8_isCorner_7 : decode cX8_isCorner 7 = .ok (.ireturn, 1) := by decide +kernel
theorem dX8_isMove_0 : decode cX8_isMove 0 = .ok (.iload_n 0, 1) := by decide +kernel
theorem dX8_isMove_1 : decode cX8_isMove 1 = .ok (.iconst 0, 1) := by decide +kernel
theorem dX8_isMove_2 : decode cX8_isMove 2 = .ok (.bipush 47, 2) := by decide +kernel
theorem dX8_isMove_4 : decode cX8_isMove 4 = .ok (.invokestatic 5, 3) := by decide +kernel
theorem dX8_isMove_7 : decode cX8_isMove 7 = .ok (.ireturn, 1) := by decide +kernel
theorem dX8_bits_0 : decode cX8_bits 0 = .ok (.iconst 0, 1) := by decide +kernel
theorem dX8_bits_1 : decode cX8_bits 1 = .ok (.istore_n 1, 1) := by decide +kernel
theorem dX8_bits_2 : decode cX8_bits 2 = .ok (.iconst 0, 1) := by decide +kernel
theorem dX8_bits_3 : decode cX8_bits 3 = .ok (.istore_n 2, 1) := by decide +kernel
theorem dX8_bits_4 : decode cX8_bits 4 = .ok (.iload_n 2, 1) := by decide +kernel
theorem dX8_bits_5 : decode cX8_bits 5 = .ok (.bipush 8, 2) := by decide +kernel
theorem dX8_bits_7 : decode cX8_bits 7 = .ok (.if_icmp .ge 17, 3) := by decide +kernel
theorem dX8_bits_10 : decode cX8_bits 10 = .ok (.iload_n 1, 1) := by decide +kernel
theorem dX8_bits_11 : decode cX8_bits 11 = .ok (.iload_n 0, 1) := by decide +kernel
theorem dX8_bits_12 : decode cX8_bits 12 = .ok (.iload_n 2, 1) := by decide +kernel
theorem dX8_bits_13 : decode cX8_bits 13 = .ok (.ishr, 1) := by decide +kernel
theorem dX8_bits_14 : decode cX8_bits 14 = .ok (.iconst 1, 1) := by decide +kernel
theorem dX8_bits_15 : decode cX8_bits 15 = .ok (.iand, 1) := by decide +kernel
theorem dX8_bits_16 : decode cX8_bits 16 = .ok (.iadd, 1) := by decide +kernel
theorem dX8_bits_17 : decode cX8_bits 17 = .ok (.istore_n 1, 1) := by decide +kernel
theorem dX8_bits_18 : decode cX8_bits 18 = .ok (.iinc 2 1, 3) := by decide +kernel
theorem dX8_bits_21 : decode cX8_bits 21 = .ok (.goto (-17), 3) := by decide +kernel
theorem dX8_bits_24 : decode cX8_bits 24 = .ok (.iload_n 1, 1) := by decide +kernel
theorem dX8_bits_25 : decode cX8_bits 25 = .ok (.ireturn, 1) := by decide +kernel
theorem dX8_init_0 : decode cX8_init 0 = .ok (.aload_n 0, 1) := by decide +kernel
theorem dX8_init_1 : decode cX8_init 1 = .ok (.invokespecial 9, 3) := by decide +kernel
theorem dX8_init_4 : decode cX8_init 4 = .ok (.aload_n 0, 1) := by decide +kernel
theorem dX8_init_5 : decode cX8_init 5 = .ok (.sipush 384, 3) := by decide +kernel
theorem dX8_init_8 : decode cX8_init 8 = .ok (.newarray .int, 2) := by decide +kernel
theorem dX8_init_10 : decode cX8_init 10 = .ok (.putfield 15, 3) := by decide +kernel
theorem dX8_init_13 : decode cX8_init 13 = .ok (.aload_n 0, 1) := by decide +kernel
theorem dX8_init_14 : decode cX8_init 14 = .ok (.sipush 256, 3) := by decide +kernel
theorem dX8_init_17 : decode cX8_init 17 = .ok (.newarray .int, 2) := by decide +kernel
theorem dX8_init_19 : decode cX8_init 19 = .ok (.putfield 19, 3) := by decide +kernel
theorem dX8_init_22 : decode cX8_init 22 = .ok (.aload_n 0, 1) := by decide +kernel
theorem dX8_init_23 : decode cX8_init 23 = .ok (.sipush 256, 3) := by decide +kernel
theorem dX8_init_26 : decode cX8_init 26 = .ok (.newarray .int, 2) := by decide +kernel
theorem dX8_init_28 : decode cX8_init 28 = .ok (.putfield 22, 3) := by decide +kernel
theorem dX8_init_31 : decode cX8_init 31 = .ok (.aload_n 0, 1) := by decide +kernel
theorem dX8_init_32 : decode cX8_init 32 = .ok (.bipush 6, 2) := by decide +kernel
theorem dX8_init_34 : decode cX8_init 34 = .ok (.newarray .int, 2) := by decide +kernel
theorem dX8_init_36 : decode cX8_init 36 = .ok (.dup, 1) := by decide +kernel
theorem dX8_init_37 : decode cX8_init 37 = .ok (.iconst 0, 1) := by decide +kernel
theorem dX8_init_38 : decode cX8_init 38 = .ok (.iconst 0, 1) := by decide +kernel
theorem dX8_init_39 : decode cX8_init 39 = .ok (.iastore, 1) := by decide +kernel
theorem dX8_init_40 : decode cX8_init 40 = .ok (.dup, 1) := by decide +kernel
theorem dX8_init_41 : decode cX8_init 41 = .ok (.iconst 1, 1) := by decide +kernel
theorem dX8_init_42 : decode cX8_init 42 = .ok (.iconst 0, 1) := by decide +kernel
theorem dX8_init_43 : decode cX8_init 43 = .ok (.iastore, 1) := by decide +kernel
theorem dX8_init_44 : decode cX8_init 44 = .ok (.dup, 1) := by decide +kernel
theorem dX8_init_45 : decode cX8_init 45 = .ok (.iconst 2, 1) := by decide +kernel
theorem dX8_init_46 : decode cX8_init 46 = .ok (.iconst 1, 1) := by decide +kernel
theorem dX8_init_47 : decode cX8_init 47 = .ok (.iastore, 1) := by decide +kernel
theorem dX8_init_48 : decode cX8_init 48 = .ok (.dup, 1) := by decide +kernel
theorem dX8_init_49 : decode cX8_init 49 = .ok (.iconst 3, 1) := by decide +kernel
theorem dX8_init_50 : decode cX8_init 50 = .ok (.iconst 1, 1) := by decide +kernel
theorem dX8_init_51 : decode cX8_init 51 = .ok (.iastore, 1) := by decide +kernel
theorem dX8_init_52 : decode cX8_init 52 = .ok (.dup, 1) := by decide +kernel
theorem dX8_init_53 : decode cX8_init 53 = .ok (.iconst 4, 1) := by decide +kernel
theorem dX8_init_54 : decode cX8_init 54 = .ok (.iconst 2, 1) := by decide +kernel
theorem dX8_init_55 : decode cX8_init 55 = .ok (.iastore, 1) := by decide +kernel
theorem dX8_init_56 : decode cX8_init 56 = .ok (.dup, 1) := by decide +kernel
theorem dX8_init_57 : decode cX8_init 57 = .ok (.iconst 5, 1) := by decide +kernel
theorem dX8_init_58 : decode cX8_init 58 = .ok (.iconst 2, 1) := by decide +kernel
theorem dX8_init_59 : decode cX8_init 59 = .ok (.iastore, 1) := by decide +kernel
theorem dX8_init_60 : decode cX8_init 60 = .ok (.putfield 25, 3) := by decide +kernel
theorem dX8_init_63 : decode cX8_init 63 = .ok (.aload_n 0, 1) := by decide +kernel
theorem dX8_init_64 : decode cX8_init 64 = .ok (.bipush 6, 2) := by decide +kernel
theorem dX8_init_66 : decode cX8_init 66 = .ok (.newarray .int, 2) := by decide +kernel
theorem dX8_init_68 : decode cX8_init 68 = .ok (.dup, 1) := by decide +kernel
theorem dX8_init_69 : decode cX8_init 69 = .ok (.iconst 0, 1) := by decide +kernel
theorem dX8_init_70 : decode cX8_init 70 = .ok (.iconst 1, 1) := by decide +kernel
theorem dX8_init_71 : decode cX8_init 71 = .ok (.iastore, 1) := by decide +kernel
theorem dX8_init_72 : decode cX8_init 72 = .ok (.dup, 1) := by decide +kernel
theorem dX8_init_73 : decode cX8_init 73 = .ok (.iconst 1, 1) := by decide +kernel
theorem dX8_init_74 : decode cX8_init 74 = .ok (.iconst 2, 1) := by decide +kernel
theorem dX8_init_75 : decode cX8_init 75 = .ok (.iastore, 1) := by decide +kernel
theorem dX8_init_76 : decode cX8_init 76 = .ok (.dup, 1) := by decide +kernel
theorem dX8_init_77 : decode cX8_init 77 = .ok (.iconst 2, 1) := by decide +kernel
theorem dX8_init_78 : decode cX8_init 78 = .ok (.iconst 0, 1) := by decide +kernel
theorem dX8_init_79 : decode cX8_init 79 = .ok (.iastore, 1) := by decide +kernel
theorem dX8_init_80 : decode cX8_init 80 = .ok (.dup, 1) := by decide +kernel
theorem dX8_init_81 : decode cX8_init 81 = .ok (.iconst 3, 1) := by decide +kernel
theorem dX8_init_82 : decode cX8_init 82 = .ok (.iconst 2, 1) := by decide +kernel
theorem dX8_init_83 : decode cX8_init 83 = .ok (.iastore, 1) := by decide +kernel
theorem dX8_init_84 : decode cX8_init 84 = .ok (.dup, 1) := by decide +kernel
theorem dX8_init_85 : decode cX8_init 85 = .ok (.iconst 4, 1) := by decide +kernel
theorem dX8_init_86 : decode cX8_init 86 = .ok (.iconst 0, 1) := by decide +kernel
theorem dX8_init_87 : decode cX8_init 87 = .ok (.iastore, 1) := by decide +kernel
theorem dX8_init_88 : decode cX8_init 88 = .ok (.dup, 1) := by decide +kernel
theorem dX8_init_89 : decode cX8_init 89 = .ok (.iconst 5, 1) := by decide +kernel
theorem dX8_init_90 : decode cX8_init 90 = .ok (.iconst 1, 1) := by decide +kernel
theorem dX8_init_91 : decode cX8_init 91 = .ok (.iastore, 1) := by decide +kernel
theorem dX8_init_92 : decode cX8_init 92 = .ok (.putfield 28, 3) := by decide +kernel
theorem dX8_init_95 : decode cX8_init 95 = .ok (.aload_n 0, 1) := by decide +kernel
theorem dX8_init_96 : decode cX8_init 96 = .ok (.sipush 256, 3) := by decide +kernel
theorem dX8_init_99 : decode cX8_init 99 = .ok (.newarray .boolean, 2) := by decide +kernel
theorem dX8_init_101 : decode cX8_init 101 = .ok (.putfield 31, 3) := by decide +kernel
theorem dX8_init_104 : decode cX8_init 104 = .ok (.aload_n 0, 1) := by decide +kernel
theorem dX8_init_105 : decode cX8_init 105 = .ok (.bipush 24, 2) := by decide +kernel
theorem dX8_init_107 : decode cX8_init 107 = .ok (.newarray .int, 2) := by decide +kernel
theorem dX8_init_109 : decode cX8_init 109 = .ok (.putfield 35, 3) := by decide +kernel
theorem dX8_init_112 : decode cX8_init 112 = .ok (.aload_n 0, 1) := by decide +kernel
theorem dX8_init_113 : decode cX8_init 113 = .ok (.bipush 100, 2) := by decide +kernel
theorem dX8_init_115 : decode cX8_init 115 = .ok (.newarray .int, 2) := by decide +kernel
theorem dX8_init_117 : decode cX8_init 117 = .ok (.putfield 38, 3) := by decide +kernel
theorem dX8_init_120 : decode cX8_init 120 = .ok (.aload_n 0, 1) := by decide +kernel
theorem dX8_init_121 : decode cX8_init 121 = .ok (.bipush 12, 2) := by decide +kernel
theorem dX8_init_123 : decode cX8_init 123 = .ok (.newarray .int, 2) := by decide +kernel
theorem dX8_init_125 : decode cX8_init 125 = .ok (.putfield 41, 3) := by decide +kernel
theorem dX8_init_128 : decode cX8_init 128 = .ok (.aload_n 0, 1) := by decide +kernel
theorem dX8_init_129 : decode cX8_init 129 = .ok (.bipush 12, 2) := by decide +kernel
theorem dX8_init_131 : decode cX8_init 131 = .ok (.newarray .int, 2) := by decide +kernel
theorem dX8_init_133 : decode cX8_init 133 = .ok (.putfield 44, 3) := by decide +kernel
theorem dX8_init_136 : decode cX8_init 136 = .ok (.aload_n 0, 1) := by decide +kernel
theorem dX8_init_137 : decode cX8_init 137 = .ok (.iconst 4, 1) := by decide +kernel
theorem dX8_init_138 : decode cX8_init 138 = .ok (.newarray .int, 2) := by decide +kernel
theorem dX8_init_140 : decode cX8_init 140 = .ok (.putfield 47, 3) := by decide +kernel
theorem dX8_init_143 : decode cX8_init 143 = .ok (.aload_n 0, 1) := by decide +kernel
theorem dX8_init_144 : decode cX8_init 144 = .ok (.iconst 4, 1) := by decide +kernel
theorem dX8_init_145 : decode cX8_init 145 = .ok (.newarray .int, 2) := by decide +kernel
theorem dX8_init_147 : decode cX8_init 147 = .ok (.putfield 50, 3) := by decide +kernel
theorem dX8_init_150 : decode cX8_init 150 = .ok (.aload_n 0, 1) := by decide +kernel
theorem dX8_init_151 : decode cX8_init 151 = .ok (.bipush 8, 2) := by decide +kernel
theorem dX8_init_153 : decode cX8_init 153 = .ok (.newarray .int, 2) := by decide +kernel
theorem dX8_init_155 : decode cX8_init 155 = .ok (.putfield 53, 3) := by decide +kernel
theorem dX8_init_158 : decode cX8_init 158 = .ok (.aload_n 0, 1) := by decide +kernel
theorem dX8_init_159 : decode cX8_init 159 = .ok (.bipush 8, 2) := by decide +kernel
theorem dX8_init_161 : decode cX8_init 161 = .ok (.newarray .int, 2) := by decide +kernel
theorem dX8_init_163 : decode cX8_init 163 = .ok (.putfield 56, 3) := by decide +kernel
theorem dX8_init_166 : decode cX8_init 166 = .ok (.aload_n 0, 1) := by decide +kernel
theorem dX8_init_167 : decode cX8_init 167 = .ok (.bipush 8, 2) := by decide +kernel
theorem dX8_init_169 : decode cX8_init 169 = .ok (.newarray .int, 2) := by decide +kernel
theorem dX8_init_171 : decode cX8_init 171 = .ok (.putfield 59, 3) := by decide +kernel
theorem dX8_init_174 : decode cX8_init 174 = .ok (.aload_n 0, 1) := by decide +kernel
theorem dX8_init_175 : decode cX8_init 175 = .ok (.bipush 8, 2) := by decide +kernel
theorem dX8_init_177 : decode cX8_init 177 = .ok (.newarray .int, 2) := by decide +kernel
theorem dX8_init_179 : decode cX8_init 179 = .ok (.putfield 62, 3) := by decide +kernel
theorem dX8_init_182 : decode cX8_init 182 = .ok (.aload_n 0, 1) := by decide +kernel
theorem dX8_init_183 : decode cX8_init 183 = .ok (.bipush 50, 2) := by decide +kernel
theorem dX8_init_185 : decode cX8_init 185 = .ok (.newarray .int, 2) := by decide +kernel
theorem dX8_init_187 : decode cX8_init 187 = .ok (.putfield 65, 3) := by decide +kernel
theorem dX8_init_190 : decode cX8_init 190 = .ok (.aload_n 0, 1) := by decide +kernel
theorem dX8_init_191 : decode cX8_init 191 = .ok (.bipush 6, 2) := by decide +kernel
theorem dX8_init_193 : decode cX8_init 193 = .ok (.newarray .int, 2) := by decide +kernel
theorem dX8_init_195 : decode cX8_init 195 = .ok (.putfield 68, 3) := by decide +kernel
theorem dX8_init_198 : decode cX8_init 198 = .ok (.aload_n 0, 1) := by decide +kernel
theorem dX8_init_199 : decode cX8_init 199 = .ok (.bipush 6, 2) := by decide +kernel
theorem dX8_init_201 : decode cX8_init 201 = .ok (.newarray .int, 2) := by decide +kernel
theorem dX8_init_203 : decode cX8_init 203 = .ok (.putfield 71, 3) := by decide +kernel
theorem dX8_init_206 : decode cX8_init 206 = .ok (.aload_n 0, 1) := by decide +kernel
theorem dX8_init_207 : decode cX8_init 207 = .ok (.sipush 360, 3) := by decide +kernel
theorem dX8_init_210 : decode cX8_init 210 = .ok (.newarray .long, 2) := by decide +kernel
theorem dX8_init_212 : decode cX8_init 212 = .ok (.putfield 74, 3) := by decide +kernel
theorem dX8_init_215 : decode cX8_init 215 = .ok (.aload_n 0, 1) := by decide +kernel
theorem dX8_init_216 : decode cX8_init 216 = .ok (.bipush 60, 2) := by decide +kernel
theorem dX8_init_218 : decode cX8_init 218 = .ok (.newarray .long, 2) := by decide +kernel
theorem dX8_init_220 : decode cX8_init 220 = .ok (.putfield 78, 3) := by decide +kernel
theorem dX8_init_223 : decode cX8_init 223 = .ok (.iconst 0, 1) := by decide +kernel
theorem dX8_init_224 : decode cX8_init 224 = .ok (.istore_n 1, 1) := by decide +kernel
theorem dX8_init_225 : decode cX8_init 225 = .ok (.iload_n 1, 1) := by decide +kernel
theorem dX8_init_226 : decode cX8_init 226 = .ok (.bipush 48, 2) := by decide +kernel
theorem dX8_init_228 : decode cX8_init 228 = .ok (.if_icmp .ge 94, 3) := by decide +kernel
theorem dX8_init_231 : decode cX8_init 231 = .ok (.aload_n 0, 1) := by decide +kernel
theorem dX8_init_232 : decode cX8_init 232 = .ok (.getfield 25, 3) := by decide +kernel
theorem dX8_init_235 : decode cX8_init 235 = .ok (.iload_n 1, 1) := by decide +kernel
theorem dX8_init_236 : decode cX8_init 236 = .ok (.bipush 8, 2) := by decide +kernel
theorem dX8_init_238 : decode cX8_init 238 = .ok (.idiv, 1) := by decide +kernel
theorem dX8_init_239 : decode cX8_init 239 = .ok (.iaload, 1) := by decide +kernel
theorem dX8_init_240 : decode cX8_init 240 = .ok (.istore_n 2, 1) := by decide +kernel
theorem dX8_init_241 : decode cX8_init 241 = .ok (.aload_n 0, 1) := by decide +kernel
theorem dX8_init_242 : decode cX8_init 242 = .ok (.getfield 28, 3) := by decide +kernel
theorem dX8_init_245 : decode cX8_init 245 = .ok (.iload_n 1, 1) := by decide +kernel
theorem dX8_init_246 : decode cX8_init 246 = .ok (.bipush 8, 2) := by decide +kernel
theorem dX8_init_248 : decode cX8_init 248 = .ok (.idiv, 1) := by decide +kernel
theorem dX8_init_249 : decode cX8_init 249 = .ok (.iaload, 1) := by decide +kernel
theorem dX8_init_250 : decode cX8_init 250 = .ok (.istore_n 3, 1) := by decide +kernel
theorem dX8_init_251 : decode cX8_init 251 = .ok (.iconst 3, 1) := by decide +kernel
theorem dX8_init_252 : decode cX8_init 252 = .ok (.iload_n 2, 1) := by decide +kernel
theorem dX8_init_253 : decode cX8_init 253 = .ok (.isub, 1) := by decide +kernel
theorem dX8_init_254 : decode cX8_init 254 = .ok (.iload_n 3, 1) := by decide +kernel
theorem dX8_init_255 : decode cX8_init 255 = .ok (.isub, 1) := by decide +kernel
theorem dX8_init_256 : decode cX8_init 256 = .ok (.istore 4, 2) := by decide +kernel
theorem dX8_init_258 : decode cX8_init 258 = .ok (.iconst 0, 1) := by decide +kernel
theorem dX8_init_259 : decode cX8_init 259 = .ok (.istore 5, 2) := by decide +kernel
theorem dX8_init_261 : decode cX8_init 261 = .ok (.iload 5, 2) := by decide +kernel
theorem dX8_init_263 : decode cX8_init 263 = .ok (.bipush 8, 2) := by decide +kernel
theorem dX8_init_265 : decode cX8_init 265 = .ok (.if_icmp .ge 51, 3) := by decide +kernel
theorem dX8_init_268 : decode cX8_init 268 = .ok (.aload_n 0, 1) := by decide +kernel
theorem dX8_init_269 : decode cX8_init 269 = .ok (.getfield 15, 3) := by decide +kernel
theorem dX8_init_272 : decode cX8_init 272 = .ok (.bipush 8, 2) := by decide +kernel
theorem dX8_init_274 : decode cX8_init 274 = .ok (.iload_n 1, 1) := by decide +kernel
theorem dX8_init_275 : decode cX8_init 275 = .ok (.imul, 1) := by decide +kernel
theorem dX8_init_276 : decode cX8_init 276 = .ok (.iload 5, 2) := by decide +kernel
theorem dX8_init_278 : decode cX8_init 278 = .ok (.iadd, 1) := by decide +kernel
theorem dX8_init_279 : decode cX8_init 279 = .ok (.iload 5, 2) := by decide +kernel
theorem dX8_init_281 : decode cX8_init 281 = .ok (.iload_n 2, 1) := by decide +kernel
theorem dX8_init_282 : decode cX8_init 282 = .ok (.ishr, 1) := by decide +kernel
theorem dX8_init_283 : decode cX8_init 283 = .ok (.iconst 1, 1) := by decide +kernel
theorem dX8_init_284 : decode cX8_init 284 = .ok (.iand, 1) := by decide +kernel
theorem dX8_init_285 : decode cX8_init 285 = .ok (.iload 5, 2) := by decide +kernel
theorem dX8_init_287 : decode cX8_init 287 = .ok (.iload_n 3, 1) := by decide +kernel
theorem dX8_init_288 : decode cX8_init 288 = .ok (.ishr, 1) := by decide +kernel
theorem dX8_init_289 : decode cX8_init 289 = .ok (.iconst 1, 1) := by decide +kernel
theorem dX8_init_290 : decode cX8_init 290 = .ok (.iand, 1) := by decide +kernel
theorem dX8_init_291 : decode cX8_init 291 = .ok (.iconst 1, 1) := by decide +kernel
theorem dX8_init_292 : decode cX8_init 292 = .ok (.ishl, 1) := by decide +kernel
theorem dX8_init_293 : decode cX8_init 293 = .ok (.ior, 1) := by decide +kernel
theorem dX8_init_294 : decode cX8_init 294 = .ok (.iload 5, 2) := by decide +kernel
theorem dX8_init_296 : decode cX8_init 296 = .ok (.iload 4, 2) := by decide +kernel
theorem dX8_init_298 : decode cX8_init 298 = .ok (.ishr, 1) := by decide +kernel
theorem dX8_init_299 : decode cX8_init 299 = .ok (.iconst 1, 1) := by decide +kernel
theorem dX8_init_300 : decode cX8_init 300 = .ok (.iand, 1) := by decide +kernel
theorem dX8_init_301 : decode cX8_init 301 = .ok (.iconst 2, 1) := by decide +kernel
theorem dX8_init_302 : decode cX8_init 302 = .ok (.ishl, 1) := by decide +kernel
theorem dX8_init_303 : decode cX8_init 303 = .ok (.ior, 1) := by decide +kernel
theorem dX8_init_304 : decode cX8_init 304 = .ok (.iload_n 1, 1) := by decide +kernel
theorem dX8_init_305 : decode cX8_init 305 = .ok (.bipush 8, 2) := by decide +kernel
theorem dX8_init_307 : decode cX8_init 307 = .ok (.irem, 1) := by decide +kernel
theorem dX8_init_308 : decode cX8_init 308 = .ok (.ixor, 1) := by decide +kernel
theorem dX8_init_309 : decode cX8_init 309 = .ok (.iastore, 1) := by decide +kernel
theorem dX8_init_310 : decode cX8_init 310 = .ok (.iinc 5 1, 3) := by decide +kernel
theorem dX8_init_313 : decode cX8_init 313 = .ok (.goto (-52), 3) := by decide +kernel
theorem dX8_init_316 : decode cX8_init 316 = .ok (.iinc 1 1, 3) := by decide +kernel
theorem dX8_init_319 : decode cX8_init 319 = .ok (.goto (-94), 3) := by decide +kernel
theorem dX8_init_322 : decode cX8_init 322 = .ok (.iconst 0, 1) := by decide +kernel
theorem dX8_init_323 : decode cX8_init 323 = .ok (.istore_n 1, 1) := by decide +kernel
theorem dX8_init_324 : decode cX8_init 324 = .ok (.iconst 0, 1) := by decide +kernel
theorem dX8_init_325 : decode cX8_init 325 = .ok (.istore_n 2, 1) := by decide +kernel
theorem dX8_init_326 : decode cX8_init 326 = .ok (.iload_n 2, 1) := by decide +kernel
theorem dX8_init_327 : decode cX8_init 327 = .ok (.sipush 256, 3) := by decide +kernel
theorem dX8_init_330 : decode cX8_init 330 = .ok (.if_icmp .ge 90, 3) := by decide +kernel
theorem dX8_init_333 : decode cX8_init 333 = .ok (.iload_n 2, 1) := by decide +kernel
theorem dX8_init_334 : decode cX8_init 334 = .ok (.istore_n 3, 1) := by decide +kernel
theorem dX8_init_335 : decode cX8_init 335 = .ok (.iconst 0, 1) := by decide +kernel
theorem dX8_init_336 : decode cX8_init 336 = .ok (.istore 4, 2) := by decide +kernel
theorem dX8_init_338 : decode cX8_init 338 = .ok (.iload 4, 2) := by decide +kernel
theorem dX8_init_340 : decode cX8_init 340 = .ok (.bipush 48, 2) := by decide +kernel
theorem dX8_init_342 : decode cX8_init 342 = .ok (.if_icmp .ge 31, 3) := by decide +kernel
theorem dX8_init_345 : decode cX8_init 345 = .ok (.aload_n 0, 1) := by decide +kernel
theorem dX8_init_346 : decode cX8_init 346 = .ok (.iload_n 2, 1) := by decide +kernel
theorem dX8_init_347 : decode cX8_init 347 = .ok (.iload 4, 2) := by decide +kernel
theorem dX8_init_349 : decode cX8_init 349 = .ok (.invokevirtual 81, 3) := by decide +kernel
theorem dX8_init_352 : decode cX8_init 352 = .ok (.istore 5, 2) := by decide +kernel
theorem dX8_init_354 : decode cX8_init 354 = .ok (.iload 5, 2) := by decide +kernel
theorem dX8_init_356 : decode cX8_init 356 = .ok (.iload_n 3, 1) := by decide +kernel
theorem dX8_init_357 : decode cX8_init 357 = .ok (.if_icmp .ge 8, 3) := by decide +kernel
theorem dX8_init_360 : decode cX8_init 360 = .ok (.iload 5, 2) := by decide +kernel
theorem dX8_init_362 : decode cX8_init 362 = .ok (.goto 4, 3) := by decide +kernel
theorem dX8_init_365 : decode cX8_init 365 = .ok (.iload_n 3, 1) := by decide +kernel
theorem dX8_init_366 : decode cX8_init 366 = .ok (.istore_n 3, 1) := by decide +kernel
theorem dX8_init_367 : decode cX8_init 367 = .ok (.iinc 4 1, 3) := by decide +kernel
theorem dX8_init_370 : decode cX8_init 370 = .ok (.goto (-32), 3) := by decide +kernel
theorem dX8_init_373 : decode cX8_init 373 = .ok (.aload_n 0, 1) := by decide +kernel
theorem dX8_init_374 : decode cX8_init 374 = .ok (.getfield 19, 3) := by decide +kernel
theorem dX8_init_377 : decode cX8_init 377 = .ok (.iload_n 2, 1) := by decide +kernel
theorem dX8_init_378 : decode cX8_init 378 = .ok (.iload_n 3, 1) := by decide +kernel
theorem dX8_init_379 : decode cX8_init 379 = .ok (.iastore, 1) := by decide +kernel
theorem dX8_init_380 : decode cX8_init 380 = .ok (.aload_n 0, 1) := by decide +kernel
theorem dX8_init_381 : decode cX8_init 381 = .ok (.getfield 22, 3) := by decide +kernel
theorem dX8_init_384 : decode cX8_init 384 = .ok (.iload_n 2, 1) := by decide +kernel
theorem dX8_init_385 : decode cX8_init 385 = .ok (.iload_n 3, 1) := by decide +kernel
theorem dX8_init_386 : decode cX8_init 386 = .ok (.iload_n 2, 1) := by decide +kernel
theorem dX8_init_387 : decode cX8_init 387 = .ok (.if_icmp .ne 7, 3) := by decide +kernel
theorem dX8_init_390 : decode cX8_init 390 = .ok (.iload_n 1, 1) := by decide +kernel
theorem dX8_init_391 : decode cX8_init 391 = .ok (.goto 9, 3) := by decide +kernel
theorem dX8_init_394 : decode cX8_init 394 = .ok (.aload_n 0, 1) := by decide +kernel
theorem dX8_init_395 : decode cX8_init 395 = .ok (.getfield 22, 3) := by decide +kernel
theorem dX8_init_398 : decode cX8_init 398 = .ok (.iload_n 3, 1) := by decide +kernel
theorem dX8_init_399 : decode cX8_init 399 = .ok (.iaload, 1) := by decide +kernel
theorem dX8_init_400 : decode cX8_init 400 = .ok (.iastore, 1) := by decide +kernel
theorem dX8_init_401 : decode cX8_init 401 = .ok (.iload_n 1, 1) := by decide +kernel
theorem dX8_init_402 : decode cX8_init 402 = .ok (.iload_n 3, 1) := by decide +kernel
theorem dX8_init_403 : decode cX8_init 403 = .ok (.iload_n 2, 1) := by decide +kernel
theorem dX8_init_404 : decode cX8_init 404 = .ok (.if_icmp .ne 7, 3) := by decide +kernel
theorem dX8_init_407 : decode cX8_init 407 = .ok (.iconst 1, 1) := by decide +kernel
theorem dX8_init_408 : decode cX8_init 408 = .ok (.goto 4, 3) := by decide +kernel
theorem dX8_init_411 : decode cX8_init 411 = .ok (.iconst 0, 1) := by decide +kernel
theorem dX8_init_412 : decode cX8_init 412 = .ok (.iadd, 1) := by decide +kernel
theorem dX8_init_413 : decode cX8_init 413 = .ok (.istore_n 1, 1) := by decide +kernel
theorem dX8_init_414 : decode cX8_init 414 = .ok (.iinc 2 1, 3) := by decide +kernel
theorem dX8_init_417 : decode cX8_init 417 = .ok (.goto (-91), 3) := by decide +kernel
theorem dX8_init_420 : decode cX8_init 420 = .ok (.iconst 0, 1) := by decide +kernel
theorem dX8_init_421 : decode cX8_init 421 = .ok (.istore_n 2, 1) := by decide +kernel
theorem dX8_init_422 : decode cX8_init 422 = .ok (.iload_n 2, 1) := by decide +kernel
theorem dX8_init_423 : decode cX8_init 423 = .ok (.bipush 6, 2) := by decide +kernel
theorem dX8_init_425 : decode cX8_init 425 = .ok (.if_icmp .ge 16, 3) := by decide +kernel
theorem dX8_init_428 : decode cX8_init 428 = .ok (.aload_n 0, 1) := by decide +kernel
theorem dX8_init_429 : decode cX8_init 429 = .ok (.getfield 71, 3) := by decide +kernel
theorem dX8_init_432 : decode cX8_init 432 = .ok (.iload_n 2, 1) := by decide +kernel
theorem dX8_init_433 : decode cX8_init 433 = .ok (.iconst (-1), 1) := by decide +kernel
theorem dX8_init_434 : decode cX8_init 434 = .ok (.iastore, 1) := by decide +kernel
theorem dX8_init_435 : decode cX8_init 435 = .ok (.iinc 2 1, 3) := by decide +kernel
theorem dX8_init_438 : decode cX8_init 438 = .ok (.goto (-16), 3) := by decide +kernel
theorem dX8_init_441 : decode cX8_init 441 = .ok (.return_, 1) := by decide +kernel
theorem dX8_imageOf_0 : decode cX8_imageOf 0 = .ok (.iconst 0, 1) := by decide +kernel
theorem dX8_imageOf_1 : decode cX8_imageOf 1 = .ok (.istore_n 3, 1) := by decide +kernel
theorem dX8_imageOf_2 : decode cX8_imageOf 2 = .ok (.iconst 0, 1) := by decide +kernel
theorem dX8_imageOf_3 : decode cX8_imageOf 3 = .ok (.istore 4, 2) := by decide +kernel
theorem dX8_imageOf_5 : decode cX8_imageOf 5 = .ok (.iload 4, 2) := by decide +kernel
theorem dX8_imageOf_7 : decode cX8_imageOf 7 = .ok (.bipush 8, 2) := by decide +kernel
theorem dX8_imageOf_9 : decode cX8_imageOf 9 = .ok (.if_icmp .ge 31, 3) := by decide +kernel
theorem dX8_imageOf_12 : decode cX8_imageOf 12 = .ok (.iload_n 3, 1) := by decide +kernel
theorem dX8_imageOf_13 : decode cX8_imageOf 13 = .ok (.iload_n 1, 1) := by decide +kernel
theorem dX8_imageOf_14 : decode cX8_imageOf 14 = .ok (.iload 4, 2) := by decide +kernel
theorem dX8_imageOf_16 : decode cX8_imageOf 16 = .ok (.ishr, 1) := by decide +kernel
theorem dX8_imageOf_17 : decode cX8_imageOf 17 = .ok (.iconst 1, 1) := by decide +kernel
theorem dX8_imageOf_18 : decode cX8_imageOf 18 = .ok (.iand, 1) := by decide +kernel
theorem dX8_imageOf_19 : decode cX8_imageOf 19 = .ok (.aload_n 0, 1) := by decide +kernel
theorem dX8_imageOf_20 : decode cX8_imageOf 20 = .ok (.getfield 15, 3) := by decide +kernel
theorem dX8_imageOf_23 : decode cX8_imageOf 23 = .ok (.bipush 8, 2) := by decide +kernel
theorem dX8_imageOf_25 : decode cX8_imageOf 25 = .ok (.iload_n 2, 1) := by decide +kernel
theorem dX8_imageOf_26 : decode cX8_imageOf 26 = .ok (.imul, 1) := by decide +kernel
theorem dX8_imageOf_27 : decode cX8_imageOf 27 = .ok (.iload 4, 2) := by decide +kernel
theorem dX8_imageOf_29 : decode cX8_imageOf 29 = .ok (.iadd, 1) := by decide +kernel
theorem dX8_imageOf_30 : decode cX8_imageOf 30 = .ok (.iaload, 1) := by decide +kernel
theorem dX8_imageOf_31 : decode cX8_imageOf 31 = .ok (.ishl, 1) := by decide +kernel
theorem dX8_imageOf_32 : decode cX8_imageOf 32 = .ok (.ior, 1) := by decide +kernel
theorem dX8_imageOf_33 : decode cX8_imageOf 33 = .ok (.istore_n 3, 1) := by decide +kernel
theorem dX8_imageOf_34 : decode cX8_imageOf 34 = .ok (.iinc 4 1, 3) := by decide +kernel
theorem dX8_imageOf_37 : decode cX8_imageOf 37 = .ok (.goto (-32), 3) := by decide +kernel
theorem dX8_imageOf_40 : decode cX8_imageOf 40 = .ok (.iload_n 3, 1) := by decide +kernel
theorem dX8_imageOf_41 : decode cX8_imageOf 41 = .ok (.ireturn, 1) := by decide +kernel
theorem dX8_likes_0 : decode cX8_likes 0 = .ok (.iconst 0, 1) := by decide +kernel
theorem dX8_likes_1 : decode cX8_likes 1 = .ok (.istore_n 2, 1) := by decide +kernel
theorem dX8_likes_2 : decode cX8_likes 2 = .ok (.iconst 0, 1) := by decide +kernel
theorem dX8_likes_3 : decode cX8_likes 3 = .ok (.istore_n 3, 1) := by decide +kernel
theorem dX8_likes_4 : decode cX8_likes 4 = .ok (.iload_n 3, 1) := by decide +kernel
theorem dX8_likes_5 : decode cX8_likes 5 = .ok (.sipush 256, 3) := by decide +kernel
theorem dX8_likes_8 : decode cX8_likes 8 = .ok (.if_icmp .ge 32, 3) := by decide +kernel
theorem dX8_likes_11 : decode cX8_likes 11 = .ok (.iload_n 2, 1) := by decide +kernel
theorem dX8_likes_12 : decode cX8_likes 12 = .ok (.aload_n 0, 1) := by decide +kernel
theorem dX8_likes_13 : decode cX8_likes 13 = .ok (.getfield 19, 3) := by decide +kernel
theorem dX8_likes_16 : decode cX8_likes 16 = .ok (.iload_n 3, 1) := by decide +kernel
theorem dX8_likes_17 : decode cX8_likes 17 = .ok (.iaload, 1) := by decide +kernel
theorem dX8_likes_18 : decode cX8_likes 18 = .ok (.aload_n 0, 1) := by decide +kernel
theorem dX8_likes_19 : decode cX8_likes 19 = .ok (.getfield 19, 3) := by decide +kernel
theorem dX8_likes_22 : decode cX8_likes 22 = .ok (.iload_n 1, 1) := by decide +kernel
theorem dX8_likes_23 : decode cX8_likes 23 = .ok (.iaload, 1) := by decide +kernel
theorem dX8_likes_24 : decode cX8_likes 24 = .ok (.if_icmp .ne 7, 3) := by decide +kernel
theorem dX8_likes_27 : decode cX8_likes 27 = .ok (.iconst 1, 1) := by decide +kernel
theorem dX8_likes_28 : decode cX8_likes 28 = .ok (.goto 4, 3) := by decide +kernel
theorem dX8_likes_31 : decode cX8_likes 31 = .ok (.iconst 0, 1) := by decide +kernel
theorem dX8_likes_32 : decode cX8_likes 32 = .ok (.iadd, 1) := by decide +kernel
theorem dX8_likes_33 : decode cX8_likes 33 = .ok (.istore_n 2, 1) := by decide +kernel
theorem dX8_likes_34 : decode cX8_likes 34 = .ok (.iinc 3 1, 3) := by decide +kernel
theorem dX8_likes_37 : decode cX8_likes 37 = .ok (.goto (-33), 3) := by decide +kernel
theorem dX8_likes_40 : decode cX8_likes 40 = .ok (.iload_n 2, 1) := by decide +kernel
theorem dX8_likes_41 : decode cX8_likes 41 = .ok (.ireturn, 1) := by decide +kernel
theorem dX8_stills_0 : decode cX8_stills 0 = .ok (.iconst 0, 1) := by decide +kernel
theorem dX8_stills_1 : decode cX8_stills 1 = .ok (.istore_n 2, 1) := by decide +kernel
theorem dX8_stills_2 : decode cX8_stills 2 = .ok (.iconst 0, 1) := by decide +kernel
theorem dX8_stills_3 : decode cX8_stills 3 = .ok (.istore_n 3, 1) := by decide +kernel
theorem dX8_stills_4 : decode cX8_stills 4 = .ok (.iload_n 3, 1) := by decide +kernel
theorem dX8_stills_5 : decode cX8_stills 5 = .ok (.bipush 48, 2) := by decide +kernel
theorem dX8_stills_7 : decode cX8_stills 7 = .ok (.if_icmp .ge 27, 3) := by decide +kernel
theorem dX8_stills_10 : decode cX8_stills 10 = .ok (.iload_n 2, 1) := by decide +kernel
theorem dX8_stills_11 : decode cX8_stills 11 = .ok (.aload_n 0, 1) := by decide +kernel
theorem dX8_stills_12 : decode cX8_stills 12 = .ok (.iload_n 1, 1) := by decide +kernel
theorem dX8_stills_13 : decode cX8_stills 13 = .ok (.iload_n 3, 1) := by decide +kernel
theorem dX8_stills_14 : decode cX8_stills 14 = .ok (.invokevirtual 81, 3) := by decide +kernel
theorem dX8_stills_17 : decode cX8_stills 17 = .ok (.iload_n 1, 1) := by decide +kernel
theorem dX8_stills_18 : decode cX8_stills 18 = .ok (.if_icmp .ne 7, 3) := by decide +kernel
theorem dX8_stills_21 : decode cX8_stills 21 = .ok (.iconst 1, 1) := by decide +kernel
theorem dX8_stills_22 : decode cX8_stills 22 = .ok (.goto 4, 3) := by decide +kernel
theorem dX8_stills_25 : decode cX8_stills 25 = .ok (.iconst 0, 1) := by decide +kernel
theorem dX8_stills_26 : decode cX8_stills 26 = .ok (.iadd, 1) := by decide +kernel
theorem dX8_stills_27 : decode cX8_stills 27 = .ok (.istore_n 2, 1) := by decide +kernel
theorem dX8_stills_28 : decode cX8_stills 28 = .ok (.iinc 3 1, 3) := by decide +kernel
theorem dX8_stills_31 : decode cX8_stills 31 = .ok (.goto (-27), 3) := by decide +kernel
theorem dX8_stills_34 : decode cX8_stills 34 = .ok (.iload_n 2, 1) := by decide +kernel
theorem dX8_stills_35 : decode cX8_stills 35 = .ok (.ireturn, 1) := by decide +kernel
theorem dX8_weightAt_0 : decode cX8_weightAt 0 = .ok (.iload_n 1, 1) := by decide +kernel
theorem dX8_weightAt_1 : decode cX8_weightAt 1 = .ok (.ifCond .ne 10, 3) := by decide +kernel
theorem dX8_weightAt_4 : decode cX8_weightAt 4 = .ok (.iload_n 0, 1) := by decide +kernel
theorem dX8_weightAt_5 : decode cX8_weightAt 5 = .ok (.bipush 49, 2) := by decide +kernel
theorem dX8_weightAt_7 : decode cX8_weightAt 7 = .ok (.idiv, 1) := by decide +kernel
theorem dX8_weightAt_8 : decode cX8_weightAt 8 = .ok (.goto 22, 3) := by decide +kernel
theorem dX8_weightAt_11 : decode cX8_weightAt 11 = .ok (.iload_n 1, 1) := by decide +kernel
theorem dX8_weightAt_12 : decode cX8_weightAt 12 = .ok (.iconst 1, 1) := by decide +kernel
theorem dX8_weightAt_13 : decode cX8_weightAt 13 = .ok (.if_icmp .ne 13, 3) := by decide +kernel
theorem dX8_weightAt_16 : decode cX8_weightAt 16 = .ok (.iload_n 0, 1) := by decide +kernel
theorem dX8_weightAt_17 : decode cX8_weightAt 17 = .ok (.bipush 7, 2) := by decide +kernel
theorem dX8_weightAt_19 : decode cX8_weightAt 19 = .ok (.idiv, 1) := by decide +kernel
theorem dX8_weightAt_20 : decode cX8_weightAt 20 = .ok (.bipush 7, 2) := by decide +kernel
theorem dX8_weightAt_22 : decode cX8_weightAt 22 = .ok (.irem, 1) := by decide +kernel
theorem dX8_weightAt_23 : decode cX8_weightAt 23 = .ok (.goto 7, 3) := by decide +kernel
theorem dX8_weightAt_26 : decode cX8_weightAt 26 = .ok (.iload_n 0, 1) := by decide +kernel
theorem dX8_weightAt_27 : decode cX8_weightAt 27 = .ok (.bipush 7, 2) := by decide +kernel
theorem dX8_weightAt_29 : decode cX8_weightAt 29 = .ok (.irem, 1) := by decide +kernel
theorem dX8_weightAt_30 : decode cX8_weightAt 30 = .ok (.iconst 3, 1) := by decide +kernel
theorem dX8_weightAt_31 : decode cX8_weightAt 31 = .ok (.isub, 1) := by decide +kernel
theorem dX8_weightAt_32 : decode cX8_weightAt 32 = .ok (.ireturn, 1) := by decide +kernel
theorem dX8_weighsAt_0 : decode cX8_weighsAt 0 = .ok (.iload_n 0, 1) := by decide +kernel
theorem dX8_weighsAt_1 : decode cX8_weighsAt 1 = .ok (.iconst 0, 1) := by decide +kernel
theorem dX8_weighsAt_2 : decode cX8_weighsAt 2 = .ok (.invokestatic 85, 3) := by decide +kernel
theorem dX8_weighsAt_5 : decode cX8_weighsAt 5 = .ok (.iload_n 1, 1) := by decide +kernel
theorem dX8_weighsAt_6 : decode cX8_weighsAt 6 = .ok (.imul, 1) := by decide +kernel
theorem dX8_weighsAt_7 : decode cX8_weighsAt 7 = .ok (.iload_n 0, 1) := by decide +kernel
theorem dX8_weighsAt_8 : decode cX8_weighsAt 8 = .ok (.iconst 1, 1) := by decide +kernel
theorem dX8_weighsAt_9 : decode cX8_weighsAt 9 = .ok (.invokestatic 85, 3) := by decide +kernel
theorem dX8_weighsAt_12 : decode cX8_weighsAt 12 = .ok (.iload_n 2, 1) := by decide +kernel
theorem dX8_weighsAt_13 : decode cX8_weighsAt 13 = .ok (.imul, 1) := by decide +kernel
theorem dX8_weighsAt_14 : decode cX8_weighsAt 14 = .ok (.iadd, 1) := by decide +kernel
theorem dX8_weighsAt_15 : decode cX8_weighsAt 15 = .ok (.iload_n 0, 1) := by decide +kernel
theorem dX8_weighsAt_16 : decode cX8_weighsAt 16 = .ok (.iconst 2, 1) := by decide +kernel
theorem dX8_weighsAt_17 : decode cX8_weighsAt 17 = .ok (.invokestatic 85, 3) := by decide +kernel
theorem dX8_weighsAt_20 : decode cX8_weighsAt 20 = .ok (.iload_n 3, 1) := by decide +kernel
theorem dX8_weighsAt_21 : decode cX8_weighsAt 21 = .ok (.imul, 1) := by decide +kernel
theorem dX8_weighsAt_22 : decode cX8_weighsAt 22 = .ok (.iadd, 1) := by decide +kernel
theorem dX8_weighsAt_23 : decode cX8_weighsAt 23 = .ok (.ireturn, 1) := by decide +kernel
theorem dX8_weighsCorner_0 : decode cX8_weighsCorner 0 = .ok (.iload_n 0, 1) := by decide +kernel
theorem dX8_weighsCorner_1 : decode cX8_weighsCorner 1 = .ok (.iload_n 1, 1) := by decide +kernel
theorem dX8_weighsCorner_2 : decode cX8_weighsCorner 2 = .ok (.iconst 1, 1) := by decide +kernel
theorem dX8_weighsCorner_3 : decode cX8_weighsCorner 3 = .ok (.iand, 1) := by decide +kernel
theorem dX8_weighsCorner_4 : decode cX8_weighsCorner 4 = .ok (.iload_n 1, 1) := by decide +kernel
theorem dX8_weighsCorner_5 : decode cX8_weighsCorner 5 = .ok (.iconst 1, 1) := by decide +kernel
theorem dX8_weighsCorner_6 : decode cX8_weighsCorner 6 = .ok (.ishr, 1) := by decide +kernel
theorem dX8_weighsCorner_7 : decode cX8_weighsCorner 7 = .ok (.iconst 1, 1) := by decide +kernel
theorem dX8_weighsCorner_8 : decode cX8_weighsCorner 8 = .ok (.iand, 1) := by decide +kernel
theorem dX8_weighsCorner_9 : decode cX8_weighsCorner 9 = .ok (.iload_n 1, 1) := by decide +kernel
theorem dX8_weighsCorner_10 : decode cX8_weighsCorner 10 = .ok (.iconst 2, 1) := by decide +kernel
theorem dX8_weighsCorner_11 : decode cX8_weighsCorner 11 = .ok (.ishr, 1) := by decide +kernel
theorem dX8_weighsCorner_12 : decode cX8_weighsCorner 12 = .ok (.iconst 1, 1) := by decide +kernel
theorem dX8_weighsCorner_13 : decode cX8_weighsCorner 13 = .ok (.iand, 1) := by decide +kernel
theorem dX8_weighsCorner_14 : decode cX8_weighsCorner 14 = .ok (.invokestatic 88, 3) := by decide +kernel
theorem dX8_weighsCorner_17 : decode cX8_weighsCorner 17 = .ok (.ireturn, 1) := by decide +kernel
theorem dX8_mostOf_0 : decode cX8_mostOf 0 = .ok (.bipush (-27), 2) := by decide +kernel
theorem dX8_mostOf_2 : decode cX8_mostOf 2 = .ok (.istore_n 2, 1) := by decide +kernel
theorem dX8_mostOf_3 : decode cX8_mostOf 3 = .ok (.iconst 0, 1) := by decide +kernel
theorem dX8_mostOf_4 : decode cX8_mostOf 4 = .ok (.istore_n 3, 1) := by decide +kernel
theorem dX8_mostOf_5 : decode cX8_mostOf 5 = .ok (.iload_n 3, 1) := by decide +kernel
theorem dX8_mostOf_6 : decode cX8_mostOf 6 = .ok (.bipush 8, 2) := by decide +kernel
theorem dX8_mostOf_8 : decode cX8_mostOf 8 = .ok (.if_icmp .ge 33, 3) := by decide +kernel
theorem dX8_mostOf_11 : decode cX8_mostOf 11 = .ok (.iload_n 0, 1) := by decide +kernel
theorem dX8_mostOf_12 : decode cX8_mostOf 12 = .ok (.iload_n 3, 1) := by decide +kernel
theorem dX8_mostOf_13 : decode cX8_mostOf 13 = .ok (.ishr, 1) := by decide +kernel
theorem dX8_mostOf_14 : decode cX8_mostOf 14 = .ok (.iconst 1, 1) := by decide +kernel
theorem dX8_mostOf_15 : decode cX8_mostOf 15 = .ok (.iand, 1) := by decide +kernel
theorem dX8_mostOf_16 : decode cX8_mostOf 16 = .ok (.iconst 1, 1) := by decide +kernel
theorem dX8_mostOf_17 : decode cX8_mostOf 17 = .ok (.if_icmp .ne 18, 3) := by decide +kernel
theorem dX8_mostOf_20 : decode cX8_mostOf 20 = .ok (.iload_n 1, 1) := by decide +kernel
theorem dX8_mostOf_21 : decode cX8_mostOf 21 = .ok (.iload_n 3, 1) := by decide +kernel
theorem dX8_mostOf_22 : decode cX8_mostOf 22 = .ok (.invokestatic 92, 3) := by decide +kernel
theorem dX8_mostOf_25 : decode cX8_mostOf 25 = .ok (.iload_n 2, 1) := by decide +kernel
theorem dX8_mostOf_26 : decode cX8_mostOf 26 = .ok (.if_icmp .le 9, 3) := by decide +kernel
theorem dX8_mostOf_29 : decode cX8_mostOf 29 = .ok (.iload_n 1, 1) := by decide +kernel
theorem dX8_mostOf_30 : decode cX8_mostOf 30 = .ok (.iload_n 3, 1) := by decide +kernel
theorem dX8_mostOf_31 : decode cX8_mostOf 31 = .ok (.invokestatic 92, 3) := by decide +kernel
theorem dX8_mostOf_34 : decode cX8_mostOf 34 = .ok (.istore_n 2, 1) := by decide +kernel
theorem dX8_mostOf_35 : decode cX8_mostOf 35 = .ok (.iinc 3 1, 3) := by decide +kernel
theorem dX8_mostOf_38 : decode cX8_mostOf 38 = .ok (.goto (-33), 3) := by decide +kernel
theorem dX8_mostOf_41 : decode cX8_mostOf 41 = .ok (.iload_n 2, 1) := by decide +kernel
theorem dX8_mostOf_42 : decode cX8_mostOf 42 = .ok (.ireturn, 1) := by decide +kernel
theorem dX8_leastOf_0 : decode cX8_leastOf 0 = .ok (.iload_n 0, 1) := by decide +kernel
theorem dX8_leastOf_1 : decode cX8_leastOf 1 = .ok (.sipush 342, 3) := by decide +kernel
theorem dX8_leastOf_4 : decode cX8_leastOf 4 = .ok (.iload_n 1, 1) := by decide +kernel
theorem dX8_leastOf_5 : decode cX8_leastOf 5 = .ok (.isub, 1) := by decide +kernel
theorem dX8_leastOf_6 : decode cX8_leastOf 6 = .ok (.invokestatic 95, 3) := by decide +kernel
theorem dX8_leastOf_9 : decode cX8_leastOf 9 = .ok (.ineg, 1) := by decide +kernel
theorem dX8_leastOf_10 : decode cX8_leastOf 10 = .ok (.ireturn, 1) := by decide +kernel
theorem dX8_heaviest_0 : decode cX8_heaviest 0 = .ok (.iload_n 0, 1) := by decide +kernel
theorem dX8_heaviest_1 : decode cX8_heaviest 1 = .ok (.iload_n 1, 1) := by decide +kernel
theorem dX8_heaviest_2 : decode cX8_heaviest 2 = .ok (.invokestatic 95, 3) := by decide +kernel
theorem dX8_heaviest_5 : decode cX8_heaviest 5 = .ok (.istore_n 2, 1) := by decide +kernel
theorem dX8_heaviest_6 : decode cX8_heaviest 6 = .ok (.iconst 0, 1) := by decide +kernel
theorem dX8_heaviest_7 : decode cX8_heaviest 7 = .ok (.istore_n 3, 1) := by decide +kernel
theorem dX8_heaviest_8 : decode cX8_heaviest 8 = .ok (.iconst 0, 1) := by decide +kernel
theorem dX8_heaviest_9 : decode cX8_heaviest 9 = .ok (.istore 4, 2) := by decide +kernel
theorem dX8_heaviest_11 : decode cX8_heaviest 11 = .ok (.iload 4, 2) := by decide +kernel
theorem dX8_heaviest_13 : decode cX8_heaviest 13 = .ok (.bipush 8, 2) := by decide +kernel
theorem dX8_heaviest_15 : decode cX8_heaviest 15 = .ok (.if_icmp .ge 40, 3) := by decide +kernel
theorem dX8_heaviest_18 : decode cX8_heaviest 18 = .ok (.iload_n 3, 1) := by decide +kernel
theorem dX8_heaviest_19 : decode cX8_heaviest 19 = .ok (.iload_n 0, 1) := by decide +kernel
theorem dX8_heaviest_20 : decode cX8_heaviest 20 = .ok (.iload 4, 2) := by decide +kernel
theorem dX8_heaviest_22 : decode cX8_heaviest 22 = .ok (.ishr, 1) := by decide +kernel
theorem dX8_heaviest_23 : decode cX8_heaviest 23 = .ok (.iconst 1, 1) := by decide +kernel
theorem dX8_heaviest_24 : decode cX8_heaviest 24 = .ok (.iand, 1) := by decide +kernel
theorem dX8_heaviest_25 : decode cX8_heaviest 25 = .ok (.iconst 1, 1) := by decide +kernel
theorem dX8_heaviest_26 : decode cX8_heaviest 26 = .ok (.if_icmp .ne 20, 3) := by decide +kernel
theorem dX8_heaviest_29 : decode cX8_heaviest 29 = .ok (.iload_n 1, 1) := by decide +kernel
theorem dX8_heaviest_30 : decode cX8_heaviest 30 = .ok (.iload 4, 2) := by decide +kernel
theorem dX8_heaviest_32 : decode cX8_heaviest 32 = .ok (.invokestatic 92, 3) := by decide +kernel
theorem dX8_heaviest_35 : decode cX8_heaviest 35 = .ok (.iload_n 2, 1) := by decide +kernel
theorem dX8_heaviest_36 : decode cX8_heaviest 36 = .ok (.if_icmp .ne 10, 3) := by decide +kernel
theorem dX8_heaviest_39 : decode cX8_heaviest 39 = .ok (.iconst 1, 1) := by decide +kernel
theorem dX8_heaviest_40 : decode cX8_heaviest 40 = .ok (.iload 4, 2) := by decide +kernel
theorem dX8_heaviest_42 : decode cX8_heaviest 42 = .ok (.ishl, 1) := by decide +kernel
theorem dX8_heaviest_43 : decode cX8_heaviest 43 = .ok (.goto 4, 3) := by decide +kernel
theorem dX8_heaviest_46 : decode cX8_heaviest 46 = .ok (.iconst 0, 1) := by decide +kernel
theorem dX8_heaviest_47 : decode cX8_heaviest 47 = .ok (.ior, 1) := by decide +kernel
theorem dX8_heaviest_48 : decode cX8_heaviest 48 = .ok (.istore_n 3, 1) := by decide +kernel
theorem dX8_heaviest_49 : decode cX8_heaviest 49 = .ok (.iinc 4 1, 3) := by decide +kernel
theorem dX8_heaviest_52 : decode cX8_heaviest 52 = .ok (.goto (-41), 3) := by decide +kernel
theorem dX8_heaviest_55 : decode cX8_heaviest 55 = .ok (.iload_n 3, 1) := by decide +kernel
theorem dX8_heaviest_56 : decode cX8_heaviest 56 = .ok (.ireturn, 1) := by decide +kernel
theorem dX8_isNought_0 : decode cX8_isNought 0 = .ok (.iload_n 0, 1) := by decide +kernel
theorem dX8_isNought_1 : decode cX8_isNought 1 = .ok (.sipush 171, 3) := by decide +kernel
theorem dX8_isNought_4 : decode cX8_isNought 4 = .ok (.if_icmp .ne 7, 3) := by decide +kernel
theorem dX8_isNought_7 : decode cX8_isNought 7 = .ok (.iconst 1, 1) := by decide +kernel
theorem dX8_isNought_8 : decode cX8_isNought 8 = .ok (.goto 4, 3) := by decide +kernel
theorem dX8_isNought_11 : decode cX8_isNought 11 = .ok (.iconst 0, 1) := by decide +kernel
theorem dX8_isNought_12 : decode cX8_isNought 12 = .ok (.ireturn, 1) := by decide +kernel
theorem dX8_findFaces_0 : decode cX8_findFaces 0 = .ok (.iconst 0, 1) := by decide +kernel
theorem dX8_findFaces_1 : decode cX8_findFaces 1 = .ok (.istore_n 2, 1) := by decide +kernel
theorem dX8_findFaces_2 : decode cX8_findFaces 2 = .ok (.iload_n 2, 1) := by decide +kernel
theorem dX8_findFaces_3 : decode cX8_findFaces 3 = .ok (.sipush 256, 3) := by decide +kernel
theorem dX8_findFaces_6 : decode cX8_findFaces 6 = .ok (.if_icmp .ge 16, 3) := by decide +kernel
theorem dX8_findFaces_9 : decode cX8_findFaces 9 = .ok (.aload_n 0, 1) := by decide +kernel
theorem dX8_findFaces_10 : decode cX8_findFaces 10 = .ok (.getfield 31, 3) := by decide +kernel
theorem dX8_findFaces_13 : decode cX8_findFaces 13 = .ok (.iload_n 2, 1) := by decide +kernel
theorem dX8_findFaces_14 : decode cX8_findFaces 14 = .ok (.iconst 0, 1) := by decide +kernel
theorem dX8_findFaces_15 : decode cX8_findFaces 15 = .ok (.bastore, 1) := by decide +kernel
theorem dX8_findFaces_16 : decode cX8_findFaces 16 = .ok (.iinc 2 1, 3) := by decide +kernel
theorem dX8_findFaces_19 : decode cX8_findFaces 19 = .ok (.goto (-17), 3) := by decide +kernel
theorem dX8_findFaces_22 : decode cX8_findFaces 22 = .ok (.iconst 0, 1) := by decide +kernel
theorem dX8_findFaces_23 : decode cX8_findFaces 23 = .ok (.istore_n 2, 1) := by decide +kernel
theorem dX8_findFaces_24 : decode cX8_findFaces 24 = .ok (.iload_n 2, 1) := by decide +kernel
theorem dX8_findFaces_25 : decode cX8_findFaces 25 = .ok (.sipush 343, 3) := by decide +kernel
theorem dX8_findFaces_28 : decode cX8_findFaces 28 = .ok (.if_icmp .ge 46, 3) := by decide +kernel
theorem dX8_findFaces_31 : decode cX8_findFaces 31 = .ok (.iload_n 1, 1) := by decide +kernel
theorem dX8_findFaces_32 : decode cX8_findFaces 32 = .ok (.ifCond .le 42, 3) := by decide +kernel
theorem dX8_findFaces_35 : decode cX8_findFaces 35 = .ok (.iload_n 1, 1) := by decide +kernel
theorem dX8_findFaces_36 : decode cX8_findFaces 36 = .ok (.iload_n 2, 1) := by decide +kernel
theorem dX8_findFaces_37 : decode cX8_findFaces 37 = .ok (.invokestatic 98, 3) := by decide +kernel
theorem dX8_findFaces_40 : decode cX8_findFaces 40 = .ok (.istore_n 3, 1) := by decide +kernel
theorem dX8_findFaces_41 : decode cX8_findFaces 41 = .ok (.iload_n 2, 1) := by decide +kernel
theorem dX8_findFaces_42 : decode cX8_findFaces 42 = .ok (.invokestatic 101, 3) := by decide +kernel
theorem dX8_findFaces_45 : decode cX8_findFaces 45 = .ok (.ifCond .ne 23, 3) := by decide +kernel
theorem dX8_findFaces_48 : decode cX8_findFaces 48 = .ok (.iload_n 3, 1) := by decide +kernel
theorem dX8_findFaces_49 : decode cX8_findFaces 49 = .ok (.iload_n 1, 1) := by decide +kernel
theorem dX8_findFaces_50 : decode cX8_findFaces 50 = .ok (.if_icmp .eq 18, 3) := by decide +kernel
theorem dX8_findFaces_53 : decode cX8_findFaces 53 = .ok (.iload_n 3, 1) := by decide +kernel
theorem dX8_findFaces_54 : decode cX8_findFaces 54 = .ok (.invokestatic 105, 3) := by decide +kernel
theorem dX8_findFaces_57 : decode cX8_findFaces 57 = .ok (.iconst 2, 1) := by decide +kernel
theorem dX8_findFaces_58 : decode cX8_findFaces 58 = .ok (.if_icmp .le 10, 3) := by decide +kernel
theorem dX8_findFaces_61 : decode cX8_findFaces 61 = .ok (.aload_n 0, 1) := by decide +kernel
theorem dX8_findFaces_62 : decode cX8_findFaces 62 = .ok (.getfield 31, 3) := by decide +kernel
theorem dX8_findFaces_65 : decode cX8_findFaces 65 = .ok (.iload_n 3, 1) := by decide +kernel
theorem dX8_findFaces_66 : decode cX8_findFaces 66 = .ok (.iconst 1, 1) := by decide +kernel
theorem dX8_findFaces_67 : decode cX8_findFaces 67 = .ok (.bastore, 1) := by decide +kernel
theorem dX8_findFaces_68 : decode cX8_findFaces 68 = .ok (.iinc 2 1, 3) := by decide +kernel
theorem dX8_findFaces_71 : decode cX8_findFaces 71 = .ok (.goto (-47), 3) := by decide +kernel
theorem dX8_findFaces_74 : decode cX8_findFaces 74 = .ok (.iconst 0, 1) := by decide +kernel
theorem dX8_findFaces_75 : decode cX8_findFaces 75 = .ok (.istore_n 2, 1) := by decide +kernel
theorem dX8_findFaces_76 : decode cX8_findFaces 76 = .ok (.iconst 0, 1) := by decide +kernel
theorem dX8_findFaces_77 : decode cX8_findFaces 77 = .ok (.istore_n 3, 1) := by decide +kernel
theorem dX8_findFaces_78 : decode cX8_findFaces 78 = .ok (.iload_n 3, 1) := by decide +kernel
theorem dX8_findFaces_79 : decode cX8_findFaces 79 = .ok (.sipush 256, 3) := by decide +kernel
theorem dX8_findFaces_82 : decode cX8_findFaces 82 = .ok (.if_icmp .ge 26, 3) := by decide +kernel
theorem dX8_findFaces_85 : decode cX8_findFaces 85 = .ok (.iload_n 2, 1) := by decide +kernel
theorem dX8_findFaces_86 : decode cX8_findFaces 86 = .ok (.aload_n 0, 1) := by decide +kernel
theorem dX8_findFaces_87 : decode cX8_findFaces 87 = .ok (.getfield 31, 3) := by decide +kernel
theorem dX8_findFaces_90 : decode cX8_findFaces 90 = .ok (.iload_n 3, 1) := by decide +kernel
theorem dX8_findFaces_91 : decode cX8_findFaces 91 = .ok (.baload, 1) := by decide +kernel
theorem dX8_findFaces_92 : decode cX8_findFaces 92 = .ok (.ifCond .eq 7, 3) := by decide +kernel
theorem dX8_findFaces_95 : decode cX8_findFaces 95 = .ok (.iconst 1, 1) := by decide +kernel
theorem dX8_findFaces_96 : decode cX8_findFaces 96 = .ok (.goto 4, 3) := by decide +kernel
theorem dX8_findFaces_99 : decode cX8_findFaces 99 = .ok (.iconst 0, 1) := by decide +kernel
theorem dX8_findFaces_100 : decode cX8_findFaces 100 = .ok (.iadd, 1) := by decide +kernel
theorem dX8_findFaces_101 : decode cX8_findFaces 101 = .ok (.istore_n 2, 1) := by decide +kernel
theorem dX8_findFaces_102 : decode cX8_findFaces 102 = .ok (.iinc 3 1, 3) := by decide +kernel
theorem dX8_findFaces_105 : decode cX8_findFaces 105 = .ok (.goto (-27), 3) := by decide +kernel
theorem dX8_findFaces_108 : decode cX8_findFaces 108 = .ok (.iload_n 2, 1) := by decide +kernel
theorem dX8_findFaces_109 : decode cX8_findFaces 109 = .ok (.ireturn, 1) := by decide +kernel
theorem dX8_isEdge_0 : decode cX8_isEdge 0 = .ok (.iconst 0, 1) := by decide +kernel
theorem dX8_isEdge_1 : decode cX8_isEdge 1 = .ok (.istore_n 3, 1) := by decide +kernel
theorem dX8_isEdge_2 : decode cX8_isEdge 2 = .ok (.iconst 0, 1) := by decide +kernel
theorem dX8_isEdge_3 : decode cX8_isEdge 3 = .ok (.istore 4, 2) := by decide +kernel
theorem dX8_isEdge_5 : decode cX8_isEdge 5 = .ok (.iload 4, 2) := by decide +kernel
theorem dX8_isEdge_7 : decode cX8_isEdge 7 = .ok (.sipush 343, 3) := by decide +kernel
theorem dX8_isEdge_10 : decode cX8_isEdge 10 = .ok (.if_icmp .ge 43, 3) := by decide +kernel
theorem dX8_isEdge_13 : decode cX8_isEdge 13 = .ok (.iload_n 3, 1) := by decide +kernel
theorem dX8_isEdge_14 : decode cX8_isEdge 14 = .ok (.ifCond .ne 39, 3) := by decide +kernel
theorem dX8_isEdge_17 : decode cX8_isEdge 17 = .ok (.iload 4, 2) := by decide +kernel
theorem dX8_isEdge_19 : decode cX8_isEdge 19 = .ok (.invokestatic 101, 3) := by decide +kernel
theorem dX8_isEdge_22 : decode cX8_isEdge 22 = .ok (.ifCond .ne 23, 3) := by decide +kernel
theorem dX8_isEdge_25 : decode cX8_isEdge 25 = .ok (.iload_n 0, 1) := by decide +kernel
theorem dX8_isEdge_26 : decode cX8_isEdge 26 = .ok (.iload 4, 2) := by decide +kernel
theorem dX8_isEdge_28 : decode cX8_isEdge 28 = .ok (.invokestatic 98, 3) := by decide +kernel
theorem dX8_isEdge_31 : decode cX8_isEdge 31 = .ok (.iconst 1, 1) := by decide +kernel
theorem dX8_isEdge_32 : decode cX8_isEdge 32 = .ok (.iload_n 1, 1) := by decide +kernel
theorem dX8_isEdge_33 : decode cX8_isEdge 33 = .ok (.ishl, 1) := by decide +kernel
theorem dX8_isEdge_34 : decode cX8_isEdge 34 = .ok (.iconst 1, 1) := by decide +kernel
theorem dX8_isEdge_35 : decode cX8_isEdge 35 = .ok (.iload_n 2, 1) := by decide +kernel
theorem dX8_isEdge_36 : decode cX8_isEdge 36 = .ok (.ishl, 1) := by decide +kernel
theorem dX8_isEdge_37 : decode cX8_isEdge 37 = .ok (.ior, 1) := by decide +kernel
theorem dX8_isEdge_38 : decode cX8_isEdge 38 = .ok (.if_icmp .ne 7, 3) := by decide +kernel
theorem dX8_isEdge_41 : decode cX8_isEdge 41 = .ok (.iconst 1, 1) := by decide +kernel
theorem dX8_isEdge_42 : decode cX8_isEdge 42 = .ok (.goto 4, 3) := by decide +kernel
theorem dX8_isEdge_45 : decode cX8_isEdge 45 = .ok (.iconst 0, 1) := by decide +kernel
theorem dX8_isEdge_46 : decode cX8_isEdge 46 = .ok (.istore_n 3, 1) := by decide +kernel
theorem dX8_isEdge_47 : decode cX8_isEdge 47 = .ok (.iinc 4 1, 3) := by decide +kernel
theorem dX8_isEdge_50 : decode cX8_isEdge 50 = .ok (.goto (-45), 3) := by decide +kernel
theorem dX8_isEdge_53 : decode cX8_isEdge 53 = .ok (.iload_n 3, 1) := by decide +kernel
theorem dX8_isEdge_54 : decode cX8_isEdge 54 = .ok (.ireturn, 1) := by decide +kernel
theorem dX8_edgesOf_0 : decode cX8_edgesOf 0 = .ok (.iconst 0, 1) := by decide +kernel
theorem dX8_edgesOf_1 : decode cX8_edgesOf 1 = .ok (.istore_n 1, 1) := by decide +kernel
theorem dX8_edgesOf_2 : decode cX8_edgesOf 2 = .ok (.iconst 0, 1) := by decide +kernel
theorem dX8_edgesOf_3 : decode cX8_edgesOf 3 = .ok (.istore_n 2, 1) := by decide +kernel
theorem dX8_edgesOf_4 : decode cX8_edgesOf 4 = .ok (.iload_n 2, 1) := by decide +kernel
theorem dX8_edgesOf_5 : decode cX8_edgesOf 5 = .ok (.bipush 8, 2) := by decide +kernel
theorem dX8_edgesOf_7 : decode cX8_edgesOf 7 = .ok (.if_icmp .ge 55, 3) := by decide +kernel
theorem dX8_edgesOf_10 : decode cX8_edgesOf 10 = .ok (.iload_n 2, 1) := by decide +kernel
theorem dX8_edgesOf_11 : decode cX8_edgesOf 11 = .ok (.iconst 1, 1) := by decide +kernel
theorem dX8_edgesOf_12 : decode cX8_edgesOf 12 = .ok (.iadd, 1) := by decide +kernel
theorem dX8_edgesOf_13 : decode cX8_edgesOf 13 = .ok (.istore_n 3, 1) := by decide +kernel
theorem dX8_edgesOf_14 : decode cX8_edgesOf 14 = .ok (.iload_n 3, 1) := by decide +kernel
theorem dX8_edgesOf_15 : decode cX8_edgesOf 15 = .ok (.bipush 8, 2) := by decide +kernel
theorem dX8_edgesOf_17 : decode cX8_edgesOf 17 = .ok (.if_icmp .ge 39, 3) := by decide +kernel
theorem dX8_edgesOf_20 : decode cX8_edgesOf 20 = .ok (.iload_n 1, 1) := by decide +kernel
theorem dX8_edgesOf_21 : decode cX8_edgesOf 21 = .ok (.iload_n 0, 1) := by decide +kernel
theorem dX8_edgesOf_22 : decode cX8_edgesOf 22 = .ok (.iload_n 2, 1) := by decide +kernel
theorem dX8_edgesOf_23 : decode cX8_edgesOf 23 = .ok (.ishr, 1) := by decide +kernel
theorem dX8_edgesOf_24 : decode cX8_edgesOf 24 = .ok (.iload_n 0, 1) := by decide +kernel
theorem dX8_edgesOf_25 : decode cX8_edgesOf 25 = .ok (.iload_n 3, 1) := by decide +kernel
theorem dX8_edgesOf_26 : decode cX8_edgesOf 26 = .ok (.ishr, 1) := by decide +kernel
theorem dX8_edgesOf_27 : decode cX8_edgesOf 27 = .ok (.iand, 1) := by decide +kernel
theorem dX8_edgesOf_28 : decode cX8_edgesOf 28 = .ok (.iconst 1, 1) := by decide +kernel
theorem dX8_edgesOf_29 : decode cX8_edgesOf 29 = .ok (.iand, 1) := by decide +kernel
theorem dX8_edgesOf_30 : decode cX8_edgesOf 30 = .ok (.iconst 1, 1) := by decide +kernel
theorem dX8_edgesOf_31 : decode cX8_edgesOf 31 = .ok (.if_icmp .ne 16, 3) := by decide +kernel
theorem dX8_edgesOf_34 : decode cX8_edgesOf 34 = .ok (.iload_n 0, 1) := by decide +kernel
theorem dX8_edgesOf_35 : decode cX8_edgesOf 35 = .ok (.iload_n 2, 1) := by decide +kernel
theorem dX8_edgesOf_36 : decode cX8_edgesOf 36 = .ok (.iload_n 3, 1) := by decide +kernel
theorem dX8_edgesOf_37 : decode cX8_edgesOf 37 = .ok (.invokestatic 109, 3) := by decide +kernel
theorem dX8_edgesOf_40 : decode cX8_edgesOf 40 = .ok (.ifCond .eq 7, 3) := by decide +kernel
theorem dX8_edgesOf_43 : decode cX8_edgesOf 43 = .ok (.iconst 1, 1) := by decide +kernel
theorem dX8_edgesOf_44 : decode cX8_edgesOf 44 = .ok (.goto 4, 3) := by decide +kernel
theorem dX8_edgesOf_47 : decode cX8_edgesOf 47 = .ok (.iconst 0, 1) := by decide +kernel
theorem dX8_edgesOf_48 : decode cX8_edgesOf 48 = .ok (.iadd, 1) := by decide +kernel
theorem dX8_edgesOf_49 : decode cX8_edgesOf 49 = .ok (.istore_n 1, 1) := by decide +kernel
theorem dX8_edgesOf_50 : decode cX8_edgesOf 50 = .ok (.iinc 3 1, 3) := by decide +kernel
theorem dX8_edgesOf_53 : decode cX8_edgesOf 53 = .ok (.goto (-39), 3) := by decide +kernel
theorem dX8_edgesOf_56 : decode cX8_edgesOf 56 = .ok (.iinc 2 1, 3) := by decide +kernel
theorem dX8_edgesOf_59 : decode cX8_edgesOf 59 = .ok (.goto (-55), 3) := by decide +kernel
theorem dX8_edgesOf_62 : decode cX8_edgesOf 62 = .ok (.iload_n 1, 1) := by decide +kernel
theorem dX8_edgesOf_63 : decode cX8_edgesOf 63 = .ok (.ireturn, 1) := by decide +kernel
theorem dX8_dimension_0 : decode cX8_dimension 0 = .ok (.iload_n 1, 1) := by decide +kernel
theorem dX8_dimension_1 : decode cX8_dimension 1 = .ok (.ifCond .ne 5, 3) := by decide +kernel
theorem dX8_dimension_4 : decode cX8_dimension 4 = .ok (.iconst (-1), 1) := by decide +kernel
theorem dX8_dimension_5 : decode cX8_dimension 5 = .ok (.ireturn, 1) := by decide +kernel
theorem dX8_dimension_6 : decode cX8_dimension 6 = .ok (.iconst 0, 1) := by decide +kernel
theorem dX8_dimension_7 : decode cX8_dimension 7 = .ok (.istore_n 2, 1) := by decide +kernel
theorem dX8_dimension_8 : decode cX8_dimension 8 = .ok (.iload_n 1, 1) := by decide +kernel
theorem dX8_dimension_9 : decode cX8_dimension 9 = .ok (.iload_n 2, 1) := by decide +kernel
theorem dX8_dimension_10 : decode cX8_dimension 10 = .ok (.ishr, 1) := by decide +kernel
theorem dX8_dimension_11 : decode cX8_dimension 11 = .ok (.iconst 1, 1) := by decide +kernel
theorem dX8_dimension_12 : decode cX8_dimension 12 = .ok (.iand, 1) := by decide +kernel
theorem dX8_dimension_13 : decode cX8_dimension 13 = .ok (.ifCond .ne 9, 3) := by decide +kernel
theorem dX8_dimension_16 : decode cX8_dimension 16 = .ok (.iinc 2 1, 3) := by decide +kernel
theorem dX8_dimension_19 : decode cX8_dimension 19 = .ok (.goto (-11), 3) := by decide +kernel
theorem dX8_dimension_22 : decode cX8_dimension 22 = .ok (.iconst 0, 1) := by decide +kernel
theorem dX8_dimension_23 : decode cX8_dimension 23 = .ok (.istore_n 3, 1) := by decide +kernel
theorem dX8_dimension_24 : decode cX8_dimension 24 = .ok (.iload_n 2, 1) := by decide +kernel
theorem dX8_dimension_25 : decode cX8_dimension 25 = .ok (.iconst 1, 1) := by decide +kernel
theorem dX8_dimension_26 : decode cX8_dimension 26 = .ok (.iadd, 1) := by decide +kernel
theorem dX8_dimension_27 : decode cX8_dimension 27 = .ok (.istore 4, 2) := by decide +kernel
theorem dX8_dimension_29 : decode cX8_dimension 29 = .ok (.iload 4, 2) := by decide +kernel
theorem dX8_dimension_31 : decode cX8_dimension 31 = .ok (.bipush 8, 2) := by decide +kernel
theorem dX8_dimension_33 : decode cX8_dimension 33 = .ok (.if_icmp .ge 64, 3) := by decide +kernel
theorem dX8_dimension_36 : decode cX8_dimension 36 = .ok (.iload_n 1, 1) := by decide +kernel
theorem dX8_dimension_37 : decode cX8_dimension 37 = .ok (.iload 4, 2) := by decide +kernel
theorem dX8_dimension_39 : decode cX8_dimension 39 = .ok (.ishr, 1) := by decide +kernel
theorem dX8_dimension_40 : decode cX8_dimension 40 = .ok (.iconst 1, 1) := by decide +kernel
theorem dX8_dimension_41 : decode cX8_dimension 41 = .ok (.iand, 1) := by decide +kernel
theorem dX8_dimension_42 : decode cX8_dimension 42 = .ok (.ifCond .ne 6, 3) := by decide +kernel
theorem dX8_dimension_45 : decode cX8_dimension 45 = .ok (.goto 46, 3) := by decide +kernel
theorem dX8_dimension_48 : decode cX8_dimension 48 = .ok (.iconst 0, 1) := by decide +kernel
theorem dX8_dimension_49 : decode cX8_dimension 49 = .ok (.istore 5, 2) := by decide +kernel
theorem dX8_dimension_51 : decode cX8_dimension 51 = .ok (.iload 5, 2) := by decide +kernel
theorem dX8_dimension_53 : decode cX8_dimension 53 = .ok (.iconst 3, 1) := by decide +kernel
theorem dX8_dimension_54 : decode cX8_dimension 54 = .ok (.if_icmp .ge 34, 3) := by decide +kernel
theorem dX8_dimension_57 : decode cX8_dimension 57 = .ok (.aload_n 0, 1) := by decide +kernel
theorem dX8_dimension_58 : decode cX8_dimension 58 = .ok (.getfield 35, 3) := by decide +kernel
theorem dX8_dimension_61 : decode cX8_dimension 61 = .ok (.iconst 3, 1) := by decide +kernel
theorem dX8_dimension_62 : decode cX8_dimension 62 = .ok (.iload_n 3, 1) := by decide +kernel
theorem dX8_dimension_63 : decode cX8_dimension 63 = .ok (.imul, 1) := by decide +kernel
theorem dX8_dimension_64 : decode cX8_dimension 64 = .ok (.iload 5, 2) := by decide +kernel
theorem dX8_dimension_66 : decode cX8_dimension 66 = .ok (.iadd, 1) := by decide +kernel
theorem dX8_dimension_67 : decode cX8_dimension 67 = .ok (.iload 4, 2) := by decide +kernel
theorem dX8_dimension_69 : decode cX8_dimension 69 = .ok (.iload 5, 2) := by decide +kernel
theorem dX8_dimension_71 : decode cX8_dimension 71 = .ok (.ishr, 1) := by decide +kernel
theorem dX8_dimension_72 : decode cX8_dimension 72 = .ok (.iconst 1, 1) := by decide +kernel
theorem dX8_dimension_73 : decode cX8_dimension 73 = .ok (.iand, 1) := by decide +kernel
theorem dX8_dimension_74 : decode cX8_dimension 74 = .ok (.iload_n 2, 1) := by decide +kernel
theorem dX8_dimension_75 : decode cX8_dimension 75 = .ok (.iload 5, 2) := by decide +kernel
theorem dX8_dimension_77 : decode cX8_dimension 77 = .ok (.ishr, 1) := by decide +kernel
theorem dX8_dimension_78 : decode cX8_dimension 78 = .ok (.iconst 1, 1) := by decide +kernel
theorem dX8_dimension_79 : decode cX8_dimension 79 = .ok (.iand, 1) := by decide +kernel
theorem dX8_dimension_80 : decode cX8_dimension 80 = .ok (.isub, 1) := by decide +kernel
theorem dX8_dimension_81 : decode cX8_dimension 81 = .ok (.iastore, 1) := by decide +kernel
theorem dX8_dimension_82 : decode cX8_dimension 82 = .ok (.iinc 5 1, 3) := by decide +kernel
theorem dX8_dimension_85 : decode cX8_dimension 85 = .ok (.goto (-34), 3) := by decide +kernel
theorem dX8_dimension_88 : decode cX8_dimension 88 = .ok (.iinc 3 1, 3) := by decide +kernel
theorem dX8_dimension_91 : decode cX8_dimension 91 = .ok (.iinc 4 1, 3) := by decide +kernel
theorem dX8_dimension_94 : decode cX8_dimension 94 = .ok (.goto (-65), 3) := by decide +kernel
theorem dX8_dimension_97 : decode cX8_dimension 97 = .ok (.iconst 0, 1) := by decide +kernel
theorem dX8_dimension_98 : decode cX8_dimension 98 = .ok (.istore 4, 2) := by decide +kernel
theorem dX8_dimension_100 : decode cX8_dimension 100 = .ok (.iconst 0, 1) := by decide +kernel
theorem dX8_dimension_101 : decode cX8_dimension 101 = .ok (.istore 5, 2) := by decide +kernel
theorem dX8_dimension_103 : decode cX8_dimension 103 = .ok (.iload 5, 2) := by decide +kernel
theorem dX8_dimension_105 : decode cX8_dimension 105 = .ok (.iconst 3, 1) := by decide +kernel
theorem dX8_dimension_106 : decode cX8_dimension 106 = .ok (.if_icmp .ge 219, 3) := by decide +kernel
theorem dX8_dimension_109 : decode cX8_dimension 109 = .ok (.iload 4, 2) := by decide +kernel
theorem dX8_dimension_111 : decode cX8_dimension 111 = .ok (.istore 6, 2) := by decide +kernel
theorem dX8_dimension_113 : decode cX8_dimension 113 = .ok (.iload 6, 2) := by decide +kernel
theorem dX8_dimension_115 : decode cX8_dimension 115 = .ok (.iload_n 3, 1) := by decide +kernel
theorem dX8_dimension_116 : decode cX8_dimension 116 = .ok (.if_icmp .ge 24, 3) := by decide +kernel
theorem dX8_dimension_119 : decode cX8_dimension 119 = .ok (.aload_n 0, 1) := by decide +kernel
theorem dX8_dimension_120 : decode cX8_dimension 120 = .ok (.getfield 35, 3) := by decide +kernel
theorem dX8_dimension_123 : decode cX8_dimension 123 = .ok (.iconst 3, 1) := by decide +kernel
theorem dX8_dimension_124 : decode cX8_dimension 124 = .ok (.iload 6, 2) := by decide +kernel
theorem dX8_dimension_126 : decode cX8_dimension 126 = .ok (.imul, 1) := by decide +kernel
theorem dX8_dimension_127 : decode cX8_dimension 127 = .ok (.iload 5, 2) := by decide +kernel
theorem dX8_dimension_129 : decode cX8_dimension 129 = .ok (.iadd, 1) := by decide +kernel
theorem dX8_dimension_130 : decode cX8_dimension 130 = .ok (.iaload, 1) := by decide +kernel
theorem dX8_dimension_131 : decode cX8_dimension 131 = .ok (.ifCond .ne 9, 3) := by decide +kernel
theorem dX8_dimension_134 : decode cX8_dimension 134 = .ok (.iinc 6 1, 3) := by decide +kernel
theorem dX8_dimension_137 : decode cX8_dimension 137 = .ok (.goto (-24), 3) := by decide +kernel
theorem dX8_dimension_140 : decode cX8_dimension 140 = .ok (.iload 6, 2) := by decide +kernel
theorem dX8_dimension_142 : decode cX8_dimension 142 = .ok (.iload_n 3, 1) := by decide +kernel
theorem dX8_dimension_143 : decode cX8_dimension 143 = .ok (.if_icmp .ne 6, 3) := by decide +kernel
theorem dX8_dimension_146 : decode cX8_dimension 146 = .ok (.goto 173, 3) := by decide +kernel
theorem dX8_dimension_149 : decode cX8_dimension 149 = .ok (.iconst 0, 1) := by decide +kernel
theorem dX8_dimension_150 : decode cX8_dimension 150 = .ok (.istore 7, 2) := by decide +kernel
theorem dX8_dimension_152 : decode cX8_dimension 152 = .ok (.iload 7, 2) := by decide +kernel
theorem dX8_dimension_154 : decode cX8_dimension 154 = .ok (.iconst 3, 1) := by decide +kernel
theorem dX8_dimension_155 : decode cX8_dimension 155 = .ok (.if_icmp .ge 61, 3) := by decide +kernel
theorem dX8_dimension_158 : decode cX8_dimension 158 = .ok (.aload_n 0, 1) := by decide +kernel
theorem dX8_dimension_159 : decode cX8_dimension 159 = .ok (.getfield 35, 3) := by decide +kernel
theorem dX8_dimension_162 : decode cX8_dimension 162 = .ok (.iconst 3, 1) := by decide +kernel
theorem dX8_dimension_163 : decode cX8_dimension 163 = .ok (.iload 6, 2) := by decide +kernel
theorem dX8_dimension_165 : decode cX8_dimension 165 = .ok (.imul, 1) := by decide +kernel
theorem dX8_dimension_166 : decode cX8_dimension 166 = .ok (.iload 7, 2) := by decide +kernel
theorem dX8_dimension_168 : decode cX8_dimension 168 = .ok (.iadd, 1) := by decide +kernel
theorem dX8_dimension_169 : decode cX8_dimension 169 = .ok (.iaload, 1) := by decide +kernel
theorem dX8_dimension_170 : decode cX8_dimension 170 = .ok (.istore 8, 2) := by decide +kernel
theorem dX8_dimension_172 : decode cX8_dimension 172 = .ok (.aload_n 0, 1) := by decide +kernel
theorem dX8_dimension_173 : decode cX8_dimension 173 = .ok (.getfield 35, 3) := by decide +kernel
theorem dX8_dimension_176 : decode cX8_dimension 176 = .ok (.iconst 3, 1) := by decide +kernel
theorem dX8_dimension_177 : decode cX8_dimension 177 = .ok (.iload 6, 2) := by decide +kernel
theorem dX8_dimension_179 : decode cX8_dimension 179 = .ok (.imul, 1) := by decide +kernel
theorem dX8_dimension_180 : decode cX8_dimension 180 = .ok (.iload 7, 2) := by decide +kernel
theorem dX8_dimension_182 : decode cX8_dimension 182 = .ok (.iadd, 1) := by decide +kernel
theorem dX8_dimension_183 : decode cX8_dimension 183 = .ok (.aload_n 0, 1) := by decide +kernel
theorem dX8_dimension_184 : decode cX8_dimension 184 = .ok (.getfield 35, 3) := by decide +kernel
theorem dX8_dimension_187 : decode cX8_dimension 187 = .ok (.iconst 3, 1) := by decide +kernel
theorem dX8_dimension_188 : decode cX8_dimension 188 = .ok (.iload 4, 2) := by decide +kernel
theorem dX8_dimension_190 : decode cX8_dimension 190 = .ok (.imul, 1) := by decide +kernel
theorem dX8_dimension_191 : decode cX8_dimension 191 = .ok (.iload 7, 2) := by decide +kernel
theorem dX8_dimension_193 : decode cX8_dimension 193 = .ok (.iadd, 1) := by decide +kernel
theorem dX8_dimension_194 : decode cX8_dimension 194 = .ok (.iaload, 1) := by decide +kernel
theorem dX8_dimension_195 : decode cX8_dimension 195 = .ok (.iastore, 1) := by decide +kernel
theorem dX8_dimension_196 : decode cX8_dimension 196 = .ok (.aload_n 0, 1) := by decide +kernel
theorem dX8_dimension_197 : decode cX8_dimension 197 = .ok (.getfield 35, 3) := by decide +kernel
theorem dX8_dimension_200 : decode cX8_dimension 200 = .ok (.iconst 3, 1) := by decide +kernel
theorem dX8_dimension_201 : decode cX8_dimension 201 = .ok (.iload 4, 2) := by decide +kernel
theorem dX8_dimension_203 : decode cX8_dimension 203 = .ok (.imul, 1) := by decide +kernel
theorem dX8_dimension_204 : decode cX8_dimension 204 = .ok (.iload 7, 2) := by decide +kernel
theorem dX8_dimension_206 : decode cX8_dimension 206 = .ok (.iadd, 1) := by decide +kernel
theorem dX8_dimension_207 : decode cX8_dimension 207 = .ok (.iload 8, 2) := by decide +kernel
theorem dX8_dimension_209 : decode cX8_dimension 209 = .ok (.iastore, 1) := by decide +kernel
theorem dX8_dimension_210 : decode cX8_dimension 210 = .ok (.iinc 7 1, 3) := by decide +kernel
theorem dX8_dimension_213 : decode cX8_dimension 213 = .ok (.goto (-61), 3) := by decide +kernel
theorem dX8_dimension_216 : decode cX8_dimension 216 = .ok (.iload 4, 2) := by decide +kernel
theorem dX8_dimension_218 : decode cX8_dimension 218 = .ok (.iconst 1, 1) := by decide +kernel
theorem dX8_dimension_219 : decode cX8_dimension 219 = .ok (.iadd, 1) := by decide +kernel
theorem dX8_dimension_220 : decode cX8_dimension 220 = .ok (.istore 7, 2) := by decide +kernel
theorem dX8_dimension_222 : decode cX8_dimension 222 = .ok (.iload 7, 2) := by decide +kernel
theorem dX8_dimension_224 : decode cX8_dimension 224 = .ok (.iload_n 3, 1) := by decide +kernel
theorem dX8_dimension_225 : decode cX8_dimension 225 = .ok (.if_icmp .ge 91, 3) := by decide +kernel
theorem dX8_dimension_228 : decode cX8_dimension 228 = .ok (.aload_n 0, 1) := by decide +kernel
theorem dX8_dimension_229 : decode cX8_dimension 229 = .ok (.getfield 35, 3) := by decide +kernel
theorem dX8_dimension_232 : decode cX8_dimension 232 = .ok (.iconst 3, 1) := by decide +kernel
theorem dX8_dimension_233 : decode cX8_dimension 233 = .ok (.iload 7, 2) := by decide +kernel
theorem dX8_dimension_235 : decode cX8_dimension 235 = .ok (.imul, 1) := by decide +kernel
theorem dX8_dimension_236 : decode cX8_dimension 236 = .ok (.iload 5, 2) := by decide +kernel
theorem dX8_dimension_238 : decode cX8_dimension 238 = .ok (.iadd, 1) := by decide +kernel
theorem dX8_dimension_239 : decode cX8_dimension 239 = .ok (.iaload, 1) := by decide +kernel
theorem dX8_dimension_240 : decode cX8_dimension 240 = .ok (.istore 8, 2) := by decide +kernel
theorem dX8_dimension_242 : decode cX8_dimension 242 = .ok (.iconst 0, 1) := by decide +kernel
theorem dX8_dimension_243 : decode cX8_dimension 243 = .ok (.istore 9, 2) := by decide +kernel
theorem dX8_dimension_245 : decode cX8_dimension 245 = .ok (.iload 9, 2) := by decide +kernel
theorem dX8_dimension_247 : decode cX8_dimension 247 = .ok (.iconst 3, 1) := by decide +kernel
theorem dX8_dimension_248 : decode cX8_dimension 248 = .ok (.if_icmp .ge 62, 3) := by decide +kernel
theorem dX8_dimension_251 : decode cX8_dimension 251 = .ok (.aload_n 0, 1) := by decide +kernel
theorem dX8_dimension_252 : decode cX8_dimension 252 = .ok (.getfield 35, 3) := by decide +kernel
theorem dX8_dimension_255 : decode cX8_dimension 255 = .ok (.iconst 3, 1) := by decide +kernel
theorem dX8_dimension_256 : decode cX8_dimension 256 = .ok (.iload 7, 2) := by decide +kernel
theorem dX8_dimension_258 : decode cX8_dimension 258 = .ok (.imul, 1) := by decide +kernel
theorem dX8_dimension_259 : decode cX8_dimension 259 = .ok (.iload 9, 2) := by decide +kernel
theorem dX8_dimension_261 : decode cX8_dimension 261 = .ok (.iadd, 1) := by decide +kernel
theorem dX8_dimension_262 : decode cX8_dimension 262 = .ok (.aload_n 0, 1) := by decide +kernel
theorem dX8_dimension_263 : decode cX8_dimension 263 = .ok (.getfield 35, 3) := by decide +kernel
theorem dX8_dimension_266 : decode cX8_dimension 266 = .ok (.iconst 3, 1) := by decide +kernel
theorem dX8_dimension_267 : decode cX8_dimension 267 = .ok (.iload 7, 2) := by decide +kernel
theorem dX8_dimension_269 : decode cX8_dimension 269 = .ok (.imul, 1) := by decide +kernel
theorem dX8_dimension_270 : decode cX8_dimension 270 = .ok (.iload 9, 2) := by decide +kernel
theorem dX8_dimension_272 : decode cX8_dimension 272 = .ok (.iadd, 1) := by decide +kernel
theorem dX8_dimension_273 : decode cX8_dimension 273 = .ok (.iaload, 1) := by decide +kernel
theorem dX8_dimension_274 : decode cX8_dimension 274 = .ok (.aload_n 0, 1) := by decide +kernel
theorem dX8_dimension_275 : decode cX8_dimension 275 = .ok (.getfield 35, 3) := by decide +kernel
theorem dX8_dimension_278 : decode cX8_dimension 278 = .ok (.iconst 3, 1) := by decide +kernel
theorem dX8_dimension_279 : decode cX8_dimension 279 = .ok (.iload 4, 2) := by decide +kernel
theorem dX8_dimension_281 : decode cX8_dimension 281 = .ok (.imul, 1) := by decide +kernel
theorem dX8_dimension_282 : decode cX8_dimension 282 = .ok (.iload 5, 2) := by decide +kernel
theorem dX8_dimension_284 : decode cX8_dimension 284 = .ok (.iadd, 1) := by decide +kernel
theorem dX8_dimension_285 : decode cX8_dimension 285 = .ok (.iaload, 1) := by decide +kernel
theorem dX8_dimension_286 : decode cX8_dimension 286 = .ok (.imul, 1) := by decide +kernel
theorem dX8_dimension_287 : decode cX8_dimension 287 = .ok (.iload 8, 2) := by decide +kernel
theorem dX8_dimension_289 : decode cX8_dimension 289 = .ok (.aload_n 0, 1) := by decide +kernel
theorem dX8_dimension_290 : decode cX8_dimension 290 = .ok (.getfield 35, 3) := by decide +kernel
theorem dX8_dimension_293 : decode cX8_dimension 293 = .ok (.iconst 3, 1) := by decide +kernel
theorem dX8_dimension_294 : decode cX8_dimension 294 = .ok (.iload 4, 2) := by decide +kernel
theorem dX8_dimension_296 : decode cX8_dimension 296 = .ok (.imul, 1) := by decide +kernel
theorem dX8_dimension_297 : decode cX8_dimension 297 = .ok (.iload 9, 2) := by decide +kernel
theorem dX8_dimension_299 : decode cX8_dimension 299 = .ok (.iadd, 1) := by decide +kernel
theorem dX8_dimension_300 : decode cX8_dimension 300 = .ok (.iaload, 1) := by decide +kernel
theorem dX8_dimension_301 : decode cX8_dimension 301 = .ok (.imul, 1) := by decide +kernel
theorem dX8_dimension_302 : decode cX8_dimension 302 = .ok (.isub, 1) := by decide +kernel
theorem dX8_dimension_303 : decode cX8_dimension 303 = .ok (.iastore, 1) := by decide +kernel
theorem dX8_dimension_304 : decode cX8_dimension 304 = .ok (.iinc 9 1, 3) := by decide +kernel
theorem dX8_dimension_307 : decode cX8_dimension 307 = .ok (.goto (-62), 3) := by decide +kernel
theorem dX8_dimension_310 : decode cX8_dimension 310 = .ok (.iinc 7 1, 3) := by decide +kernel
theorem dX8_dimension_313 : decode cX8_dimension 313 = .ok (.goto (-91), 3) := by decide +kernel
theorem dX8_dimension_316 : decode cX8_dimension 316 = .ok (.iinc 4 1, 3) := by decide +kernel
theorem dX8_dimension_319 : decode cX8_dimension 319 = .ok (.iinc 5 1, 3) := by decide +kernel
theorem dX8_dimension_322 : decode cX8_dimension 322 = .ok (.goto (-219), 3) := by decide +kernel
theorem dX8_dimension_325 : decode cX8_dimension 325 = .ok (.iload 4, 2) := by decide +kernel
theorem dX8_dimension_327 : decode cX8_dimension 327 = .ok (.ireturn, 1) := by decide +kernel
theorem dX8_isWithin_0 : decode cX8_isWithin 0 = .ok (.iconst 1, 1) := by decide +kernel
theorem dX8_isWithin_1 : decode cX8_isWithin 1 = .ok (.istore 5, 2) := by decide +kernel
theorem dX8_isWithin_3 : decode cX8_isWithin 3 = .ok (.iconst 0, 1) := by decide +kernel
theorem dX8_isWithin_4 : decode cX8_isWithin 4 = .ok (.istore 6, 2) := by decide +kernel
theorem dX8_isWithin_6 : decode cX8_isWithin 6 = .ok (.iload 6, 2) := by decide +kernel
theorem dX8_isWithin_8 : decode cX8_isWithin 8 = .ok (.sipush 343, 3) := by decide +kernel
theorem dX8_isWithin_11 : decode cX8_isWithin 11 = .ok (.if_icmp .ge 41, 3) := by decide +kernel
theorem dX8_isWithin_14 : decode cX8_isWithin 14 = .ok (.iload 5, 2) := by decide +kernel
theorem dX8_isWithin_16 : decode cX8_isWithin 16 = .ok (.ifCond .eq 36, 3) := by decide +kernel
theorem dX8_isWithin_19 : decode cX8_isWithin 19 = .ok (.iload 6, 2) := by decide +kernel
theorem dX8_isWithin_21 : decode cX8_isWithin 21 = .ok (.iload_n 2, 1) := by decide +kernel
theorem dX8_isWithin_22 : decode cX8_isWithin 22 = .ok (.iload_n 3, 1) := by decide +kernel
theorem dX8_isWithin_23 : decode cX8_isWithin 23 = .ok (.iload 4, 2) := by decide +kernel
theorem dX8_isWithin_25 : decode cX8_isWithin 25 = .ok (.invokestatic 88, 3) := by decide +kernel
theorem dX8_isWithin_28 : decode cX8_isWithin 28 = .ok (.iload_n 1, 1) := by decide +kernel
theorem dX8_isWithin_29 : decode cX8_isWithin 29 = .ok (.iload_n 0, 1) := by decide +kernel
theorem dX8_isWithin_30 : decode cX8_isWithin 30 = .ok (.iload 6, 2) := by decide +kernel
theorem dX8_isWithin_32 : decode cX8_isWithin 32 = .ok (.invokestatic 95, 3) := by decide +kernel
theorem dX8_isWithin_35 : decode cX8_isWithin 35 = .ok (.imul, 1) := by decide +kernel
theorem dX8_isWithin_36 : decode cX8_isWithin 36 = .ok (.if_icmp .gt 7, 3) := by decide +kernel
theorem dX8_isWithin_39 : decode cX8_isWithin 39 = .ok (.iconst 1, 1) := by decide +kernel
theorem dX8_isWithin_40 : decode cX8_isWithin 40 = .ok (.goto 4, 3) := by decide +kernel
theorem dX8_isWithin_43 : decode cX8_isWithin 43 = .ok (.iconst 0, 1) := by decide +kernel
theorem dX8_isWithin_44 : decode cX8_isWithin 44 = .ok (.istore 5, 2) := by decide +kernel
theorem dX8_isWithin_46 : decode cX8_isWithin 46 = .ok (.iinc 6 1, 3) := by decide +kernel
theorem dX8_isWithin_49 : decode cX8_isWithin 49 = .ok (.goto (-43), 3) := by decide +kernel
theorem dX8_isWithin_52 : decode cX8_isWithin 52 = .ok (.iload 5, 2) := by decide +kernel
theorem dX8_isWithin_54 : decode cX8_isWithin 54 = .ok (.ireturn, 1) := by decide +kernel
theorem dX8_pointsOf_0 : decode cX8_pointsOf 0 = .ok (.iconst 0, 1) := by decide +kernel
theorem dX8_pointsOf_1 : decode cX8_pointsOf 1 = .ok (.istore_n 2, 1) := by decide +kernel
theorem dX8_pointsOf_2 : decode cX8_pointsOf 2 = .ok (.iconst 0, 1) := by decide +kernel
theorem dX8_pointsOf_3 : decode cX8_pointsOf 3 = .ok (.istore_n 3, 1) := by decide +kernel
theorem dX8_pointsOf_4 : decode cX8_pointsOf 4 = .ok (.iload_n 3, 1) := by decide +kernel
theorem dX8_pointsOf_5 : decode cX8_pointsOf 5 = .ok (.bipush 64, 2) := by decide +kernel
theorem dX8_pointsOf_7 : decode cX8_pointsOf 7 = .ok (.if_icmp .ge 36, 3) := by decide +kernel
theorem dX8_pointsOf_10 : decode cX8_pointsOf 10 = .ok (.iload_n 2, 1) := by decide +kernel
theorem dX8_pointsOf_11 : decode cX8_pointsOf 11 = .ok (.iload_n 0, 1) := by decide +kernel
theorem dX8_pointsOf_12 : decode cX8_pointsOf 12 = .ok (.iload_n 1, 1) := by decide +kernel
theorem dX8_pointsOf_13 : decode cX8_pointsOf 13 = .ok (.iload_n 3, 1) := by decide +kernel
theorem dX8_pointsOf_14 : decode cX8_pointsOf 14 = .ok (.iconst 3, 1) := by decide +kernel
theorem dX8_pointsOf_15 : decode cX8_pointsOf 15 = .ok (.iand, 1) := by decide +kernel
theorem dX8_pointsOf_16 : decode cX8_pointsOf 16 = .ok (.iload_n 3, 1) := by decide +kernel
theorem dX8_pointsOf_17 : decode cX8_pointsOf 17 = .ok (.iconst 2, 1) := by decide +kernel
theorem dX8_pointsOf_18 : decode cX8_pointsOf 18 = .ok (.ishr, 1) := by decide +kernel
theorem dX8_pointsOf_19 : decode cX8_pointsOf 19 = .ok (.iconst 3, 1) := by decide +kernel
theorem dX8_pointsOf_20 : decode cX8_pointsOf 20 = .ok (.iand, 1) := by decide +kernel
theorem dX8_pointsOf_21 : decode cX8_pointsOf 21 = .ok (.iload_n 3, 1) := by decide +kernel
theorem dX8_pointsOf_22 : decode cX8_pointsOf 22 = .ok (.iconst 4, 1) := by decide +kernel
theorem dX8_pointsOf_23 : decode cX8_pointsOf 23 = .ok (.ishr, 1) := by decide +kernel
theorem dX8_pointsOf_24 : decode cX8_pointsOf 24 = .ok (.invokestatic 112, 3) := by decide +kernel
theorem dX8_pointsOf_27 : decode cX8_pointsOf 27 = .ok (.ifCond .eq 7, 3) := by decide +kernel
theorem dX8_pointsOf_30 : decode cX8_pointsOf 30 = .ok (.iconst 1, 1) := by decide +kernel
theorem dX8_pointsOf_31 : decode cX8_pointsOf 31 = .ok (.goto 4, 3) := by decide +kernel
theorem dX8_pointsOf_34 : decode cX8_pointsOf 34 = .ok (.iconst 0, 1) := by decide +kernel
theorem dX8_pointsOf_35 : decode cX8_pointsOf 35 = .ok (.iadd, 1) := by decide +kernel
theorem dX8_pointsOf_36 : decode cX8_pointsOf 36 = .ok (.istore_n 2, 1) := by decide +kernel
theorem dX8_pointsOf_37 : decode cX8_pointsOf 37 = .ok (.iinc 3 1, 3) := by decide +kernel
theorem dX8_pointsOf_40 : decode cX8_pointsOf 40 = .ok (.goto (-36), 3) := by decide +kernel
theorem dX8_pointsOf_43 : decode cX8_pointsOf 43 = .ok (.iload_n 2, 1) := by decide +kernel
theorem dX8_pointsOf_44 : decode cX8_pointsOf 44 = .ok (.ireturn, 1) := by decide +kernel
theorem dX8_sixfold_0 : decode cX8_sixfold 0 = .ok (.iload_n 0, 1) := by decide +kernel
theorem dX8_sixfold_1 : decode cX8_sixfold 1 = .ok (.ifCond .ne 7, 3) := by decide +kernel
theorem dX8_sixfold_4 : decode cX8_sixfold 4 = .ok (.iconst 0, 1) := by decide +kernel
theorem dX8_sixfold_5 : decode cX8_sixfold 5 = .ok (.goto 26, 3) := by decide +kernel
theorem dX8_sixfold_8 : decode cX8_sixfold 8 = .ok (.iload_n 0, 1) := by decide +kernel
theorem dX8_sixfold_9 : decode cX8_sixfold 9 = .ok (.iconst 3, 1) := by decide +kernel
theorem dX8_sixfold_10 : decode cX8_sixfold 10 = .ok (.invokestatic 116, 3) := by decide +kernel
theorem dX8_sixfold_13 : decode cX8_sixfold 13 = .ok (.iconst 3, 1) := by decide +kernel
theorem dX8_sixfold_14 : decode cX8_sixfold 14 = .ok (.iload_n 0, 1) := by decide +kernel
theorem dX8_sixfold_15 : decode cX8_sixfold 15 = .ok (.iconst 2, 1) := by decide +kernel
theorem dX8_sixfold_16 : decode cX8_sixfold 16 = .ok (.invokestatic 116, 3) := by decide +kernel
theorem dX8_sixfold_19 : decode cX8_sixfold 19 = .ok (.imul, 1) := by decide +kernel
theorem dX8_sixfold_20 : decode cX8_sixfold 20 = .ok (.isub, 1) := by decide +kernel
theorem dX8_sixfold_21 : decode cX8_sixfold 21 = .ok (.iconst 3, 1) := by decide +kernel
theorem dX8_sixfold_22 : decode cX8_sixfold 22 = .ok (.iload_n 0, 1) := by decide +kernel
theorem dX8_sixfold_23 : decode cX8_sixfold 23 = .ok (.iconst 1, 1) := by decide +kernel
theorem dX8_sixfold_24 : decode cX8_sixfold 24 = .ok (.invokestatic 116, 3) := by decide +kernel
theorem dX8_sixfold_27 : decode cX8_sixfold 27 = .ok (.imul, 1) := by decide +kernel
theorem dX8_sixfold_28 : decode cX8_sixfold 28 = .ok (.iadd, 1) := by decide +kernel
theorem dX8_sixfold_29 : decode cX8_sixfold 29 = .ok (.iconst 1, 1) := by decide +kernel
theorem dX8_sixfold_30 : decode cX8_sixfold 30 = .ok (.isub, 1) := by decide +kernel
theorem dX8_sixfold_31 : decode cX8_sixfold 31 = .ok (.ireturn, 1) := by decide +kernel
theorem dX8_width_0 : decode cX8_width 0 = .ok (.iload_n 0, 1) := by decide +kernel
theorem dX8_width_1 : decode cX8_width 1 = .ok (.ifCond .ne 6, 3) := by decide +kernel
theorem dX8_width_4 : decode cX8_width 4 = .ok (.bipush (-5), 2) := by decide +kernel
theorem dX8_width_6 : decode cX8_width 6 = .ok (.ireturn, 1) := by decide +kernel
theorem dX8_width_7 : decode cX8_width 7 = .ok (.bipush 99, 2) := by decide +kernel
theorem dX8_width_9 : decode cX8_width 9 = .ok (.istore_n 1, 1) := by decide +kernel
theorem dX8_width_10 : decode cX8_width 10 = .ok (.iconst 0, 1) := by decide +kernel
theorem dX8_width_11 : decode cX8_width 11 = .ok (.istore_n 2, 1) := by decide +kernel
theorem dX8_width_12 : decode cX8_width 12 = .ok (.iload_n 2, 1) := by decide +kernel
theorem dX8_width_13 : decode cX8_width 13 = .ok (.sipush 343, 3) := by decide +kernel
theorem dX8_width_16 : decode cX8_width 16 = .ok (.if_icmp .ge 39, 3) := by decide +kernel
theorem dX8_width_19 : decode cX8_width 19 = .ok (.iload_n 0, 1) := by decide +kernel
theorem dX8_width_20 : decode cX8_width 20 = .ok (.iload_n 2, 1) := by decide +kernel
theorem dX8_width_21 : decode cX8_width 21 = .ok (.invokestatic 95, 3) := by decide +kernel
theorem dX8_width_24 : decode cX8_width 24 = .ok (.iload_n 0, 1) := by decide +kernel
theorem dX8_width_25 : decode cX8_width 25 = .ok (.iload_n 2, 1) := by decide +kernel
theorem dX8_width_26 : decode cX8_width 26 = .ok (.invokestatic 119, 3) := by decide +kernel
theorem dX8_width_29 : decode cX8_width 29 = .ok (.isub, 1) := by decide +kernel
theorem dX8_width_30 : decode cX8_width 30 = .ok (.istore_n 3, 1) := by decide +kernel
theorem dX8_width_31 : decode cX8_width 31 = .ok (.iload_n 2, 1) := by decide +kernel
theorem dX8_width_32 : decode cX8_width 32 = .ok (.invokestatic 101, 3) := by decide +kernel
theorem dX8_width_35 : decode cX8_width 35 = .ok (.ifCond .ne 12, 3) := by decide +kernel
theorem dX8_width_38 : decode cX8_width 38 = .ok (.iload_n 3, 1) := by decide +kernel
theorem dX8_width_39 : decode cX8_width 39 = .ok (.iload_n 1, 1) := by decide +kernel
theorem dX8_width_40 : decode cX8_width 40 = .ok (.if_icmp .ge 7, 3) := by decide +kernel
theorem dX8_width_43 : decode cX8_width 43 = .ok (.iload_n 3, 1) := by decide +kernel
theorem dX8_width_44 : decode cX8_width 44 = .ok (.goto 4, 3) := by decide +kernel
theorem dX8_width_47 : decode cX8_width 47 = .ok (.iload_n 1, 1) := by decide +kernel
theorem dX8_width_48 : decode cX8_width 48 = .ok (.istore_n 1, 1) := by decide +kernel
theorem dX8_width_49 : decode cX8_width 49 = .ok (.iinc 2 1, 3) := by decide +kernel
theorem dX8_width_52 : decode cX8_width 52 = .ok (.goto (-40), 3) := by decide +kernel
theorem dX8_width_55 : decode cX8_width 55 = .ok (.iload_n 1, 1) := by decide +kernel
theorem dX8_width_56 : decode cX8_width 56 = .ok (.ireturn, 1) := by decide +kernel
theorem dX8_corner_0 : decode cX8_corner 0 = .ok (.iload_n 1, 1) := by decide +kernel
theorem dX8_corner_1 : decode cX8_corner 1 = .ok (.invokestatic 122, 3) := by decide +kernel
theorem dX8_corner_4 : decode cX8_corner 4 = .ok (.ifCond .ne 5, 3) := by decide +kernel
theorem dX8_corner_7 : decode cX8_corner 7 = .ok (.iconst (-1), 1) := by decide +kernel
theorem dX8_corner_8 : decode cX8_corner 8 = .ok (.ireturn, 1) := by decide +kernel
theorem dX8_corner_9 : decode cX8_corner 9 = .ok (.iload_n 2, 1) := by decide +kernel
theorem dX8_corner_10 : decode cX8_corner 10 = .ok (.iconst 0, 1) := by decide +kernel
theorem dX8_corner_11 : decode cX8_corner 11 = .ok (.iconst 1, 1) := by decide +kernel
theorem dX8_corner_12 : decode cX8_corner 12 = .ok (.invokestatic 5, 3) := by decide +kernel
theorem dX8_corner_15 : decode cX8_corner 15 = .ok (.ifCond .ne 6, 3) := by decide +kernel
theorem dX8_corner_18 : decode cX8_corner 18 = .ok (.bipush (-2), 2) := by decide +kernel
theorem dX8_corner_20 : decode cX8_corner 20 = .ok (.ireturn, 1) := by decide +kernel
theorem dX8_corner_21 : decode cX8_corner 21 = .ok (.aload_n 0, 1) := by decide +kernel
theorem dX8_corner_22 : decode cX8_corner 22 = .ok (.getfield 125, 3) := by decide +kernel
theorem dX8_corner_25 : decode cX8_corner 25 = .ok (.iload_n 1, 1) := by decide +kernel
theorem dX8_corner_26 : decode cX8_corner 26 = .ok (.ishr, 1) := by decide +kernel
theorem dX8_corner_27 : decode cX8_corner 27 = .ok (.iconst 1, 1) := by decide +kernel
theorem dX8_corner_28 : decode cX8_corner 28 = .ok (.iand, 1) := by decide +kernel
theorem dX8_corner_29 : decode cX8_corner 29 = .ok (.istore_n 3, 1) := by decide +kernel
theorem dX8_corner_30 : decode cX8_corner 30 = .ok (.aload_n 0, 1) := by decide +kernel
theorem dX8_corner_31 : decode cX8_corner 31 = .ok (.aload_n 0, 1) := by decide +kernel
theorem dX8_corner_32 : decode cX8_corner 32 = .ok (.getfield 125, 3) := by decide +kernel
theorem dX8_corner_35 : decode cX8_corner 35 = .ok (.iconst 1, 1) := by decide +kernel
theorem dX8_corner_36 : decode cX8_corner 36 = .ok (.iload_n 1, 1) := by decide +kernel
theorem dX8_corner_37 : decode cX8_corner 37 = .ok (.ishl, 1) := by decide +kernel
theorem dX8_corner_38 : decode cX8_corner 38 = .ok (.iconst (-1), 1) := by decide +kernel
theorem dX8_corner_39 : decode cX8_corner 39 = .ok (.ixor, 1) := by decide +kernel
theorem dX8_corner_40 : decode cX8_corner 40 = .ok (.iand, 1) := by decide +kernel
theorem dX8_corner_41 : decode cX8_corner 41 = .ok (.iload_n 2, 1) := by decide +kernel
theorem dX8_corner_42 : decode cX8_corner 42 = .ok (.iload_n 1, 1) := by decide +kernel
theorem dX8_corner_43 : decode cX8_corner 43 = .ok (.ishl, 1) := by decide +kernel
theorem dX8_corner_44 : decode cX8_corner 44 = .ok (.ior, 1) := by decide +kernel
theorem dX8_corner_45 : decode cX8_corner 45 = .ok (.putfield 125, 3) := by decide +kernel
theorem dX8_corner_48 : decode cX8_corner 48 = .ok (.iload_n 3, 1) := by decide +kernel
theorem dX8_corner_49 : decode cX8_corner 49 = .ok (.ireturn, 1) := by decide +kernel
theorem dX8_code_0 : decode cX8_code 0 = .ok (.iload_n 1, 1) := by decide +kernel
theorem dX8_code_1 : decode cX8_code 1 = .ok (.iconst 0, 1) := by decide +kernel
theorem dX8_code_2 : decode cX8_code 2 = .ok (.sipush 255, 3) := by decide +kernel
theorem dX8_code_5 : decode cX8_code 5 = .ok (.invokestatic 5, 3) := by decide +kernel
theorem dX8_code_8 : decode cX8_code 8 = .ok (.ifCond .ne 6, 3) := by decide +kernel
theorem dX8_code_11 : decode cX8_code 11 = .ok (.bipush (-2), 2) := by decide +kernel
theorem dX8_code_13 : decode cX8_code 13 = .ok (.ireturn, 1) := by decide +kernel
theorem dX8_code_14 : decode cX8_code 14 = .ok (.aload_n 0, 1) := by decide +kernel
theorem dX8_code_15 : decode cX8_code 15 = .ok (.getfield 125, 3) := by decide +kernel
theorem dX8_code_18 : decode cX8_code 18 = .ok (.istore_n 2, 1) := by decide +kernel
theorem dX8_code_19 : decode cX8_code 19 = .ok (.aload_n 0, 1) := by decide +kernel
theorem dX8_code_20 : decode cX8_code 20 = .ok (.iload_n 1, 1) := by decide +kernel
theorem dX8_code_21 : decode cX8_code 21 = .ok (.putfield 125, 3) := by decide +kernel
theorem dX8_code_24 : decode cX8_code 24 = .ok (.iload_n 2, 1) := by decide +kernel
theorem dX8_code_25 : decode cX8_code 25 = .ok (.ireturn, 1) := by decide +kernel
theorem dX8_move_0 : decode cX8_move 0 = .ok (.iload_n 1, 1) := by decide +kernel
theorem dX8_move_1 : decode cX8_move 1 = .ok (.invokestatic 129, 3) := by decide +kernel
theorem dX8_move_4 : decode cX8_move 4 = .ok (.ifCond .ne 5, 3) := by decide +kernel
theorem dX8_move_7 : decode cX8_move 7 = .ok (.iconst (-1), 1) := by decide +kernel
theorem dX8_move_8 : decode cX8_move 8 = .ok (.ireturn, 1) := by decide +kernel
theorem dX8_move_9 : decode cX8_move 9 = .ok (.aload_n 0, 1) := by decide +kernel
theorem dX8_move_10 : decode cX8_move 10 = .ok (.aload_n 0, 1) := by decide +kernel
theorem dX8_move_11 : decode cX8_move 11 = .ok (.aload_n 0, 1) := by decide +kernel
theorem dX8_move_12 : decode cX8_move 12 = .ok (.getfield 125, 3) := by decide +kernel
theorem dX8_move_15 : decode cX8_move 15 = .ok (.iload_n 1, 1) := by decide +kernel
theorem dX8_move_16 : decode cX8_move 16 = .ok (.invokevirtual 81, 3) := by decide +kernel
theorem dX8_move_19 : decode cX8_move 19 = .ok (.putfield 125, 3) := by decide +kernel
theorem dX8_move_22 : decode cX8_move 22 = .ok (.aload_n 0, 1) := by decide +kernel
theorem dX8_move_23 : decode cX8_move 23 = .ok (.getfield 125, 3) := by decide +kernel
theorem dX8_move_26 : decode cX8_move 26 = .ok (.ireturn, 1) := by decide +kernel
theorem dX8_becomes_0 : decode cX8_becomes 0 = .ok (.iload_n 1, 1) := by decide +kernel
theorem dX8_becomes_1 : decode cX8_becomes 1 = .ok (.iconst 0, 1) := by decide +kernel
theorem dX8_becomes_2 : decode cX8_becomes 2 = .ok (.iconst 3, 1) := by decide +kernel
theorem dX8_becomes_3 : decode cX8_becomes 3 = .ok (.invokestatic 5, 3) := by decide +kernel
theorem dX8_becomes_6 : decode cX8_becomes 6 = .ok (.ifCond .ne 5, 3) := by decide +kernel
theorem dX8_becomes_9 : decode cX8_becomes 9 = .ok (.iconst (-1), 1) := by decide +kernel
theorem dX8_becomes_10 : decode cX8_becomes 10 = .ok (.ireturn, 1) := by decide +kernel
theorem dX8_becomes_11 : decode cX8_becomes 11 = .ok (.aload_n 0, 1) := by decide +kernel
theorem dX8_becomes_12 : decode cX8_becomes 12 = .ok (.iload_n 1, 1) := by decide +kernel
theorem dX8_becomes_13 : decode cX8_becomes 13 = .ok (.ifCond .ne 15, 3) := by decide +kernel
theorem dX8_becomes_16 : decode cX8_becomes 16 = .ok (.aload_n 0, 1) := by decide +kernel
theorem dX8_becomes_17 : decode cX8_becomes 17 = .ok (.getfield 19, 3) := by decide +kernel
theorem dX8_becomes_20 : decode cX8_becomes 20 = .ok (.aload_n 0, 1) := by decide +kernel
theorem dX8_becomes_21 : decode cX8_becomes 21 = .ok (.getfield 125, 3) := by decide +kernel
theorem dX8_becomes_24 : decode cX8_becomes 24 = .ok (.iaload, 1) := by decide +kernel
theorem dX8_becomes_25 : decode cX8_becomes 25 = .ok (.goto 45, 3) := by decide +kernel
theorem dX8_becomes_28 : decode cX8_becomes 28 = .ok (.iload_n 1, 1) := by decide +kernel
theorem dX8_becomes_29 : decode cX8_becomes 29 = .ok (.iconst 1, 1) := by decide +kernel
theorem dX8_becomes_30 : decode cX8_becomes 30 = .ok (.if_icmp .ne 14, 3) := by decide +kernel
theorem dX8_becomes_33 : decode cX8_becomes 33 = .ok (.sipush 255, 3) := by decide +kernel
theorem dX8_becomes_36 : decode cX8_becomes 36 = .ok (.aload_n 0, 1) := by decide +kernel
theorem dX8_becomes_37 : decode cX8_becomes 37 = .ok (.getfield 125, 3) := by decide +kernel
theorem dX8_becomes_40 : decode cX8_becomes 40 = .ok (.isub, 1) := by decide +kernel
theorem dX8_becomes_41 : decode cX8_becomes 41 = .ok (.goto 29, 3) := by decide +kernel
theorem dX8_becomes_44 : decode cX8_becomes 44 = .ok (.iload_n 1, 1) := by decide +kernel
theorem dX8_becomes_45 : decode cX8_becomes 45 = .ok (.iconst 2, 1) := by decide +kernel
theorem dX8_becomes_46 : decode cX8_becomes 46 = .ok (.if_icmp .ne 15, 3) := by decide +kernel
theorem dX8_becomes_49 : decode cX8_becomes 49 = .ok (.aload_n 0, 1) := by decide +kernel
theorem dX8_becomes_50 : decode cX8_becomes 50 = .ok (.getfield 125, 3) := by decide +kernel
theorem dX8_becomes_53 : decode cX8_becomes 53 = .ok (.aload_n 0, 1) := by decide +kernel
theorem dX8_becomes_54 : decode cX8_becomes 54 = .ok (.getfield 132, 3) := by decide +kernel
theorem dX8_becomes_57 : decode cX8_becomes 57 = .ok (.ior, 1) := by decide +kernel
theorem dX8_becomes_58 : decode cX8_becomes 58 = .ok (.goto 12, 3) := by decide +kernel
theorem dX8_becomes_61 : decode cX8_becomes 61 = .ok (.aload_n 0, 1) := by decide +kernel
theorem dX8_becomes_62 : decode cX8_becomes 62 = .ok (.getfield 125, 3) := by decide +kernel
theorem dX8_becomes_65 : decode cX8_becomes 65 = .ok (.aload_n 0, 1) := by decide +kernel
theorem dX8_becomes_66 : decode cX8_becomes 66 = .ok (.getfield 132, 3) := by decide +kernel
theorem dX8_becomes_69 : decode cX8_becomes 69 = .ok (.iand, 1) := by decide +kernel
theorem dX8_becomes_70 : decode cX8_becomes 70 = .ok (.putfield 125, 3) := by decide +kernel
theorem dX8_becomes_73 : decode cX8_becomes 73 = .ok (.aload_n 0, 1) := by decide +kernel
theorem dX8_becomes_74 : decode cX8_becomes 74 = .ok (.getfield 125, 3) := by decide +kernel
theorem dX8_becomes_77 : decode cX8_becomes 77 = .ok (.ireturn, 1) := by decide +kernel
theorem dX8_keep_0 : decode cX8_keep 0 = .ok (.aload_n 0, 1) := by decide +kernel
theorem dX8_keep_1 : decode cX8_keep 1 = .ok (.aload_n 0, 1) := by decide +kernel
theorem dX8_keep_2 : decode cX8_keep 2 = .ok (.getfield 125, 3) := by decide +kernel
theorem dX8_keep_5 : decode cX8_keep 5 = .ok (.putfield 132, 3) := by decide +kernel
theorem dX8_keep_8 : decode cX8_keep 8 = .ok (.aload_n 0, 1) := by decide +kernel
theorem dX8_keep_9 : decode cX8_keep 9 = .ok (.getfield 132, 3) := by decide +kernel
theorem dX8_keep_12 : decode cX8_keep 12 = .ok (.ireturn, 1) := by decide +kernel
theorem dX8_feed_0 : decode cX8_feed 0 = .ok (.iload_n 1, 1) := by decide +kernel
theorem dX8_feed_1 : decode cX8_feed 1 = .ok (.iconst 0, 1) := by decide +kernel
theorem dX8_feed_2 : decode cX8_feed 2 = .ok (.bipush 127, 2) := by decide +kernel
theorem dX8_feed_4 : decode cX8_feed 4 = .ok (.invokestatic 5, 3) := by decide +kernel
theorem dX8_feed_7 : decode cX8_feed 7 = .ok (.ifCond .ne 6, 3) := by decide +kernel
theorem dX8_feed_10 : decode cX8_feed 10 = .ok (.bipush (-2), 2) := by decide +kernel
theorem dX8_feed_12 : decode cX8_feed 12 = .ok (.ireturn, 1) := by decide +kernel
theorem dX8_feed_13 : decode cX8_feed 13 = .ok (.aload_n 0, 1) := by decide +kernel
theorem dX8_feed_14 : decode cX8_feed 14 = .ok (.getfield 135, 3) := by decide +kernel
theorem dX8_feed_17 : decode cX8_feed 17 = .ok (.bipush 100, 2) := by decide +kernel
theorem dX8_feed_19 : decode cX8_feed 19 = .ok (.if_icmp .ne 6, 3) := by decide +kernel
theorem dX8_feed_22 : decode cX8_feed 22 = .ok (.bipush (-4), 2) := by decide +kernel
theorem dX8_feed_24 : decode cX8_feed 24 = .ok (.ireturn, 1) := by decide +kernel
theorem dX8_feed_25 : decode cX8_feed 25 = .ok (.aload_n 0, 1) := by decide +kernel
theorem dX8_feed_26 : decode cX8_feed 26 = .ok (.getfield 38, 3) := by decide +kernel
theorem dX8_feed_29 : decode cX8_feed 29 = .ok (.aload_n 0, 1) := by decide +kernel
theorem dX8_feed_30 : decode cX8_feed 30 = .ok (.getfield 135, 3) := by decide +kernel
theorem dX8_feed_33 : decode cX8_feed 33 = .ok (.iload_n 1, 1) := by decide +kernel
theorem dX8_feed_34 : decode cX8_feed 34 = .ok (.iastore, 1) := by decide +kernel
theorem dX8_feed_35 : decode cX8_feed 35 = .ok (.aload_n 0, 1) := by decide +kernel
theorem dX8_feed_36 : decode cX8_feed 36 = .ok (.dup, 1) := by decide +kernel
theorem dX8_feed_37 : decode cX8_feed 37 = .ok (.getfield 135, 3) := by decide +kernel
theorem dX8_feed_40 : decode cX8_feed 40 = .ok (.iconst 1, 1) := by decide +kernel
theorem dX8_feed_41 : decode cX8_feed 41 = .ok (.iadd, 1) := by decide +kernel
theorem dX8_feed_42 : decode cX8_feed 42 = .ok (.putfield 135, 3) := by decide +kernel
theorem dX8_feed_45 : decode cX8_feed 45 = .ok (.aload_n 0, 1) := by decide +kernel
theorem dX8_feed_46 : decode cX8_feed 46 = .ok (.getfield 135, 3) := by decide +kernel
theorem dX8_feed_49 : decode cX8_feed 49 = .ok (.ireturn, 1) := by decide +kernel
theorem dX8_next_0 : decode cX8_next 0 = .ok (.aload_n 0, 1) := by decide +kernel
theorem dX8_next_1 : decode cX8_next 1 = .ok (.getfield 138, 3) := by decide +kernel
theorem dX8_next_4 : decode cX8_next 4 = .ok (.aload_n 0, 1) := by decide +kernel
theorem dX8_next_5 : decode cX8_next 5 = .ok (.getfield 135, 3) := by decide +kernel
theorem dX8_next_8 : decode cX8_next 8 = .ok (.if_icmp .ge 15, 3) := by decide +kernel
theorem dX8_next_11 : decode cX8_next 11 = .ok (.aload_n 0, 1) := by decide +kernel
theorem dX8_next_12 : decode cX8_next 12 = .ok (.getfield 38, 3) := by decide +kernel
theorem dX8_next_15 : decode cX8_next 15 = .ok (.aload_n 0, 1) := by decide +kernel
theorem dX8_next_16 : decode cX8_next 16 = .ok (.getfield 138, 3) := by decide +kernel
theorem dX8_next_19 : decode cX8_next 19 = .ok (.iaload, 1) := by decide +kernel
theorem dX8_next_20 : decode cX8_next 20 = .ok (.goto 4, 3) := by decide +kernel
theorem dX8_next_23 : decode cX8_next 23 = .ok (.iconst (-1), 1) := by decide +kernel
theorem dX8_next_24 : decode cX8_next 24 = .ok (.ireturn, 1) := by decide +kernel
theorem dX8_isDigit_0 : decode cX8_isDigit 0 = .ok (.aload_n 0, 1) := by decide +kernel
theorem dX8_isDigit_1 : decode cX8_isDigit 1 = .ok (.invokevirtual 141, 3) := by decide +kernel
theorem dX8_isDigit_4 : decode cX8_isDigit 4 = .ok (.bipush 48, 2) := by decide +kernel
theorem dX8_isDigit_6 : decode cX8_isDigit 6 = .ok (.bipush 57, 2) := by decide +kernel
theorem dX8_isDigit_8 : decode cX8_isDigit 8 = .ok (.invokestatic 5, 3) := by decide +kernel
theorem dX8_isDigit_11 : decode cX8_isDigit 11 = .ok (.ireturn, 1) := by decide +kernel
theorem dX8_readsDigits_0 : decode cX8_readsDigits 0 = .ok (.aload_n 0, 1) := by decide +kernel
theorem dX8_readsDigits_1 : decode cX8_readsDigits 1 = .ok (.invokevirtual 145, 3) := by decide +kernel
theorem dX8_readsDigits_4 : decode cX8_readsDigits 4 = .ok (.ifCond .eq 7, 3) := by decide +kernel
theorem dX8_readsDigits_7 : decode cX8_readsDigits 7 = .ok (.iconst 0, 1) := by decide +kernel
theorem dX8_readsDigits_8 : decode cX8_readsDigits 8 = .ok (.goto 4, 3) := by decide +kernel
theorem dX8_readsDigits_11 : decode cX8_readsDigits 11 = .ok (.iconst (-1), 1) := by decide +kernel
theorem dX8_readsDigits_12 : decode cX8_readsDigits 12 = .ok (.istore_n 3, 1) := by decide +kernel
theorem dX8_readsDigits_13 : decode cX8_readsDigits 13 = .ok (.iconst 0, 1) := by decide +kernel
theorem dX8_readsDigits_14 : decode cX8_readsDigits 14 = .ok (.istore 4, 2) := by decide +kernel
theorem dX8_readsDigits_16 : decode cX8_readsDigits 16 = .ok (.iload 4, 2) := by decide +kernel
theorem dX8_readsDigits_18 : decode cX8_readsDigits 18 = .ok (.iload_n 2, 1) := by decide +kernel
theorem dX8_readsDigits_19 : decode cX8_readsDigits 19 = .ok (.if_icmp .ge 56, 3) := by decide +kernel
theorem dX8_readsDigits_22 : decode cX8_readsDigits 22 = .ok (.aload_n 0, 1) := by decide +kernel
theorem dX8_readsDigits_23 : decode cX8_readsDigits 23 = .ok (.invokevirtual 145, 3) := by decide +kernel
theorem dX8_readsDigits_26 : decode cX8_readsDigits 26 = .ok (.ifCond .eq 49, 3) := by decide +kernel
theorem dX8_readsDigits_29 : decode cX8_readsDigits 29 = .ok (.aload_n 0, 1) := by decide +kernel
theorem dX8_readsDigits_30 : decode cX8_readsDigits 30 = .ok (.invokevirtual 141, 3) := by decide +kernel
theorem dX8_readsDigits_33 : decode cX8_readsDigits 33 = .ok (.bipush 48, 2) := by decide +kernel
theorem dX8_readsDigits_35 : decode cX8_readsDigits 35 = .ok (.isub, 1) := by decide +kernel
theorem dX8_readsDigits_36 : decode cX8_readsDigits 36 = .ok (.istore 5, 2) := by decide +kernel
theorem dX8_readsDigits_38 : decode cX8_readsDigits 38 = .ok (.iload_n 1, 1) := by decide +kernel
theorem dX8_readsDigits_39 : decode cX8_readsDigits 39 = .ok (.ifCond .eq 12, 3) := by decide +kernel
theorem dX8_readsDigits_42 : decode cX8_readsDigits 42 = .ok (.iload_n 3, 1) := by decide +kernel
theorem dX8_readsDigits_43 : decode cX8_readsDigits 43 = .ok (.iconst 1, 1) := by decide +kernel
theorem dX8_readsDigits_44 : decode cX8_readsDigits 44 = .ok (.iload 5, 2) := by decide +kernel
theorem dX8_readsDigits_46 : decode cX8_readsDigits 46 = .ok (.ishl, 1) := by decide +kernel
theorem dX8_readsDigits_47 : decode cX8_readsDigits 47 = .ok (.ior, 1) := by decide +kernel
theorem dX8_readsDigits_48 : decode cX8_readsDigits 48 = .ok (.goto 10, 3) := by decide +kernel
theorem dX8_readsDigits_51 : decode cX8_readsDigits 51 = .ok (.bipush 10, 2) := by decide +kernel
theorem dX8_readsDigits_53 : decode cX8_readsDigits 53 = .ok (.iload_n 3, 1) := by decide +kernel
theorem dX8_readsDigits_54 : decode cX8_readsDigits 54 = .ok (.imul, 1) := by decide +kernel
theorem dX8_readsDigits_55 : decode cX8_readsDigits 55 = .ok (.iload 5, 2) := by decide +kernel
theorem dX8_readsDigits_57 : decode cX8_readsDigits 57 = .ok (.iadd, 1) := by decide +kernel
theorem dX8_readsDigits_58 : decode cX8_readsDigits 58 = .ok (.istore_n 3, 1) := by decide +kernel
theorem dX8_readsDigits_59 : decode cX8_readsDigits 59 = .ok (.aload_n 0, 1) := by decide +kernel
theorem dX8_readsDigits_60 : decode cX8_readsDigits 60 = .ok (.dup, 1) := by decide +kernel
theorem dX8_readsDigits_61 : decode cX8_readsDigits 61 = .ok (.getfield 138, 3) := by decide +kernel
theorem dX8_readsDigits_64 : decode cX8_readsDigits 64 = .ok (.iconst 1, 1) := by decide +kernel
theorem dX8_readsDigits_65 : decode cX8_readsDigits 65 = .ok (.iadd, 1) := by decide +kernel
theorem dX8_readsDigits_66 : decode cX8_readsDigits 66 = .ok (.putfield 138, 3) := by decide +kernel
theorem dX8_readsDigits_69 : decode cX8_readsDigits 69 = .ok (.iinc 4 1, 3) := by decide +kernel
theorem dX8_readsDigits_72 : decode cX8_readsDigits 72 = .ok (.goto (-56), 3) := by decide +kernel
theorem dX8_readsDigits_75 : decode cX8_readsDigits 75 = .ok (.iload_n 3, 1) := by decide +kernel
theorem dX8_readsDigits_76 : decode cX8_readsDigits 76 = .ok (.ireturn, 1) := by decide +kernel
theorem dX8_readsClause_0 : decode cX8_readsClause 0 = .ok (.aload_n 0, 1) := by decide +kernel
theorem dX8_readsClause_1 : decode cX8_readsClause 1 = .ok (.invokevirtual 141, 3) := by decide +kernel
theorem dX8_readsClause_4 : decode cX8_readsClause 4 = .ok (.istore_n 1, 1) := by decide +kernel
theorem dX8_readsClause_5 : decode cX8_readsClause 5 = .ok (.iload_n 1, 1) := by decide +kernel
theorem dX8_readsClause_6 : decode cX8_readsClause 6 = .ok (.bipush 43, 2) := by decide +kernel
theorem dX8_readsClause_8 : decode cX8_readsClause 8 = .ok (.if_icmp .eq 9, 3) := by decide +kernel
theorem dX8_readsClause_11 : decode cX8_readsClause 11 = .ok (.iload_n 1, 1) := by decide +kernel
theorem dX8_readsClause_12 : decode cX8_readsClause 12 = .ok (.bipush 45, 2) := by decide +kernel
theorem dX8_readsClause_14 : decode cX8_readsClause 14 = .ok (.if_icmp .ne 7, 3) := by decide +kernel
theorem dX8_readsClause_17 : decode cX8_readsClause 17 = .ok (.iconst 1, 1) := by decide +kernel
theorem dX8_readsClause_18 : decode cX8_readsClause 18 = .ok (.goto 4, 3) := by decide +kernel
theorem dX8_readsClause_21 : decode cX8_readsClause 21 = .ok (.iconst 0, 1) := by decide +kernel
theorem dX8_readsClause_22 : decode cX8_readsClause 22 = .ok (.istore_n 2, 1) := by decide +kernel
theorem dX8_readsClause_23 : decode cX8_readsClause 23 = .ok (.iload_n 2, 1) := by decide +kernel
theorem dX8_readsClause_24 : decode cX8_readsClause 24 = .ok (.ifCond .ne 41, 3) := by decide +kernel
theorem dX8_readsClause_27 : decode cX8_readsClause 27 = .ok (.iload_n 1, 1) := by decide +kernel
theorem dX8_readsClause_28 : decode cX8_readsClause 28 = .ok (.bipush 109, 2) := by decide +kernel
theorem dX8_readsClause_30 : decode cX8_readsClause 30 = .ok (.if_icmp .eq 35, 3) := by decide +kernel
theorem dX8_readsClause_33 : decode cX8_readsClause 33 = .ok (.iload_n 1, 1) := by decide +kernel
theorem dX8_readsClause_34 : decode cX8_readsClause 34 = .ok (.bipush 102, 2) := by decide +kernel
theorem dX8_readsClause_36 : decode cX8_readsClause 36 = .ok (.if_icmp .eq 29, 3) := by decide +kernel
theorem dX8_readsClause_39 : decode cX8_readsClause 39 = .ok (.iload_n 1, 1) := by decide +kernel
theorem dX8_readsClause_40 : decode cX8_readsClause 40 = .ok (.bipush 111, 2) := by decide +kernel
theorem dX8_readsClause_42 : decode cX8_readsClause 42 = .ok (.if_icmp .eq 23, 3) := by decide +kernel
theorem dX8_readsClause_45 : decode cX8_readsClause 45 = .ok (.iload_n 1, 1) := by decide +kernel
theorem dX8_readsClause_46 : decode cX8_readsClause 46 = .ok (.bipush 107, 2) := by decide +kernel
theorem dX8_readsClause_48 : decode cX8_readsClause 48 = .ok (.if_icmp .eq 17, 3) := by decide +kernel
theorem dX8_readsClause_51 : decode cX8_readsClause 51 = .ok (.iload_n 1, 1) := by decide +kernel
theorem dX8_readsClause_52 : decode cX8_readsClause 52 = .ok (.bipush 117, 2) := by decide +kernel
theorem dX8_readsClause_54 : decode cX8_readsClause 54 = .ok (.if_icmp .eq 11, 3) := by decide +kernel
theorem dX8_readsClause_57 : decode cX8_readsClause 57 = .ok (.iload_n 1, 1) := by decide +kernel
theorem dX8_readsClause_58 : decode cX8_readsClause 58 = .ok (.bipush 105, 2) := by decide +kernel
theorem dX8_readsClause_60 : decode cX8_readsClause 60 = .ok (.if_icmp .eq 5, 3) := by decide +kernel
theorem dX8_readsClause_63 : decode cX8_readsClause 63 = .ok (.iconst 0, 1) := by decide +kernel
theorem dX8_readsClause_64 : decode cX8_readsClause 64 = .ok (.ireturn, 1) := by decide +kernel
theorem dX8_readsClause_65 : decode cX8_readsClause 65 = .ok (.aload_n 0, 1) := by decide +kernel
theorem dX8_readsClause_66 : decode cX8_readsClause 66 = .ok (.dup, 1) := by decide +kernel
theorem dX8_readsClause_67 : decode cX8_readsClause 67 = .ok (.getfield 138, 3) := by decide +kernel
theorem dX8_readsClause_70 : decode cX8_readsClause 70 = .ok (.iconst 1, 1) := by decide +kernel
theorem dX8_readsClause_71 : decode cX8_readsClause 71 = .ok (.iadd, 1) := by decide +kernel
theorem dX8_readsClause_72 : decode cX8_readsClause 72 = .ok (.putfield 138, 3) := by decide +kernel
theorem dX8_readsClause_75 : decode cX8_readsClause 75 = .ok (.aload_n 0, 1) := by decide +kernel
theorem dX8_readsClause_76 : decode cX8_readsClause 76 = .ok (.getfield 41, 3) := by decide +kernel
theorem dX8_readsClause_79 : decode cX8_readsClause 79 = .ok (.aload_n 0, 1) := by decide +kernel
theorem dX8_readsClause_80 : decode cX8_readsClause 80 = .ok (.getfield 149, 3) := by decide +kernel
theorem dX8_readsClause_83 : decode cX8_readsClause 83 = .ok (.iload_n 1, 1) := by decide +kernel
theorem dX8_readsClause_84 : decode cX8_readsClause 84 = .ok (.iastore, 1) := by decide +kernel
theorem dX8_readsClause_85 : decode cX8_readsClause 85 = .ok (.aload_n 0, 1) := by decide +kernel
theorem dX8_readsClause_86 : decode cX8_readsClause 86 = .ok (.getfield 44, 3) := by decide +kernel
theorem dX8_readsClause_89 : decode cX8_readsClause 89 = .ok (.aload_n 0, 1) := by decide +kernel
theorem dX8_readsClause_90 : decode cX8_readsClause 90 = .ok (.getfield 149, 3) := by decide +kernel
theorem dX8_readsClause_93 : decode cX8_readsClause 93 = .ok (.iload_n 2, 1) := by decide +kernel
theorem dX8_readsClause_94 : decode cX8_readsClause 94 = .ok (.ifCond .eq 13, 3) := by decide +kernel
theorem dX8_readsClause_97 : decode cX8_readsClause 97 = .ok (.aload_n 0, 1) := by decide +kernel
theorem dX8_readsClause_98 : decode cX8_readsClause 98 = .ok (.iconst 1, 1) := by decide +kernel
theorem dX8_readsClause_99 : decode cX8_readsClause 99 = .ok (.bipush 8, 2) := by decide +kernel
theorem dX8_readsClause_101 : decode cX8_readsClause 101 = .ok (.invokevirtual 152, 3) := by decide +kernel
theorem dX8_readsClause_104 : decode cX8_readsClause 104 = .ok (.goto 19, 3) := by decide +kernel
theorem dX8_readsClause_107 : decode cX8_readsClause 107 = .ok (.iload_n 1, 1) := by decide +kernel
theorem dX8_readsClause_108 : decode cX8_readsClause 108 = .ok (.bipush 109, 2) := by decide +kernel
theorem dX8_readsClause_110 : decode cX8_readsClause 110 = .ok (.if_icmp .ne 12, 3) := by decide +kernel
theorem dX8_readsClause_113 : decode cX8_readsClause 113 = .ok (.aload_n 0, 1) := by decide +kernel
theorem dX8_readsClause_114 : decode cX8_readsClause 114 = .ok (.iconst 0, 1) := by decide +kernel
theorem dX8_readsClause_115 : decode cX8_readsClause 115 = .ok (.iconst 2, 1) := by decide +kernel
theorem dX8_readsClause_116 : decode cX8_readsClause 116 = .ok (.invokevirtual 152, 3) := by decide +kernel
theorem dX8_readsClause_119 : decode cX8_readsClause 119 = .ok (.goto 4, 3) := by decide +kernel
theorem dX8_readsClause_122 : decode cX8_readsClause 122 = .ok (.iconst 0, 1) := by decide +kernel
theorem dX8_readsClause_123 : decode cX8_readsClause 123 = .ok (.iastore, 1) := by decide +kernel
theorem dX8_readsClause_124 : decode cX8_readsClause 124 = .ok (.aload_n 0, 1) := by decide +kernel
theorem dX8_readsClause_125 : decode cX8_readsClause 125 = .ok (.getfield 44, 3) := by decide +kernel
theorem dX8_readsClause_128 : decode cX8_readsClause 128 = .ok (.aload_n 0, 1) := by decide +kernel
theorem dX8_readsClause_129 : decode cX8_readsClause 129 = .ok (.getfield 149, 3) := by decide +kernel
theorem dX8_readsClause_132 : decode cX8_readsClause 132 = .ok (.iaload, 1) := by decide +kernel
theorem dX8_readsClause_133 : decode cX8_readsClause 133 = .ok (.ifCond .ge 5, 3) := by decide +kernel
theorem dX8_readsClause_136 : decode cX8_readsClause 136 = .ok (.iconst 0, 1) := by decide +kernel
theorem dX8_readsClause_137 : decode cX8_readsClause 137 = .ok (.ireturn, 1) := by decide +kernel
theorem dX8_readsClause_138 : decode cX8_readsClause 138 = .ok (.aload_n 0, 1) := by decide +kernel
theorem dX8_readsClause_139 : decode cX8_readsClause 139 = .ok (.dup, 1) := by decide +kernel
theorem dX8_readsClause_140 : decode cX8_readsClause 140 = .ok (.getfield 149, 3) := by decide +kernel
theorem dX8_readsClause_143 : decode cX8_readsClause 143 = .ok (.iconst 1, 1) := by decide +kernel
theorem dX8_readsClause_144 : decode cX8_readsClause 144 = .ok (.iadd, 1) := by decide +kernel
theorem dX8_readsClause_145 : decode cX8_readsClause 145 = .ok (.putfield 149, 3) := by decide +kernel
theorem dX8_readsClause_148 : decode cX8_readsClause 148 = .ok (.iconst 1, 1) := by decide +kernel
theorem dX8_readsClause_149 : decode cX8_readsClause 149 = .ok (.ireturn, 1) := by decide +kernel
theorem dX8_readsAll_0 : decode cX8_readsAll 0 = .ok (.aload_n 0, 1) := by decide +kernel
theorem dX8_readsAll_1 : decode cX8_readsAll 1 = .ok (.iconst 0, 1) := by decide +kernel
theorem dX8_readsAll_2 : decode cX8_readsAll 2 = .ok (.putfield 138, 3) := by decide +kernel
theorem dX8_readsAll_5 : decode cX8_readsAll 5 = .ok (.aload_n 0, 1) := by decide +kernel
theorem dX8_readsAll_6 : decode cX8_readsAll 6 = .ok (.iconst 0, 1) := by decide +kernel
theorem dX8_readsAll_7 : decode cX8_readsAll 7 = .ok (.putfield 149, 3) := by decide +kernel
theorem dX8_readsAll_10 : decode cX8_readsAll 10 = .ok (.aload_n 0, 1) := by decide +kernel
theorem dX8_readsAll_11 : decode cX8_readsAll 11 = .ok (.invokevirtual 156, 3) := by decide +kernel
theorem dX8_readsAll_14 : decode cX8_readsAll 14 = .ok (.istore_n 1, 1) := by decide +kernel
theorem dX8_readsAll_15 : decode cX8_readsAll 15 = .ok (.iload_n 1, 1) := by decide +kernel
theorem dX8_readsAll_16 : decode cX8_readsAll 16 = .ok (.ifCond .eq 39, 3) := by decide +kernel
theorem dX8_readsAll_19 : decode cX8_readsAll 19 = .ok (.aload_n 0, 1) := by decide +kernel
theorem dX8_readsAll_20 : decode cX8_readsAll 20 = .ok (.getfield 149, 3) := by decide +kernel
theorem dX8_readsAll_23 : decode cX8_readsAll 23 = .ok (.bipush 12, 2) := by decide +kernel
theorem dX8_readsAll_25 : decode cX8_readsAll 25 = .ok (.if_icmp .ge 30, 3) := by decide +kernel
theorem dX8_readsAll_28 : decode cX8_readsAll 28 = .ok (.aload_n 0, 1) := by decide +kernel
theorem dX8_readsAll_29 : decode cX8_readsAll 29 = .ok (.invokevirtual 141, 3) := by decide +kernel
theorem dX8_readsAll_32 : decode cX8_readsAll 32 = .ok (.bipush 59, 2) := by decide +kernel
theorem dX8_readsAll_34 : decode cX8_readsAll 34 = .ok (.if_icmp .ne 21, 3) := by decide +kernel
theorem dX8_readsAll_37 : decode cX8_readsAll 37 = .ok (.aload_n 0, 1) := by decide +kernel
theorem dX8_readsAll_38 : decode cX8_readsAll 38 = .ok (.dup, 1) := by decide +kernel
theorem dX8_readsAll_39 : decode cX8_readsAll 39 = .ok (.getfield 138, 3) := by decide +kernel
theorem dX8_readsAll_42 : decode cX8_readsAll 42 = .ok (.iconst 1, 1) := by decide +kernel
theorem dX8_readsAll_43 : decode cX8_readsAll 43 = .ok (.iadd, 1) := by decide +kernel
theorem dX8_readsAll_44 : decode cX8_readsAll 44 = .ok (.putfield 138, 3) := by decide +kernel
theorem dX8_readsAll_47 : decode cX8_readsAll 47 = .ok (.aload_n 0, 1) := by decide +kernel
theorem dX8_readsAll_48 : decode cX8_readsAll 48 = .ok (.invokevirtual 156, 3) := by decide +kernel
theorem dX8_readsAll_51 : decode cX8_readsAll 51 = .ok (.istore_n 1, 1) := by decide +kernel
theorem dX8_readsAll_52 : decode cX8_readsAll 52 = .ok (.goto (-37), 3) := by decide +kernel
theorem dX8_readsAll_55 : decode cX8_readsAll 55 = .ok (.iload_n 1, 1) := by decide +kernel
theorem dX8_readsAll_56 : decode cX8_readsAll 56 = .ok (.ifCond .eq 18, 3) := by decide +kernel
theorem dX8_readsAll_59 : decode cX8_readsAll 59 = .ok (.aload_n 0, 1) := by decide +kernel
theorem dX8_readsAll_60 : decode cX8_readsAll 60 = .ok (.getfield 138, 3) := by decide +kernel
theorem dX8_readsAll_63 : decode cX8_readsAll 63 = .ok (.aload_n 0, 1) := by decide +kernel
theorem dX8_readsAll_64 : decode cX8_readsAll 64 = .ok (.getfield 135, 3) := by decide +kernel
theorem dX8_readsAll_67 : decode cX8_readsAll 67 = .ok (.if_icmp .ne 7, 3) := by decide +kernel
theorem dX8_readsAll_70 : decode cX8_readsAll 70 = .ok (.iconst 1, 1) := by decide +kernel
theorem dX8_readsAll_71 : decode cX8_readsAll 71 = .ok (.goto 4, 3) := by decide +kernel
theorem dX8_readsAll_74 : decode cX8_readsAll 74 = .ok (.iconst 0, 1) := by decide +kernel
theorem dX8_readsAll_75 : decode cX8_readsAll 75 = .ok (.ireturn, 1) := by decide +kernel
theorem dX8_does_0 : decode cX8_does 0 = .ok (.aload_n 0, 1) := by decide +kernel
theorem dX8_does_1 : decode cX8_does 1 = .ok (.getfield 44, 3) := by decide +kernel
theorem dX8_does_4 : decode cX8_does 4 = .ok (.iload_n 1, 1) := by decide +kernel
theorem dX8_does_5 : decode cX8_does 5 = .ok (.iaload, 1) := by decide +kernel
theorem dX8_does_6 : decode cX8_does 6 = .ok (.istore_n 2, 1) := by decide +kernel
theorem dX8_does_7 : decode cX8_does 7 = .ok (.aload_n 0, 1) := by decide +kernel
theorem dX8_does_8 : decode cX8_does 8 = .ok (.getfield 41, 3) := by decide +kernel
theorem dX8_does_11 : decode cX8_does 11 = .ok (.iload_n 1, 1) := by decide +kernel
theorem dX8_does_12 : decode cX8_does 12 = .ok (.iaload, 1) := by decide +kernel
theorem dX8_does_13 : decode cX8_does 13 = .ok (.lookupswitch 142 #[(43, 67), (45, 89), (102, 119), (107, 131), (109, 113), (111, 125), (117, 136)], 67) := by decide +kernel
theorem dX8_does_80 : decode cX8_does 80 = .ok (.iload_n 2, 1) := by decide +kernel
theorem dX8_does_81 : decode cX8_does 81 = .ok (.sipush 256, 3) := by decide +kernel
theorem dX8_does_84 : decode cX8_does 84 = .ok (.if_icmp .ge 16, 3) := by decide +kernel
theorem dX8_does_87 : decode cX8_does 87 = .ok (.aload_n 0, 1) := by decide +kernel
theorem dX8_does_88 : decode cX8_does 88 = .ok (.aload_n 0, 1) := by decide +kernel
theorem dX8_does_89 : decode cX8_does 89 = .ok (.getfield 125, 3) := by decide +kernel
theorem dX8_does_92 : decode cX8_does 92 = .ok (.iload_n 2, 1) := by decide +kernel
theorem dX8_does_93 : decode cX8_does 93 = .ok (.ior, 1) := by decide +kernel
theorem dX8_does_94 : decode cX8_does 94 = .ok (.invokevirtual 159, 3) := by decide +kernel
theorem dX8_does_97 : decode cX8_does 97 = .ok (.goto 4, 3) := by decide +kernel
theorem dX8_does_100 : decode cX8_does 100 = .ok (.iconst (-1), 1) := by decide +kernel
theorem dX8_does_101 : decode cX8_does 101 = .ok (.ireturn, 1) := by decide +kernel
theorem dX8_does_102 : decode cX8_does 102 = .ok (.iload_n 2, 1) := by decide +kernel
theorem dX8_does_103 : decode cX8_does 103 = .ok (.sipush 256, 3) := by decide +kernel
theorem dX8_does_106 : decode cX8_does 106 = .ok (.if_icmp .ge 18, 3) := by decide +kernel
theorem dX8_does_109 : decode cX8_does 109 = .ok (.aload_n 0, 1) := by decide +kernel
theorem dX8_does_110 : decode cX8_does 110 = .ok (.aload_n 0, 1) := by decide +kernel
theorem dX8_does_111 : decode cX8_does 111 = .ok (.getfield 125, 3) := by decide +kernel
theorem dX8_does_114 : decode cX8_does 114 = .ok (.iload_n 2, 1) := by decide +kernel
theorem dX8_does_115 : decode cX8_does 115 = .ok (.iconst (-1), 1) := by decide +kernel
theorem dX8_does_116 : decode cX8_does 116 = .ok (.ixor, 1) := by decide +kernel
theorem dX8_does_117 : decode cX8_does 117 = .ok (.iand, 1) := by decide +kernel
theorem dX8_does_118 : decode cX8_does 118 = .ok (.invokevirtual 159, 3) := by decide +kernel
theorem dX8_does_121 : decode cX8_does 121 = .ok (.goto 4, 3) := by decide +kernel
theorem dX8_does_124 : decode cX8_does 124 = .ok (.iconst (-1), 1) := by decide +kernel
theorem dX8_does_125 : decode cX8_does 125 = .ok (.ireturn, 1) := by decide +kernel
theorem dX8_does_126 : decode cX8_does 126 = .ok (.aload_n 0, 1) := by decide +kernel
theorem dX8_does_127 : decode cX8_does 127 = .ok (.iload_n 2, 1) := by decide +kernel
theorem dX8_does_128 : decode cX8_does 128 = .ok (.invokevirtual 162, 3) := by decide +kernel
theorem dX8_does_131 : decode cX8_does 131 = .ok (.ireturn, 1) := by decide +kernel
theorem dX8_does_132 : decode cX8_does 132 = .ok (.aload_n 0, 1) := by decide +kernel
theorem dX8_does_133 : decode cX8_does 133 = .ok (.iconst 0, 1) := by decide +kernel
theorem dX8_does_134 : decode cX8_does 134 = .ok (.invokevirtual 165, 3) := by decide +kernel
theorem dX8_does_137 : decode cX8_does 137 = .ok (.ireturn, 1) := by decide +kernel
theorem dX8_does_138 : decode cX8_does 138 = .ok (.aload_n 0, 1) := by decide +kernel
theorem dX8_does_139 : decode cX8_does 139 = .ok (.iconst 1, 1) := by decide +kernel
theorem dX8_does_140 : decode cX8_does 140 = .ok (.invokevirtual 165, 3) := by decide +kernel
theorem dX8_does_143 : decode cX8_does 143 = .ok (.ireturn, 1) := by decide +kernel
theorem dX8_does_144 : decode cX8_does 144 = .ok (.aload_n 0, 1) := by decide +kernel
theorem dX8_does_145 : decode cX8_does 145 = .ok (.invokevirtual 168, 3) := by decide +kernel
theorem dX8_does_148 : decode cX8_does 148 = .ok (.ireturn, 1) := by decide +kernel
theorem dX8_does_149 : decode cX8_does 149 = .ok (.aload_n 0, 1) := by decide +kernel
theorem dX8_does_150 : decode cX8_does 150 = .ok (.iconst 2, 1) := by decide +kernel
theorem dX8_does_151 : decode cX8_does 151 = .ok (.invokevirtual 165, 3) := by decide +kernel
theorem dX8_does_154 : decode cX8_does 154 = .ok (.ireturn, 1) := by decide +kernel
theorem dX8_does_155 : decode cX8_does 155 = .ok (.aload_n 0, 1) := by decide +kernel
theorem dX8_does_156 : decode cX8_does 156 = .ok (.iconst 3, 1) := by decide +kernel
theorem dX8_does_157 : decode cX8_does 157 = .ok (.invokevirtual 165, 3) := by decide +kernel
theorem dX8_does_160 : decode cX8_does 160 = .ok (.ireturn, 1) := by decide +kernel
theorem dX8_set_0 : decode cX8_set 0 = .ok (.aload_n 0, 1) := by decide +kernel
theorem dX8_set_1 : decode cX8_set 1 = .ok (.iload_n 1, 1) := by decide +kernel
theorem dX8_set_2 : decode cX8_set 2 = .ok (.putfield 125, 3) := by decide +kernel
theorem dX8_set_5 : decode cX8_set 5 = .ok (.aload_n 0, 1) := by decide +kernel
theorem dX8_set_6 : decode cX8_set 6 = .ok (.getfield 125, 3) := by decide +kernel
theorem dX8_set_9 : decode cX8_set 9 = .ok (.ireturn, 1) := by decide +kernel
theorem dX8_read_0 : decode cX8_read 0 = .ok (.aload_n 0, 1) := by decide +kernel
theorem dX8_read_1 : decode cX8_read 1 = .ok (.invokevirtual 171, 3) := by decide +kernel
theorem dX8_read_4 : decode cX8_read 4 = .ok (.istore_n 1, 1) := by decide +kernel
theorem dX8_read_5 : decode cX8_read 5 = .ok (.aload_n 0, 1) := by decide +kernel
theorem dX8_read_6 : decode cX8_read 6 = .ok (.iconst 0, 1) := by decide +kernel
theorem dX8_read_7 : decode cX8_read 7 = .ok (.putfield 135, 3) := by decide +kernel
theorem dX8_read_10 : decode cX8_read 10 = .ok (.iload_n 1, 1) := by decide +kernel
theorem dX8_read_11 : decode cX8_read 11 = .ok (.ifCond .ne 11, 3) := by decide +kernel
theorem dX8_read_14 : decode cX8_read 14 = .ok (.bipush (-10), 2) := by decide +kernel
theorem dX8_read_16 : decode cX8_read 16 = .ok (.aload_n 0, 1) := by decide +kernel
theorem dX8_read_17 : decode cX8_read 17 = .ok (.getfield 138, 3) := by decide +kernel
theorem dX8_read_20 : decode cX8_read 20 = .ok (.isub, 1) := by decide +kernel
theorem dX8_read_21 : decode cX8_read 21 = .ok (.ireturn, 1) := by decide +kernel
theorem dX8_read_22 : decode cX8_read 22 = .ok (.iconst 0, 1) := by decide +kernel
theorem dX8_read_23 : decode cX8_read 23 = .ok (.istore_n 2, 1) := by decide +kernel
theorem dX8_read_24 : decode cX8_read 24 = .ok (.iconst 0, 1) := by decide +kernel
theorem dX8_read_25 : decode cX8_read 25 = .ok (.istore_n 3, 1) := by decide +kernel
theorem dX8_read_26 : decode cX8_read 26 = .ok (.iload_n 3, 1) := by decide +kernel
theorem dX8_read_27 : decode cX8_read 27 = .ok (.aload_n 0, 1) := by decide +kernel
theorem dX8_read_28 : decode cX8_read 28 = .ok (.getfield 149, 3) := by decide +kernel
theorem dX8_read_31 : decode cX8_read 31 = .ok (.if_icmp .ge 25, 3) := by decide +kernel
theorem dX8_read_34 : decode cX8_read 34 = .ok (.iload_n 2, 1) := by decide +kernel
theorem dX8_read_35 : decode cX8_read 35 = .ok (.aload_n 0, 1) := by decide +kernel
theorem dX8_read_36 : decode cX8_read 36 = .ok (.iload_n 3, 1) := by decide +kernel
theorem dX8_read_37 : decode cX8_read 37 = .ok (.invokevirtual 174, 3) := by decide +kernel
theorem dX8_read_40 : decode cX8_read 40 = .ok (.ifCond .lt 7, 3) := by decide +kernel
theorem dX8_read_43 : decode cX8_read 43 = .ok (.iconst 1, 1) := by decide +kernel
theorem dX8_read_44 : decode cX8_read 44 = .ok (.goto 4, 3) := by decide +kernel
theorem dX8_read_47 : decode cX8_read 47 = .ok (.iconst 0, 1) := by decide +kernel
theorem dX8_read_48 : decode cX8_read 48 = .ok (.iadd, 1) := by decide +kernel
theorem dX8_read_49 : decode cX8_read 49 = .ok (.istore_n 2, 1) := by decide +kernel
theorem dX8_read_50 : decode cX8_read 50 = .ok (.iinc 3 1, 3) := by decide +kernel
theorem dX8_read_53 : decode cX8_read 53 = .ok (.goto (-27), 3) := by decide +kernel
theorem dX8_read_56 : decode cX8_read 56 = .ok (.iload_n 2, 1) := by decide +kernel
theorem dX8_read_57 : decode cX8_read 57 = .ok (.ireturn, 1) := by decide +kernel
theorem dX8_far_0 : decode cX8_far 0 = .ok (.bipush 8, 2) := by decide +kernel
theorem dX8_far_2 : decode cX8_far 2 = .ok (.istore_n 1, 1) := by decide +kernel
theorem dX8_far_3 : decode cX8_far 3 = .ok (.iconst 0, 1) := by decide +kernel
theorem dX8_far_4 : decode cX8_far 4 = .ok (.istore_n 2, 1) := by decide +kernel
theorem dX8_far_5 : decode cX8_far 5 = .ok (.iload_n 2, 1) := by decide +kernel
theorem dX8_far_6 : decode cX8_far 6 = .ok (.bipush 48, 2) := by decide +kernel
theorem dX8_far_8 : decode cX8_far 8 = .ok (.if_icmp .ge 38, 3) := by decide +kernel
theorem dX8_far_11 : decode cX8_far 11 = .ok (.aload_n 0, 1) := by decide +kernel
theorem dX8_far_12 : decode cX8_far 12 = .ok (.aload_n 0, 1) := by decide +kernel
theorem dX8_far_13 : decode cX8_far 13 = .ok (.getfield 125, 3) := by decide +kernel
end
section
theorem dX8_far_16 : decode cX8_far 16 = .ok (.iload_n 2, 1) := by decide +kernel
theorem dX8_far_17 : decode cX8_far 17 = .ok (.invokevirtual 81, 3) := by decide +kernel
theorem dX8_far_20 : decode cX8_far 20 = .ok (.aload_n 0, 1) := by decide +kernel
theorem dX8_far_21 : decode cX8_far 21 = .ok (.getfield 132, 3) := by decide +kernel
theorem dX8_far_24 : decode cX8_far 24 = .ok (.ixor, 1) := by decide +kernel
theorem dX8_far_25 : decode cX8_far 25 = .ok (.invokestatic 105, 3) := by decide +kernel
theorem dX8_far_28 : decode cX8_far 28 = .ok (.istore_n 3, 1) := by decide +kernel
theorem dX8_far_29 : decode cX8_far 29 = .ok (.iload_n 3, 1) := by decide +kernel
theorem dX8_far_30 : decode cX8_far 30 = .ok (.iload_n 1, 1) := by decide +kernel
theorem dX8_far_31 : decode cX8_far 31 = .ok (.if_icmp .ge 7, 3) := by decide +kernel
theorem dX8_far_34 : decode cX8_far 34 = .ok (.iload_n 3, 1) := by decide +kernel
theorem dX8_far_35 : decode cX8_far 35 = .ok (.goto 4, 3) := by decide +kernel
theorem dX8_far_38 : decode cX8_far 38 = .ok (.iload_n 1, 1) := by decide +kernel
theorem dX8_far_39 : decode cX8_far 39 = .ok (.istore_n 1, 1) := by decide +kernel
theorem dX8_far_40 : decode cX8_far 40 = .ok (.iinc 2 1, 3) := by decide +kernel
theorem dX8_far_43 : decode cX8_far 43 = .ok (.goto (-38), 3) := by decide +kernel
theorem dX8_far_46 : decode cX8_far 46 = .ok (.iload_n 1, 1) := by decide +kernel
theorem dX8_far_47 : decode cX8_far 47 = .ok (.ireturn, 1) := by decide +kernel
theorem dX8_told_0 : decode cX8_told 0 = .ok (.iload_n 1, 1) := by decide +kernel
theorem dX8_told_1 : decode cX8_told 1 = .ok (.tableswitch 172 0 12 #[67, 72, 77, 85, 95, 105, 114, 123, 128, 137, 145, 156, 164], 67) := by decide +kernel
theorem dX8_told_68 : decode cX8_told 68 = .ok (.aload_n 0, 1) := by decide +kernel
theorem dX8_told_69 : decode cX8_told 69 = .ok (.getfield 125, 3) := by decide +kernel
theorem dX8_told_72 : decode cX8_told 72 = .ok (.ireturn, 1) := by decide +kernel
theorem dX8_told_73 : decode cX8_told 73 = .ok (.aload_n 0, 1) := by decide +kernel
theorem dX8_told_74 : decode cX8_told 74 = .ok (.getfield 132, 3) := by decide +kernel
theorem dX8_told_77 : decode cX8_told 77 = .ok (.ireturn, 1) := by decide +kernel
theorem dX8_told_78 : decode cX8_told 78 = .ok (.aload_n 0, 1) := by decide +kernel
theorem dX8_told_79 : decode cX8_told 79 = .ok (.getfield 125, 3) := by decide +kernel
theorem dX8_told_82 : decode cX8_told 82 = .ok (.invokestatic 105, 3) := by decide +kernel
theorem dX8_told_85 : decode cX8_told 85 = .ok (.ireturn, 1) := by decide +kernel
theorem dX8_told_86 : decode cX8_told 86 = .ok (.aload_n 0, 1) := by decide +kernel
theorem dX8_told_87 : decode cX8_told 87 = .ok (.getfield 19, 3) := by decide +kernel
theorem dX8_told_90 : decode cX8_told 90 = .ok (.aload_n 0, 1) := by decide +kernel
theorem dX8_told_91 : decode cX8_told 91 = .ok (.getfield 125, 3) := by decide +kernel
theorem dX8_told_94 : decode cX8_told 94 = .ok (.iaload, 1) := by decide +kernel
theorem dX8_told_95 : decode cX8_told 95 = .ok (.ireturn, 1) := by decide +kernel
theorem dX8_told_96 : decode cX8_told 96 = .ok (.aload_n 0, 1) := by decide +kernel
theorem dX8_told_97 : decode cX8_told 97 = .ok (.getfield 22, 3) := by decide +kernel
theorem dX8_told_100 : decode cX8_told 100 = .ok (.aload_n 0, 1) := by decide +kernel
theorem dX8_told_101 : decode cX8_told 101 = .ok (.getfield 125, 3) := by decide +kernel
theorem dX8_told_104 : decode cX8_told 104 = .ok (.iaload, 1) := by decide +kernel
theorem dX8_told_105 : decode cX8_told 105 = .ok (.ireturn, 1) := by decide +kernel
theorem dX8_told_106 : decode cX8_told 106 = .ok (.aload_n 0, 1) := by decide +kernel
theorem dX8_told_107 : decode cX8_told 107 = .ok (.aload_n 0, 1) := by decide +kernel
theorem dX8_told_108 : decode cX8_told 108 = .ok (.getfield 125, 3) := by decide +kernel
theorem dX8_told_111 : decode cX8_told 111 = .ok (.invokevirtual 177, 3) := by decide +kernel
theorem dX8_told_114 : decode cX8_told 114 = .ok (.ireturn, 1) := by decide +kernel
theorem dX8_told_115 : decode cX8_told 115 = .ok (.aload_n 0, 1) := by decide +kernel
theorem dX8_told_116 : decode cX8_told 116 = .ok (.aload_n 0, 1) := by decide +kernel
theorem dX8_told_117 : decode cX8_told 117 = .ok (.getfield 125, 3) := by decide +kernel
theorem dX8_told_120 : decode cX8_told 120 = .ok (.invokevirtual 180, 3) := by decide +kernel
theorem dX8_told_123 : decode cX8_told 123 = .ok (.ireturn, 1) := by decide +kernel
theorem dX8_told_124 : decode cX8_told 124 = .ok (.aload_n 0, 1) := by decide +kernel
theorem dX8_told_125 : decode cX8_told 125 = .ok (.invokevirtual 183, 3) := by decide +kernel
theorem dX8_told_128 : decode cX8_told 128 = .ok (.ireturn, 1) := by decide +kernel
theorem dX8_told_129 : decode cX8_told 129 = .ok (.aload_n 0, 1) := by decide +kernel
theorem dX8_told_130 : decode cX8_told 130 = .ok (.aload_n 0, 1) := by decide +kernel
theorem dX8_told_131 : decode cX8_told 131 = .ok (.getfield 125, 3) := by decide +kernel
theorem dX8_told_134 : decode cX8_told 134 = .ok (.invokevirtual 186, 3) := by decide +kernel
theorem dX8_told_137 : decode cX8_told 137 = .ok (.ireturn, 1) := by decide +kernel
theorem dX8_told_138 : decode cX8_told 138 = .ok (.aload_n 0, 1) := by decide +kernel
theorem dX8_told_139 : decode cX8_told 139 = .ok (.getfield 125, 3) := by decide +kernel
theorem dX8_told_142 : decode cX8_told 142 = .ok (.invokestatic 189, 3) := by decide +kernel
theorem dX8_told_145 : decode cX8_told 145 = .ok (.ireturn, 1) := by decide +kernel
theorem dX8_told_146 : decode cX8_told 146 = .ok (.aload_n 0, 1) := by decide +kernel
theorem dX8_told_147 : decode cX8_told 147 = .ok (.aload_n 0, 1) := by decide +kernel
theorem dX8_told_148 : decode cX8_told 148 = .ok (.getfield 125, 3) := by decide +kernel
theorem dX8_told_151 : decode cX8_told 151 = .ok (.invokevirtual 192, 3) := by decide +kernel
theorem dX8_told_154 : decode cX8_told 154 = .ok (.iconst 1, 1) := by decide +kernel
theorem dX8_told_155 : decode cX8_told 155 = .ok (.iadd, 1) := by decide +kernel
theorem dX8_told_156 : decode cX8_told 156 = .ok (.ireturn, 1) := by decide +kernel
theorem dX8_told_157 : decode cX8_told 157 = .ok (.aload_n 0, 1) := by decide +kernel
theorem dX8_told_158 : decode cX8_told 158 = .ok (.getfield 125, 3) := by decide +kernel
theorem dX8_told_161 : decode cX8_told 161 = .ok (.invokestatic 195, 3) := by decide +kernel
theorem dX8_told_164 : decode cX8_told 164 = .ok (.ireturn, 1) := by decide +kernel
theorem dX8_told_165 : decode cX8_told 165 = .ok (.aload_n 0, 1) := by decide +kernel
theorem dX8_told_166 : decode cX8_told 166 = .ok (.getfield 125, 3) := by decide +kernel
theorem dX8_told_169 : decode cX8_told 169 = .ok (.invokestatic 198, 3) := by decide +kernel
theorem dX8_told_172 : decode cX8_told 172 = .ok (.ireturn, 1) := by decide +kernel
theorem dX8_told_173 : decode cX8_told 173 = .ok (.iconst (-1), 1) := by decide +kernel
theorem dX8_told_174 : decode cX8_told 174 = .ok (.ireturn, 1) := by decide +kernel
theorem dX8_carried_0 : decode cX8_carried 0 = .ok (.iload_n 1, 1) := by decide +kernel
theorem dX8_carried_1 : decode cX8_carried 1 = .ok (.invokestatic 129, 3) := by decide +kernel
theorem dX8_carried_4 : decode cX8_carried 4 = .ok (.ifCond .eq 24, 3) := by decide +kernel
theorem dX8_carried_7 : decode cX8_carried 7 = .ok (.iload_n 2, 1) := by decide +kernel
theorem dX8_carried_8 : decode cX8_carried 8 = .ok (.invokestatic 122, 3) := by decide +kernel
theorem dX8_carried_11 : decode cX8_carried 11 = .ok (.ifCond .eq 17, 3) := by decide +kernel
theorem dX8_carried_14 : decode cX8_carried 14 = .ok (.aload_n 0, 1) := by decide +kernel
theorem dX8_carried_15 : decode cX8_carried 15 = .ok (.getfield 15, 3) := by decide +kernel
theorem dX8_carried_18 : decode cX8_carried 18 = .ok (.bipush 8, 2) := by decide +kernel
theorem dX8_carried_20 : decode cX8_carried 20 = .ok (.iload_n 1, 1) := by decide +kernel
theorem dX8_carried_21 : decode cX8_carried 21 = .ok (.imul, 1) := by decide +kernel
theorem dX8_carried_22 : decode cX8_carried 22 = .ok (.iload_n 2, 1) := by decide +kernel
theorem dX8_carried_23 : decode cX8_carried 23 = .ok (.iadd, 1) := by decide +kernel
theorem dX8_carried_24 : decode cX8_carried 24 = .ok (.iaload, 1) := by decide +kernel
theorem dX8_carried_25 : decode cX8_carried 25 = .ok (.goto 4, 3) := by decide +kernel
theorem dX8_carried_28 : decode cX8_carried 28 = .ok (.iconst (-1), 1) := by decide +kernel
theorem dX8_carried_29 : decode cX8_carried 29 = .ok (.ireturn, 1) := by decide +kernel
theorem dX8_imaged_0 : decode cX8_imaged 0 = .ok (.iload_n 1, 1) := by decide +kernel
theorem dX8_imaged_1 : decode cX8_imaged 1 = .ok (.invokestatic 129, 3) := by decide +kernel
theorem dX8_imaged_4 : decode cX8_imaged 4 = .ok (.ifCond .eq 15, 3) := by decide +kernel
theorem dX8_imaged_7 : decode cX8_imaged 7 = .ok (.aload_n 0, 1) := by decide +kernel
theorem dX8_imaged_8 : decode cX8_imaged 8 = .ok (.aload_n 0, 1) := by decide +kernel
theorem dX8_imaged_9 : decode cX8_imaged 9 = .ok (.getfield 125, 3) := by decide +kernel
theorem dX8_imaged_12 : decode cX8_imaged 12 = .ok (.iload_n 1, 1) := by decide +kernel
theorem dX8_imaged_13 : decode cX8_imaged 13 = .ok (.invokevirtual 81, 3) := by decide +kernel
theorem dX8_imaged_16 : decode cX8_imaged 16 = .ok (.goto 4, 3) := by decide +kernel
theorem dX8_imaged_19 : decode cX8_imaged 19 = .ok (.iconst (-1), 1) := by decide +kernel
theorem dX8_imaged_20 : decode cX8_imaged 20 = .ok (.ireturn, 1) := by decide +kernel
theorem dX8_form_0 : decode cX8_form 0 = .ok (.iload_n 1, 1) := by decide +kernel
theorem dX8_form_1 : decode cX8_form 1 = .ok (.ifCond .ge 5, 3) := by decide +kernel
theorem dX8_form_4 : decode cX8_form 4 = .ok (.iconst (-1), 1) := by decide +kernel
theorem dX8_form_5 : decode cX8_form 5 = .ok (.ireturn, 1) := by decide +kernel
theorem dX8_form_6 : decode cX8_form 6 = .ok (.iconst 0, 1) := by decide +kernel
theorem dX8_form_7 : decode cX8_form 7 = .ok (.istore_n 2, 1) := by decide +kernel
theorem dX8_form_8 : decode cX8_form 8 = .ok (.iload_n 2, 1) := by decide +kernel
theorem dX8_form_9 : decode cX8_form 9 = .ok (.sipush 256, 3) := by decide +kernel
theorem dX8_form_12 : decode cX8_form 12 = .ok (.if_icmp .ge 31, 3) := by decide +kernel
theorem dX8_form_15 : decode cX8_form 15 = .ok (.aload_n 0, 1) := by decide +kernel
theorem dX8_form_16 : decode cX8_form 16 = .ok (.getfield 19, 3) := by decide +kernel
theorem dX8_form_19 : decode cX8_form 19 = .ok (.iload_n 2, 1) := by decide +kernel
theorem dX8_form_20 : decode cX8_form 20 = .ok (.iaload, 1) := by decide +kernel
theorem dX8_form_21 : decode cX8_form 21 = .ok (.iload_n 2, 1) := by decide +kernel
theorem dX8_form_22 : decode cX8_form 22 = .ok (.if_icmp .ne 15, 3) := by decide +kernel
theorem dX8_form_25 : decode cX8_form 25 = .ok (.aload_n 0, 1) := by decide +kernel
theorem dX8_form_26 : decode cX8_form 26 = .ok (.getfield 22, 3) := by decide +kernel
theorem dX8_form_29 : decode cX8_form 29 = .ok (.iload_n 2, 1) := by decide +kernel
theorem dX8_form_30 : decode cX8_form 30 = .ok (.iaload, 1) := by decide +kernel
theorem dX8_form_31 : decode cX8_form 31 = .ok (.iload_n 1, 1) := by decide +kernel
theorem dX8_form_32 : decode cX8_form 32 = .ok (.if_icmp .ne 5, 3) := by decide +kernel
theorem dX8_form_35 : decode cX8_form 35 = .ok (.iload_n 2, 1) := by decide +kernel
theorem dX8_form_36 : decode cX8_form 36 = .ok (.ireturn, 1) := by decide +kernel
theorem dX8_form_37 : decode cX8_form 37 = .ok (.iinc 2 1, 3) := by decide +kernel
theorem dX8_form_40 : decode cX8_form 40 = .ok (.goto (-32), 3) := by decide +kernel
theorem dX8_form_43 : decode cX8_form 43 = .ok (.bipush (-5), 2) := by decide +kernel
theorem dX8_form_45 : decode cX8_form 45 = .ok (.ireturn, 1) := by decide +kernel
theorem dX8_classes_0 : decode cX8_classes 0 = .ok (.iload_n 1, 1) := by decide +kernel
theorem dX8_classes_1 : decode cX8_classes 1 = .ok (.iconst 0, 1) := by decide +kernel
theorem dX8_classes_2 : decode cX8_classes 2 = .ok (.bipush 8, 2) := by decide +kernel
theorem dX8_classes_4 : decode cX8_classes 4 = .ok (.invokestatic 5, 3) := by decide +kernel
theorem dX8_classes_7 : decode cX8_classes 7 = .ok (.ifCond .ne 6, 3) := by decide +kernel
theorem dX8_classes_10 : decode cX8_classes 10 = .ok (.bipush (-2), 2) := by decide +kernel
theorem dX8_classes_12 : decode cX8_classes 12 = .ok (.ireturn, 1) := by decide +kernel
theorem dX8_classes_13 : decode cX8_classes 13 = .ok (.iconst 0, 1) := by decide +kernel
theorem dX8_classes_14 : decode cX8_classes 14 = .ok (.istore_n 2, 1) := by decide +kernel
theorem dX8_classes_15 : decode cX8_classes 15 = .ok (.iconst 0, 1) := by decide +kernel
theorem dX8_classes_16 : decode cX8_classes 16 = .ok (.istore_n 3, 1) := by decide +kernel
theorem dX8_classes_17 : decode cX8_classes 17 = .ok (.iload_n 3, 1) := by decide +kernel
theorem dX8_classes_18 : decode cX8_classes 18 = .ok (.sipush 256, 3) := by decide +kernel
theorem dX8_classes_21 : decode cX8_classes 21 = .ok (.if_icmp .ge 35, 3) := by decide +kernel
theorem dX8_classes_24 : decode cX8_classes 24 = .ok (.iload_n 2, 1) := by decide +kernel
theorem dX8_classes_25 : decode cX8_classes 25 = .ok (.aload_n 0, 1) := by decide +kernel
theorem dX8_classes_26 : decode cX8_classes 26 = .ok (.getfield 19, 3) := by decide +kernel
theorem dX8_classes_29 : decode cX8_classes 29 = .ok (.iload_n 3, 1) := by decide +kernel
theorem dX8_classes_30 : decode cX8_classes 30 = .ok (.iaload, 1) := by decide +kernel
theorem dX8_classes_31 : decode cX8_classes 31 = .ok (.iload_n 3, 1) := by decide +kernel
theorem dX8_classes_32 : decode cX8_classes 32 = .ok (.if_icmp .ne 15, 3) := by decide +kernel
theorem dX8_classes_35 : decode cX8_classes 35 = .ok (.iload_n 3, 1) := by decide +kernel
theorem dX8_classes_36 : decode cX8_classes 36 = .ok (.invokestatic 105, 3) := by decide +kernel
theorem dX8_classes_39 : decode cX8_classes 39 = .ok (.iload_n 1, 1) := by decide +kernel
theorem dX8_classes_40 : decode cX8_classes 40 = .ok (.if_icmp .ne 7, 3) := by decide +kernel
theorem dX8_classes_43 : decode cX8_classes 43 = .ok (.iconst 1, 1) := by decide +kernel
theorem dX8_classes_44 : decode cX8_classes 44 = .ok (.goto 4, 3) := by decide +kernel
theorem dX8_classes_47 : decode cX8_classes 47 = .ok (.iconst 0, 1) := by decide +kernel
theorem dX8_classes_48 : decode cX8_classes 48 = .ok (.iadd, 1) := by decide +kernel
theorem dX8_classes_49 : decode cX8_classes 49 = .ok (.istore_n 2, 1) := by decide +kernel
theorem dX8_classes_50 : decode cX8_classes 50 = .ok (.iinc 3 1, 3) := by decide +kernel
theorem dX8_classes_53 : decode cX8_classes 53 = .ok (.goto (-36), 3) := by decide +kernel
theorem dX8_classes_56 : decode cX8_classes 56 = .ok (.iload_n 2, 1) := by decide +kernel
theorem dX8_classes_57 : decode cX8_classes 57 = .ok (.ireturn, 1) := by decide +kernel
theorem dX8_weighs_0 : decode cX8_weighs 0 = .ok (.iload_n 1, 1) := by decide +kernel
theorem dX8_weighs_1 : decode cX8_weighs 1 = .ok (.bipush (-3), 2) := by decide +kernel
theorem dX8_weighs_3 : decode cX8_weighs 3 = .ok (.iconst 3, 1) := by decide +kernel
theorem dX8_weighs_4 : decode cX8_weighs 4 = .ok (.invokestatic 5, 3) := by decide +kernel
theorem dX8_weighs_7 : decode cX8_weighs 7 = .ok (.ifCond .eq 35, 3) := by decide +kernel
theorem dX8_weighs_10 : decode cX8_weighs 10 = .ok (.iload_n 2, 1) := by decide +kernel
theorem dX8_weighs_11 : decode cX8_weighs 11 = .ok (.bipush (-3), 2) := by decide +kernel
theorem dX8_weighs_13 : decode cX8_weighs 13 = .ok (.iconst 3, 1) := by decide +kernel
theorem dX8_weighs_14 : decode cX8_weighs 14 = .ok (.invokestatic 5, 3) := by decide +kernel
theorem dX8_weighs_17 : decode cX8_weighs 17 = .ok (.ifCond .eq 25, 3) := by decide +kernel
theorem dX8_weighs_20 : decode cX8_weighs 20 = .ok (.iload_n 3, 1) := by decide +kernel
theorem dX8_weighs_21 : decode cX8_weighs 21 = .ok (.bipush (-3), 2) := by decide +kernel
theorem dX8_weighs_23 : decode cX8_weighs 23 = .ok (.iconst 3, 1) := by decide +kernel
theorem dX8_weighs_24 : decode cX8_weighs 24 = .ok (.invokestatic 5, 3) := by decide +kernel
theorem dX8_weighs_27 : decode cX8_weighs 27 = .ok (.ifCond .eq 15, 3) := by decide +kernel
theorem dX8_weighs_30 : decode cX8_weighs 30 = .ok (.iload_n 1, 1) := by decide +kernel
theorem dX8_weighs_31 : decode cX8_weighs 31 = .ok (.ifCond .ne 14, 3) := by decide +kernel
theorem dX8_weighs_34 : decode cX8_weighs 34 = .ok (.iload_n 2, 1) := by decide +kernel
theorem dX8_weighs_35 : decode cX8_weighs 35 = .ok (.ifCond .ne 10, 3) := by decide +kernel
theorem dX8_weighs_38 : decode cX8_weighs 38 = .ok (.iload_n 3, 1) := by decide +kernel
theorem dX8_weighs_39 : decode cX8_weighs 39 = .ok (.ifCond .ne 6, 3) := by decide +kernel
theorem dX8_weighs_42 : decode cX8_weighs 42 = .ok (.bipush (-2), 2) := by decide +kernel
theorem dX8_weighs_44 : decode cX8_weighs 44 = .ok (.ireturn, 1) := by decide +kernel
theorem dX8_weighs_45 : decode cX8_weighs 45 = .ok (.iload 4, 2) := by decide +kernel
theorem dX8_weighs_47 : decode cX8_weighs 47 = .ok (.iconst 0, 1) := by decide +kernel
theorem dX8_weighs_48 : decode cX8_weighs 48 = .ok (.iconst 2, 1) := by decide +kernel
theorem dX8_weighs_49 : decode cX8_weighs 49 = .ok (.invokestatic 5, 3) := by decide +kernel
theorem dX8_weighs_52 : decode cX8_weighs 52 = .ok (.ifCond .ne 5, 3) := by decide +kernel
theorem dX8_weighs_55 : decode cX8_weighs 55 = .ok (.iconst (-1), 1) := by decide +kernel
theorem dX8_weighs_56 : decode cX8_weighs 56 = .ok (.ireturn, 1) := by decide +kernel
theorem dX8_weighs_57 : decode cX8_weighs 57 = .ok (.aload_n 0, 1) := by decide +kernel
theorem dX8_weighs_58 : decode cX8_weighs 58 = .ok (.getfield 125, 3) := by decide +kernel
theorem dX8_weighs_61 : decode cX8_weighs 61 = .ok (.ifCond .ne 6, 3) := by decide +kernel
theorem dX8_weighs_64 : decode cX8_weighs 64 = .ok (.bipush (-3), 2) := by decide +kernel
theorem dX8_weighs_66 : decode cX8_weighs 66 = .ok (.ireturn, 1) := by decide +kernel
theorem dX8_weighs_67 : decode cX8_weighs 67 = .ok (.bipush 49, 2) := by decide +kernel
theorem dX8_weighs_69 : decode cX8_weighs 69 = .ok (.iload_n 1, 1) := by decide +kernel
theorem dX8_weighs_70 : decode cX8_weighs 70 = .ok (.iconst 3, 1) := by decide +kernel
theorem dX8_weighs_71 : decode cX8_weighs 71 = .ok (.iadd, 1) := by decide +kernel
theorem dX8_weighs_72 : decode cX8_weighs 72 = .ok (.imul, 1) := by decide +kernel
theorem dX8_weighs_73 : decode cX8_weighs 73 = .ok (.bipush 7, 2) := by decide +kernel
theorem dX8_weighs_75 : decode cX8_weighs 75 = .ok (.iload_n 2, 1) := by decide +kernel
theorem dX8_weighs_76 : decode cX8_weighs 76 = .ok (.iconst 3, 1) := by decide +kernel
theorem dX8_weighs_77 : decode cX8_weighs 77 = .ok (.iadd, 1) := by decide +kernel
theorem dX8_weighs_78 : decode cX8_weighs 78 = .ok (.imul, 1) := by decide +kernel
theorem dX8_weighs_79 : decode cX8_weighs 79 = .ok (.iadd, 1) := by decide +kernel
theorem dX8_weighs_80 : decode cX8_weighs 80 = .ok (.iload_n 3, 1) := by decide +kernel
theorem dX8_weighs_81 : decode cX8_weighs 81 = .ok (.iadd, 1) := by decide +kernel
theorem dX8_weighs_82 : decode cX8_weighs 82 = .ok (.iconst 3, 1) := by decide +kernel
theorem dX8_weighs_83 : decode cX8_weighs 83 = .ok (.iadd, 1) := by decide +kernel
theorem dX8_weighs_84 : decode cX8_weighs 84 = .ok (.istore 5, 2) := by decide +kernel
theorem dX8_weighs_86 : decode cX8_weighs 86 = .ok (.iload 4, 2) := by decide +kernel
theorem dX8_weighs_88 : decode cX8_weighs 88 = .ok (.ifCond .ne 18, 3) := by decide +kernel
theorem dX8_weighs_91 : decode cX8_weighs 91 = .ok (.bipush 100, 2) := by decide +kernel
theorem dX8_weighs_93 : decode cX8_weighs 93 = .ok (.aload_n 0, 1) := by decide +kernel
theorem dX8_weighs_94 : decode cX8_weighs 94 = .ok (.getfield 125, 3) := by decide +kernel
theorem dX8_weighs_97 : decode cX8_weighs 97 = .ok (.iload 5, 2) := by decide +kernel
theorem dX8_weighs_99 : decode cX8_weighs 99 = .ok (.invokestatic 95, 3) := by decide +kernel
theorem dX8_weighs_102 : decode cX8_weighs 102 = .ok (.iadd, 1) := by decide +kernel
theorem dX8_weighs_103 : decode cX8_weighs 103 = .ok (.goto 33, 3) := by decide +kernel
theorem dX8_weighs_106 : decode cX8_weighs 106 = .ok (.iload 4, 2) := by decide +kernel
theorem dX8_weighs_108 : decode cX8_weighs 108 = .ok (.iconst 1, 1) := by decide +kernel
theorem dX8_weighs_109 : decode cX8_weighs 109 = .ok (.if_icmp .ne 18, 3) := by decide +kernel
theorem dX8_weighs_112 : decode cX8_weighs 112 = .ok (.bipush 100, 2) := by decide +kernel
theorem dX8_weighs_114 : decode cX8_weighs 114 = .ok (.aload_n 0, 1) := by decide +kernel
theorem dX8_weighs_115 : decode cX8_weighs 115 = .ok (.getfield 125, 3) := by decide +kernel
theorem dX8_weighs_118 : decode cX8_weighs 118 = .ok (.iload 5, 2) := by decide +kernel
theorem dX8_weighs_120 : decode cX8_weighs 120 = .ok (.invokestatic 119, 3) := by decide +kernel
theorem dX8_weighs_123 : decode cX8_weighs 123 = .ok (.iadd, 1) := by decide +kernel
theorem dX8_weighs_124 : decode cX8_weighs 124 = .ok (.goto 12, 3) := by decide +kernel
theorem dX8_weighs_127 : decode cX8_weighs 127 = .ok (.aload_n 0, 1) := by decide +kernel
theorem dX8_weighs_128 : decode cX8_weighs 128 = .ok (.getfield 125, 3) := by decide +kernel
theorem dX8_weighs_131 : decode cX8_weighs 131 = .ok (.iload 5, 2) := by decide +kernel
theorem dX8_weighs_133 : decode cX8_weighs 133 = .ok (.invokestatic 98, 3) := by decide +kernel
theorem dX8_weighs_136 : decode cX8_weighs 136 = .ok (.ireturn, 1) := by decide +kernel
theorem dX8_face_0 : decode cX8_face 0 = .ok (.iload_n 1, 1) := by decide +kernel
theorem dX8_face_1 : decode cX8_face 1 = .ok (.ifCond .ge 5, 3) := by decide +kernel
theorem dX8_face_4 : decode cX8_face 4 = .ok (.iconst (-1), 1) := by decide +kernel
theorem dX8_face_5 : decode cX8_face 5 = .ok (.ireturn, 1) := by decide +kernel
theorem dX8_face_6 : decode cX8_face 6 = .ok (.aload_n 0, 1) := by decide +kernel
theorem dX8_face_7 : decode cX8_face 7 = .ok (.aload_n 0, 1) := by decide +kernel
theorem dX8_face_8 : decode cX8_face 8 = .ok (.getfield 125, 3) := by decide +kernel
theorem dX8_face_11 : decode cX8_face 11 = .ok (.invokevirtual 186, 3) := by decide +kernel
theorem dX8_face_14 : decode cX8_face 14 = .ok (.istore_n 2, 1) := by decide +kernel
theorem dX8_face_15 : decode cX8_face 15 = .ok (.iload_n 1, 1) := by decide +kernel
theorem dX8_face_16 : decode cX8_face 16 = .ok (.iload_n 2, 1) := by decide +kernel
theorem dX8_face_17 : decode cX8_face 17 = .ok (.if_icmp .lt 6, 3) := by decide +kernel
theorem dX8_face_20 : decode cX8_face 20 = .ok (.bipush (-5), 2) := by decide +kernel
theorem dX8_face_22 : decode cX8_face 22 = .ok (.ireturn, 1) := by decide +kernel
theorem dX8_face_23 : decode cX8_face 23 = .ok (.iconst 0, 1) := by decide +kernel
theorem dX8_face_24 : decode cX8_face 24 = .ok (.istore_n 3, 1) := by decide +kernel
theorem dX8_face_25 : decode cX8_face 25 = .ok (.iload_n 1, 1) := by decide +kernel
theorem dX8_face_26 : decode cX8_face 26 = .ok (.istore 4, 2) := by decide +kernel
theorem dX8_face_28 : decode cX8_face 28 = .ok (.aload_n 0, 1) := by decide +kernel
theorem dX8_face_29 : decode cX8_face 29 = .ok (.getfield 31, 3) := by decide +kernel
theorem dX8_face_32 : decode cX8_face 32 = .ok (.iload_n 3, 1) := by decide +kernel
theorem dX8_face_33 : decode cX8_face 33 = .ok (.baload, 1) := by decide +kernel
theorem dX8_face_34 : decode cX8_face 34 = .ok (.ifCond .eq 8, 3) := by decide +kernel
theorem dX8_face_37 : decode cX8_face 37 = .ok (.iload 4, 2) := by decide +kernel
theorem dX8_face_39 : decode cX8_face 39 = .ok (.ifCond .le 28, 3) := by decide +kernel
theorem dX8_face_42 : decode cX8_face 42 = .ok (.iload 4, 2) := by decide +kernel
theorem dX8_face_44 : decode cX8_face 44 = .ok (.aload_n 0, 1) := by decide +kernel
theorem dX8_face_45 : decode cX8_face 45 = .ok (.getfield 31, 3) := by decide +kernel
theorem dX8_face_48 : decode cX8_face 48 = .ok (.iload_n 3, 1) := by decide +kernel
theorem dX8_face_49 : decode cX8_face 49 = .ok (.baload, 1) := by decide +kernel
theorem dX8_face_50 : decode cX8_face 50 = .ok (.ifCond .eq 7, 3) := by decide +kernel
theorem dX8_face_53 : decode cX8_face 53 = .ok (.iconst 1, 1) := by decide +kernel
theorem dX8_face_54 : decode cX8_face 54 = .ok (.goto 4, 3) := by decide +kernel
theorem dX8_face_57 : decode cX8_face 57 = .ok (.iconst 0, 1) := by decide +kernel
theorem dX8_face_58 : decode cX8_face 58 = .ok (.isub, 1) := by decide +kernel
theorem dX8_face_59 : decode cX8_face 59 = .ok (.istore 4, 2) := by decide +kernel
theorem dX8_face_61 : decode cX8_face 61 = .ok (.iinc 3 1, 3) := by decide +kernel
theorem dX8_face_64 : decode cX8_face 64 = .ok (.goto (-36), 3) := by decide +kernel
theorem dX8_face_67 : decode cX8_face 67 = .ok (.iload_n 3, 1) := by decide +kernel
theorem dX8_face_68 : decode cX8_face 68 = .ok (.ireturn, 1) := by decide +kernel
theorem dX8_edge_0 : decode cX8_edge 0 = .ok (.iload_n 1, 1) := by decide +kernel
theorem dX8_edge_1 : decode cX8_edge 1 = .ok (.invokestatic 122, 3) := by decide +kernel
theorem dX8_edge_4 : decode cX8_edge 4 = .ok (.ifCond .eq 10, 3) := by decide +kernel
theorem dX8_edge_7 : decode cX8_edge 7 = .ok (.iload_n 2, 1) := by decide +kernel
theorem dX8_edge_8 : decode cX8_edge 8 = .ok (.invokestatic 122, 3) := by decide +kernel
theorem dX8_edge_11 : decode cX8_edge 11 = .ok (.ifCond .ne 5, 3) := by decide +kernel
theorem dX8_edge_14 : decode cX8_edge 14 = .ok (.iconst (-1), 1) := by decide +kernel
theorem dX8_edge_15 : decode cX8_edge 15 = .ok (.ireturn, 1) := by decide +kernel
theorem dX8_edge_16 : decode cX8_edge 16 = .ok (.iload_n 1, 1) := by decide +kernel
theorem dX8_edge_17 : decode cX8_edge 17 = .ok (.iload_n 2, 1) := by decide +kernel
theorem dX8_edge_18 : decode cX8_edge 18 = .ok (.if_icmp .eq 21, 3) := by decide +kernel
theorem dX8_edge_21 : decode cX8_edge 21 = .ok (.aload_n 0, 1) := by decide +kernel
theorem dX8_edge_22 : decode cX8_edge 22 = .ok (.getfield 125, 3) := by decide +kernel
theorem dX8_edge_25 : decode cX8_edge 25 = .ok (.iload_n 1, 1) := by decide +kernel
theorem dX8_edge_26 : decode cX8_edge 26 = .ok (.ishr, 1) := by decide +kernel
theorem dX8_edge_27 : decode cX8_edge 27 = .ok (.aload_n 0, 1) := by decide +kernel
theorem dX8_edge_28 : decode cX8_edge 28 = .ok (.getfield 125, 3) := by decide +kernel
theorem dX8_edge_31 : decode cX8_edge 31 = .ok (.iload_n 2, 1) := by decide +kernel
theorem dX8_edge_32 : decode cX8_edge 32 = .ok (.ishr, 1) := by decide +kernel
theorem dX8_edge_33 : decode cX8_edge 33 = .ok (.iand, 1) := by decide +kernel
theorem dX8_edge_34 : decode cX8_edge 34 = .ok (.iconst 1, 1) := by decide +kernel
theorem dX8_edge_35 : decode cX8_edge 35 = .ok (.iand, 1) := by decide +kernel
theorem dX8_edge_36 : decode cX8_edge 36 = .ok (.ifCond .ne 6, 3) := by decide +kernel
theorem dX8_edge_39 : decode cX8_edge 39 = .ok (.bipush (-5), 2) := by decide +kernel
theorem dX8_edge_41 : decode cX8_edge 41 = .ok (.ireturn, 1) := by decide +kernel
theorem dX8_edge_42 : decode cX8_edge 42 = .ok (.aload_n 0, 1) := by decide +kernel
theorem dX8_edge_43 : decode cX8_edge 43 = .ok (.getfield 125, 3) := by decide +kernel
theorem dX8_edge_46 : decode cX8_edge 46 = .ok (.iload_n 1, 1) := by decide +kernel
theorem dX8_edge_47 : decode cX8_edge 47 = .ok (.iload_n 2, 1) := by decide +kernel
theorem dX8_edge_48 : decode cX8_edge 48 = .ok (.invokestatic 109, 3) := by decide +kernel
theorem dX8_edge_51 : decode cX8_edge 51 = .ok (.ifCond .eq 7, 3) := by decide +kernel
theorem dX8_edge_54 : decode cX8_edge 54 = .ok (.iconst 1, 1) := by decide +kernel
theorem dX8_edge_55 : decode cX8_edge 55 = .ok (.goto 4, 3) := by decide +kernel
theorem dX8_edge_58 : decode cX8_edge 58 = .ok (.iconst 0, 1) := by decide +kernel
theorem dX8_edge_59 : decode cX8_edge 59 = .ok (.ireturn, 1) := by decide +kernel
theorem dX8_points_0 : decode cX8_points 0 = .ok (.iload_n 1, 1) := by decide +kernel
theorem dX8_points_1 : decode cX8_points 1 = .ok (.iconst 1, 1) := by decide +kernel
theorem dX8_points_2 : decode cX8_points 2 = .ok (.iconst 3, 1) := by decide +kernel
theorem dX8_points_3 : decode cX8_points 3 = .ok (.invokestatic 5, 3) := by decide +kernel
theorem dX8_points_6 : decode cX8_points 6 = .ok (.ifCond .ne 8, 3) := by decide +kernel
theorem dX8_points_9 : decode cX8_points 9 = .ok (.bipush (-2), 2) := by decide +kernel
theorem dX8_points_11 : decode cX8_points 11 = .ok (.goto 23, 3) := by decide +kernel
theorem dX8_points_14 : decode cX8_points 14 = .ok (.aload_n 0, 1) := by decide +kernel
theorem dX8_points_15 : decode cX8_points 15 = .ok (.getfield 125, 3) := by decide +kernel
theorem dX8_points_18 : decode cX8_points 18 = .ok (.ifCond .ne 8, 3) := by decide +kernel
theorem dX8_points_21 : decode cX8_points 21 = .ok (.bipush (-3), 2) := by decide +kernel
theorem dX8_points_23 : decode cX8_points 23 = .ok (.goto 11, 3) := by decide +kernel
theorem dX8_points_26 : decode cX8_points 26 = .ok (.aload_n 0, 1) := by decide +kernel
theorem dX8_points_27 : decode cX8_points 27 = .ok (.getfield 125, 3) := by decide +kernel
theorem dX8_points_30 : decode cX8_points 30 = .ok (.iload_n 1, 1) := by decide +kernel
theorem dX8_points_31 : decode cX8_points 31 = .ok (.invokestatic 116, 3) := by decide +kernel
theorem dX8_points_34 : decode cX8_points 34 = .ok (.ireturn, 1) := by decide +kernel
theorem dX8_holds_0 : decode cX8_holds 0 = .ok (.iload_n 1, 1) := by decide +kernel
theorem dX8_holds_1 : decode cX8_holds 1 = .ok (.iconst 1, 1) := by decide +kernel
theorem dX8_holds_2 : decode cX8_holds 2 = .ok (.iconst 3, 1) := by decide +kernel
theorem dX8_holds_3 : decode cX8_holds 3 = .ok (.invokestatic 5, 3) := by decide +kernel
theorem dX8_holds_6 : decode cX8_holds 6 = .ok (.ifCond .eq 31, 3) := by decide +kernel
theorem dX8_holds_9 : decode cX8_holds 9 = .ok (.iload_n 2, 1) := by decide +kernel
theorem dX8_holds_10 : decode cX8_holds 10 = .ok (.iconst 0, 1) := by decide +kernel
theorem dX8_holds_11 : decode cX8_holds 11 = .ok (.iconst 3, 1) := by decide +kernel
theorem dX8_holds_12 : decode cX8_holds 12 = .ok (.invokestatic 5, 3) := by decide +kernel
theorem dX8_holds_15 : decode cX8_holds 15 = .ok (.ifCond .eq 22, 3) := by decide +kernel
theorem dX8_holds_18 : decode cX8_holds 18 = .ok (.iload_n 3, 1) := by decide +kernel
theorem dX8_holds_19 : decode cX8_holds 19 = .ok (.iconst 0, 1) := by decide +kernel
theorem dX8_holds_20 : decode cX8_holds 20 = .ok (.iconst 3, 1) := by decide +kernel
theorem dX8_holds_21 : decode cX8_holds 21 = .ok (.invokestatic 5, 3) := by decide +kernel
theorem dX8_holds_24 : decode cX8_holds 24 = .ok (.ifCond .eq 13, 3) := by decide +kernel
theorem dX8_holds_27 : decode cX8_holds 27 = .ok (.iload 4, 2) := by decide +kernel
theorem dX8_holds_29 : decode cX8_holds 29 = .ok (.iconst 0, 1) := by decide +kernel
theorem dX8_holds_30 : decode cX8_holds 30 = .ok (.iconst 3, 1) := by decide +kernel
theorem dX8_holds_31 : decode cX8_holds 31 = .ok (.invokestatic 5, 3) := by decide +kernel
theorem dX8_holds_34 : decode cX8_holds 34 = .ok (.ifCond .ne 6, 3) := by decide +kernel
theorem dX8_holds_37 : decode cX8_holds 37 = .ok (.bipush (-2), 2) := by decide +kernel
theorem dX8_holds_39 : decode cX8_holds 39 = .ok (.ireturn, 1) := by decide +kernel
theorem dX8_holds_40 : decode cX8_holds 40 = .ok (.aload_n 0, 1) := by decide +kernel
theorem dX8_holds_41 : decode cX8_holds 41 = .ok (.getfield 125, 3) := by decide +kernel
theorem dX8_holds_44 : decode cX8_holds 44 = .ok (.ifCond .ne 8, 3) := by decide +kernel
theorem dX8_holds_47 : decode cX8_holds 47 = .ok (.bipush (-3), 2) := by decide +kernel
theorem dX8_holds_49 : decode cX8_holds 49 = .ok (.goto 23, 3) := by decide +kernel
theorem dX8_holds_52 : decode cX8_holds 52 = .ok (.aload_n 0, 1) := by decide +kernel
theorem dX8_holds_53 : decode cX8_holds 53 = .ok (.getfield 125, 3) := by decide +kernel
theorem dX8_holds_56 : decode cX8_holds 56 = .ok (.iload_n 1, 1) := by decide +kernel
theorem dX8_holds_57 : decode cX8_holds 57 = .ok (.iload_n 2, 1) := by decide +kernel
theorem dX8_holds_58 : decode cX8_holds 58 = .ok (.iload_n 3, 1) := by decide +kernel
theorem dX8_holds_59 : decode cX8_holds 59 = .ok (.iload 4, 2) := by decide +kernel
theorem dX8_holds_61 : decode cX8_holds 61 = .ok (.invokestatic 112, 3) := by decide +kernel
theorem dX8_holds_64 : decode cX8_holds 64 = .ok (.ifCond .eq 7, 3) := by decide +kernel
theorem dX8_holds_67 : decode cX8_holds 67 = .ok (.iconst 1, 1) := by decide +kernel
theorem dX8_holds_68 : decode cX8_holds 68 = .ok (.goto 4, 3) := by decide +kernel
theorem dX8_holds_71 : decode cX8_holds 71 = .ok (.iconst 0, 1) := by decide +kernel
theorem dX8_holds_72 : decode cX8_holds 72 = .ok (.ireturn, 1) := by decide +kernel
theorem dX8_centre_0 : decode cX8_centre 0 = .ok (.fconst 0, 1) := by decide +kernel
theorem dX8_centre_1 : decode cX8_centre 1 = .ok (.fstore_n 2, 1) := by decide +kernel
theorem dX8_centre_2 : decode cX8_centre 2 = .ok (.iconst 0, 1) := by decide +kernel
theorem dX8_centre_3 : decode cX8_centre 3 = .ok (.istore_n 3, 1) := by decide +kernel
theorem dX8_centre_4 : decode cX8_centre 4 = .ok (.iload_n 3, 1) := by decide +kernel
theorem dX8_centre_5 : decode cX8_centre 5 = .ok (.bipush 8, 2) := by decide +kernel
theorem dX8_centre_7 : decode cX8_centre 7 = .ok (.if_icmp .ge 30, 3) := by decide +kernel
theorem dX8_centre_10 : decode cX8_centre 10 = .ok (.aload_n 0, 1) := by decide +kernel
theorem dX8_centre_11 : decode cX8_centre 11 = .ok (.getfield 125, 3) := by decide +kernel
theorem dX8_centre_14 : decode cX8_centre 14 = .ok (.iload_n 3, 1) := by decide +kernel
theorem dX8_centre_15 : decode cX8_centre 15 = .ok (.ishr, 1) := by decide +kernel
theorem dX8_centre_16 : decode cX8_centre 16 = .ok (.iconst 1, 1) := by decide +kernel
theorem dX8_centre_17 : decode cX8_centre 17 = .ok (.iand, 1) := by decide +kernel
theorem dX8_centre_18 : decode cX8_centre 18 = .ok (.iconst 1, 1) := by decide +kernel
theorem dX8_centre_19 : decode cX8_centre 19 = .ok (.if_icmp .ne 12, 3) := by decide +kernel
theorem dX8_centre_22 : decode cX8_centre 22 = .ok (.fload_n 2, 1) := by decide +kernel
theorem dX8_centre_23 : decode cX8_centre 23 = .ok (.iload_n 3, 1) := by decide +kernel
theorem dX8_centre_24 : decode cX8_centre 24 = .ok (.iload_n 1, 1) := by decide +kernel
theorem dX8_centre_25 : decode cX8_centre 25 = .ok (.ishr, 1) := by decide +kernel
theorem dX8_centre_26 : decode cX8_centre 26 = .ok (.iconst 1, 1) := by decide +kernel
theorem dX8_centre_27 : decode cX8_centre 27 = .ok (.iand, 1) := by decide +kernel
theorem dX8_centre_28 : decode cX8_centre 28 = .ok (.i2f, 1) := by decide +kernel
theorem dX8_centre_29 : decode cX8_centre 29 = .ok (.fadd, 1) := by decide +kernel
theorem dX8_centre_30 : decode cX8_centre 30 = .ok (.fstore_n 2, 1) := by decide +kernel
theorem dX8_centre_31 : decode cX8_centre 31 = .ok (.iinc 3 1, 3) := by decide +kernel
theorem dX8_centre_34 : decode cX8_centre 34 = .ok (.goto (-30), 3) := by decide +kernel
theorem dX8_centre_37 : decode cX8_centre 37 = .ok (.fload_n 2, 1) := by decide +kernel
theorem dX8_centre_38 : decode cX8_centre 38 = .ok (.aload_n 0, 1) := by decide +kernel
theorem dX8_centre_39 : decode cX8_centre 39 = .ok (.getfield 125, 3) := by decide +kernel
theorem dX8_centre_42 : decode cX8_centre 42 = .ok (.invokestatic 105, 3) := by decide +kernel
theorem dX8_centre_45 : decode cX8_centre 45 = .ok (.i2f, 1) := by decide +kernel
theorem dX8_centre_46 : decode cX8_centre 46 = .ok (.fdiv, 1) := by decide +kernel
theorem dX8_centre_47 : decode cX8_centre 47 = .ok (.freturn, 1) := by decide +kernel
theorem dX8_fat_0 : decode cX8_fat 0 = .ok (.aload_n 0, 1) := by decide +kernel
theorem dX8_fat_1 : decode cX8_fat 1 = .ok (.getfield 125, 3) := by decide +kernel
theorem dX8_fat_4 : decode cX8_fat 4 = .ok (.invokestatic 198, 3) := by decide +kernel
theorem dX8_fat_7 : decode cX8_fat 7 = .ok (.istore_n 1, 1) := by decide +kernel
theorem dX8_fat_8 : decode cX8_fat 8 = .ok (.iload_n 1, 1) := by decide +kernel
theorem dX8_fat_9 : decode cX8_fat 9 = .ok (.ifCond .ne 7, 3) := by decide +kernel
theorem dX8_fat_12 : decode cX8_fat 12 = .ok (.fconst 0, 1) := by decide +kernel
theorem dX8_fat_13 : decode cX8_fat 13 = .ok (.goto 17, 3) := by decide +kernel
theorem dX8_fat_16 : decode cX8_fat 16 = .ok (.aload_n 0, 1) := by decide +kernel
theorem dX8_fat_17 : decode cX8_fat 17 = .ok (.getfield 125, 3) := by decide +kernel
theorem dX8_fat_20 : decode cX8_fat 20 = .ok (.invokestatic 195, 3) := by decide +kernel
theorem dX8_fat_23 : decode cX8_fat 23 = .ok (.i2f, 1) := by decide +kernel
theorem dX8_fat_24 : decode cX8_fat 24 = .ok (.ldc 201, 2) := by decide +kernel
theorem dX8_fat_26 : decode cX8_fat 26 = .ok (.fdiv, 1) := by decide +kernel
theorem dX8_fat_27 : decode cX8_fat 27 = .ok (.iload_n 1, 1) := by decide +kernel
theorem dX8_fat_28 : decode cX8_fat 28 = .ok (.i2f, 1) := by decide +kernel
theorem dX8_fat_29 : decode cX8_fat 29 = .ok (.fdiv, 1) := by decide +kernel
theorem dX8_fat_30 : decode cX8_fat 30 = .ok (.freturn, 1) := by decide +kernel
theorem dX8_floats_0 : decode cX8_floats 0 = .ok (.iload_n 1, 1) := by decide +kernel
theorem dX8_floats_1 : decode cX8_floats 1 = .ok (.iconst 0, 1) := by decide +kernel
theorem dX8_floats_2 : decode cX8_floats 2 = .ok (.iconst 3, 1) := by decide +kernel
theorem dX8_floats_3 : decode cX8_floats 3 = .ok (.invokestatic 5, 3) := by decide +kernel
theorem dX8_floats_6 : decode cX8_floats 6 = .ok (.ifCond .ne 5, 3) := by decide +kernel
theorem dX8_floats_9 : decode cX8_floats 9 = .ok (.iconst (-1), 1) := by decide +kernel
theorem dX8_floats_10 : decode cX8_floats 10 = .ok (.ireturn, 1) := by decide +kernel
theorem dX8_floats_11 : decode cX8_floats 11 = .ok (.aload_n 0, 1) := by decide +kernel
theorem dX8_floats_12 : decode cX8_floats 12 = .ok (.getfield 125, 3) := by decide +kernel
theorem dX8_floats_15 : decode cX8_floats 15 = .ok (.ifCond .ne 8, 3) := by decide +kernel
theorem dX8_floats_18 : decode cX8_floats 18 = .ok (.bipush (-3), 2) := by decide +kernel
theorem dX8_floats_20 : decode cX8_floats 20 = .ok (.goto 23, 3) := by decide +kernel
theorem dX8_floats_23 : decode cX8_floats 23 = .ok (.iload_n 1, 1) := by decide +kernel
theorem dX8_floats_24 : decode cX8_floats 24 = .ok (.iconst 3, 1) := by decide +kernel
theorem dX8_floats_25 : decode cX8_floats 25 = .ok (.if_icmp .ne 10, 3) := by decide +kernel
theorem dX8_floats_28 : decode cX8_floats 28 = .ok (.aload_n 0, 1) := by decide +kernel
theorem dX8_floats_29 : decode cX8_floats 29 = .ok (.invokevirtual 202, 3) := by decide +kernel
theorem dX8_floats_32 : decode cX8_floats 32 = .ok (.goto 8, 3) := by decide +kernel
theorem dX8_floats_35 : decode cX8_floats 35 = .ok (.aload_n 0, 1) := by decide +kernel
theorem dX8_floats_36 : decode cX8_floats 36 = .ok (.iload_n 1, 1) := by decide +kernel
theorem dX8_floats_37 : decode cX8_floats 37 = .ok (.invokevirtual 206, 3) := by decide +kernel
theorem dX8_floats_40 : decode cX8_floats 40 = .ok (.invokestatic 210, 3) := by decide +kernel
theorem dX8_floats_43 : decode cX8_floats 43 = .ok (.ireturn, 1) := by decide +kernel
theorem dX8_spread_0 : decode cX8_spread 0 = .ok (.aload_n 0, 1) := by decide +kernel
theorem dX8_spread_1 : decode cX8_spread 1 = .ok (.getfield 125, 3) := by decide +kernel
theorem dX8_spread_4 : decode cX8_spread 4 = .ok (.ifCond .ne 7, 3) := by decide +kernel
theorem dX8_spread_7 : decode cX8_spread 7 = .ok (.ldc2_w 216, 3) := by decide +kernel
theorem dX8_spread_10 : decode cX8_spread 10 = .ok (.lreturn, 1) := by decide +kernel
theorem dX8_spread_11 : decode cX8_spread 11 = .ok (.dconst 0, 1) := by decide +kernel
theorem dX8_spread_12 : decode cX8_spread 12 = .ok (.dstore_n 1, 1) := by decide +kernel
theorem dX8_spread_13 : decode cX8_spread 13 = .ok (.iconst 0, 1) := by decide +kernel
theorem dX8_spread_14 : decode cX8_spread 14 = .ok (.istore_n 3, 1) := by decide +kernel
theorem dX8_spread_15 : decode cX8_spread 15 = .ok (.iload_n 3, 1) := by decide +kernel
theorem dX8_spread_16 : decode cX8_spread 16 = .ok (.iconst 3, 1) := by decide +kernel
theorem dX8_spread_17 : decode cX8_spread 17 = .ok (.if_icmp .ge 29, 3) := by decide +kernel
theorem dX8_spread_20 : decode cX8_spread 20 = .ok (.aload_n 0, 1) := by decide +kernel
theorem dX8_spread_21 : decode cX8_spread 21 = .ok (.iload_n 3, 1) := by decide +kernel
theorem dX8_spread_22 : decode cX8_spread 22 = .ok (.invokevirtual 206, 3) := by decide +kernel
theorem dX8_spread_25 : decode cX8_spread 25 = .ok (.f2d, 1) := by decide +kernel
theorem dX8_spread_26 : decode cX8_spread 26 = .ok (.ldc2_w 218, 3) := by decide +kernel
theorem dX8_spread_29 : decode cX8_spread 29 = .ok (.dsub, 1) := by decide +kernel
theorem dX8_spread_30 : decode cX8_spread 30 = .ok (.dstore 4, 2) := by decide +kernel
theorem dX8_spread_32 : decode cX8_spread 32 = .ok (.dload_n 1, 1) := by decide +kernel
theorem dX8_spread_33 : decode cX8_spread 33 = .ok (.dload 4, 2) := by decide +kernel
theorem dX8_spread_35 : decode cX8_spread 35 = .ok (.dload 4, 2) := by decide +kernel
theorem dX8_spread_37 : decode cX8_spread 37 = .ok (.dmul, 1) := by decide +kernel
theorem dX8_spread_38 : decode cX8_spread 38 = .ok (.dadd, 1) := by decide +kernel
theorem dX8_spread_39 : decode cX8_spread 39 = .ok (.dstore_n 1, 1) := by decide +kernel
theorem dX8_spread_40 : decode cX8_spread 40 = .ok (.iinc 3 1, 3) := by decide +kernel
theorem dX8_spread_43 : decode cX8_spread 43 = .ok (.goto (-28), 3) := by decide +kernel
theorem dX8_spread_46 : decode cX8_spread 46 = .ok (.dload_n 1, 1) := by decide +kernel
theorem dX8_spread_47 : decode cX8_spread 47 = .ok (.invokestatic 220, 3) := by decide +kernel
theorem dX8_spread_50 : decode cX8_spread 50 = .ok (.lreturn, 1) := by decide +kernel
theorem dX8_see_0 : decode cX8_see 0 = .ok (.iload_n 1, 1) := by decide +kernel
theorem dX8_see_1 : decode cX8_see 1 = .ok (.iconst (-1), 1) := by decide +kernel
theorem dX8_see_2 : decode cX8_see 2 = .ok (.if_icmp .ne 10, 3) := by decide +kernel
theorem dX8_see_5 : decode cX8_see 5 = .ok (.aload_n 0, 1) := by decide +kernel
theorem dX8_see_6 : decode cX8_see 6 = .ok (.iconst 0, 1) := by decide +kernel
theorem dX8_see_7 : decode cX8_see 7 = .ok (.putfield 226, 3) := by decide +kernel
theorem dX8_see_10 : decode cX8_see 10 = .ok (.iconst 0, 1) := by decide +kernel
theorem dX8_see_11 : decode cX8_see 11 = .ok (.ireturn, 1) := by decide +kernel
theorem dX8_see_12 : decode cX8_see 12 = .ok (.iload_n 1, 1) := by decide +kernel
theorem dX8_see_13 : decode cX8_see 13 = .ok (.iconst 0, 1) := by decide +kernel
theorem dX8_see_14 : decode cX8_see 14 = .ok (.iconst 3, 1) := by decide +kernel
theorem dX8_see_15 : decode cX8_see 15 = .ok (.invokestatic 5, 3) := by decide +kernel
theorem dX8_see_18 : decode cX8_see 18 = .ok (.ifCond .ne 5, 3) := by decide +kernel
theorem dX8_see_21 : decode cX8_see 21 = .ok (.iconst (-1), 1) := by decide +kernel
theorem dX8_see_22 : decode cX8_see 22 = .ok (.ireturn, 1) := by decide +kernel
theorem dX8_see_23 : decode cX8_see 23 = .ok (.iload_n 2, 1) := by decide +kernel
theorem dX8_see_24 : decode cX8_see 24 = .ok (.iconst 0, 1) := by decide +kernel
theorem dX8_see_25 : decode cX8_see 25 = .ok (.bipush 99, 2) := by decide +kernel
theorem dX8_see_27 : decode cX8_see 27 = .ok (.invokestatic 5, 3) := by decide +kernel
theorem dX8_see_30 : decode cX8_see 30 = .ok (.ifCond .ne 6, 3) := by decide +kernel
theorem dX8_see_33 : decode cX8_see 33 = .ok (.bipush (-2), 2) := by decide +kernel
theorem dX8_see_35 : decode cX8_see 35 = .ok (.ireturn, 1) := by decide +kernel
theorem dX8_see_36 : decode cX8_see 36 = .ok (.aload_n 0, 1) := by decide +kernel
theorem dX8_see_37 : decode cX8_see 37 = .ok (.getfield 226, 3) := by decide +kernel
theorem dX8_see_40 : decode cX8_see 40 = .ok (.iconst 4, 1) := by decide +kernel
theorem dX8_see_41 : decode cX8_see 41 = .ok (.if_icmp .ne 6, 3) := by decide +kernel
theorem dX8_see_44 : decode cX8_see 44 = .ok (.bipush (-4), 2) := by decide +kernel
theorem dX8_see_46 : decode cX8_see 46 = .ok (.ireturn, 1) := by decide +kernel
theorem dX8_see_47 : decode cX8_see 47 = .ok (.aload_n 0, 1) := by decide +kernel
theorem dX8_see_48 : decode cX8_see 48 = .ok (.getfield 47, 3) := by decide +kernel
theorem dX8_see_51 : decode cX8_see 51 = .ok (.aload_n 0, 1) := by decide +kernel
theorem dX8_see_52 : decode cX8_see 52 = .ok (.getfield 226, 3) := by decide +kernel
theorem dX8_see_55 : decode cX8_see 55 = .ok (.iload_n 1, 1) := by decide +kernel
theorem dX8_see_56 : decode cX8_see 56 = .ok (.iastore, 1) := by decide +kernel
theorem dX8_see_57 : decode cX8_see 57 = .ok (.aload_n 0, 1) := by decide +kernel
theorem dX8_see_58 : decode cX8_see 58 = .ok (.getfield 50, 3) := by decide +kernel
theorem dX8_see_61 : decode cX8_see 61 = .ok (.aload_n 0, 1) := by decide +kernel
theorem dX8_see_62 : decode cX8_see 62 = .ok (.getfield 226, 3) := by decide +kernel
theorem dX8_see_65 : decode cX8_see 65 = .ok (.iload_n 2, 1) := by decide +kernel
theorem dX8_see_66 : decode cX8_see 66 = .ok (.iastore, 1) := by decide +kernel
theorem dX8_see_67 : decode cX8_see 67 = .ok (.aload_n 0, 1) := by decide +kernel
theorem dX8_see_68 : decode cX8_see 68 = .ok (.dup, 1) := by decide +kernel
theorem dX8_see_69 : decode cX8_see 69 = .ok (.getfield 226, 3) := by decide +kernel
theorem dX8_see_72 : decode cX8_see 72 = .ok (.iconst 1, 1) := by decide +kernel
theorem dX8_see_73 : decode cX8_see 73 = .ok (.iadd, 1) := by decide +kernel
theorem dX8_see_74 : decode cX8_see 74 = .ok (.putfield 226, 3) := by decide +kernel
theorem dX8_see_77 : decode cX8_see 77 = .ok (.aload_n 0, 1) := by decide +kernel
theorem dX8_see_78 : decode cX8_see 78 = .ok (.getfield 226, 3) := by decide +kernel
theorem dX8_see_81 : decode cX8_see 81 = .ok (.ireturn, 1) := by decide +kernel
theorem dX8_isSeen_0 : decode cX8_isSeen 0 = .ok (.aload_n 0, 1) := by decide +kernel
theorem dX8_isSeen_1 : decode cX8_isSeen 1 = .ok (.getfield 47, 3) := by decide +kernel
theorem dX8_isSeen_4 : decode cX8_isSeen 4 = .ok (.iload_n 2, 1) := by decide +kernel
theorem dX8_isSeen_5 : decode cX8_isSeen 5 = .ok (.iaload, 1) := by decide +kernel
theorem dX8_isSeen_6 : decode cX8_isSeen 6 = .ok (.istore_n 3, 1) := by decide +kernel
theorem dX8_isSeen_7 : decode cX8_isSeen 7 = .ok (.aload_n 0, 1) := by decide +kernel
theorem dX8_isSeen_8 : decode cX8_isSeen 8 = .ok (.getfield 50, 3) := by decide +kernel
theorem dX8_isSeen_11 : decode cX8_isSeen 11 = .ok (.iload_n 2, 1) := by decide +kernel
theorem dX8_isSeen_12 : decode cX8_isSeen 12 = .ok (.iaload, 1) := by decide +kernel
theorem dX8_isSeen_13 : decode cX8_isSeen 13 = .ok (.iload_n 3, 1) := by decide +kernel
theorem dX8_isSeen_14 : decode cX8_isSeen 14 = .ok (.ifCond .ne 10, 3) := by decide +kernel
theorem dX8_isSeen_17 : decode cX8_isSeen 17 = .ok (.iload_n 1, 1) := by decide +kernel
theorem dX8_isSeen_18 : decode cX8_isSeen 18 = .ok (.invokestatic 105, 3) := by decide +kernel
theorem dX8_isSeen_21 : decode cX8_isSeen 21 = .ok (.goto 34, 3) := by decide +kernel
theorem dX8_isSeen_24 : decode cX8_isSeen 24 = .ok (.iload_n 3, 1) := by decide +kernel
theorem dX8_isSeen_25 : decode cX8_isSeen 25 = .ok (.iconst 1, 1) := by decide +kernel
theorem dX8_isSeen_26 : decode cX8_isSeen 26 = .ok (.if_icmp .ne 10, 3) := by decide +kernel
theorem dX8_isSeen_29 : decode cX8_isSeen 29 = .ok (.iload_n 1, 1) := by decide +kernel
theorem dX8_isSeen_30 : decode cX8_isSeen 30 = .ok (.invokestatic 195, 3) := by decide +kernel
theorem dX8_isSeen_33 : decode cX8_isSeen 33 = .ok (.goto 22, 3) := by decide +kernel
theorem dX8_isSeen_36 : decode cX8_isSeen 36 = .ok (.iload_n 3, 1) := by decide +kernel
theorem dX8_isSeen_37 : decode cX8_isSeen 37 = .ok (.iconst 2, 1) := by decide +kernel
theorem dX8_isSeen_38 : decode cX8_isSeen 38 = .ok (.if_icmp .ne 11, 3) := by decide +kernel
theorem dX8_isSeen_41 : decode cX8_isSeen 41 = .ok (.aload_n 0, 1) := by decide +kernel
theorem dX8_isSeen_42 : decode cX8_isSeen 42 = .ok (.iload_n 1, 1) := by decide +kernel
theorem dX8_isSeen_43 : decode cX8_isSeen 43 = .ok (.invokevirtual 186, 3) := by decide +kernel
theorem dX8_isSeen_46 : decode cX8_isSeen 46 = .ok (.goto 9, 3) := by decide +kernel
theorem dX8_isSeen_49 : decode cX8_isSeen 49 = .ok (.aload_n 0, 1) := by decide +kernel
theorem dX8_isSeen_50 : decode cX8_isSeen 50 = .ok (.getfield 22, 3) := by decide +kernel
theorem dX8_isSeen_53 : decode cX8_isSeen 53 = .ok (.iload_n 1, 1) := by decide +kernel
theorem dX8_isSeen_54 : decode cX8_isSeen 54 = .ok (.iaload, 1) := by decide +kernel
theorem dX8_isSeen_55 : decode cX8_isSeen 55 = .ok (.if_icmp .ne 7, 3) := by decide +kernel
theorem dX8_isSeen_58 : decode cX8_isSeen 58 = .ok (.iconst 1, 1) := by decide +kernel
theorem dX8_isSeen_59 : decode cX8_isSeen 59 = .ok (.goto 4, 3) := by decide +kernel
theorem dX8_isSeen_62 : decode cX8_isSeen 62 = .ok (.iconst 0, 1) := by decide +kernel
theorem dX8_isSeen_63 : decode cX8_isSeen 63 = .ok (.ireturn, 1) := by decide +kernel
theorem dX8_fits_0 : decode cX8_fits 0 = .ok (.iconst 0, 1) := by decide +kernel
theorem dX8_fits_1 : decode cX8_fits 1 = .ok (.istore_n 1, 1) := by decide +kernel
theorem dX8_fits_2 : decode cX8_fits 2 = .ok (.iconst 0, 1) := by decide +kernel
theorem dX8_fits_3 : decode cX8_fits 3 = .ok (.istore_n 2, 1) := by decide +kernel
theorem dX8_fits_4 : decode cX8_fits 4 = .ok (.iload_n 2, 1) := by decide +kernel
theorem dX8_fits_5 : decode cX8_fits 5 = .ok (.bipush 8, 2) := by decide +kernel
theorem dX8_fits_7 : decode cX8_fits 7 = .ok (.if_icmp .ge 62, 3) := by decide +kernel
theorem dX8_fits_10 : decode cX8_fits 10 = .ok (.iconst 1, 1) := by decide +kernel
theorem dX8_fits_11 : decode cX8_fits 11 = .ok (.istore_n 3, 1) := by decide +kernel
theorem dX8_fits_12 : decode cX8_fits 12 = .ok (.iconst 0, 1) := by decide +kernel
theorem dX8_fits_13 : decode cX8_fits 13 = .ok (.istore 4, 2) := by decide +kernel
theorem dX8_fits_15 : decode cX8_fits 15 = .ok (.iload 4, 2) := by decide +kernel
theorem dX8_fits_17 : decode cX8_fits 17 = .ok (.aload_n 0, 1) := by decide +kernel
theorem dX8_fits_18 : decode cX8_fits 18 = .ok (.getfield 226, 3) := by decide +kernel
theorem dX8_fits_21 : decode cX8_fits 21 = .ok (.if_icmp .ge 28, 3) := by decide +kernel
theorem dX8_fits_24 : decode cX8_fits 24 = .ok (.iload_n 3, 1) := by decide +kernel
theorem dX8_fits_25 : decode cX8_fits 25 = .ok (.ifCond .eq 24, 3) := by decide +kernel
theorem dX8_fits_28 : decode cX8_fits 28 = .ok (.aload_n 0, 1) := by decide +kernel
theorem dX8_fits_29 : decode cX8_fits 29 = .ok (.aload_n 0, 1) := by decide +kernel
theorem dX8_fits_30 : decode cX8_fits 30 = .ok (.getfield 125, 3) := by decide +kernel
theorem dX8_fits_33 : decode cX8_fits 33 = .ok (.iconst 1, 1) := by decide +kernel
theorem dX8_fits_34 : decode cX8_fits 34 = .ok (.iload_n 2, 1) := by decide +kernel
theorem dX8_fits_35 : decode cX8_fits 35 = .ok (.ishl, 1) := by decide +kernel
theorem dX8_fits_36 : decode cX8_fits 36 = .ok (.ixor, 1) := by decide +kernel
theorem dX8_fits_37 : decode cX8_fits 37 = .ok (.iload 4, 2) := by decide +kernel
theorem dX8_fits_39 : decode cX8_fits 39 = .ok (.invokevirtual 229, 3) := by decide +kernel
theorem dX8_fits_42 : decode cX8_fits 42 = .ok (.istore_n 3, 1) := by decide +kernel
theorem dX8_fits_43 : decode cX8_fits 43 = .ok (.iinc 4 1, 3) := by decide +kernel
theorem dX8_fits_46 : decode cX8_fits 46 = .ok (.goto (-31), 3) := by decide +kernel
theorem dX8_fits_49 : decode cX8_fits 49 = .ok (.iload_n 1, 1) := by decide +kernel
theorem dX8_fits_50 : decode cX8_fits 50 = .ok (.iload_n 3, 1) := by decide +kernel
theorem dX8_fits_51 : decode cX8_fits 51 = .ok (.ifCond .eq 9, 3) := by decide +kernel
theorem dX8_fits_54 : decode cX8_fits 54 = .ok (.iconst 1, 1) := by decide +kernel
theorem dX8_fits_55 : decode cX8_fits 55 = .ok (.iload_n 2, 1) := by decide +kernel
theorem dX8_fits_56 : decode cX8_fits 56 = .ok (.ishl, 1) := by decide +kernel
theorem dX8_fits_57 : decode cX8_fits 57 = .ok (.goto 4, 3) := by decide +kernel
theorem dX8_fits_60 : decode cX8_fits 60 = .ok (.iconst 0, 1) := by decide +kernel
theorem dX8_fits_61 : decode cX8_fits 61 = .ok (.ior, 1) := by decide +kernel
theorem dX8_fits_62 : decode cX8_fits 62 = .ok (.istore_n 1, 1) := by decide +kernel
theorem dX8_fits_63 : decode cX8_fits 63 = .ok (.iinc 2 1, 3) := by decide +kernel
theorem dX8_fits_66 : decode cX8_fits 66 = .ok (.goto (-62), 3) := by decide +kernel
theorem dX8_fits_69 : decode cX8_fits 69 = .ok (.iload_n 1, 1) := by decide +kernel
theorem dX8_fits_70 : decode cX8_fits 70 = .ok (.ireturn, 1) := by decide +kernel
theorem dX8_partOf_0 : decode cX8_partOf 0 = .ok (.iload_n 0, 1) := by decide +kernel
theorem dX8_partOf_1 : decode cX8_partOf 1 = .ok (.istore_n 3, 1) := by decide +kernel
theorem dX8_partOf_2 : decode cX8_partOf 2 = .ok (.iload_n 1, 1) := by decide +kernel
theorem dX8_partOf_3 : decode cX8_partOf 3 = .ok (.istore 4, 2) := by decide +kernel
theorem dX8_partOf_5 : decode cX8_partOf 5 = .ok (.iload 4, 2) := by decide +kernel
theorem dX8_partOf_7 : decode cX8_partOf 7 = .ok (.ifCond .eq 19, 3) := by decide +kernel
theorem dX8_partOf_10 : decode cX8_partOf 10 = .ok (.iload_n 3, 1) := by decide +kernel
theorem dX8_partOf_11 : decode cX8_partOf 11 = .ok (.iload 4, 2) := by decide +kernel
theorem dX8_partOf_13 : decode cX8_partOf 13 = .ok (.irem, 1) := by decide +kernel
theorem dX8_partOf_14 : decode cX8_partOf 14 = .ok (.istore 5, 2) := by decide +kernel
theorem dX8_partOf_16 : decode cX8_partOf 16 = .ok (.iload 4, 2) := by decide +kernel
theorem dX8_partOf_18 : decode cX8_partOf 18 = .ok (.istore_n 3, 1) := by decide +kernel
theorem dX8_partOf_19 : decode cX8_partOf 19 = .ok (.iload 5, 2) := by decide +kernel
theorem dX8_partOf_21 : decode cX8_partOf 21 = .ok (.istore 4, 2) := by decide +kernel
theorem dX8_partOf_23 : decode cX8_partOf 23 = .ok (.goto (-18), 3) := by decide +kernel
theorem dX8_partOf_26 : decode cX8_partOf 26 = .ok (.iload_n 2, 1) := by decide +kernel
theorem dX8_partOf_27 : decode cX8_partOf 27 = .ok (.ifCond .ne 10, 3) := by decide +kernel
theorem dX8_partOf_30 : decode cX8_partOf 30 = .ok (.iload_n 0, 1) := by decide +kernel
theorem dX8_partOf_31 : decode cX8_partOf 31 = .ok (.iload_n 3, 1) := by decide +kernel
theorem dX8_partOf_32 : decode cX8_partOf 32 = .ok (.idiv, 1) := by decide +kernel
theorem dX8_partOf_33 : decode cX8_partOf 33 = .ok (.i2l, 1) := by decide +kernel
theorem dX8_partOf_34 : decode cX8_partOf 34 = .ok (.goto 7, 3) := by decide +kernel
theorem dX8_partOf_37 : decode cX8_partOf 37 = .ok (.iload_n 1, 1) := by decide +kernel
theorem dX8_partOf_38 : decode cX8_partOf 38 = .ok (.iload_n 3, 1) := by decide +kernel
theorem dX8_partOf_39 : decode cX8_partOf 39 = .ok (.idiv, 1) := by decide +kernel
theorem dX8_partOf_40 : decode cX8_partOf 40 = .ok (.i2l, 1) := by decide +kernel
theorem dX8_partOf_41 : decode cX8_partOf 41 = .ok (.lreturn, 1) := by decide +kernel
theorem dX8_odds_0 : decode cX8_odds 0 = .ok (.iload_n 1, 1) := by decide +kernel
theorem dX8_odds_1 : decode cX8_odds 1 = .ok (.invokestatic 122, 3) := by decide +kernel
theorem dX8_odds_4 : decode cX8_odds 4 = .ok (.ifCond .eq 12, 3) := by decide +kernel
theorem dX8_odds_7 : decode cX8_odds 7 = .ok (.iload_n 2, 1) := by decide +kernel
theorem dX8_odds_8 : decode cX8_odds 8 = .ok (.iconst 0, 1) := by decide +kernel
theorem dX8_odds_9 : decode cX8_odds 9 = .ok (.iconst 1, 1) := by decide +kernel
theorem dX8_odds_10 : decode cX8_odds 10 = .ok (.invokestatic 5, 3) := by decide +kernel
theorem dX8_odds_13 : decode cX8_odds 13 = .ok (.ifCond .ne 7, 3) := by decide +kernel
theorem dX8_odds_16 : decode cX8_odds 16 = .ok (.ldc2_w 216, 3) := by decide +kernel
theorem dX8_odds_19 : decode cX8_odds 19 = .ok (.lreturn, 1) := by decide +kernel
theorem dX8_odds_20 : decode cX8_odds 20 = .ok (.iconst 0, 1) := by decide +kernel
theorem dX8_odds_21 : decode cX8_odds 21 = .ok (.istore_n 3, 1) := by decide +kernel
theorem dX8_odds_22 : decode cX8_odds 22 = .ok (.iconst 0, 1) := by decide +kernel
theorem dX8_odds_23 : decode cX8_odds 23 = .ok (.istore 4, 2) := by decide +kernel
theorem dX8_odds_25 : decode cX8_odds 25 = .ok (.iload 4, 2) := by decide +kernel
theorem dX8_odds_27 : decode cX8_odds 27 = .ok (.bipush 48, 2) := by decide +kernel
theorem dX8_odds_29 : decode cX8_odds 29 = .ok (.if_icmp .ge 26, 3) := by decide +kernel
theorem dX8_odds_32 : decode cX8_odds 32 = .ok (.iload_n 3, 1) := by decide +kernel
theorem dX8_odds_33 : decode cX8_odds 33 = .ok (.aload_n 0, 1) := by decide +kernel
theorem dX8_odds_34 : decode cX8_odds 34 = .ok (.aload_n 0, 1) := by decide +kernel
theorem dX8_odds_35 : decode cX8_odds 35 = .ok (.getfield 125, 3) := by decide +kernel
theorem dX8_odds_38 : decode cX8_odds 38 = .ok (.iload 4, 2) := by decide +kernel
theorem dX8_odds_40 : decode cX8_odds 40 = .ok (.invokevirtual 81, 3) := by decide +kernel
theorem dX8_odds_43 : decode cX8_odds 43 = .ok (.iload_n 1, 1) := by decide +kernel
theorem dX8_odds_44 : decode cX8_odds 44 = .ok (.ishr, 1) := by decide +kernel
theorem dX8_odds_45 : decode cX8_odds 45 = .ok (.iconst 1, 1) := by decide +kernel
theorem dX8_odds_46 : decode cX8_odds 46 = .ok (.iand, 1) := by decide +kernel
theorem dX8_odds_47 : decode cX8_odds 47 = .ok (.iadd, 1) := by decide +kernel
theorem dX8_odds_48 : decode cX8_odds 48 = .ok (.istore_n 3, 1) := by decide +kernel
theorem dX8_odds_49 : decode cX8_odds 49 = .ok (.iinc 4 1, 3) := by decide +kernel
theorem dX8_odds_52 : decode cX8_odds 52 = .ok (.goto (-27), 3) := by decide +kernel
theorem dX8_odds_55 : decode cX8_odds 55 = .ok (.iload_n 3, 1) := by decide +kernel
theorem dX8_odds_56 : decode cX8_odds 56 = .ok (.bipush 48, 2) := by decide +kernel
theorem dX8_odds_58 : decode cX8_odds 58 = .ok (.iload_n 2, 1) := by decide +kernel
theorem dX8_odds_59 : decode cX8_odds 59 = .ok (.invokestatic 233, 3) := by decide +kernel
theorem dX8_odds_62 : decode cX8_odds 62 = .ok (.lreturn, 1) := by decide +kernel
theorem dX8_mean_0 : decode cX8_mean 0 = .ok (.iload_n 1, 1) := by decide +kernel
theorem dX8_mean_1 : decode cX8_mean 1 = .ok (.iconst 0, 1) := by decide +kernel
theorem dX8_mean_2 : decode cX8_mean 2 = .ok (.iconst 1, 1) := by decide +kernel
theorem dX8_mean_3 : decode cX8_mean 3 = .ok (.invokestatic 5, 3) := by decide +kernel
theorem dX8_mean_6 : decode cX8_mean 6 = .ok (.ifCond .ne 7, 3) := by decide +kernel
theorem dX8_mean_9 : decode cX8_mean 9 = .ok (.ldc2_w 216, 3) := by decide +kernel
theorem dX8_mean_12 : decode cX8_mean 12 = .ok (.lreturn, 1) := by decide +kernel
theorem dX8_mean_13 : decode cX8_mean 13 = .ok (.iconst 0, 1) := by decide +kernel
theorem dX8_mean_14 : decode cX8_mean 14 = .ok (.istore_n 2, 1) := by decide +kernel
theorem dX8_mean_15 : decode cX8_mean 15 = .ok (.iconst 0, 1) := by decide +kernel
theorem dX8_mean_16 : decode cX8_mean 16 = .ok (.istore_n 3, 1) := by decide +kernel
theorem dX8_mean_17 : decode cX8_mean 17 = .ok (.iload_n 3, 1) := by decide +kernel
theorem dX8_mean_18 : decode cX8_mean 18 = .ok (.bipush 48, 2) := by decide +kernel
theorem dX8_mean_20 : decode cX8_mean 20 = .ok (.if_icmp .ge 29, 3) := by decide +kernel
theorem dX8_mean_23 : decode cX8_mean 23 = .ok (.iload_n 2, 1) := by decide +kernel
theorem dX8_mean_24 : decode cX8_mean 24 = .ok (.aload_n 0, 1) := by decide +kernel
theorem dX8_mean_25 : decode cX8_mean 25 = .ok (.aload_n 0, 1) := by decide +kernel
theorem dX8_mean_26 : decode cX8_mean 26 = .ok (.getfield 125, 3) := by decide +kernel
theorem dX8_mean_29 : decode cX8_mean 29 = .ok (.iload_n 3, 1) := by decide +kernel
theorem dX8_mean_30 : decode cX8_mean 30 = .ok (.invokevirtual 81, 3) := by decide +kernel
theorem dX8_mean_33 : decode cX8_mean 33 = .ok (.aload_n 0, 1) := by decide +kernel
theorem dX8_mean_34 : decode cX8_mean 34 = .ok (.getfield 132, 3) := by decide +kernel
theorem dX8_mean_37 : decode cX8_mean 37 = .ok (.iand, 1) := by decide +kernel
theorem dX8_mean_38 : decode cX8_mean 38 = .ok (.invokestatic 105, 3) := by decide +kernel
theorem dX8_mean_41 : decode cX8_mean 41 = .ok (.iadd, 1) := by decide +kernel
theorem dX8_mean_42 : decode cX8_mean 42 = .ok (.istore_n 2, 1) := by decide +kernel
theorem dX8_mean_43 : decode cX8_mean 43 = .ok (.iinc 3 1, 3) := by decide +kernel
theorem dX8_mean_46 : decode cX8_mean 46 = .ok (.goto (-29), 3) := by decide +kernel
theorem dX8_mean_49 : decode cX8_mean 49 = .ok (.iload_n 2, 1) := by decide +kernel
theorem dX8_mean_50 : decode cX8_mean 50 = .ok (.bipush 48, 2) := by decide +kernel
theorem dX8_mean_52 : decode cX8_mean 52 = .ok (.iload_n 1, 1) := by decide +kernel
theorem dX8_mean_53 : decode cX8_mean 53 = .ok (.invokestatic 233, 3) := by decide +kernel
theorem dX8_mean_56 : decode cX8_mean 56 = .ok (.lreturn, 1) := by decide +kernel
theorem dX8_event_0 : decode cX8_event 0 = .ok (.iload_n 1, 1) := by decide +kernel
theorem dX8_event_1 : decode cX8_event 1 = .ok (.iconst (-1), 1) := by decide +kernel
theorem dX8_event_2 : decode cX8_event 2 = .ok (.if_icmp .ne 10, 3) := by decide +kernel
theorem dX8_event_5 : decode cX8_event 5 = .ok (.aload_n 0, 1) := by decide +kernel
theorem dX8_event_6 : decode cX8_event 6 = .ok (.iconst 0, 1) := by decide +kernel
theorem dX8_event_7 : decode cX8_event 7 = .ok (.putfield 237, 3) := by decide +kernel
theorem dX8_event_10 : decode cX8_event 10 = .ok (.iconst 0, 1) := by decide +kernel
theorem dX8_event_11 : decode cX8_event 11 = .ok (.ireturn, 1) := by decide +kernel
theorem dX8_event_12 : decode cX8_event 12 = .ok (.iload_n 1, 1) := by decide +kernel
theorem dX8_event_13 : decode cX8_event 13 = .ok (.iconst 0, 1) := by decide +kernel
theorem dX8_event_14 : decode cX8_event 14 = .ok (.iconst 2, 1) := by decide +kernel
theorem dX8_event_15 : decode cX8_event 15 = .ok (.invokestatic 5, 3) := by decide +kernel
theorem dX8_event_18 : decode cX8_event 18 = .ok (.ifCond .eq 26, 3) := by decide +kernel
theorem dX8_event_21 : decode cX8_event 21 = .ok (.iload_n 1, 1) := by decide +kernel
theorem dX8_event_22 : decode cX8_event 22 = .ok (.ifCond .ne 10, 3) := by decide +kernel
theorem dX8_event_25 : decode cX8_event 25 = .ok (.iload_n 2, 1) := by decide +kernel
theorem dX8_event_26 : decode cX8_event 26 = .ok (.invokestatic 122, 3) := by decide +kernel
theorem dX8_event_29 : decode cX8_event 29 = .ok (.ifCond .eq 15, 3) := by decide +kernel
theorem dX8_event_32 : decode cX8_event 32 = .ok (.iload_n 1, 1) := by decide +kernel
theorem dX8_event_33 : decode cX8_event 33 = .ok (.iconst 1, 1) := by decide +kernel
theorem dX8_event_34 : decode cX8_event 34 = .ok (.if_icmp .ne 12, 3) := by decide +kernel
theorem dX8_event_37 : decode cX8_event 37 = .ok (.iload_n 2, 1) := by decide +kernel
theorem dX8_event_38 : decode cX8_event 38 = .ok (.invokestatic 129, 3) := by decide +kernel
theorem dX8_event_41 : decode cX8_event 41 = .ok (.ifCond .ne 5, 3) := by decide +kernel
theorem dX8_event_44 : decode cX8_event 44 = .ok (.iconst (-1), 1) := by decide +kernel
theorem dX8_event_45 : decode cX8_event 45 = .ok (.ireturn, 1) := by decide +kernel
theorem dX8_event_46 : decode cX8_event 46 = .ok (.iload_n 1, 1) := by decide +kernel
theorem dX8_event_47 : decode cX8_event 47 = .ok (.iconst 2, 1) := by decide +kernel
theorem dX8_event_48 : decode cX8_event 48 = .ok (.if_icmp .ne 10, 3) := by decide +kernel
theorem dX8_event_51 : decode cX8_event 51 = .ok (.iload_n 2, 1) := by decide +kernel
theorem dX8_event_52 : decode cX8_event 52 = .ok (.ifCond .eq 6, 3) := by decide +kernel
theorem dX8_event_55 : decode cX8_event 55 = .ok (.bipush (-2), 2) := by decide +kernel
theorem dX8_event_57 : decode cX8_event 57 = .ok (.ireturn, 1) := by decide +kernel
theorem dX8_event_58 : decode cX8_event 58 = .ok (.aload_n 0, 1) := by decide +kernel
theorem dX8_event_59 : decode cX8_event 59 = .ok (.getfield 237, 3) := by decide +kernel
theorem dX8_event_62 : decode cX8_event 62 = .ok (.bipush 8, 2) := by decide +kernel
theorem dX8_event_64 : decode cX8_event 64 = .ok (.if_icmp .ne 6, 3) := by decide +kernel
theorem dX8_event_67 : decode cX8_event 67 = .ok (.bipush (-4), 2) := by decide +kernel
theorem dX8_event_69 : decode cX8_event 69 = .ok (.ireturn, 1) := by decide +kernel
theorem dX8_event_70 : decode cX8_event 70 = .ok (.aload_n 0, 1) := by decide +kernel
theorem dX8_event_71 : decode cX8_event 71 = .ok (.getfield 53, 3) := by decide +kernel
theorem dX8_event_74 : decode cX8_event 74 = .ok (.aload_n 0, 1) := by decide +kernel
theorem dX8_event_75 : decode cX8_event 75 = .ok (.getfield 237, 3) := by decide +kernel
theorem dX8_event_78 : decode cX8_event 78 = .ok (.iload_n 1, 1) := by decide +kernel
theorem dX8_event_79 : decode cX8_event 79 = .ok (.iastore, 1) := by decide +kernel
theorem dX8_event_80 : decode cX8_event 80 = .ok (.aload_n 0, 1) := by decide +kernel
theorem dX8_event_81 : decode cX8_event 81 = .ok (.getfield 56, 3) := by decide +kernel
theorem dX8_event_84 : decode cX8_event 84 = .ok (.aload_n 0, 1) := by decide +kernel
theorem dX8_event_85 : decode cX8_event 85 = .ok (.getfield 237, 3) := by decide +kernel
theorem dX8_event_88 : decode cX8_event 88 = .ok (.iload_n 2, 1) := by decide +kernel
theorem dX8_event_89 : decode cX8_event 89 = .ok (.iastore, 1) := by decide +kernel
theorem dX8_event_90 : decode cX8_event 90 = .ok (.aload_n 0, 1) := by decide +kernel
theorem dX8_event_91 : decode cX8_event 91 = .ok (.dup, 1) := by decide +kernel
theorem dX8_event_92 : decode cX8_event 92 = .ok (.getfield 237, 3) := by decide +kernel
theorem dX8_event_95 : decode cX8_event 95 = .ok (.iconst 1, 1) := by decide +kernel
theorem dX8_event_96 : decode cX8_event 96 = .ok (.iadd, 1) := by decide +kernel
theorem dX8_event_97 : decode cX8_event 97 = .ok (.putfield 237, 3) := by decide +kernel
theorem dX8_event_100 : decode cX8_event 100 = .ok (.aload_n 0, 1) := by decide +kernel
theorem dX8_event_101 : decode cX8_event 101 = .ok (.getfield 237, 3) := by decide +kernel
theorem dX8_event_104 : decode cX8_event 104 = .ok (.ireturn, 1) := by decide +kernel
theorem dX8_after_0 : decode cX8_after 0 = .ok (.iload_n 1, 1) := by decide +kernel
theorem dX8_after_1 : decode cX8_after 1 = .ok (.iconst 0, 1) := by decide +kernel
theorem dX8_after_2 : decode cX8_after 2 = .ok (.iconst 2, 1) := by decide +kernel
theorem dX8_after_3 : decode cX8_after 3 = .ok (.invokestatic 5, 3) := by decide +kernel
theorem dX8_after_6 : decode cX8_after 6 = .ok (.ifCond .ne 5, 3) := by decide +kernel
theorem dX8_after_9 : decode cX8_after 9 = .ok (.iconst (-1), 1) := by decide +kernel
theorem dX8_after_10 : decode cX8_after 10 = .ok (.ireturn, 1) := by decide +kernel
theorem dX8_after_11 : decode cX8_after 11 = .ok (.aload_n 0, 1) := by decide +kernel
theorem dX8_after_12 : decode cX8_after 12 = .ok (.getfield 125, 3) := by decide +kernel
theorem dX8_after_15 : decode cX8_after 15 = .ok (.istore_n 2, 1) := by decide +kernel
theorem dX8_after_16 : decode cX8_after 16 = .ok (.iconst 0, 1) := by decide +kernel
theorem dX8_after_17 : decode cX8_after 17 = .ok (.istore_n 3, 1) := by decide +kernel
theorem dX8_after_18 : decode cX8_after 18 = .ok (.iload_n 3, 1) := by decide +kernel
theorem dX8_after_19 : decode cX8_after 19 = .ok (.aload_n 0, 1) := by decide +kernel
theorem dX8_after_20 : decode cX8_after 20 = .ok (.getfield 237, 3) := by decide +kernel
theorem dX8_after_23 : decode cX8_after 23 = .ok (.if_icmp .ge 61, 3) := by decide +kernel
theorem dX8_after_26 : decode cX8_after 26 = .ok (.aload_n 0, 1) := by decide +kernel
theorem dX8_after_27 : decode cX8_after 27 = .ok (.getfield 53, 3) := by decide +kernel
theorem dX8_after_30 : decode cX8_after 30 = .ok (.iload_n 3, 1) := by decide +kernel
theorem dX8_after_31 : decode cX8_after 31 = .ok (.iaload, 1) := by decide +kernel
theorem dX8_after_32 : decode cX8_after 32 = .ok (.ifCond .ne 16, 3) := by decide +kernel
theorem dX8_after_35 : decode cX8_after 35 = .ok (.iload_n 2, 1) := by decide +kernel
theorem dX8_after_36 : decode cX8_after 36 = .ok (.iconst 1, 1) := by decide +kernel
theorem dX8_after_37 : decode cX8_after 37 = .ok (.aload_n 0, 1) := by decide +kernel
theorem dX8_after_38 : decode cX8_after 38 = .ok (.getfield 56, 3) := by decide +kernel
theorem dX8_after_41 : decode cX8_after 41 = .ok (.iload_n 3, 1) := by decide +kernel
theorem dX8_after_42 : decode cX8_after 42 = .ok (.iaload, 1) := by decide +kernel
theorem dX8_after_43 : decode cX8_after 43 = .ok (.ishl, 1) := by decide +kernel
theorem dX8_after_44 : decode cX8_after 44 = .ok (.ixor, 1) := by decide +kernel
theorem dX8_after_45 : decode cX8_after 45 = .ok (.goto 32, 3) := by decide +kernel
theorem dX8_after_48 : decode cX8_after 48 = .ok (.aload_n 0, 1) := by decide +kernel
theorem dX8_after_49 : decode cX8_after 49 = .ok (.getfield 53, 3) := by decide +kernel
theorem dX8_after_52 : decode cX8_after 52 = .ok (.iload_n 3, 1) := by decide +kernel
theorem dX8_after_53 : decode cX8_after 53 = .ok (.iaload, 1) := by decide +kernel
theorem dX8_after_54 : decode cX8_after 54 = .ok (.iconst 1, 1) := by decide +kernel
theorem dX8_after_55 : decode cX8_after 55 = .ok (.if_icmp .ne 17, 3) := by decide +kernel
theorem dX8_after_58 : decode cX8_after 58 = .ok (.aload_n 0, 1) := by decide +kernel
theorem dX8_after_59 : decode cX8_after 59 = .ok (.iload_n 2, 1) := by decide +kernel
theorem dX8_after_60 : decode cX8_after 60 = .ok (.aload_n 0, 1) := by decide +kernel
theorem dX8_after_61 : decode cX8_after 61 = .ok (.getfield 56, 3) := by decide +kernel
theorem dX8_after_64 : decode cX8_after 64 = .ok (.iload_n 3, 1) := by decide +kernel
theorem dX8_after_65 : decode cX8_after 65 = .ok (.iaload, 1) := by decide +kernel
theorem dX8_after_66 : decode cX8_after 66 = .ok (.invokevirtual 81, 3) := by decide +kernel
theorem dX8_after_69 : decode cX8_after 69 = .ok (.goto 8, 3) := by decide +kernel
theorem dX8_after_72 : decode cX8_after 72 = .ok (.sipush 255, 3) := by decide +kernel
theorem dX8_after_75 : decode cX8_after 75 = .ok (.iload_n 2, 1) := by decide +kernel
theorem dX8_after_76 : decode cX8_after 76 = .ok (.isub, 1) := by decide +kernel
theorem dX8_after_77 : decode cX8_after 77 = .ok (.istore_n 2, 1) := by decide +kernel
theorem dX8_after_78 : decode cX8_after 78 = .ok (.iinc 3 1, 3) := by decide +kernel
theorem dX8_after_81 : decode cX8_after 81 = .ok (.goto (-63), 3) := by decide +kernel
theorem dX8_after_84 : decode cX8_after 84 = .ok (.iload_n 1, 1) := by decide +kernel
theorem dX8_after_85 : decode cX8_after 85 = .ok (.ifCond .ne 7, 3) := by decide +kernel
theorem dX8_after_88 : decode cX8_after 88 = .ok (.iload_n 2, 1) := by decide +kernel
theorem dX8_after_89 : decode cX8_after 89 = .ok (.goto 21, 3) := by decide +kernel
theorem dX8_after_92 : decode cX8_after 92 = .ok (.iload_n 1, 1) := by decide +kernel
theorem dX8_after_93 : decode cX8_after 93 = .ok (.iconst 1, 1) := by decide +kernel
theorem dX8_after_94 : decode cX8_after 94 = .ok (.if_icmp .ne 10, 3) := by decide +kernel
theorem dX8_after_97 : decode cX8_after 97 = .ok (.iload_n 2, 1) := by decide +kernel
theorem dX8_after_98 : decode cX8_after 98 = .ok (.invokestatic 195, 3) := by decide +kernel
theorem dX8_after_101 : decode cX8_after 101 = .ok (.goto 9, 3) := by decide +kernel
theorem dX8_after_104 : decode cX8_after 104 = .ok (.aload_n 0, 1) := by decide +kernel
theorem dX8_after_105 : decode cX8_after 105 = .ok (.getfield 22, 3) := by decide +kernel
theorem dX8_after_108 : decode cX8_after 108 = .ok (.iload_n 2, 1) := by decide +kernel
theorem dX8_after_109 : decode cX8_after 109 = .ok (.iaload, 1) := by decide +kernel
theorem dX8_after_110 : decode cX8_after 110 = .ok (.ireturn, 1) := by decide +kernel
theorem dX8_book_0 : decode cX8_book 0 = .ok (.iload_n 1, 1) := by decide +kernel
theorem dX8_book_1 : decode cX8_book 1 = .ok (.iconst (-1), 1) := by decide +kernel
theorem dX8_book_2 : decode cX8_book 2 = .ok (.if_icmp .ne 10, 3) := by decide +kernel
theorem dX8_book_5 : decode cX8_book 5 = .ok (.aload_n 0, 1) := by decide +kernel
theorem dX8_book_6 : decode cX8_book 6 = .ok (.iconst 0, 1) := by decide +kernel
theorem dX8_book_7 : decode cX8_book 7 = .ok (.putfield 240, 3) := by decide +kernel
theorem dX8_book_10 : decode cX8_book 10 = .ok (.iconst 0, 1) := by decide +kernel
theorem dX8_book_11 : decode cX8_book 11 = .ok (.ireturn, 1) := by decide +kernel
theorem dX8_book_12 : decode cX8_book 12 = .ok (.iload_n 1, 1) := by decide +kernel
theorem dX8_book_13 : decode cX8_book 13 = .ok (.invokestatic 122, 3) := by decide +kernel
theorem dX8_book_16 : decode cX8_book 16 = .ok (.ifCond .ne 5, 3) := by decide +kernel
theorem dX8_book_19 : decode cX8_book 19 = .ok (.iconst (-1), 1) := by decide +kernel
theorem dX8_book_20 : decode cX8_book 20 = .ok (.ireturn, 1) := by decide +kernel
theorem dX8_book_21 : decode cX8_book 21 = .ok (.iload_n 2, 1) := by decide +kernel
theorem dX8_book_22 : decode cX8_book 22 = .ok (.iconst 0, 1) := by decide +kernel
theorem dX8_book_23 : decode cX8_book 23 = .ok (.iconst 1, 1) := by decide +kernel
theorem dX8_book_24 : decode cX8_book 24 = .ok (.invokestatic 5, 3) := by decide +kernel
theorem dX8_book_27 : decode cX8_book 27 = .ok (.ifCond .ne 6, 3) := by decide +kernel
theorem dX8_book_30 : decode cX8_book 30 = .ok (.bipush (-2), 2) := by decide +kernel
theorem dX8_book_32 : decode cX8_book 32 = .ok (.ireturn, 1) := by decide +kernel
theorem dX8_book_33 : decode cX8_book 33 = .ok (.aload_n 0, 1) := by decide +kernel
theorem dX8_book_34 : decode cX8_book 34 = .ok (.getfield 240, 3) := by decide +kernel
theorem dX8_book_37 : decode cX8_book 37 = .ok (.bipush 8, 2) := by decide +kernel
theorem dX8_book_39 : decode cX8_book 39 = .ok (.if_icmp .ne 6, 3) := by decide +kernel
theorem dX8_book_42 : decode cX8_book 42 = .ok (.bipush (-4), 2) := by decide +kernel
theorem dX8_book_44 : decode cX8_book 44 = .ok (.ireturn, 1) := by decide +kernel
theorem dX8_book_45 : decode cX8_book 45 = .ok (.aload_n 0, 1) := by decide +kernel
theorem dX8_book_46 : decode cX8_book 46 = .ok (.getfield 59, 3) := by decide +kernel
theorem dX8_book_49 : decode cX8_book 49 = .ok (.aload_n 0, 1) := by decide +kernel
theorem dX8_book_50 : decode cX8_book 50 = .ok (.getfield 240, 3) := by decide +kernel
theorem dX8_book_53 : decode cX8_book 53 = .ok (.iload_n 1, 1) := by decide +kernel
theorem dX8_book_54 : decode cX8_book 54 = .ok (.iastore, 1) := by decide +kernel
theorem dX8_book_55 : decode cX8_book 55 = .ok (.aload_n 0, 1) := by decide +kernel
theorem dX8_book_56 : decode cX8_book 56 = .ok (.getfield 62, 3) := by decide +kernel
theorem dX8_book_59 : decode cX8_book 59 = .ok (.aload_n 0, 1) := by decide +kernel
theorem dX8_book_60 : decode cX8_book 60 = .ok (.getfield 240, 3) := by decide +kernel
theorem dX8_book_63 : decode cX8_book 63 = .ok (.iload_n 2, 1) := by decide +kernel
theorem dX8_book_64 : decode cX8_book 64 = .ok (.iastore, 1) := by decide +kernel
theorem dX8_book_65 : decode cX8_book 65 = .ok (.aload_n 0, 1) := by decide +kernel
theorem dX8_book_66 : decode cX8_book 66 = .ok (.dup, 1) := by decide +kernel
theorem dX8_book_67 : decode cX8_book 67 = .ok (.getfield 240, 3) := by decide +kernel
theorem dX8_book_70 : decode cX8_book 70 = .ok (.iconst 1, 1) := by decide +kernel
theorem dX8_book_71 : decode cX8_book 71 = .ok (.iadd, 1) := by decide +kernel
theorem dX8_book_72 : decode cX8_book 72 = .ok (.putfield 240, 3) := by decide +kernel
theorem dX8_book_75 : decode cX8_book 75 = .ok (.aload_n 0, 1) := by decide +kernel
theorem dX8_book_76 : decode cX8_book 76 = .ok (.getfield 240, 3) := by decide +kernel
theorem dX8_book_79 : decode cX8_book 79 = .ok (.ireturn, 1) := by decide +kernel
theorem dX8_looked_0 : decode cX8_looked 0 = .ok (.iconst 0, 1) := by decide +kernel
theorem dX8_looked_1 : decode cX8_looked 1 = .ok (.istore_n 1, 1) := by decide +kernel
theorem dX8_looked_2 : decode cX8_looked 2 = .ok (.iload_n 1, 1) := by decide +kernel
theorem dX8_looked_3 : decode cX8_looked 3 = .ok (.aload_n 0, 1) := by decide +kernel
theorem dX8_looked_4 : decode cX8_looked 4 = .ok (.getfield 240, 3) := by decide +kernel
theorem dX8_looked_7 : decode cX8_looked 7 = .ok (.if_icmp .ge 33, 3) := by decide +kernel
theorem dX8_looked_10 : decode cX8_looked 10 = .ok (.aload_n 0, 1) := by decide +kernel
theorem dX8_looked_11 : decode cX8_looked 11 = .ok (.getfield 125, 3) := by decide +kernel
theorem dX8_looked_14 : decode cX8_looked 14 = .ok (.aload_n 0, 1) := by decide +kernel
theorem dX8_looked_15 : decode cX8_looked 15 = .ok (.getfield 59, 3) := by decide +kernel
theorem dX8_looked_18 : decode cX8_looked 18 = .ok (.iload_n 1, 1) := by decide +kernel
theorem dX8_looked_19 : decode cX8_looked 19 = .ok (.iaload, 1) := by decide +kernel
theorem dX8_looked_20 : decode cX8_looked 20 = .ok (.ishr, 1) := by decide +kernel
theorem dX8_looked_21 : decode cX8_looked 21 = .ok (.iconst 1, 1) := by decide +kernel
theorem dX8_looked_22 : decode cX8_looked 22 = .ok (.iand, 1) := by decide +kernel
theorem dX8_looked_23 : decode cX8_looked 23 = .ok (.aload_n 0, 1) := by decide +kernel
theorem dX8_looked_24 : decode cX8_looked 24 = .ok (.getfield 62, 3) := by decide +kernel
theorem dX8_looked_27 : decode cX8_looked 27 = .ok (.iload_n 1, 1) := by decide +kernel
theorem dX8_looked_28 : decode cX8_looked 28 = .ok (.iaload, 1) := by decide +kernel
theorem dX8_looked_29 : decode cX8_looked 29 = .ok (.if_icmp .eq 5, 3) := by decide +kernel
theorem dX8_looked_32 : decode cX8_looked 32 = .ok (.iload_n 1, 1) := by decide +kernel
theorem dX8_looked_33 : decode cX8_looked 33 = .ok (.ireturn, 1) := by decide +kernel
theorem dX8_looked_34 : decode cX8_looked 34 = .ok (.iinc 1 1, 3) := by decide +kernel
theorem dX8_looked_37 : decode cX8_looked 37 = .ok (.goto (-35), 3) := by decide +kernel
theorem dX8_looked_40 : decode cX8_looked 40 = .ok (.bipush (-5), 2) := by decide +kernel
theorem dX8_looked_42 : decode cX8_looked 42 = .ok (.ireturn, 1) := by decide +kernel
theorem dX8_judge_0 : decode cX8_judge 0 = .ok (.iload_n 1, 1) := by decide +kernel
theorem dX8_judge_1 : decode cX8_judge 1 = .ok (.invokestatic 243, 3) := by decide +kernel
theorem dX8_judge_4 : decode cX8_judge 4 = .ok (.ifCond .ne 5, 3) := by decide +kernel
theorem dX8_judge_7 : decode cX8_judge 7 = .ok (.iconst (-1), 1) := by decide +kernel
theorem dX8_judge_8 : decode cX8_judge 8 = .ok (.ireturn, 1) := by decide +kernel
theorem dX8_judge_9 : decode cX8_judge 9 = .ok (.aload_n 0, 1) := by decide +kernel
theorem dX8_judge_10 : decode cX8_judge 10 = .ok (.getfield 71, 3) := by decide +kernel
theorem dX8_judge_13 : decode cX8_judge 13 = .ok (.iload_n 1, 1) := by decide +kernel
theorem dX8_judge_14 : decode cX8_judge 14 = .ok (.iaload, 1) := by decide +kernel
theorem dX8_judge_15 : decode cX8_judge 15 = .ok (.ifCond .lt 16, 3) := by decide +kernel
theorem dX8_judge_18 : decode cX8_judge 18 = .ok (.aload_n 0, 1) := by decide +kernel
theorem dX8_judge_19 : decode cX8_judge 19 = .ok (.getfield 68, 3) := by decide +kernel
theorem dX8_judge_22 : decode cX8_judge 22 = .ok (.iload_n 1, 1) := by decide +kernel
theorem dX8_judge_23 : decode cX8_judge 23 = .ok (.iaload, 1) := by decide +kernel
theorem dX8_judge_24 : decode cX8_judge 24 = .ok (.iconst 4, 1) := by decide +kernel
theorem dX8_judge_25 : decode cX8_judge 25 = .ok (.if_icmp .eq 6, 3) := by decide +kernel
theorem dX8_judge_28 : decode cX8_judge 28 = .ok (.bipush (-12), 2) := by decide +kernel
theorem dX8_judge_30 : decode cX8_judge 30 = .ok (.ireturn, 1) := by decide +kernel
theorem dX8_judge_31 : decode cX8_judge 31 = .ok (.iconst 0, 1) := by decide +kernel
theorem dX8_judge_32 : decode cX8_judge 32 = .ok (.istore_n 3, 1) := by decide +kernel
theorem dX8_judge_33 : decode cX8_judge 33 = .ok (.iload_n 3, 1) := by decide +kernel
theorem dX8_judge_34 : decode cX8_judge 34 = .ok (.bipush 8, 2) := by decide +kernel
theorem dX8_judge_36 : decode cX8_judge 36 = .ok (.if_icmp .ge 58, 3) := by decide +kernel
theorem dX8_judge_39 : decode cX8_judge 39 = .ok (.iload_n 2, 1) := by decide +kernel
theorem dX8_judge_40 : decode cX8_judge 40 = .ok (.ifCond .lt 15, 3) := by decide +kernel
theorem dX8_judge_43 : decode cX8_judge 43 = .ok (.iload_n 2, 1) := by decide +kernel
theorem dX8_judge_44 : decode cX8_judge 44 = .ok (.aload_n 0, 1) := by decide +kernel
theorem dX8_judge_45 : decode cX8_judge 45 = .ok (.getfield 71, 3) := by decide +kernel
theorem dX8_judge_48 : decode cX8_judge 48 = .ok (.iload_n 1, 1) := by decide +kernel
theorem dX8_judge_49 : decode cX8_judge 49 = .ok (.iaload, 1) := by decide +kernel
theorem dX8_judge_50 : decode cX8_judge 50 = .ok (.iload_n 3, 1) := by decide +kernel
theorem dX8_judge_51 : decode cX8_judge 51 = .ok (.isub, 1) := by decide +kernel
theorem dX8_judge_52 : decode cX8_judge 52 = .ok (.if_icmp .lt 8, 3) := by decide +kernel
theorem dX8_judge_55 : decode cX8_judge 55 = .ok (.bipush 100, 2) := by decide +kernel
theorem dX8_judge_57 : decode cX8_judge 57 = .ok (.iload_n 3, 1) := by decide +kernel
theorem dX8_judge_58 : decode cX8_judge 58 = .ok (.iadd, 1) := by decide +kernel
theorem dX8_judge_59 : decode cX8_judge 59 = .ok (.ireturn, 1) := by decide +kernel
theorem dX8_judge_60 : decode cX8_judge 60 = .ok (.aload_n 0, 1) := by decide +kernel
theorem dX8_judge_61 : decode cX8_judge 61 = .ok (.getfield 74, 3) := by decide +kernel
theorem dX8_judge_64 : decode cX8_judge 64 = .ok (.bipush 60, 2) := by decide +kernel
theorem dX8_judge_66 : decode cX8_judge 66 = .ok (.iload_n 1, 1) := by decide +kernel
theorem dX8_judge_67 : decode cX8_judge 67 = .ok (.imul, 1) := by decide +kernel
theorem dX8_judge_68 : decode cX8_judge 68 = .ok (.iload_n 2, 1) := by decide +kernel
theorem dX8_judge_69 : decode cX8_judge 69 = .ok (.iadd, 1) := by decide +kernel
theorem dX8_judge_70 : decode cX8_judge 70 = .ok (.iload_n 3, 1) := by decide +kernel
theorem dX8_judge_71 : decode cX8_judge 71 = .ok (.iadd, 1) := by decide +kernel
theorem dX8_judge_72 : decode cX8_judge 72 = .ok (.laload, 1) := by decide +kernel
theorem dX8_judge_73 : decode cX8_judge 73 = .ok (.aload_n 0, 1) := by decide +kernel
theorem dX8_judge_74 : decode cX8_judge 74 = .ok (.getfield 125, 3) := by decide +kernel
theorem dX8_judge_77 : decode cX8_judge 77 = .ok (.iload_n 3, 1) := by decide +kernel
theorem dX8_judge_78 : decode cX8_judge 78 = .ok (.ishr, 1) := by decide +kernel
theorem dX8_judge_79 : decode cX8_judge 79 = .ok (.iconst 1, 1) := by decide +kernel
theorem dX8_judge_80 : decode cX8_judge 80 = .ok (.iand, 1) := by decide +kernel
theorem dX8_judge_81 : decode cX8_judge 81 = .ok (.i2l, 1) := by decide +kernel
theorem dX8_judge_82 : decode cX8_judge 82 = .ok (.lcmp, 1) := by decide +kernel
theorem dX8_judge_83 : decode cX8_judge 83 = .ok (.ifCond .eq 5, 3) := by decide +kernel
theorem dX8_judge_86 : decode cX8_judge 86 = .ok (.iload_n 3, 1) := by decide +kernel
theorem dX8_judge_87 : decode cX8_judge 87 = .ok (.ireturn, 1) := by decide +kernel
theorem dX8_judge_88 : decode cX8_judge 88 = .ok (.iinc 3 1, 3) := by decide +kernel
theorem dX8_judge_91 : decode cX8_judge 91 = .ok (.goto (-58), 3) := by decide +kernel
theorem dX8_judge_94 : decode cX8_judge 94 = .ok (.bipush (-5), 2) := by decide +kernel
theorem dX8_judge_96 : decode cX8_judge 96 = .ok (.ireturn, 1) := by decide +kernel
theorem dX8_passOne_0 : decode cX8_passOne 0 = .ok (.aload_n 0, 1) := by decide +kernel
theorem dX8_passOne_1 : decode cX8_passOne 1 = .ok (.getfield 246, 3) := by decide +kernel
theorem dX8_passOne_4 : decode cX8_passOne 4 = .ok (.ifCond .eq 7, 3) := by decide +kernel
theorem dX8_passOne_7 : decode cX8_passOne 7 = .ok (.iload_n 1, 1) := by decide +kernel
theorem dX8_passOne_8 : decode cX8_passOne 8 = .ok (.goto 12, 3) := by decide +kernel
theorem dX8_passOne_11 : decode cX8_passOne 11 = .ok (.aload_n 0, 1) := by decide +kernel
theorem dX8_passOne_12 : decode cX8_passOne 12 = .ok (.getfield 65, 3) := by decide +kernel
theorem dX8_passOne_15 : decode cX8_passOne 15 = .ok (.aload_n 0, 1) := by decide +kernel
theorem dX8_passOne_16 : decode cX8_passOne 16 = .ok (.getfield 250, 3) := by decide +kernel
theorem dX8_passOne_19 : decode cX8_passOne 19 = .ok (.iaload, 1) := by decide +kernel
theorem dX8_passOne_20 : decode cX8_passOne 20 = .ok (.istore_n 2, 1) := by decide +kernel
theorem dX8_passOne_21 : decode cX8_passOne 21 = .ok (.aload_n 0, 1) := by decide +kernel
theorem dX8_passOne_22 : decode cX8_passOne 22 = .ok (.getfield 65, 3) := by decide +kernel
theorem dX8_passOne_25 : decode cX8_passOne 25 = .ok (.aload_n 0, 1) := by decide +kernel
theorem dX8_passOne_26 : decode cX8_passOne 26 = .ok (.getfield 250, 3) := by decide +kernel
theorem dX8_passOne_29 : decode cX8_passOne 29 = .ok (.iload_n 2, 1) := by decide +kernel
theorem dX8_passOne_30 : decode cX8_passOne 30 = .ok (.iastore, 1) := by decide +kernel
theorem dX8_passOne_31 : decode cX8_passOne 31 = .ok (.aload_n 0, 1) := by decide +kernel
theorem dX8_passOne_32 : decode cX8_passOne 32 = .ok (.dup, 1) := by decide +kernel
theorem dX8_passOne_33 : decode cX8_passOne 33 = .ok (.getfield 250, 3) := by decide +kernel
theorem dX8_passOne_36 : decode cX8_passOne 36 = .ok (.iconst 1, 1) := by decide +kernel
theorem dX8_passOne_37 : decode cX8_passOne 37 = .ok (.iadd, 1) := by decide +kernel
theorem dX8_passOne_38 : decode cX8_passOne 38 = .ok (.putfield 250, 3) := by decide +kernel
theorem dX8_passOne_41 : decode cX8_passOne 41 = .ok (.iload_n 2, 1) := by decide +kernel
theorem dX8_passOne_42 : decode cX8_passOne 42 = .ok (.ireturn, 1) := by decide +kernel
theorem dX8_passes_0 : decode cX8_passes 0 = .ok (.iconst 0, 1) := by decide +kernel
theorem dX8_passes_1 : decode cX8_passes 1 = .ok (.istore_n 3, 1) := by decide +kernel
theorem dX8_passes_2 : decode cX8_passes 2 = .ok (.iload_n 3, 1) := by decide +kernel
theorem dX8_passes_3 : decode cX8_passes 3 = .ok (.iload_n 2, 1) := by decide +kernel
theorem dX8_passes_4 : decode cX8_passes 4 = .ok (.if_icmp .ge 19, 3) := by decide +kernel
theorem dX8_passes_7 : decode cX8_passes 7 = .ok (.aload_n 1, 1) := by decide +kernel
theorem dX8_passes_8 : decode cX8_passes 8 = .ok (.iload_n 3, 1) := by decide +kernel
theorem dX8_passes_9 : decode cX8_passes 9 = .ok (.aload_n 0, 1) := by decide +kernel
theorem dX8_passes_10 : decode cX8_passes 10 = .ok (.aload_n 1, 1) := by decide +kernel
theorem dX8_passes_11 : decode cX8_passes 11 = .ok (.iload_n 3, 1) := by decide +kernel
theorem dX8_passes_12 : decode cX8_passes 12 = .ok (.iaload, 1) := by decide +kernel
theorem dX8_passes_13 : decode cX8_passes 13 = .ok (.invokevirtual 253, 3) := by decide +kernel
theorem dX8_passes_16 : decode cX8_passes 16 = .ok (.iastore, 1) := by decide +kernel
theorem dX8_passes_17 : decode cX8_passes 17 = .ok (.iinc 3 1, 3) := by decide +kernel
theorem dX8_passes_20 : decode cX8_passes 20 = .ok (.goto (-18), 3) := by decide +kernel
theorem dX8_passes_23 : decode cX8_passes 23 = .ok (.return_, 1) := by decide +kernel
theorem dX8_passesAll_0 : decode cX8_passesAll 0 = .ok (.aload_n 0, 1) := by decide +kernel
theorem dX8_passesAll_1 : decode cX8_passesAll 1 = .ok (.iload_n 1, 1) := by decide +kernel
theorem dX8_passesAll_2 : decode cX8_passesAll 2 = .ok (.putfield 246, 3) := by decide +kernel
theorem dX8_passesAll_5 : decode cX8_passesAll 5 = .ok (.aload_n 0, 1) := by decide +kernel
theorem dX8_passesAll_6 : decode cX8_passesAll 6 = .ok (.iconst 0, 1) := by decide +kernel
theorem dX8_passesAll_7 : decode cX8_passesAll 7 = .ok (.putfield 250, 3) := by decide +kernel
theorem dX8_passesAll_10 : decode cX8_passesAll 10 = .ok (.aload_n 0, 1) := by decide +kernel
theorem dX8_passesAll_11 : decode cX8_passesAll 11 = .ok (.aload_n 0, 1) := by decide +kernel
theorem dX8_passesAll_12 : decode cX8_passesAll 12 = .ok (.aload_n 0, 1) := by decide +kernel
theorem dX8_passesAll_13 : decode cX8_passesAll 13 = .ok (.getfield 125, 3) := by decide +kernel
theorem dX8_passesAll_16 : decode cX8_passesAll 16 = .ok (.invokevirtual 253, 3) := by decide +kernel
theorem dX8_passesAll_19 : decode cX8_passesAll 19 = .ok (.putfield 125, 3) := by decide +kernel
theorem dX8_passesAll_22 : decode cX8_passesAll 22 = .ok (.aload_n 0, 1) := by decide +kernel
theorem dX8_passesAll_23 : decode cX8_passesAll 23 = .ok (.aload_n 0, 1) := by decide +kernel
theorem dX8_passesAll_24 : decode cX8_passesAll 24 = .ok (.aload_n 0, 1) := by decide +kernel
theorem dX8_passesAll_25 : decode cX8_passesAll 25 = .ok (.getfield 132, 3) := by decide +kernel
theorem dX8_passesAll_28 : decode cX8_passesAll 28 = .ok (.invokevirtual 253, 3) := by decide +kernel
theorem dX8_passesAll_31 : decode cX8_passesAll 31 = .ok (.putfield 132, 3) := by decide +kernel
theorem dX8_passesAll_34 : decode cX8_passesAll 34 = .ok (.aload_n 0, 1) := by decide +kernel
theorem dX8_passesAll_35 : decode cX8_passesAll 35 = .ok (.aload_n 0, 1) := by decide +kernel
theorem dX8_passesAll_36 : decode cX8_passesAll 36 = .ok (.aload_n 0, 1) := by decide +kernel
theorem dX8_passesAll_37 : decode cX8_passesAll 37 = .ok (.getfield 226, 3) := by decide +kernel
theorem dX8_passesAll_40 : decode cX8_passesAll 40 = .ok (.invokevirtual 253, 3) := by decide +kernel
theorem dX8_passesAll_43 : decode cX8_passesAll 43 = .ok (.putfield 226, 3) := by decide +kernel
theorem dX8_passesAll_46 : decode cX8_passesAll 46 = .ok (.aload_n 0, 1) := by decide +kernel
theorem dX8_passesAll_47 : decode cX8_passesAll 47 = .ok (.aload_n 0, 1) := by decide +kernel
theorem dX8_passesAll_48 : decode cX8_passesAll 48 = .ok (.aload_n 0, 1) := by decide +kernel
theorem dX8_passesAll_49 : decode cX8_passesAll 49 = .ok (.getfield 237, 3) := by decide +kernel
theorem dX8_passesAll_52 : decode cX8_passesAll 52 = .ok (.invokevirtual 253, 3) := by decide +kernel
theorem dX8_passesAll_55 : decode cX8_passesAll 55 = .ok (.putfield 237, 3) := by decide +kernel
theorem dX8_passesAll_58 : decode cX8_passesAll 58 = .ok (.aload_n 0, 1) := by decide +kernel
theorem dX8_passesAll_59 : decode cX8_passesAll 59 = .ok (.aload_n 0, 1) := by decide +kernel
theorem dX8_passesAll_60 : decode cX8_passesAll 60 = .ok (.aload_n 0, 1) := by decide +kernel
theorem dX8_passesAll_61 : decode cX8_passesAll 61 = .ok (.getfield 240, 3) := by decide +kernel
theorem dX8_passesAll_64 : decode cX8_passesAll 64 = .ok (.invokevirtual 253, 3) := by decide +kernel
theorem dX8_passesAll_67 : decode cX8_passesAll 67 = .ok (.putfield 240, 3) := by decide +kernel
theorem dX8_passesAll_70 : decode cX8_passesAll 70 = .ok (.aload_n 0, 1) := by decide +kernel
theorem dX8_passesAll_71 : decode cX8_passesAll 71 = .ok (.aload_n 0, 1) := by decide +kernel
theorem dX8_passesAll_72 : decode cX8_passesAll 72 = .ok (.getfield 47, 3) := by decide +kernel
theorem dX8_passesAll_75 : decode cX8_passesAll 75 = .ok (.iconst 4, 1) := by decide +kernel
theorem dX8_passesAll_76 : decode cX8_passesAll 76 = .ok (.invokevirtual 256, 3) := by decide +kernel
theorem dX8_passesAll_79 : decode cX8_passesAll 79 = .ok (.aload_n 0, 1) := by decide +kernel
theorem dX8_passesAll_80 : decode cX8_passesAll 80 = .ok (.aload_n 0, 1) := by decide +kernel
theorem dX8_passesAll_81 : decode cX8_passesAll 81 = .ok (.getfield 50, 3) := by decide +kernel
theorem dX8_passesAll_84 : decode cX8_passesAll 84 = .ok (.iconst 4, 1) := by decide +kernel
theorem dX8_passesAll_85 : decode cX8_passesAll 85 = .ok (.invokevirtual 256, 3) := by decide +kernel
theorem dX8_passesAll_88 : decode cX8_passesAll 88 = .ok (.aload_n 0, 1) := by decide +kernel
theorem dX8_passesAll_89 : decode cX8_passesAll 89 = .ok (.aload_n 0, 1) := by decide +kernel
theorem dX8_passesAll_90 : decode cX8_passesAll 90 = .ok (.getfield 53, 3) := by decide +kernel
theorem dX8_passesAll_93 : decode cX8_passesAll 93 = .ok (.bipush 8, 2) := by decide +kernel
theorem dX8_passesAll_95 : decode cX8_passesAll 95 = .ok (.invokevirtual 256, 3) := by decide +kernel
theorem dX8_passesAll_98 : decode cX8_passesAll 98 = .ok (.aload_n 0, 1) := by decide +kernel
theorem dX8_passesAll_99 : decode cX8_passesAll 99 = .ok (.aload_n 0, 1) := by decide +kernel
theorem dX8_passesAll_100 : decode cX8_passesAll 100 = .ok (.getfield 56, 3) := by decide +kernel
theorem dX8_passesAll_103 : decode cX8_passesAll 103 = .ok (.bipush 8, 2) := by decide +kernel
theorem dX8_passesAll_105 : decode cX8_passesAll 105 = .ok (.invokevirtual 256, 3) := by decide +kernel
theorem dX8_passesAll_108 : decode cX8_passesAll 108 = .ok (.aload_n 0, 1) := by decide +kernel
theorem dX8_passesAll_109 : decode cX8_passesAll 109 = .ok (.aload_n 0, 1) := by decide +kernel
theorem dX8_passesAll_110 : decode cX8_passesAll 110 = .ok (.getfield 59, 3) := by decide +kernel
theorem dX8_passesAll_113 : decode cX8_passesAll 113 = .ok (.bipush 8, 2) := by decide +kernel
theorem dX8_passesAll_115 : decode cX8_passesAll 115 = .ok (.invokevirtual 256, 3) := by decide +kernel
theorem dX8_passesAll_118 : decode cX8_passesAll 118 = .ok (.aload_n 0, 1) := by decide +kernel
theorem dX8_passesAll_119 : decode cX8_passesAll 119 = .ok (.aload_n 0, 1) := by decide +kernel
theorem dX8_passesAll_120 : decode cX8_passesAll 120 = .ok (.getfield 62, 3) := by decide +kernel
theorem dX8_passesAll_123 : decode cX8_passesAll 123 = .ok (.bipush 8, 2) := by decide +kernel
theorem dX8_passesAll_125 : decode cX8_passesAll 125 = .ok (.invokevirtual 256, 3) := by decide +kernel
theorem dX8_passesAll_128 : decode cX8_passesAll 128 = .ok (.return_, 1) := by decide +kernel
theorem dX8_image_0 : decode cX8_image 0 = .ok (.aload_n 0, 1) := by decide +kernel
theorem dX8_image_1 : decode cX8_image 1 = .ok (.iconst 1, 1) := by decide +kernel
theorem dX8_image_2 : decode cX8_image 2 = .ok (.invokevirtual 260, 3) := by decide +kernel
theorem dX8_image_5 : decode cX8_image 5 = .ok (.aload_n 0, 1) := by decide +kernel
theorem dX8_image_6 : decode cX8_image 6 = .ok (.iconst 1, 1) := by decide +kernel
theorem dX8_image_7 : decode cX8_image 7 = .ok (.putfield 264, 3) := by decide +kernel
theorem dX8_image_10 : decode cX8_image 10 = .ok (.aload_n 0, 1) := by decide +kernel
theorem dX8_image_11 : decode cX8_image 11 = .ok (.getfield 125, 3) := by decide +kernel
theorem dX8_image_14 : decode cX8_image 14 = .ok (.ireturn, 1) := by decide +kernel
theorem dX8_undo_0 : decode cX8_undo 0 = .ok (.aload_n 0, 1) := by decide +kernel
theorem dX8_undo_1 : decode cX8_undo 1 = .ok (.getfield 264, 3) := by decide +kernel
theorem dX8_undo_4 : decode cX8_undo 4 = .ok (.ifCond .ne 6, 3) := by decide +kernel
theorem dX8_undo_7 : decode cX8_undo 7 = .ok (.bipush (-3), 2) := by decide +kernel
theorem dX8_undo_9 : decode cX8_undo 9 = .ok (.ireturn, 1) := by decide +kernel
theorem dX8_undo_10 : decode cX8_undo 10 = .ok (.aload_n 0, 1) := by decide +kernel
theorem dX8_undo_11 : decode cX8_undo 11 = .ok (.iconst 0, 1) := by decide +kernel
theorem dX8_undo_12 : decode cX8_undo 12 = .ok (.invokevirtual 260, 3) := by decide +kernel
theorem dX8_undo_15 : decode cX8_undo 15 = .ok (.aload_n 0, 1) := by decide +kernel
theorem dX8_undo_16 : decode cX8_undo 16 = .ok (.getfield 125, 3) := by decide +kernel
theorem dX8_undo_19 : decode cX8_undo 19 = .ok (.ireturn, 1) := by decide +kernel
theorem dX8_count_0 : decode cX8_count 0 = .ok (.iload_n 1, 1) := by decide +kernel
theorem dX8_count_1 : decode cX8_count 1 = .ok (.ifCond .ne 10, 3) := by decide +kernel
theorem dX8_count_4 : decode cX8_count 4 = .ok (.aload_n 0, 1) := by decide +kernel
theorem dX8_count_5 : decode cX8_count 5 = .ok (.getfield 226, 3) := by decide +kernel
theorem dX8_count_8 : decode cX8_count 8 = .ok (.goto 41, 3) := by decide +kernel
theorem dX8_count_11 : decode cX8_count 11 = .ok (.iload_n 1, 1) := by decide +kernel
theorem dX8_count_12 : decode cX8_count 12 = .ok (.iconst 1, 1) := by decide +kernel
theorem dX8_count_13 : decode cX8_count 13 = .ok (.if_icmp .ne 10, 3) := by decide +kernel
theorem dX8_count_16 : decode cX8_count 16 = .ok (.aload_n 0, 1) := by decide +kernel
theorem dX8_count_17 : decode cX8_count 17 = .ok (.getfield 237, 3) := by decide +kernel
theorem dX8_count_20 : decode cX8_count 20 = .ok (.goto 29, 3) := by decide +kernel
theorem dX8_count_23 : decode cX8_count 23 = .ok (.iload_n 1, 1) := by decide +kernel
theorem dX8_count_24 : decode cX8_count 24 = .ok (.iconst 2, 1) := by decide +kernel
theorem dX8_count_25 : decode cX8_count 25 = .ok (.if_icmp .ne 10, 3) := by decide +kernel
theorem dX8_count_28 : decode cX8_count 28 = .ok (.aload_n 0, 1) := by decide +kernel
theorem dX8_count_29 : decode cX8_count 29 = .ok (.getfield 240, 3) := by decide +kernel
theorem dX8_count_32 : decode cX8_count 32 = .ok (.goto 17, 3) := by decide +kernel
theorem dX8_count_35 : decode cX8_count 35 = .ok (.iload_n 1, 1) := by decide +kernel
theorem dX8_count_36 : decode cX8_count 36 = .ok (.iconst 3, 1) := by decide +kernel
theorem dX8_count_37 : decode cX8_count 37 = .ok (.if_icmp .ne 10, 3) := by decide +kernel
theorem dX8_count_40 : decode cX8_count 40 = .ok (.aload_n 0, 1) := by decide +kernel
theorem dX8_count_41 : decode cX8_count 41 = .ok (.getfield 135, 3) := by decide +kernel
theorem dX8_count_44 : decode cX8_count 44 = .ok (.goto 5, 3) := by decide +kernel
theorem dX8_count_47 : decode cX8_count 47 = .ok (.bipush (-2), 2) := by decide +kernel
theorem dX8_count_49 : decode cX8_count 49 = .ok (.ireturn, 1) := by decide +kernel
theorem dX8_isTape_0 : decode cX8_isTape 0 = .ok (.iload_n 0, 1) := by decide +kernel
theorem dX8_isTape_1 : decode cX8_isTape 1 = .ok (.iconst 0, 1) := by decide +kernel
theorem dX8_isTape_2 : decode cX8_isTape 2 = .ok (.iconst 5, 1) := by decide +kernel
theorem dX8_isTape_3 : decode cX8_isTape 3 = .ok (.invokestatic 5, 3) := by decide +kernel
theorem dX8_isTape_6 : decode cX8_isTape 6 = .ok (.ireturn, 1) := by decide +kernel
theorem dX8_lowest_0 : decode cX8_lowest 0 = .ok (.iload_n 0, 1) := by decide +kernel
theorem dX8_lowest_1 : decode cX8_lowest 1 = .ok (.ifCond .ne 10, 3) := by decide +kernel
theorem dX8_lowest_4 : decode cX8_lowest 4 = .ok (.lload_n 1, 1) := by decide +kernel
theorem dX8_lowest_5 : decode cX8_lowest 5 = .ok (.l2i, 1) := by decide +kernel
theorem dX8_lowest_6 : decode cX8_lowest 6 = .ok (.i2b, 1) := by decide +kernel
theorem dX8_lowest_7 : decode cX8_lowest 7 = .ok (.i2l, 1) := by decide +kernel
theorem dX8_lowest_8 : decode cX8_lowest 8 = .ok (.goto 46, 3) := by decide +kernel
theorem dX8_lowest_11 : decode cX8_lowest 11 = .ok (.iload_n 0, 1) := by decide +kernel
theorem dX8_lowest_12 : decode cX8_lowest 12 = .ok (.iconst 1, 1) := by decide +kernel
theorem dX8_lowest_13 : decode cX8_lowest 13 = .ok (.if_icmp .ne 10, 3) := by decide +kernel
theorem dX8_lowest_16 : decode cX8_lowest 16 = .ok (.lload_n 1, 1) := by decide +kernel
theorem dX8_lowest_17 : decode cX8_lowest 17 = .ok (.l2i, 1) := by decide +kernel
theorem dX8_lowest_18 : decode cX8_lowest 18 = .ok (.i2s, 1) := by decide +kernel
theorem dX8_lowest_19 : decode cX8_lowest 19 = .ok (.i2l, 1) := by decide +kernel
theorem dX8_lowest_20 : decode cX8_lowest 20 = .ok (.goto 34, 3) := by decide +kernel
theorem dX8_lowest_23 : decode cX8_lowest 23 = .ok (.iload_n 0, 1) := by decide +kernel
theorem dX8_lowest_24 : decode cX8_lowest 24 = .ok (.iconst 2, 1) := by decide +kernel
theorem dX8_lowest_25 : decode cX8_lowest 25 = .ok (.if_icmp .ne 9, 3) := by decide +kernel
theorem dX8_lowest_28 : decode cX8_lowest 28 = .ok (.lload_n 1, 1) := by decide +kernel
theorem dX8_lowest_29 : decode cX8_lowest 29 = .ok (.l2i, 1) := by decide +kernel
theorem dX8_lowest_30 : decode cX8_lowest 30 = .ok (.i2l, 1) := by decide +kernel
theorem dX8_lowest_31 : decode cX8_lowest 31 = .ok (.goto 23, 3) := by decide +kernel
theorem dX8_lowest_34 : decode cX8_lowest 34 = .ok (.iload_n 0, 1) := by decide +kernel
theorem dX8_lowest_35 : decode cX8_lowest 35 = .ok (.iconst 3, 1) := by decide +kernel
theorem dX8_lowest_36 : decode cX8_lowest 36 = .ok (.if_icmp .ne 7, 3) := by decide +kernel
theorem dX8_lowest_39 : decode cX8_lowest 39 = .ok (.lload_n 1, 1) := by decide +kernel
theorem dX8_lowest_40 : decode cX8_lowest 40 = .ok (.goto 14, 3) := by decide +kernel
theorem dX8_lowest_43 : decode cX8_lowest 43 = .ok (.lload_n 1, 1) := by decide +kernel
theorem dX8_lowest_44 : decode cX8_lowest 44 = .ok (.lconst 0, 1) := by decide +kernel
theorem dX8_lowest_45 : decode cX8_lowest 45 = .ok (.lcmp, 1) := by decide +kernel
theorem dX8_lowest_46 : decode cX8_lowest 46 = .ok (.ifCond .eq 7, 3) := by decide +kernel
theorem dX8_lowest_49 : decode cX8_lowest 49 = .ok (.lconst 1, 1) := by decide +kernel
theorem dX8_lowest_50 : decode cX8_lowest 50 = .ok (.goto 4, 3) := by decide +kernel
theorem dX8_lowest_53 : decode cX8_lowest 53 = .ok (.lconst 0, 1) := by decide +kernel
theorem dX8_lowest_54 : decode cX8_lowest 54 = .ok (.lreturn, 1) := by decide +kernel
theorem dX8_tape_0 : decode cX8_tape 0 = .ok (.iload_n 1, 1) := by decide +kernel
theorem dX8_tape_1 : decode cX8_tape 1 = .ok (.invokestatic 243, 3) := by decide +kernel
theorem dX8_tape_4 : decode cX8_tape 4 = .ok (.ifCond .ne 5, 3) := by decide +kernel
theorem dX8_tape_7 : decode cX8_tape 7 = .ok (.iconst (-1), 1) := by decide +kernel
theorem dX8_tape_8 : decode cX8_tape 8 = .ok (.ireturn, 1) := by decide +kernel
theorem dX8_tape_9 : decode cX8_tape 9 = .ok (.iload_n 2, 1) := by decide +kernel
theorem dX8_tape_10 : decode cX8_tape 10 = .ok (.iconst (-1), 1) := by decide +kernel
theorem dX8_tape_11 : decode cX8_tape 11 = .ok (.iconst 4, 1) := by decide +kernel
theorem dX8_tape_12 : decode cX8_tape 12 = .ok (.invokestatic 5, 3) := by decide +kernel
theorem dX8_tape_15 : decode cX8_tape 15 = .ok (.ifCond .eq 13, 3) := by decide +kernel
theorem dX8_tape_18 : decode cX8_tape 18 = .ok (.iload_n 2, 1) := by decide +kernel
theorem dX8_tape_19 : decode cX8_tape 19 = .ok (.ifCond .lt 12, 3) := by decide +kernel
theorem dX8_tape_22 : decode cX8_tape 22 = .ok (.iload_n 3, 1) := by decide +kernel
theorem dX8_tape_23 : decode cX8_tape 23 = .ok (.bipush 60, 2) := by decide +kernel
theorem dX8_tape_25 : decode cX8_tape 25 = .ok (.if_icmp .le 6, 3) := by decide +kernel
theorem dX8_tape_28 : decode cX8_tape 28 = .ok (.bipush (-2), 2) := by decide +kernel
theorem dX8_tape_30 : decode cX8_tape 30 = .ok (.ireturn, 1) := by decide +kernel
theorem dX8_tape_31 : decode cX8_tape 31 = .ok (.iload_n 2, 1) := by decide +kernel
theorem dX8_tape_32 : decode cX8_tape 32 = .ok (.ifCond .lt 10, 3) := by decide +kernel
theorem dX8_tape_35 : decode cX8_tape 35 = .ok (.iload_n 3, 1) := by decide +kernel
theorem dX8_tape_36 : decode cX8_tape 36 = .ok (.ifCond .ge 6, 3) := by decide +kernel
theorem dX8_tape_39 : decode cX8_tape 39 = .ok (.bipush (-14), 2) := by decide +kernel
theorem dX8_tape_41 : decode cX8_tape 41 = .ok (.ireturn, 1) := by decide +kernel
theorem dX8_tape_42 : decode cX8_tape 42 = .ok (.aload_n 0, 1) := by decide +kernel
theorem dX8_tape_43 : decode cX8_tape 43 = .ok (.getfield 68, 3) := by decide +kernel
theorem dX8_tape_46 : decode cX8_tape 46 = .ok (.iload_n 1, 1) := by decide +kernel
theorem dX8_tape_47 : decode cX8_tape 47 = .ok (.iload_n 2, 1) := by decide +kernel
theorem dX8_tape_48 : decode cX8_tape 48 = .ok (.iastore, 1) := by decide +kernel
theorem dX8_tape_49 : decode cX8_tape 49 = .ok (.aload_n 0, 1) := by decide +kernel
theorem dX8_tape_50 : decode cX8_tape 50 = .ok (.getfield 71, 3) := by decide +kernel
theorem dX8_tape_53 : decode cX8_tape 53 = .ok (.iload_n 1, 1) := by decide +kernel
theorem dX8_tape_54 : decode cX8_tape 54 = .ok (.iload_n 2, 1) := by decide +kernel
theorem dX8_tape_55 : decode cX8_tape 55 = .ok (.ifCond .ge 7, 3) := by decide +kernel
theorem dX8_tape_58 : decode cX8_tape 58 = .ok (.iconst (-1), 1) := by decide +kernel
theorem dX8_tape_59 : decode cX8_tape 59 = .ok (.goto 4, 3) := by decide +kernel
theorem dX8_tape_62 : decode cX8_tape 62 = .ok (.iload_n 3, 1) := by decide +kernel
theorem dX8_tape_63 : decode cX8_tape 63 = .ok (.iastore, 1) := by decide +kernel
theorem dX8_tape_64 : decode cX8_tape 64 = .ok (.iconst 0, 1) := by decide +kernel
theorem dX8_tape_65 : decode cX8_tape 65 = .ok (.istore 4, 2) := by decide +kernel
theorem dX8_tape_67 : decode cX8_tape 67 = .ok (.iload 4, 2) := by decide +kernel
theorem dX8_tape_69 : decode cX8_tape 69 = .ok (.bipush 60, 2) := by decide +kernel
theorem dX8_tape_71 : decode cX8_tape 71 = .ok (.if_icmp .ge 22, 3) := by decide +kernel
theorem dX8_tape_74 : decode cX8_tape 74 = .ok (.aload_n 0, 1) := by decide +kernel
theorem dX8_tape_75 : decode cX8_tape 75 = .ok (.getfield 74, 3) := by decide +kernel
theorem dX8_tape_78 : decode cX8_tape 78 = .ok (.bipush 60, 2) := by decide +kernel
theorem dX8_tape_80 : decode cX8_tape 80 = .ok (.iload_n 1, 1) := by decide +kernel
theorem dX8_tape_81 : decode cX8_tape 81 = .ok (.imul, 1) := by decide +kernel
theorem dX8_tape_82 : decode cX8_tape 82 = .ok (.iload 4, 2) := by decide +kernel
theorem dX8_tape_84 : decode cX8_tape 84 = .ok (.iadd, 1) := by decide +kernel
theorem dX8_tape_85 : decode cX8_tape 85 = .ok (.lconst 0, 1) := by decide +kernel
theorem dX8_tape_86 : decode cX8_tape 86 = .ok (.lastore, 1) := by decide +kernel
theorem dX8_tape_87 : decode cX8_tape 87 = .ok (.iinc 4 1, 3) := by decide +kernel
theorem dX8_tape_90 : decode cX8_tape 90 = .ok (.goto (-23), 3) := by decide +kernel
theorem dX8_tape_93 : decode cX8_tape 93 = .ok (.iconst 1, 1) := by decide +kernel
theorem dX8_tape_94 : decode cX8_tape 94 = .ok (.ireturn, 1) := by decide +kernel
theorem dX8_item_0 : decode cX8_item 0 = .ok (.iload_n 1, 1) := by decide +kernel
theorem dX8_item_1 : decode cX8_item 1 = .ok (.invokestatic 243, 3) := by decide +kernel
theorem dX8_item_4 : decode cX8_item 4 = .ok (.ifCond .ne 5, 3) := by decide +kernel
theorem dX8_item_7 : decode cX8_item 7 = .ok (.iconst (-1), 1) := by decide +kernel
theorem dX8_item_8 : decode cX8_item 8 = .ok (.ireturn, 1) := by decide +kernel
theorem dX8_item_9 : decode cX8_item 9 = .ok (.aload_n 0, 1) := by decide +kernel
theorem dX8_item_10 : decode cX8_item 10 = .ok (.getfield 71, 3) := by decide +kernel
theorem dX8_item_13 : decode cX8_item 13 = .ok (.iload_n 1, 1) := by decide +kernel
theorem dX8_item_14 : decode cX8_item 14 = .ok (.iaload, 1) := by decide +kernel
theorem dX8_item_15 : decode cX8_item 15 = .ok (.ifCond .ge 6, 3) := by decide +kernel
theorem dX8_item_18 : decode cX8_item 18 = .ok (.bipush (-11), 2) := by decide +kernel
theorem dX8_item_20 : decode cX8_item 20 = .ok (.ireturn, 1) := by decide +kernel
theorem dX8_item_21 : decode cX8_item 21 = .ok (.iload_n 2, 1) := by decide +kernel
theorem dX8_item_22 : decode cX8_item 22 = .ok (.iconst 0, 1) := by decide +kernel
theorem dX8_item_23 : decode cX8_item 23 = .ok (.aload_n 0, 1) := by decide +kernel
theorem dX8_item_24 : decode cX8_item 24 = .ok (.getfield 71, 3) := by decide +kernel
theorem dX8_item_27 : decode cX8_item 27 = .ok (.iload_n 1, 1) := by decide +kernel
theorem dX8_item_28 : decode cX8_item 28 = .ok (.iaload, 1) := by decide +kernel
theorem dX8_item_29 : decode cX8_item 29 = .ok (.iconst 1, 1) := by decide +kernel
theorem dX8_item_30 : decode cX8_item 30 = .ok (.isub, 1) := by decide +kernel
theorem dX8_item_31 : decode cX8_item 31 = .ok (.invokestatic 5, 3) := by decide +kernel
theorem dX8_item_34 : decode cX8_item 34 = .ok (.ifCond .ne 6, 3) := by decide +kernel
theorem dX8_item_37 : decode cX8_item 37 = .ok (.bipush (-13), 2) := by decide +kernel
theorem dX8_item_39 : decode cX8_item 39 = .ok (.ireturn, 1) := by decide +kernel
theorem dX8_item_40 : decode cX8_item 40 = .ok (.aload_n 0, 1) := by decide +kernel
theorem dX8_item_41 : decode cX8_item 41 = .ok (.getfield 74, 3) := by decide +kernel
theorem dX8_item_44 : decode cX8_item 44 = .ok (.bipush 60, 2) := by decide +kernel
theorem dX8_item_46 : decode cX8_item 46 = .ok (.iload_n 1, 1) := by decide +kernel
theorem dX8_item_47 : decode cX8_item 47 = .ok (.imul, 1) := by decide +kernel
theorem dX8_item_48 : decode cX8_item 48 = .ok (.iload_n 2, 1) := by decide +kernel
theorem dX8_item_49 : decode cX8_item 49 = .ok (.iadd, 1) := by decide +kernel
theorem dX8_item_50 : decode cX8_item 50 = .ok (.aload_n 0, 1) := by decide +kernel
theorem dX8_item_51 : decode cX8_item 51 = .ok (.getfield 68, 3) := by decide +kernel
theorem dX8_item_54 : decode cX8_item 54 = .ok (.iload_n 1, 1) := by decide +kernel
theorem dX8_item_55 : decode cX8_item 55 = .ok (.iaload, 1) := by decide +kernel
theorem dX8_item_56 : decode cX8_item 56 = .ok (.lload_n 3, 1) := by decide +kernel
theorem dX8_item_57 : decode cX8_item 57 = .ok (.invokestatic 267, 3) := by decide +kernel
theorem dX8_item_60 : decode cX8_item 60 = .ok (.lastore, 1) := by decide +kernel
theorem dX8_item_61 : decode cX8_item 61 = .ok (.iconst 1, 1) := by decide +kernel
theorem dX8_item_62 : decode cX8_item 62 = .ok (.ireturn, 1) := by decide +kernel
theorem dX8_peek_0 : decode cX8_peek 0 = .ok (.iload_n 1, 1) := by decide +kernel
theorem dX8_peek_1 : decode cX8_peek 1 = .ok (.invokestatic 243, 3) := by decide +kernel
theorem dX8_peek_4 : decode cX8_peek 4 = .ok (.ifCond .eq 33, 3) := by decide +kernel
theorem dX8_peek_7 : decode cX8_peek 7 = .ok (.iload_n 2, 1) := by decide +kernel
theorem dX8_peek_8 : decode cX8_peek 8 = .ok (.iconst 0, 1) := by decide +kernel
theorem dX8_peek_9 : decode cX8_peek 9 = .ok (.aload_n 0, 1) := by decide +kernel
theorem dX8_peek_10 : decode cX8_peek 10 = .ok (.getfield 71, 3) := by decide +kernel
theorem dX8_peek_13 : decode cX8_peek 13 = .ok (.iload_n 1, 1) := by decide +kernel
theorem dX8_peek_14 : decode cX8_peek 14 = .ok (.iaload, 1) := by decide +kernel
theorem dX8_peek_15 : decode cX8_peek 15 = .ok (.iconst 1, 1) := by decide +kernel
theorem dX8_peek_16 : decode cX8_peek 16 = .ok (.isub, 1) := by decide +kernel
theorem dX8_peek_17 : decode cX8_peek 17 = .ok (.invokestatic 5, 3) := by decide +kernel
theorem dX8_peek_20 : decode cX8_peek 20 = .ok (.ifCond .eq 17, 3) := by decide +kernel
theorem dX8_peek_23 : decode cX8_peek 23 = .ok (.aload_n 0, 1) := by decide +kernel
theorem dX8_peek_24 : decode cX8_peek 24 = .ok (.getfield 74, 3) := by decide +kernel
theorem dX8_peek_27 : decode cX8_peek 27 = .ok (.bipush 60, 2) := by decide +kernel
theorem dX8_peek_29 : decode cX8_peek 29 = .ok (.iload_n 1, 1) := by decide +kernel
theorem dX8_peek_30 : decode cX8_peek 30 = .ok (.imul, 1) := by decide +kernel
theorem dX8_peek_31 : decode cX8_peek 31 = .ok (.iload_n 2, 1) := by decide +kernel
theorem dX8_peek_32 : decode cX8_peek 32 = .ok (.iadd, 1) := by decide +kernel
theorem dX8_peek_33 : decode cX8_peek 33 = .ok (.laload, 1) := by decide +kernel
theorem dX8_peek_34 : decode cX8_peek 34 = .ok (.goto 6, 3) := by decide +kernel
theorem dX8_peek_37 : decode cX8_peek 37 = .ok (.ldc2_w 216, 3) := by decide +kernel
theorem dX8_peek_40 : decode cX8_peek 40 = .ok (.lreturn, 1) := by decide +kernel
theorem dX8_shift_0 : decode cX8_shift 0 = .ok (.iload_n 1, 1) := by decide +kernel
theorem dX8_shift_1 : decode cX8_shift 1 = .ok (.invokestatic 243, 3) := by decide +kernel
theorem dX8_shift_4 : decode cX8_shift 4 = .ok (.ifCond .eq 10, 3) := by decide +kernel
theorem dX8_shift_7 : decode cX8_shift 7 = .ok (.iload_n 3, 1) := by decide +kernel
theorem dX8_shift_8 : decode cX8_shift 8 = .ok (.invokestatic 243, 3) := by decide +kernel
theorem dX8_shift_11 : decode cX8_shift 11 = .ok (.ifCond .ne 5, 3) := by decide +kernel
theorem dX8_shift_14 : decode cX8_shift 14 = .ok (.iconst (-1), 1) := by decide +kernel
theorem dX8_shift_15 : decode cX8_shift 15 = .ok (.ireturn, 1) := by decide +kernel
theorem dX8_shift_16 : decode cX8_shift 16 = .ok (.aload_n 0, 1) := by decide +kernel
theorem dX8_shift_17 : decode cX8_shift 17 = .ok (.getfield 71, 3) := by decide +kernel
theorem dX8_shift_20 : decode cX8_shift 20 = .ok (.iload_n 1, 1) := by decide +kernel
theorem dX8_shift_21 : decode cX8_shift 21 = .ok (.iaload, 1) := by decide +kernel
theorem dX8_shift_22 : decode cX8_shift 22 = .ok (.ifCond .lt 12, 3) := by decide +kernel
theorem dX8_shift_25 : decode cX8_shift 25 = .ok (.aload_n 0, 1) := by decide +kernel
theorem dX8_shift_26 : decode cX8_shift 26 = .ok (.getfield 71, 3) := by decide +kernel
theorem dX8_shift_29 : decode cX8_shift 29 = .ok (.iload_n 3, 1) := by decide +kernel
theorem dX8_shift_30 : decode cX8_shift 30 = .ok (.iaload, 1) := by decide +kernel
theorem dX8_shift_31 : decode cX8_shift 31 = .ok (.ifCond .ge 6, 3) := by decide +kernel
theorem dX8_shift_34 : decode cX8_shift 34 = .ok (.bipush (-11), 2) := by decide +kernel
theorem dX8_shift_36 : decode cX8_shift 36 = .ok (.ireturn, 1) := by decide +kernel
theorem dX8_shift_37 : decode cX8_shift 37 = .ok (.aload_n 0, 1) := by decide +kernel
theorem dX8_shift_38 : decode cX8_shift 38 = .ok (.getfield 68, 3) := by decide +kernel
theorem dX8_shift_41 : decode cX8_shift 41 = .ok (.iload_n 1, 1) := by decide +kernel
theorem dX8_shift_42 : decode cX8_shift 42 = .ok (.iaload, 1) := by decide +kernel
theorem dX8_shift_43 : decode cX8_shift 43 = .ok (.aload_n 0, 1) := by decide +kernel
theorem dX8_shift_44 : decode cX8_shift 44 = .ok (.getfield 68, 3) := by decide +kernel
theorem dX8_shift_47 : decode cX8_shift 47 = .ok (.iload_n 3, 1) := by decide +kernel
theorem dX8_shift_48 : decode cX8_shift 48 = .ok (.iaload, 1) := by decide +kernel
theorem dX8_shift_49 : decode cX8_shift 49 = .ok (.if_icmp .eq 6, 3) := by decide +kernel
theorem dX8_shift_52 : decode cX8_shift 52 = .ok (.bipush (-12), 2) := by decide +kernel
theorem dX8_shift_54 : decode cX8_shift 54 = .ok (.ireturn, 1) := by decide +kernel
theorem dX8_shift_55 : decode cX8_shift 55 = .ok (.iload 5, 2) := by decide +kernel
theorem dX8_shift_57 : decode cX8_shift 57 = .ok (.ifCond .lt 47, 3) := by decide +kernel
theorem dX8_shift_60 : decode cX8_shift 60 = .ok (.iload_n 2, 1) := by decide +kernel
theorem dX8_shift_61 : decode cX8_shift 61 = .ok (.ifCond .lt 43, 3) := by decide +kernel
theorem dX8_shift_64 : decode cX8_shift 64 = .ok (.iload 4, 2) := by decide +kernel
theorem dX8_shift_66 : decode cX8_shift 66 = .ok (.ifCond .lt 38, 3) := by decide +kernel
theorem dX8_shift_69 : decode cX8_shift 69 = .ok (.iload_n 2, 1) := by decide +kernel
theorem dX8_shift_70 : decode cX8_shift 70 = .ok (.i2l, 1) := by decide +kernel
theorem dX8_shift_71 : decode cX8_shift 71 = .ok (.iload 5, 2) := by decide +kernel
theorem dX8_shift_73 : decode cX8_shift 73 = .ok (.i2l, 1) := by decide +kernel
theorem dX8_shift_74 : decode cX8_shift 74 = .ok (.ladd, 1) := by decide +kernel
theorem dX8_shift_75 : decode cX8_shift 75 = .ok (.aload_n 0, 1) := by decide +kernel
theorem dX8_shift_76 : decode cX8_shift 76 = .ok (.getfield 71, 3) := by decide +kernel
theorem dX8_shift_79 : decode cX8_shift 79 = .ok (.iload_n 1, 1) := by decide +kernel
theorem dX8_shift_80 : decode cX8_shift 80 = .ok (.iaload, 1) := by decide +kernel
theorem dX8_shift_81 : decode cX8_shift 81 = .ok (.i2l, 1) := by decide +kernel
theorem dX8_shift_82 : decode cX8_shift 82 = .ok (.lcmp, 1) := by decide +kernel
theorem dX8_shift_83 : decode cX8_shift 83 = .ok (.ifCond .gt 21, 3) := by decide +kernel
theorem dX8_shift_86 : decode cX8_shift 86 = .ok (.iload 4, 2) := by decide +kernel
theorem dX8_shift_88 : decode cX8_shift 88 = .ok (.i2l, 1) := by decide +kernel
theorem dX8_shift_89 : decode cX8_shift 89 = .ok (.iload 5, 2) := by decide +kernel
theorem dX8_shift_91 : decode cX8_shift 91 = .ok (.i2l, 1) := by decide +kernel
theorem dX8_shift_92 : decode cX8_shift 92 = .ok (.ladd, 1) := by decide +kernel
theorem dX8_shift_93 : decode cX8_shift 93 = .ok (.aload_n 0, 1) := by decide +kernel
theorem dX8_shift_94 : decode cX8_shift 94 = .ok (.getfield 71, 3) := by decide +kernel
theorem dX8_shift_97 : decode cX8_shift 97 = .ok (.iload_n 3, 1) := by decide +kernel
theorem dX8_shift_98 : decode cX8_shift 98 = .ok (.iaload, 1) := by decide +kernel
theorem dX8_shift_99 : decode cX8_shift 99 = .ok (.i2l, 1) := by decide +kernel
theorem dX8_shift_100 : decode cX8_shift 100 = .ok (.lcmp, 1) := by decide +kernel
theorem dX8_shift_101 : decode cX8_shift 101 = .ok (.ifCond .le 6, 3) := by decide +kernel
theorem dX8_shift_104 : decode cX8_shift 104 = .ok (.bipush (-13), 2) := by decide +kernel
theorem dX8_shift_106 : decode cX8_shift 106 = .ok (.ireturn, 1) := by decide +kernel
theorem dX8_shift_107 : decode cX8_shift 107 = .ok (.iconst 0, 1) := by decide +kernel
theorem dX8_shift_108 : decode cX8_shift 108 = .ok (.istore 6, 2) := by decide +kernel
theorem dX8_shift_110 : decode cX8_shift 110 = .ok (.iload 6, 2) := by decide +kernel
theorem dX8_shift_112 : decode cX8_shift 112 = .ok (.iload 5, 2) := by decide +kernel
theorem dX8_shift_114 : decode cX8_shift 114 = .ok (.if_icmp .ge 30, 3) := by decide +kernel
theorem dX8_shift_117 : decode cX8_shift 117 = .ok (.aload_n 0, 1) := by decide +kernel
theorem dX8_shift_118 : decode cX8_shift 118 = .ok (.getfield 78, 3) := by decide +kernel
theorem dX8_shift_121 : decode cX8_shift 121 = .ok (.iload 6, 2) := by decide +kernel
theorem dX8_shift_123 : decode cX8_shift 123 = .ok (.aload_n 0, 1) := by decide +kernel
theorem dX8_shift_124 : decode cX8_shift 124 = .ok (.getfield 74, 3) := by decide +kernel
theorem dX8_shift_127 : decode cX8_shift 127 = .ok (.bipush 60, 2) := by decide +kernel
theorem dX8_shift_129 : decode cX8_shift 129 = .ok (.iload_n 1, 1) := by decide +kernel
theorem dX8_shift_130 : decode cX8_shift 130 = .ok (.imul, 1) := by decide +kernel
theorem dX8_shift_131 : decode cX8_shift 131 = .ok (.iload_n 2, 1) := by decide +kernel
theorem dX8_shift_132 : decode cX8_shift 132 = .ok (.iadd, 1) := by decide +kernel
theorem dX8_shift_133 : decode cX8_shift 133 = .ok (.iload 6, 2) := by decide +kernel
theorem dX8_shift_135 : decode cX8_shift 135 = .ok (.iadd, 1) := by decide +kernel
theorem dX8_shift_136 : decode cX8_shift 136 = .ok (.laload, 1) := by decide +kernel
theorem dX8_shift_137 : decode cX8_shift 137 = .ok (.lastore, 1) := by decide +kernel
theorem dX8_shift_138 : decode cX8_shift 138 = .ok (.iinc 6 1, 3) := by decide +kernel
theorem dX8_shift_141 : decode cX8_shift 141 = .ok (.goto (-31), 3) := by decide +kernel
theorem dX8_shift_144 : decode cX8_shift 144 = .ok (.iconst 0, 1) := by decide +kernel
theorem dX8_shift_145 : decode cX8_shift 145 = .ok (.istore 6, 2) := by decide +kernel
theorem dX8_shift_147 : decode cX8_shift 147 = .ok (.iload 6, 2) := by decide +kernel
theorem dX8_shift_149 : decode cX8_shift 149 = .ok (.iload 5, 2) := by decide +kernel
theorem dX8_shift_151 : decode cX8_shift 151 = .ok (.if_icmp .ge 31, 3) := by decide +kernel
theorem dX8_shift_154 : decode cX8_shift 154 = .ok (.aload_n 0, 1) := by decide +kernel
theorem dX8_shift_155 : decode cX8_shift 155 = .ok (.getfield 74, 3) := by decide +kernel
theorem dX8_shift_158 : decode cX8_shift 158 = .ok (.bipush 60, 2) := by decide +kernel
theorem dX8_shift_160 : decode cX8_shift 160 = .ok (.iload_n 3, 1) := by decide +kernel
theorem dX8_shift_161 : decode cX8_shift 161 = .ok (.imul, 1) := by decide +kernel
theorem dX8_shift_162 : decode cX8_shift 162 = .ok (.iload 4, 2) := by decide +kernel
theorem dX8_shift_164 : decode cX8_shift 164 = .ok (.iadd, 1) := by decide +kernel
theorem dX8_shift_165 : decode cX8_shift 165 = .ok (.iload 6, 2) := by decide +kernel
theorem dX8_shift_167 : decode cX8_shift 167 = .ok (.iadd, 1) := by decide +kernel
theorem dX8_shift_168 : decode cX8_shift 168 = .ok (.aload_n 0, 1) := by decide +kernel
theorem dX8_shift_169 : decode cX8_shift 169 = .ok (.getfield 78, 3) := by decide +kernel
theorem dX8_shift_172 : decode cX8_shift 172 = .ok (.iload 6, 2) := by decide +kernel
theorem dX8_shift_174 : decode cX8_shift 174 = .ok (.laload, 1) := by decide +kernel
theorem dX8_shift_175 : decode cX8_shift 175 = .ok (.lastore, 1) := by decide +kernel
theorem dX8_shift_176 : decode cX8_shift 176 = .ok (.iinc 6 1, 3) := by decide +kernel
theorem dX8_shift_179 : decode cX8_shift 179 = .ok (.goto (-32), 3) := by decide +kernel
theorem dX8_shift_182 : decode cX8_shift 182 = .ok (.iload 5, 2) := by decide +kernel
theorem dX8_shift_184 : decode cX8_shift 184 = .ok (.ireturn, 1) := by decide +kernel
end
section
/-! plain facts on numbers and arrays, to paste: each family by itself; over the kit's rows on nI and upd -/
/-! ===== order of ints, in all its forms, and through longs ===== -/
theorem fa_lt (a b : Int32) : a < b ↔ a.toInt < b.toInt := Int32.lt_iff_toInt_lt
theorem fa_le (a b : Int32) : a ≤ b ↔ a.toInt ≤ b.toInt := Int32.le_iff_toInt_le
theorem fa_eq (a b : Int32) : a = b ↔ a.toInt = b.toInt := Int32.toInt_inj.symm
theorem fa_lt64 (a b : Int64) : a < b ↔ a.toInt < b.toInt := Int64.lt_iff_toInt_lt
theorem fa_le64 (a b : Int64) : a ≤ b ↔ a.toInt ≤ b.toInt := Int64.le_iff_toInt_le
theorem fa_eq64 (a b : Int64) : a = b ↔ a.toInt = b.toInt := Int64.toInt_inj.symm
/-- a comparison of two ints taken as longs -/
theorem fa_wide_lt (a b : Int32) : a.toInt64 < b.toInt64 ↔ a < b := by rw [fa_lt64, fa_lt, Int32.toInt_toInt64, Int32.toInt_toInt64]
theorem fa_wide_le (a b : Int32) : a.toInt64 ≤ b.toInt64 ↔ a ≤ b := by rw [fa_le64, fa_le, Int32.toInt_toInt64, Int32.toInt_toInt64]
theorem fa_wide_eq (a b : Int32) : a.toInt64 = b.toInt64 ↔ a = b := by rw [fa_eq64, fa_eq, Int32.toInt_toInt64, Int32.toInt_toInt64]
/-- one strict comparison gives all the others -/
theorem fa_of_lt {a b : Int32} (h : a < b) : a ≤ b ∧ ¬ b ≤ a ∧ ¬ b < a ∧ a ≠ b ∧ b ≠ a := by
  rw [fa_lt] at h
  refine ⟨?_, ?_, ?_, ?_, ?_⟩
  · rw [fa_le]; omega
  · rw [fa_le]; omega
  · rw [fa_lt]; omega
  · intro e; rw [fa_eq] at e; omega
  · intro e; rw [fa_eq] at e; omega
theorem fa_of_nlt {a b : Int32} (h : ¬ a < b) : b ≤ a := by
  rw [fa_lt] at h
  rw [fa_le]
  omega
theorem fa_of_nle {a b : Int32} (h : ¬ a ≤ b) : b < a := by
  rw [fa_le] at h
  rw [fa_lt]
  omega
theorem fa_le_ne {a b : Int32} (h : a ≤ b) (h2 : a ≠ b) : a < b := by
  rw [fa_le] at h
  rw [fa_lt]
  have h3 : a.toInt ≠ b.toInt := fun e => h2 ((fa_eq a b).mpr e)
  omega
theorem fa_three (a b : Int32) : a < b ∨ a = b ∨ b < a := by
  rw [fa_lt, fa_lt, fa_eq]
  omega
theorem fa_trans {a b c : Int32} (h : a < b) (h2 : b ≤ c) : a < c := by
  rw [fa_lt] at *
  rw [fa_le] at h2
  omega
/-! ===== small literals as numbers ===== -/
theorem fa_lit (n : Nat) : (OfNat.ofNat n : Int32) = nI n := rfl
theorem fa_litL (n : Nat) : (OfNat.ofNat n : Int64) = lN n := rfl
/-! ===== bits of a number: 'or', masks, one bit ===== -/
theorem fa_and (a b : Nat) : nI a &&& nI b = nI (a &&& b) := by
  apply Int32.toBitVec_inj.1
  show BitVec.ofNat 32 a &&& BitVec.ofNat 32 b = BitVec.ofNat 32 (a &&& b)
  apply BitVec.eq_of_getLsbD_eq
  intro i hi
  simp [hi]
theorem fa_or (a b : Nat) : nI a ||| nI b = nI (a ||| b) := by
  apply Int32.toBitVec_inj.1
  show BitVec.ofNat 32 a ||| BitVec.ofNat 32 b = BitVec.ofNat 32 (a ||| b)
  apply BitVec.eq_of_getLsbD_eq
  intro i hi
  simp [hi]
/-- a remainder by a power of two, as a mask -/
theorem fa_mask (n k : Nat) : nI n &&& nI (2 ^ k - 1) = nI (n % 2 ^ k) := by rw [fa_and, Nat.and_two_pow_sub_one_eq_mod]
/-- 'or' of a high part and a low one that don't meet is their sum -/
theorem fa_or_sum {a k : Nat} (b : Nat) (h : a < 2 ^ k) : nI (2 ^ k * b) ||| nI a = nI (2 ^ k * b + a) := by rw [fa_or, Nat.two_pow_add_eq_or_of_lt h]
/-- one bit, by 'and' with a power of two -/
theorem fa_bit {n j : Nat} (hj : j < 31) : nI n &&& nI (2 ^ j) = 0 ↔ n.testBit j = false := by
  have h2 : (2 : Nat) ^ j < 2 ^ 31 := Nat.pow_lt_pow_right (by decide) hj
  have hle : n &&& 2 ^ j ≤ 2 ^ j := Nat.and_le_right
  have e : n &&& 2 ^ j = 0 ↔ n.testBit j = false := by
    constructor
    · intro h
      have h1 : (n &&& 2 ^ j).testBit j = false := by rw [h]; simp
      rw [Nat.testBit_and] at h1
      first | simpa using h1 | simpa [Nat.testBit_two_pow_self] using h1 | simpa [Nat.testBit_two_pow] using h1
    · intro h
      apply Nat.eq_of_testBit_eq
      intro i
      rw [Nat.testBit_and]
      by_cases hi : j = i
      · subst hi; simp [h]
      · first | (simp [Nat.testBit_two_pow, hi]; done) | (simp [Nat.testBit_two_pow_of_ne hi]; done)
  rw [fa_and]
  constructor
  · intro h
    apply e.mp
    rcases Nat.eq_zero_or_pos (n &&& 2 ^ j) with z | z
    · exact z
    · exact absurd h (nI_ne0 z (Nat.lt_of_le_of_lt hle h2))
  · intro h
    rw [e.mpr h]; exact nI_0
/-- a remainder by a power of two of a number that isn't negative, as Java divides -/
theorem fa_rem {a k : Nat} (ha : a < 2 ^ 31) (hk : k < 31) : nI a - nI a / nI (2 ^ k) * nI (2 ^ k) = nI (a % 2 ^ k) := pk_rem ha (Nat.two_pow_pos k) (Nat.pow_lt_pow_right (by decide) hk)
/-! ===== cuts to a byte, a short ===== -/
theorem fa_byte_xor (x y : Int32) : (x ^^^ y).toInt8 = x.toInt8 ^^^ y.toInt8 := by
  apply Int8.toBitVec_inj.1
  apply BitVec.eq_of_getLsbD_eq
  intro i hi
  first | (simp [hi]; done) | (simp [hi, BitVec.getLsbD_setWidth, BitVec.getLsbD_signExtend]; done)
theorem fa_short_xor (x y : Int32) : (x ^^^ y).toInt16 = x.toInt16 ^^^ y.toInt16 := by
  apply Int16.toBitVec_inj.1
  apply BitVec.eq_of_getLsbD_eq
  intro i hi
  first | (simp [hi]; done) | (simp [hi, BitVec.getLsbD_setWidth, BitVec.getLsbD_signExtend]; done)
/-- the cut to a byte sees the low byte alone -/
theorem fa_byte_low (x : Int32) : (x &&& 255).toInt8 = x.toInt8 := by
  apply Int8.toBitVec_inj.1
  apply BitVec.eq_of_getLsbD_eq
  intro i hi
  have h2 : (255 : Int32).toBitVec.getLsbD i = true := by
    have : ∀ j : Fin 8, (255 : Int32).toBitVec.getLsbD j.val = true := by decide +kernel
    exact this ⟨i, hi⟩
  have h4 : (x &&& 255).toBitVec.getLsbD i = x.toBitVec.getLsbD i := by
    show (x.toBitVec &&& (255 : Int32).toBitVec).getLsbD i = _
    rw [BitVec.getLsbD_and, h2, Bool.and_true]
  have h3 : i < 32 := by omega
  first
    | (show (((x &&& 255).toBitVec).signExtend 8).getLsbD i = (x.toBitVec.signExtend 8).getLsbD i; rw [BitVec.getLsbD_signExtend, BitVec.getLsbD_signExtend, if_pos h3, if_pos h3, h4])
    | (show (((x &&& 255).toBitVec).setWidth 8).getLsbD i = (x.toBitVec.setWidth 8).getLsbD i; rw [BitVec.getLsbD_setWidth, BitVec.getLsbD_setWidth, h4])
    | (simp [hi, h3, h4]; done)
theorem fa_short_low (x : Int32) : (x &&& 65535).toInt16 = x.toInt16 := by
  apply Int16.toBitVec_inj.1
  apply BitVec.eq_of_getLsbD_eq
  intro i hi
  have h2 : (65535 : Int32).toBitVec.getLsbD i = true := by
    have : ∀ j : Fin 16, (65535 : Int32).toBitVec.getLsbD j.val = true := by decide +kernel
    exact this ⟨i, hi⟩
  have h4 : (x &&& 65535).toBitVec.getLsbD i = x.toBitVec.getLsbD i := by
    show (x.toBitVec &&& (65535 : Int32).toBitVec).getLsbD i = _
    rw [BitVec.getLsbD_and, h2, Bool.and_true]
  have h3 : i < 32 := by omega
  first
    | (show (((x &&& 65535).toBitVec).signExtend 16).getLsbD i = (x.toBitVec.signExtend 16).getLsbD i; rw [BitVec.getLsbD_signExtend, BitVec.getLsbD_signExtend, if_pos h3, if_pos h3, h4])
    | (show (((x &&& 65535).toBitVec).setWidth 16).getLsbD i = (x.toBitVec.setWidth 16).getLsbD i; rw [BitVec.getLsbD_setWidth, BitVec.getLsbD_setWidth, h4])
    | (simp [hi, h3, h4]; done)
/-- a small number is its own byte, its own short -/
theorem fa_byte_small {n : Nat} (h : n < 128) : (nI n).toInt8.toInt32 = nI n := by
  have : ∀ j : Fin 128, (nI j.val).toInt8.toInt32 = nI j.val := by decide +kernel
  exact this ⟨n, h⟩
/-! ===== absolute difference ===== -/
theorem fa_absdiff {a b : Nat} (ha : a < 2 ^ 31) (hb : b < 2 ^ 31) : (if nI a < nI b then nI b - nI a else nI a - nI b) = nI (if a < b then b - a else a - b) := by
  by_cases h : a < b
  · rw [if_pos (nI_lt h hb), if_pos h]
    exact pk_sub (Nat.le_of_lt h)
  · rw [if_neg (nI_nlt (Nat.le_of_not_lt h) ha), if_neg h]
    exact pk_sub (Nat.le_of_not_lt h)
/-! ===== an array behind i stores, a conditional store, a row copied ===== -/
/-- f where k < i, what stood there else -/
def fa_fill {α : Type} (f g : Nat → α) (i : Nat) : Nat → α := fun k => if k < i then f k else g k
theorem fa_fill_0 {α : Type} (f g : Nat → α) : fa_fill f g 0 = g := funext fun k => if_neg (Nat.not_lt_zero k)
theorem fa_fill_in {α : Type} {f g : Nat → α} {i k : Nat} (h : k < i) : fa_fill f g i k = f k := if_pos h
theorem fa_fill_out {α : Type} {f g : Nat → α} {i k : Nat} (h : i ≤ k) : fa_fill f g i k = g k := if_neg (Nat.not_lt.mpr h)
theorem fa_fill_succ (f g : Nat → Int32) (i : Nat) : upd (fa_fill f g i) i (f i) = fa_fill f g (i + 1) := by
  funext k
  by_cases e : k = i
  · subst e
    rw [pk_us]
    exact (if_pos (Nat.lt_succ_self k)).symm
  · rw [pk_un e]
    by_cases h : k < i
    · rw [fa_fill_in h, fa_fill_in (Nat.lt_succ_of_lt h)]
    · rw [fa_fill_out (Nat.le_of_not_lt h), fa_fill_out (by omega)]
/-- a store that changes nothing -/
theorem fa_upd_same {f : Nat → Int32} {i : Nat} {x : Int32} (h : f i = x) : upd f i x = f := by
  funext k
  by_cases e : k = i
  · subst e
    rw [pk_us, h]
  · rw [pk_un e]
/-- a store under a condition, told as one -/
theorem fa_upd_if (c : Prop) [Decidable c] (f : Nat → Int32) (i : Nat) (x : Int32) : (if c then upd f i x else f) = upd f i (if c then x else f i) := by
  by_cases h : c
  · rw [if_pos h, if_pos h]
  · rw [if_neg h, if_neg h, fa_upd_same rfl]
/-- two stores at one place, at two -/
theorem fa_upd_twice (f : Nat → Int32) (i : Nat) (x y : Int32) : upd (upd f i x) i y = upd f i y := by
  funext k
  by_cases e : k = i
  · subst e
    rw [pk_us, pk_us]
  · rw [pk_un e, pk_un e, pk_un e]
theorem fa_upd_swap (f : Nat → Int32) {i j : Nat} (h : i ≠ j) (x y : Int32) : upd (upd f i x) j y = upd (upd f j y) i x := by
  funext k
  by_cases e : k = i
  · subst e
    rw [pk_un h, pk_us, pk_us]
  · by_cases e2 : k = j
    · subst e2
      rw [pk_us, pk_un e, pk_us]
    · rw [pk_un e2, pk_un e, pk_un e, pk_un e2]
/-! ===== the first index with a property; a count ===== -/
/-- the first k < n with p k, n if there is none -/
def fa_first (p : Nat → Bool) : Nat → Nat
  | 0 => 0
  | n + 1 => if fa_first p n < n then fa_first p n else if p n then n else n + 1
theorem fa_first_le (p : Nat → Bool) : ∀ n, fa_first p n ≤ n
  | 0 => Nat.le_refl 0
  | n + 1 => by
    have ih := fa_first_le p n
    unfold fa_first
    split
    · omega
    · split
      · omega
      · omega
theorem fa_first_no (p : Nat → Bool) : ∀ n k, k < fa_first p n → p k = false
  | 0, k, h => absurd h (Nat.not_lt_zero k)
  | n + 1, k, h => by
    have ih := fa_first_no p n
    have hl := fa_first_le p n
    unfold fa_first at h
    split at h
    · exact ih k h
    · rename_i h1
      split at h
      · exact ih k (by omega)
      · rename_i h2
        by_cases e : k = n
        · subst e
          exact Bool.eq_false_iff.mpr h2
        · exact ih k (by omega)
theorem fa_first_yes (p : Nat → Bool) : ∀ n, fa_first p n < n → p (fa_first p n) = true
  | 0, h => absurd h (Nat.not_lt_zero _)
  | n + 1, h => by
    have ih := fa_first_yes p n
    have hl := fa_first_le p n
    unfold fa_first at h ⊢
    split at h
    · rename_i h1
      rw [if_pos h1]
      exact ih h1
    · rename_i h1
      rw [if_neg h1]
      split at h
      · rename_i h2
        rw [if_pos h2]
        exact h2
      · omega
/-- how many k < n have p k -/
def fa_cnt (p : Nat → Bool) : Nat → Nat
  | 0 => 0
  | n + 1 => fa_cnt p n + if p n then 1 else 0
theorem fa_cnt_le (p : Nat → Bool) : ∀ n, fa_cnt p n ≤ n
  | 0 => Nat.le_refl 0
  | n + 1 => by
    have ih := fa_cnt_le p n
    unfold fa_cnt
    split
    · omega
    · omega
theorem fa_cnt_yes {p : Nat → Bool} {n : Nat} (h : p n = true) : fa_cnt p (n + 1) = fa_cnt p n + 1 := by rw [fa_cnt, if_pos h]
theorem fa_cnt_no {p : Nat → Bool} {n : Nat} (h : p n = false) : fa_cnt p (n + 1) = fa_cnt p n := by rw [fa_cnt, if_neg (by rw [h]; decide)]; rfl
theorem fa_cnt_cong {p q : Nat → Bool} : ∀ {n : Nat}, (∀ k, k < n → p k = q k) → fa_cnt p n = fa_cnt q n
  | 0, _ => rfl
  | n + 1, h => by rw [fa_cnt, fa_cnt, fa_cnt_cong (fun k hk => h k (Nat.lt_succ_of_lt hk)), h n (Nat.lt_succ_self n)]
/-! ===== an answer carried into a post; a branch on a boolean answer ===== -/
theorem fa_post {α : Type} {P : α → Prop} {x y : α} (h : x = y) (hp : P y) : P x := h ▸ hp
theorem fa_post2 {α β : Type} {P : α → β → Prop} {x y : α} {u v : β} (h : x = y) (h2 : u = v) (hp : P y v) : P x u := h ▸ h2 ▸ hp
theorem fa_bool {r : Int32} {b : Bool} (h : r = if b then 1 else 0) : (r = 0 ↔ b = false) ∧ (¬ r = 0 ↔ b = true) := by
  subst h
  cases b
  · exact ⟨⟨fun _ => rfl, fun _ => rfl⟩, ⟨fun h => absurd rfl h, fun h => absurd h (by decide)⟩⟩
  · exact ⟨⟨fun h => absurd h (by decide), fun h => absurd h (by decide)⟩, ⟨fun _ => rfl, fun _ => by decide⟩⟩
/-- a boolean's narrowing changes nothing -/
theorem fa_bool_and {r : Int32} (h : r = 0 ∨ r = 1) : r &&& 1 = r := by
  rcases h with rfl | rfl
  · decide
  · decide
theorem fa_bool_prop {c : Prop} [Decidable c] {r : Int32} (h : r = if c then 1 else 0) : (r = 0 ↔ ¬ c) ∧ (¬ r = 0 ↔ c) := by
  subst h
  by_cases hc : c
  · rw [if_pos hc]
    exact ⟨⟨fun h => absurd h (by decide), fun h => absurd hc h⟩, ⟨fun _ => hc, fun _ => by decide⟩⟩
  · rw [if_neg hc]
    exact ⟨⟨fun _ => hc, fun _ => rfl⟩, ⟨fun h => absurd rfl h, fun h => absurd h hc⟩⟩
/-! plain facts to paste, each family by itself; over the kit's nI, lN and upd -/
/-! ===== drawers: more things than places ===== -/
theorem fb_holes : ∀ (m n : Nat) (f : Nat → Nat), (∀ i, i < n → f i < m) → (∀ i j, i < j → j < n → f i ≠ f j) → n ≤ m := by
  intro m
  induction m with
  | zero =>
    intro n f h1 _
    rcases Nat.eq_zero_or_pos n with h | h
    · omega
    · exact absurd (h1 0 h) (Nat.not_lt_zero _)
  | succ m ih =>
    intro n f h1 h2
    by_cases hx : ∃ i, i < n ∧ f i = m
    · obtain ⟨a, ha, hfa⟩ := hx
      have hg := ih (n - 1) (fun i => if i < a then f i else f (i + 1)) (by
        intro i hi
        by_cases q : i < a
        · simp only [if_pos q]
          have b1 := h1 i (by omega)
          have b2 := h2 i a q ha
          omega
        · simp only [if_neg q]
          have b1 := h1 (i + 1) (by omega)
          have b2 := h2 a (i + 1) (by omega) (by omega)
          omega) (by
        intro i j hij hj
        by_cases q : i < a
        · by_cases r : j < a
          · simp only [if_pos q, if_pos r]
            exact h2 i j hij (by omega)
          · simp only [if_pos q, if_neg r]
            exact h2 i (j + 1) (by omega) (by omega)
        · have r : ¬ j < a := by omega
          simp only [if_neg q, if_neg r]
          exact h2 (i + 1) (j + 1) (by omega) (by omega))
      omega
    · have hg := ih n f (fun i hi => by
        have b1 := h1 i hi
        have b2 : f i ≠ m := fun e => hx ⟨i, hi, e⟩
        omega) h2
      omega
/-- two of them in one place -/
theorem fb_twice {m n : Nat} {f : Nat → Nat} (h : ∀ i, i < n → f i < m) (hm : m < n) : ∃ i j, i < j ∧ j < n ∧ f i = f j := by
  refine Classical.byContradiction fun hx => ?_
  have := fb_holes m n f h (fun i j hij hj e => hx ⟨i, j, hij, hj, e⟩)
  omega
/-- as many as places, none twice: each place is taken -/
theorem fb_onto {n : Nat} {f : Nat → Nat} (h : ∀ i, i < n → f i < n) (h2 : ∀ i j, i < j → j < n → f i ≠ f j) {y : Nat} (hy : y < n) : ∃ i, i < n ∧ f i = y := by
  refine Classical.byContradiction fun hx => ?_
  have hne : ∀ i, i < n → f i ≠ y := fun i hi e => hx ⟨i, hi, e⟩
  have := fb_holes (n - 1) n (fun i => if f i < y then f i else f i - 1) (by
    intro i hi
    have b1 := h i hi
    have b2 := hne i hi
    by_cases q : f i < y
    · simp only [if_pos q]; omega
    · simp only [if_neg q]; omega) (by
    intro i j hij hj
    have b1 := hne i (by omega)
    have b2 := hne j hj
    have b3 := h2 i j hij hj
    by_cases q : f i < y
    · by_cases r : f j < y
      · simp only [if_pos q, if_pos r]; exact b3
      · simp only [if_pos q, if_neg r]; omega
    · by_cases r : f j < y
      · simp only [if_neg q, if_pos r]; omega
      · simp only [if_neg q, if_neg r]; omega)
  omega
/-! ===== how many places have a property ===== -/
def fb_ct (p : Nat → Bool) : Nat → Nat
  | 0 => 0
  | n + 1 => fb_ct p n + (if p n then 1 else 0)
theorem fb_ct_succ (p : Nat → Bool) (n : Nat) : fb_ct p (n + 1) = fb_ct p n + (if p n then 1 else 0) := rfl
theorem fb_ct_le (p : Nat → Bool) : ∀ n, fb_ct p n ≤ n
  | 0 => Nat.le_refl _
  | n + 1 => by
    have h := fb_ct_le p n
    rw [fb_ct_succ]
    split <;> omega
theorem fb_ct_step (p : Nat → Bool) (m : Nat) : ∀ n, fb_ct p m ≤ fb_ct p (m + n)
  | 0 => Nat.le_refl _
  | n + 1 => by
    have h := fb_ct_step p m n
    show fb_ct p m ≤ fb_ct p (m + n + 1)
    rw [fb_ct_succ]
    omega
theorem fb_ct_mono (p : Nat → Bool) {m n : Nat} (h : m ≤ n) : fb_ct p m ≤ fb_ct p n := by
  have := fb_ct_step p m (n - m)
  rwa [Nat.add_sub_cancel' h] at this
theorem fb_ct_cong {p q : Nat → Bool} : ∀ {n : Nat}, (∀ k, k < n → p k = q k) → fb_ct p n = fb_ct q n
  | 0, _ => rfl
  | n + 1, h => by
    rw [fb_ct_succ, fb_ct_succ, fb_ct_cong (fun k hk => h k (by omega)), h n (by omega)]
/-- one place changed -/
theorem fb_ct_out (p : Nat → Bool) (b : Bool) {i n : Nat} (h : n ≤ i) : fb_ct (fun k => if k = i then b else p k) n = fb_ct p n :=
  fb_ct_cong fun k hk => if_neg (by omega)
theorem fb_ct_upd (p : Nat → Bool) (b : Bool) {i : Nat} : ∀ {n : Nat}, i < n → fb_ct (fun k => if k = i then b else p k) n + (if p i then 1 else 0) = fb_ct p n + (if b then 1 else 0)
  | 0, h => absurd h (Nat.not_lt_zero i)
  | n + 1, h => by
    rw [fb_ct_succ, fb_ct_succ]
    rcases Nat.lt_or_ge i n with q | q
    · have := fb_ct_upd p b q
      have e : (if n = i then b else p n) = p n := if_neg (by omega)
      rw [e]
      omega
    · have e : i = n := by omega
      subst e
      rw [fb_ct_out p b (Nat.le_refl _)]
      simp only [if_true]
      omega
theorem fb_ct_sub {p q : Nat → Bool} : ∀ {n : Nat}, (∀ k, k < n → p k = true → q k = true) → fb_ct p n ≤ fb_ct q n
  | 0, _ => Nat.le_refl _
  | n + 1, h => by
    have h1 := fb_ct_sub (n := n) (p := p) (q := q) (fun k hk => h k (by omega))
    have h2 := h n (by omega)
    rw [fb_ct_succ, fb_ct_succ]
    cases hp : p n <;> cases hq : q n <;> simp_all <;> omega
theorem fb_ct_or {p q : Nat → Bool} : ∀ {n : Nat}, (∀ k, k < n → ¬ (p k = true ∧ q k = true)) → fb_ct (fun k => p k || q k) n = fb_ct p n + fb_ct q n
  | 0, _ => rfl
  | n + 1, h => by
    have h1 := fb_ct_or (n := n) (p := p) (q := q) (fun k hk => h k (by omega))
    have h2 := h n (by omega)
    rw [fb_ct_succ, fb_ct_succ, fb_ct_succ, h1]
    cases hp : p n <;> cases hq : q n <;> simp_all <;> omega
theorem fb_ct_not (p : Nat → Bool) : ∀ n, fb_ct p n + fb_ct (fun k => !p k) n = n
  | 0 => rfl
  | n + 1 => by
    have h := fb_ct_not p n
    rw [fb_ct_succ, fb_ct_succ]
    cases p n <;> simp <;> omega
theorem fb_ct_split (p : Nat → Bool) (m : Nat) : ∀ n, fb_ct p (m + n) = fb_ct p m + fb_ct (fun k => p (m + k)) n
  | 0 => rfl
  | n + 1 => by
    have h := fb_ct_split p m n
    show fb_ct p (m + n + 1) = _
    rw [fb_ct_succ, fb_ct_succ, h, Nat.add_assoc]
theorem fb_ct_zero {p : Nat → Bool} : ∀ {n : Nat}, fb_ct p n = 0 ↔ ∀ k, k < n → p k = false
  | 0 => ⟨fun _ k hk => absurd hk (Nat.not_lt_zero k), fun _ => rfl⟩
  | n + 1 => by
    have h := fb_ct_zero (p := p) (n := n)
    rw [fb_ct_succ]
    constructor
    · intro e k hk
      have e1 : fb_ct p n = 0 := by omega
      rcases Nat.lt_or_ge k n with q | q
      · exact h.mp e1 k q
      · have ek : k = n := by omega
        subst ek
        cases hp : p k
        · rfl
        · simp [hp] at e
    · intro a
      rw [h.mpr (fun k hk => a k (by omega)), a n (by omega)]
      rfl
theorem fb_ct_pos {p : Nat → Bool} {n : Nat} : 0 < fb_ct p n ↔ ∃ k, k < n ∧ p k = true := by
  constructor
  · intro h
    refine Classical.byContradiction fun hx => ?_
    have := fb_ct_zero.mpr (fun k hk => by
      cases hp : p k
      · rfl
      · exact absurd ⟨k, hk, hp⟩ hx : ∀ k, k < n → p k = false)
    omega
  · rintro ⟨k, hk, hp⟩
    rcases Nat.eq_zero_or_pos (fb_ct p n) with e | e
    · have := fb_ct_zero.mp e k hk
      rw [this] at hp
      cases hp
    · exact e
theorem fb_ct_all {p : Nat → Bool} {n : Nat} : fb_ct p n = n ↔ ∀ k, k < n → p k = true := by
  have h := fb_ct_not p n
  constructor
  · intro e k hk
    have z : fb_ct (fun k => !p k) n = 0 := by omega
    have := fb_ct_zero.mp z k hk
    cases hp : p k
    · simp [hp] at this
    · rfl
  · intro a
    have z : fb_ct (fun k => !p k) n = 0 := fb_ct_zero.mpr (fun k hk => by simp [a k hk])
    omega
/-- the k-th place with the property -/
theorem fb_ct_kth {p : Nat → Bool} {k : Nat} : ∀ {n : Nat}, k < fb_ct p n → ∃ i, i < n ∧ p i = true ∧ fb_ct p i = k
  | 0, h => absurd h (Nat.not_lt_zero k)
  | n + 1, h => by
    rcases Nat.lt_or_ge k (fb_ct p n) with q | q
    · obtain ⟨i, h1, h2⟩ := fb_ct_kth q
      exact ⟨i, by omega, h2⟩
    · rw [fb_ct_succ] at h
      cases hp : p n
      · simp [hp] at h; omega
      · simp [hp] at h
        exact ⟨n, by omega, hp, by omega⟩
theorem fb_ct_kth_one {p : Nat → Bool} {i j : Nat} (hi : p i = true) (hj : p j = true) (e : fb_ct p i = fb_ct p j) : i = j := by
  have key : ∀ a b : Nat, a < b → p a = true → fb_ct p a < fb_ct p b := by
    intro a b hab ha
    have h := fb_ct_mono p (show a + 1 ≤ b from hab)
    rw [fb_ct_succ, ha] at h
    simp at h
    omega
  rcases Nat.lt_trichotomy i j with q | q | q
  · have := key i j q hi; omega
  · exact q
  · have := key j i q hj; omega
/-! ===== sums over a range: one place changed, parts, bounds ===== -/
def fb_sm (f : Nat → Nat) : Nat → Nat
  | 0 => 0
  | n + 1 => fb_sm f n + f n
theorem fb_sm_succ (f : Nat → Nat) (n : Nat) : fb_sm f (n + 1) = fb_sm f n + f n := rfl
theorem fb_sm_cong {f g : Nat → Nat} : ∀ {n : Nat}, (∀ k, k < n → f k = g k) → fb_sm f n = fb_sm g n
  | 0, _ => rfl
  | n + 1, h => by rw [fb_sm_succ, fb_sm_succ, fb_sm_cong (fun k hk => h k (by omega)), h n (by omega)]
theorem fb_sm_out (f : Nat → Nat) (v : Nat) {i n : Nat} (h : n ≤ i) : fb_sm (fun k => if k = i then v else f k) n = fb_sm f n :=
  fb_sm_cong fun k hk => if_neg (by omega)
theorem fb_sm_upd (f : Nat → Nat) (v : Nat) {i : Nat} : ∀ {n : Nat}, i < n → fb_sm (fun k => if k = i then v else f k) n + f i = fb_sm f n + v
  | 0, h => absurd h (Nat.not_lt_zero i)
  | n + 1, h => by
    rw [fb_sm_succ, fb_sm_succ]
    rcases Nat.lt_or_ge i n with q | q
    · have := fb_sm_upd f v q
      have e : (if n = i then v else f n) = f n := if_neg (by omega)
      rw [e]
      omega
    · have e : i = n := by omega
      subst e
      rw [fb_sm_out f v (Nat.le_refl _)]
      simp only [if_true]
      omega
theorem fb_sm_add (f g : Nat → Nat) : ∀ n, fb_sm (fun k => f k + g k) n = fb_sm f n + fb_sm g n
  | 0 => rfl
  | n + 1 => by
    have h := fb_sm_add f g n
    rw [fb_sm_succ, fb_sm_succ, fb_sm_succ, h]
    omega
theorem fb_sm_le {f g : Nat → Nat} : ∀ {n : Nat}, (∀ k, k < n → f k ≤ g k) → fb_sm f n ≤ fb_sm g n
  | 0, _ => Nat.le_refl _
  | n + 1, h => by
    have h1 := fb_sm_le (n := n) (f := f) (g := g) (fun k hk => h k (by omega))
    have h2 := h n (by omega)
    rw [fb_sm_succ, fb_sm_succ]
    omega
theorem fb_sm_const (c : Nat) : ∀ n, fb_sm (fun _ => c) n = n * c
  | 0 => by rw [Nat.zero_mul]; rfl
  | n + 1 => by rw [fb_sm_succ, fb_sm_const c n, Nat.succ_mul]
theorem fb_sm_bound {f : Nat → Nat} {c n : Nat} (h : ∀ k, k < n → f k ≤ c) : fb_sm f n ≤ n * c := by
  rw [← fb_sm_const c n]
  exact fb_sm_le h
theorem fb_sm_mono (f : Nat → Nat) (m : Nat) : ∀ n, fb_sm f m ≤ fb_sm f (m + n)
  | 0 => Nat.le_refl _
  | n + 1 => by
    have h := fb_sm_mono f m n
    show fb_sm f m ≤ fb_sm f (m + n + 1)
    rw [fb_sm_succ]
    omega
theorem fb_sm_part (f : Nat → Nat) {i n : Nat} (h : i < n) : fb_sm f i + f i ≤ fb_sm f n := by
  have := fb_sm_mono f (i + 1) (n - (i + 1))
  rw [fb_sm_succ, show i + 1 + (n - (i + 1)) = n by omega] at this
  exact this
theorem fb_sm_split (f : Nat → Nat) (m : Nat) : ∀ n, fb_sm f (m + n) = fb_sm f m + fb_sm (fun k => f (m + k)) n
  | 0 => rfl
  | n + 1 => by
    have h := fb_sm_split f m n
    show fb_sm f (m + n + 1) = _
    rw [fb_sm_succ, fb_sm_succ, h, Nat.add_assoc]
theorem fb_sm_zero {f : Nat → Nat} {n : Nat} (h : fb_sm f n = 0) : ∀ k, k < n → f k = 0 := fun k hk => by
  have := fb_sm_part f hk
  omega
/-- the same over whole numbers -/
def fb_si (f : Nat → Int) : Nat → Int
  | 0 => 0
  | n + 1 => fb_si f n + f n
theorem fb_si_succ (f : Nat → Int) (n : Nat) : fb_si f (n + 1) = fb_si f n + f n := rfl
theorem fb_si_cong {f g : Nat → Int} : ∀ {n : Nat}, (∀ k, k < n → f k = g k) → fb_si f n = fb_si g n
  | 0, _ => rfl
  | n + 1, h => by rw [fb_si_succ, fb_si_succ, fb_si_cong (fun k hk => h k (by omega)), h n (by omega)]
theorem fb_si_out (f : Nat → Int) (v : Int) {i n : Nat} (h : n ≤ i) : fb_si (fun k => if k = i then v else f k) n = fb_si f n :=
  fb_si_cong fun k hk => if_neg (by omega)
theorem fb_si_upd (f : Nat → Int) (v : Int) {i : Nat} : ∀ {n : Nat}, i < n → fb_si (fun k => if k = i then v else f k) n = fb_si f n - f i + v
  | 0, h => absurd h (Nat.not_lt_zero i)
  | n + 1, h => by
    rw [fb_si_succ, fb_si_succ]
    rcases Nat.lt_or_ge i n with q | q
    · have := fb_si_upd f v q
      have e : (if n = i then v else f n) = f n := if_neg (by omega)
      rw [e]
      omega
    · have e : i = n := by omega
      subst e
      rw [fb_si_out f v (Nat.le_refl _)]
      simp only [if_true]
      omega
theorem fb_si_add (f g : Nat → Int) : ∀ n, fb_si (fun k => f k + g k) n = fb_si f n + fb_si g n
  | 0 => rfl
  | n + 1 => by
    have h := fb_si_add f g n
    rw [fb_si_succ, fb_si_succ, fb_si_succ, h]
    omega
theorem fb_si_sub (f g : Nat → Int) : ∀ n, fb_si (fun k => f k - g k) n = fb_si f n - fb_si g n
  | 0 => rfl
  | n + 1 => by
    have h := fb_si_sub f g n
    rw [fb_si_succ, fb_si_succ, fb_si_succ, h]
    omega
theorem fb_si_mul (c : Int) (f : Nat → Int) : ∀ n, fb_si (fun k => c * f k) n = c * fb_si f n
  | 0 => (Int.mul_zero c).symm
  | n + 1 => by
    have h := fb_si_mul c f n
    rw [fb_si_succ, fb_si_succ, h, Int.mul_add]
theorem fb_si_split (f : Nat → Int) (m : Nat) : ∀ n, fb_si f (m + n) = fb_si f m + fb_si (fun k => f (m + k)) n
  | 0 => (Int.add_zero _).symm
  | n + 1 => by
    have h := fb_si_split f m n
    show fb_si f (m + n + 1) = _
    rw [fb_si_succ, fb_si_succ, h, Int.add_assoc]
theorem fb_si_nat (f : Nat → Nat) : ∀ n, fb_si (fun k => (f k : Int)) n = (fb_sm f n : Int)
  | 0 => rfl
  | n + 1 => by
    have h := fb_si_nat f n
    rw [fb_si_succ, fb_sm_succ, h]
    omega
theorem fb_si_bound {f : Nat → Int} {c : Int} (hc : 0 ≤ c) : ∀ {n : Nat}, (∀ k, k < n → -c ≤ f k ∧ f k ≤ c) → -(n * c) ≤ fb_si f n ∧ fb_si f n ≤ n * c
  | 0, _ => by simp [fb_si]
  | n + 1, h => by
    have h1 := fb_si_bound (n := n) (f := f) hc (fun k hk => h k (by omega))
    have h2 := h n (by omega)
    have e : ((n + 1 : Nat) : Int) * c = n * c + c := by rw [Int.natCast_add, Int.add_mul]; simp
    rw [fb_si_succ, e]
    omega
/-! ===== bits of a long that isn't negative ===== -/
theorem fb_andL (a b : Nat) : lN a &&& lN b = lN (a &&& b) := by
  apply Int64.toBitVec_inj.1
  show BitVec.ofNat 64 a &&& BitVec.ofNat 64 b = BitVec.ofNat 64 (a &&& b)
  apply BitVec.eq_of_getLsbD_eq
  intro i hi
  simp [hi]
theorem fb_orL (a b : Nat) : lN a ||| lN b = lN (a ||| b) := by
  apply Int64.toBitVec_inj.1
  show BitVec.ofNat 64 a ||| BitVec.ofNat 64 b = BitVec.ofNat 64 (a ||| b)
  apply BitVec.eq_of_getLsbD_eq
  intro i hi
  simp [hi]
theorem fb_xorL (a b : Nat) : lN a ^^^ lN b = lN (a ^^^ b) := by
  apply Int64.toBitVec_inj.1
  show BitVec.ofNat 64 a ^^^ BitVec.ofNat 64 b = BitVec.ofNat 64 (a ^^^ b)
  apply BitVec.eq_of_getLsbD_eq
  intro i hi
  simp [hi]
theorem fb_xorI (a b : Nat) : nI a ^^^ nI b = nI (a ^^^ b) := by
  apply Int32.toBitVec_inj.1
  show BitVec.ofNat 32 a ^^^ BitVec.ofNat 32 b = BitVec.ofNat 32 (a ^^^ b)
  apply BitVec.eq_of_getLsbD_eq
  intro i hi
  simp [hi]
theorem fb_maskL (n k : Nat) : lN n &&& lN (2 ^ k - 1) = lN (n % 2 ^ k) := by rw [fb_andL, Nat.and_two_pow_sub_one_eq_mod]
theorem fb_or_sumL {a k : Nat} (b : Nat) (h : a < 2 ^ k) : lN (2 ^ k * b) ||| lN a = lN (2 ^ k * b + a) := by rw [fb_orL, Nat.two_pow_add_eq_or_of_lt h]
theorem fb_lN_inj {a b : Nat} (ha : a < 2 ^ 63) (hb : b < 2 ^ 63) : lN a = lN b ↔ a = b := by
  constructor
  · intro h
    have h1 : (BitVec.ofNat 64 a).toNat = (BitVec.ofNat 64 b).toNat := congrArg (fun x : Int64 => x.toBitVec.toNat) h
    rw [BitVec.toNat_ofNat, BitVec.toNat_ofNat, Nat.mod_eq_of_lt (by omega), Nat.mod_eq_of_lt (by omega)] at h1
    exact h1
  · rintro rfl; rfl
theorem fb_bit_nat (n j : Nat) : n &&& 2 ^ j = 0 ↔ n.testBit j = false := by
  constructor
  · intro h
    have h1 : (n &&& 2 ^ j).testBit j = false := by rw [h]; simp
    rw [Nat.testBit_and] at h1
    simpa using h1
  · intro h
    apply Nat.eq_of_testBit_eq
    intro i
    rw [Nat.testBit_and]
    by_cases hi : j = i
    · subst hi; simp [h]
    · first | (simp [Nat.testBit_two_pow, hi]; done) | (simp [Nat.testBit_two_pow_of_ne hi]; done)
/-- one bit of a long -/
theorem fb_bitL {n j : Nat} (hj : j < 63) : lN n &&& lN (2 ^ j) = 0 ↔ n.testBit j = false := by
  have h2 : (2 : Nat) ^ j < 2 ^ 63 := Nat.pow_lt_pow_right (by decide) hj
  have hle : n &&& 2 ^ j ≤ 2 ^ j := Nat.and_le_right
  rw [fb_andL, ← fb_bit_nat, show (0 : Int64) = lN 0 from rfl]
  exact fb_lN_inj (by omega) (by decide)
/-- a bit set, a bit taken off -/
theorem fb_bit_set (n j i : Nat) : (n ||| 2 ^ j).testBit i = (n.testBit i || decide (i = j)) := by
  rw [Nat.testBit_or]
  by_cases h : j = i
  · subst h; simp
  · have h2 : ¬ i = j := fun e => h e.symm
    first | (simp [Nat.testBit_two_pow, h, h2]; done) | (simp [Nat.testBit_two_pow_of_ne h, h2]; done)
theorem fb_bit_flip (n j i : Nat) : (n ^^^ 2 ^ j).testBit i = (n.testBit i ^^ decide (i = j)) := by
  rw [Nat.testBit_xor]
  by_cases h : j = i
  · subst h; simp
  · have h2 : ¬ i = j := fun e => h e.symm
    first | (simp [Nat.testBit_two_pow, h, h2]; done) | (simp [Nat.testBit_two_pow_of_ne h, h2]; done)
/-! ===== a stretch of an array written over by a function ===== -/
def fb_put {α : Type} (f g : Nat → α) (a n : Nat) : Nat → α := fun k => if a ≤ k ∧ k < a + n then g (k - a) else f k
theorem fb_put_0 {α : Type} (f g : Nat → α) (a : Nat) : fb_put f g a 0 = f := funext fun k => if_neg (by omega)
theorem fb_put_in {α : Type} {f g : Nat → α} {a n k : Nat} (h1 : a ≤ k) (h2 : k < a + n) : fb_put f g a n k = g (k - a) := if_pos ⟨h1, h2⟩
theorem fb_put_out {α : Type} {f g : Nat → α} {a n k : Nat} (h : k < a ∨ a + n ≤ k) : fb_put f g a n k = f k := if_neg (by omega)
theorem fb_put_succ (f g : Nat → Int32) (a n : Nat) : upd (fb_put f g a n) (a + n) (g n) = fb_put f g a (n + 1) := by
  funext k
  by_cases h : k = a + n
  · subst h
    simp [upd, fb_put]
  · by_cases h1 : a ≤ k ∧ k < a + n
    · have h2 : a ≤ k ∧ k < a + (n + 1) := by omega
      simp only [upd, fb_put, if_neg h, if_pos h1, if_pos h2]
    · have h2 : ¬ (a ≤ k ∧ k < a + (n + 1)) := by omega
      simp only [upd, fb_put, if_neg h, if_neg h1, if_neg h2]
/-- .. from the far end down -/
theorem fb_put_down (f g : Nat → Int32) {a n m : Nat} (h : m < n) : upd (fb_put f (fun k => g (k + (m + 1))) (a + (m + 1)) (n - (m + 1))) (a + m) (g m) = fb_put f (fun k => g (k + m)) (a + m) (n - m) := by
  funext k
  by_cases h0 : k = a + m
  · subst h0
    simp only [upd, if_true]
    rw [fb_put_in (by omega) (by omega)]
    exact congrArg g (by omega)
  · simp only [upd, if_neg h0]
    by_cases h1 : a + (m + 1) ≤ k ∧ k < a + (m + 1) + (n - (m + 1))
    · rw [fb_put_in h1.1 h1.2, fb_put_in (by omega) (by omega)]
      exact congrArg g (by omega)
    · rw [fb_put_out (by omega), fb_put_out (by omega)]
theorem fb_put_cong {α : Type} {f f2 g g2 : Nat → α} {a n : Nat} (hf : ∀ k, (k < a ∨ a + n ≤ k) → f k = f2 k) (hg : ∀ k, k < n → g k = g2 k) : fb_put f g a n = fb_put f2 g2 a n := by
  funext k
  by_cases h : a ≤ k ∧ k < a + n
  · rw [fb_put_in h.1 h.2, fb_put_in h.1 h.2, hg _ (by omega)]
  · rw [fb_put_out (by omega), fb_put_out (by omega), hf _ (by omega)]
/-! ===== the least, the first, the best so far; that there is one alone ===== -/
theorem fb_first {p : Nat → Prop} [DecidablePred p] : ∀ {n : Nat}, (∃ i, i < n ∧ p i) → ∃ i, i < n ∧ p i ∧ ∀ j, j < i → ¬ p j
  | 0, h => by obtain ⟨i, hi, -⟩ := h; exact absurd hi (Nat.not_lt_zero i)
  | n + 1, h => by
    by_cases q : ∃ i, i < n ∧ p i
    · obtain ⟨i, h1, h2⟩ := fb_first q
      exact ⟨i, by omega, h2⟩
    · obtain ⟨i, h1, h2⟩ := h
      have e : i = n := by
        rcases Nat.lt_or_ge i n with r | r
        · exact absurd ⟨i, r, h2⟩ q
        · omega
      subst e
      exact ⟨i, by omega, h2, fun j hj hp => q ⟨j, hj, hp⟩⟩
theorem fb_first_one {p : Nat → Prop} {i j : Nat} (hi : p i) (hi2 : ∀ k, k < i → ¬ p k) (hj : p j) (hj2 : ∀ k, k < j → ¬ p k) : i = j := by
  rcases Nat.lt_trichotomy i j with q | q | q
  · exact absurd hi (hj2 i q)
  · exact q
  · exact absurd hj (hi2 j q)
theorem fb_last {p : Nat → Prop} [DecidablePred p] : ∀ {n : Nat}, (∃ i, i < n ∧ p i) → ∃ i, i < n ∧ p i ∧ ∀ j, i < j → j < n → ¬ p j
  | 0, h => by obtain ⟨i, hi, -⟩ := h; exact absurd hi (Nat.not_lt_zero i)
  | n + 1, h => by
    by_cases q : p n
    · exact ⟨n, by omega, q, fun j h1 h2 => by omega⟩
    · obtain ⟨i, h1, h2⟩ := h
      have hi : i < n := by
        rcases Nat.lt_or_ge i n with r | r
        · exact r
        · have e : i = n := by omega
          subst e
          exact absurd h2 q
      obtain ⟨i2, a1, a2, a3⟩ := fb_last (n := n) ⟨i, hi, h2⟩
      refine ⟨i2, by omega, a2, fun j b1 b2 => ?_⟩
      rcases Nat.lt_or_ge j n with r | r
      · exact a3 j b1 r
      · have e : j = n := by omega
        subst e
        exact q
/-- the first greatest -/
theorem fb_best (f : Nat → Int) : ∀ {n : Nat}, 0 < n → ∃ i, i < n ∧ (∀ j, j < n → f j ≤ f i) ∧ ∀ j, j < i → f j < f i
  | 0, h => absurd h (Nat.lt_irrefl 0)
  | 1, _ => ⟨0, by omega, fun j hj => by have e : j = 0 := by omega
                                         subst e; exact Int.le_refl _, fun j hj => absurd hj (Nat.not_lt_zero j)⟩
  | n + 2, _ => by
    obtain ⟨i, h1, h2, h3⟩ := fb_best f (n := n + 1) (by omega)
    by_cases q : f i < f (n + 1)
    · refine ⟨n + 1, by omega, fun j hj => ?_, fun j hj => ?_⟩
      · rcases Nat.lt_or_ge j (n + 1) with r | r
        · have := h2 j r; omega
        · have e : j = n + 1 := by omega
          subst e; exact Int.le_refl _
      · have := h2 j hj; omega
    · refine ⟨i, by omega, fun j hj => ?_, h3⟩
      rcases Nat.lt_or_ge j (n + 1) with r | r
      · exact h2 j r
      · have e : j = n + 1 := by omega
        subst e; omega
theorem fb_best_one {f : Nat → Int} {n i j : Nat} (hi : i < n) (hi2 : ∀ k, k < n → f k ≤ f i) (hi3 : ∀ k, k < i → f k < f i) (hj : j < n) (hj2 : ∀ k, k < n → f k ≤ f j) (hj3 : ∀ k, k < j → f k < f j) : i = j := by
  rcases Nat.lt_trichotomy i j with q | q | q
  · have a := hj3 i q
    have b := hi2 j hj
    omega
  · exact q
  · have a := hi3 j q
    have b := hj2 i hi
    omega
/-- the first least -/
theorem fb_low (f : Nat → Int) {n : Nat} (h : 0 < n) : ∃ i, i < n ∧ (∀ j, j < n → f i ≤ f j) ∧ ∀ j, j < i → f i < f j := by
  obtain ⟨i, h1, h2, h3⟩ := fb_best (fun k => -f k) h
  exact ⟨i, h1, fun j hj => by have := h2 j hj; omega, fun j hj => by have := h3 j hj; omega⟩
/-! ===== signed ints as whole numbers, within bounds ===== -/
theorem fb_rng (x : Int32) : -2147483648 ≤ x.toInt ∧ x.toInt < 2147483648 := by
  have h1 := Int32.le_toInt x
  have h2 := Int32.toInt_lt x
  omega
theorem fb_bmod {z : Int} (h1 : -2147483648 ≤ z) (h2 : z < 2147483648) : z.bmod (2 ^ 32) = z := by
  rw [Int.bmod_eq_of_le (by omega) (by omega)]
theorem fb_addI {x y : Int32} (h1 : -2147483648 ≤ x.toInt + y.toInt) (h2 : x.toInt + y.toInt < 2147483648) : (x + y).toInt = x.toInt + y.toInt := by
  rw [Int32.toInt_add, fb_bmod h1 h2]
theorem fb_subI {x y : Int32} (h1 : -2147483648 ≤ x.toInt - y.toInt) (h2 : x.toInt - y.toInt < 2147483648) : (x - y).toInt = x.toInt - y.toInt := by
  rw [Int32.toInt_sub, fb_bmod h1 h2]
theorem fb_mulI {x y : Int32} (h1 : -2147483648 ≤ x.toInt * y.toInt) (h2 : x.toInt * y.toInt < 2147483648) : (x * y).toInt = x.toInt * y.toInt := by
  rw [Int32.toInt_mul, fb_bmod h1 h2]
theorem fb_negI {x : Int32} (h : x.toInt ≠ -2147483648) : (-x).toInt = -x.toInt := by
  have := fb_rng x
  rw [Int32.toInt_neg, fb_bmod (by omega) (by omega)]
theorem fb_ofI {z : Int} (h1 : -2147483648 ≤ z) (h2 : z < 2147483648) : (Int32.ofInt z).toInt = z := by
  rw [Int32.toInt_ofInt, fb_bmod h1 h2]
theorem fb_asI (x : Int32) : Int32.ofInt x.toInt = x := Int32.ofInt_toInt x
theorem fb_rngL (x : Int64) : -9223372036854775808 ≤ x.toInt ∧ x.toInt < 9223372036854775808 := by
  have h1 := Int64.le_toInt x
  have h2 := Int64.toInt_lt x
  omega
theorem fb_bmodL {z : Int} (h1 : -9223372036854775808 ≤ z) (h2 : z < 9223372036854775808) : z.bmod (2 ^ 64) = z := by
  rw [Int.bmod_eq_of_le (by omega) (by omega)]
theorem fb_addL {x y : Int64} (h1 : -9223372036854775808 ≤ x.toInt + y.toInt) (h2 : x.toInt + y.toInt < 9223372036854775808) : (x + y).toInt = x.toInt + y.toInt := by
  rw [Int64.toInt_add, fb_bmodL h1 h2]
theorem fb_subL {x y : Int64} (h1 : -9223372036854775808 ≤ x.toInt - y.toInt) (h2 : x.toInt - y.toInt < 9223372036854775808) : (x - y).toInt = x.toInt - y.toInt := by
  rw [Int64.toInt_sub, fb_bmodL h1 h2]
theorem fb_mulL {x y : Int64} (h1 : -9223372036854775808 ≤ x.toInt * y.toInt) (h2 : x.toInt * y.toInt < 9223372036854775808) : (x * y).toInt = x.toInt * y.toInt := by
  rw [Int64.toInt_mul, fb_bmodL h1 h2]
/-! ===== cuts of what is narrow already ===== -/
theorem fb_byte {x : Int32} (h1 : -128 ≤ x.toInt) (h2 : x.toInt < 128) : x.toInt8.toInt32 = x := by
  apply Int32.toInt_inj.1
  rw [Int8.toInt_toInt32, Int32.toInt_toInt8, Int.bmod_eq_of_le (by omega) (by omega)]
theorem fb_short {x : Int32} (h1 : -32768 ≤ x.toInt) (h2 : x.toInt < 32768) : x.toInt16.toInt32 = x := by
  apply Int32.toInt_inj.1
  rw [Int16.toInt_toInt32, Int32.toInt_toInt16, Int.bmod_eq_of_le (by omega) (by omega)]
theorem fb_byte_rng (x : Int32) : -128 ≤ x.toInt8.toInt32.toInt ∧ x.toInt8.toInt32.toInt < 128 := by
  rw [Int8.toInt_toInt32]
  have h1 := Int8.le_toInt x.toInt8
  have h2 := Int8.toInt_lt x.toInt8
  omega
theorem fb_short_rng (x : Int32) : -32768 ≤ x.toInt16.toInt32.toInt ∧ x.toInt16.toInt32.toInt < 32768 := by
  rw [Int16.toInt_toInt32]
  have h1 := Int16.le_toInt x.toInt16
  have h2 := Int16.toInt_lt x.toInt16
  omega
theorem fb_byte_twice (x : Int32) : x.toInt8.toInt32.toInt8.toInt32 = x.toInt8.toInt32 := fb_byte (fb_byte_rng x).1 (fb_byte_rng x).2
theorem fb_short_twice (x : Int32) : x.toInt16.toInt32.toInt16.toInt32 = x.toInt16.toInt32 := fb_short (fb_short_rng x).1 (fb_short_rng x).2
theorem fb_char {n : Nat} (h : n < 65536) : (nI n).toUInt32.toUInt16.toUInt32.toInt32 = nI n := by
  apply Int32.toBitVec_inj.1
  apply BitVec.eq_of_toNat_eq
  have e1 : (nI n).toBitVec.toNat = n := by
    show (BitVec.ofNat 32 n).toNat = n
    rw [BitVec.toNat_ofNat, Nat.mod_eq_of_lt (by omega)]
  have e2 : ((nI n).toUInt32.toUInt16.toUInt32).toNat = n := by
    rw [UInt16.toNat_toUInt32, UInt32.toNat_toUInt16]
    show (nI n).toBitVec.toNat % 2 ^ 16 = n
    rw [e1, Nat.mod_eq_of_lt (by omega)]
  rw [e1]
  exact e2
end
section
/-! ===== contracts: what numbers may be ===== -/
set_option maxHeartbeats 4000000 in
set_option maxRecDepth 100000 in
theorem c_X7_isCorner {Z : zS} {d : Nat} {w : zW} {a : Int32} : zF Z M_X7_isCorner (d) [.int a] w [.int (if a < 0 then 0 else if 8 ≤ a then 0 else 1)] w := by
  show zG Z M_X7_isCorner (d) _ _ 0 [(0, .int a)] [] w
  refine s_iload_n dX7_isCorner_0 rfl ?_
  refine s_if_lt (tgt := 14) dX7_isCorner_1 (by decide) (fun h_1 => ?_) (fun h_1 => ?_)
  · refine s_iconst (v := 0) dX7_isCorner_14 rfl ?_
    exact s_zret dX7_isCorner_15 rfl (by first | exact Or.inl rfl | exact Or.inr rfl) ⟨by simp [h_1], rfl⟩ rfl
  · refine s_iload_n dX7_isCorner_4 rfl ?_
    refine s_bipush (v := 8) dX7_isCorner_5 rfl ?_
    refine s_icmp_ge (tgt := 14) dX7_isCorner_7 (by decide) (fun h_7 => ?_) (fun h_7 => ?_)
    · refine s_iconst (v := 0) dX7_isCorner_14 rfl ?_
      exact s_zret dX7_isCorner_15 rfl (by first | exact Or.inl rfl | exact Or.inr rfl) ⟨by simp [h_1, h_7], rfl⟩ rfl
    · refine s_iconst (v := 1) dX7_isCorner_10 rfl ?_
      refine s_goto (tgt := 15) dX7_isCorner_11 (by decide) ?_
      exact s_zret dX7_isCorner_15 rfl (by first | exact Or.inl rfl | exact Or.inr rfl) ⟨by simp [h_1, h_7], rfl⟩ rfl
set_option maxHeartbeats 4000000 in
set_option maxRecDepth 100000 in
theorem c_X7_isMove {Z : zS} {d : Nat} {w : zW} {a : Int32} : zF Z M_X7_isMove (d) [.int a] w [.int (if a < 0 then 0 else if 48 ≤ a then 0 else 1)] w := by
  show zG Z M_X7_isMove (d) _ _ 0 [(0, .int a)] [] w
  refine s_iload_n dX7_isMove_0 rfl ?_
  refine s_if_lt (tgt := 14) dX7_isMove_1 (by decide) (fun h_1 => ?_) (fun h_1 => ?_)
  · refine s_iconst (v := 0) dX7_isMove_14 rfl ?_
    exact s_zret dX7_isMove_15 rfl (by first | exact Or.inl rfl | exact Or.inr rfl) ⟨by simp [h_1], rfl⟩ rfl
  · refine s_iload_n dX7_isMove_4 rfl ?_
    refine s_bipush (v := 48) dX7_isMove_5 rfl ?_
    refine s_icmp_ge (tgt := 14) dX7_isMove_7 (by decide) (fun h_7 => ?_) (fun h_7 => ?_)
    · refine s_iconst (v := 0) dX7_isMove_14 rfl ?_
      exact s_zret dX7_isMove_15 rfl (by first | exact Or.inl rfl | exact Or.inr rfl) ⟨by simp [h_1, h_7], rfl⟩ rfl
    · refine s_iconst (v := 1) dX7_isMove_10 rfl ?_
      refine s_goto (tgt := 15) dX7_isMove_11 (by decide) ?_
      exact s_zret dX7_isMove_15 rfl (by first | exact Or.inl rfl | exact Or.inr rfl) ⟨by simp [h_1, h_7], rfl⟩ rfl
set_option maxHeartbeats 4000000 in
set_option maxRecDepth 100000 in
theorem c_X7_isTape {Z : zS} {d : Nat} {w : zW} {a : Int32} : zF Z M_X7_isTape (d) [.int a] w [.int (if a < 0 then 0 else if 6 ≤ a then 0 else 1)] w := by
  show zG Z M_X7_isTape (d) _ _ 0 [(0, .int a)] [] w
  refine s_iload_n dX7_isTape_0 rfl ?_
  refine s_if_lt (tgt := 14) dX7_isTape_1 (by decide) (fun h_1 => ?_) (fun h_1 => ?_)
  · refine s_iconst (v := 0) dX7_isTape_14 rfl ?_
    exact s_zret dX7_isTape_15 rfl (by first | exact Or.inl rfl | exact Or.inr rfl) ⟨by simp [h_1], rfl⟩ rfl
  · refine s_iload_n dX7_isTape_4 rfl ?_
    refine s_bipush (v := 6) dX7_isTape_5 rfl ?_
    refine s_icmp_ge (tgt := 14) dX7_isTape_7 (by decide) (fun h_7 => ?_) (fun h_7 => ?_)
    · refine s_iconst (v := 0) dX7_isTape_14 rfl ?_
      exact s_zret dX7_isTape_15 rfl (by first | exact Or.inl rfl | exact Or.inr rfl) ⟨by simp [h_1, h_7], rfl⟩ rfl
    · refine s_iconst (v := 1) dX7_isTape_10 rfl ?_
      refine s_goto (tgt := 15) dX7_isTape_11 (by decide) ?_
      exact s_zret dX7_isTape_15 rfl (by first | exact Or.inl rfl | exact Or.inr rfl) ⟨by simp [h_1, h_7], rfl⟩ rfl
set_option maxHeartbeats 4000000 in
set_option maxRecDepth 100000 in
theorem c_X7_isBit {Z : zS} {d : Nat} {w : zW} {a : Int32} : zF Z M_X7_isBit (d) [.int a] w [.int (if a = 0 then 1 else if a = 1 then 1 else 0)] w := by
  show zG Z M_X7_isBit (d) _ _ 0 [(0, .int a)] [] w
  refine s_iload_n dX7_isBit_0 rfl ?_
  refine s_if_eq (tgt := 9) dX7_isBit_1 (by decide) (fun h_1 => ?_) (fun h_1 => ?_)
  · refine s_iconst (v := 1) dX7_isBit_9 rfl ?_
    refine s_goto (tgt := 14) dX7_isBit_10 (by decide) ?_
    exact s_zret dX7_isBit_14 rfl (by first | exact Or.inl rfl | exact Or.inr rfl) ⟨by simp [h_1], rfl⟩ rfl
  · refine s_iload_n dX7_isBit_4 rfl ?_
    refine s_iconst (v := 1) dX7_isBit_5 rfl ?_
    refine s_icmp_ne (tgt := 13) dX7_isBit_6 (by decide) (fun h_6 => ?_) (fun h_6 => ?_)
    · refine s_iconst (v := 0) dX7_isBit_13 rfl ?_
      exact s_zret dX7_isBit_14 rfl (by first | exact Or.inl rfl | exact Or.inr rfl) ⟨by simp [h_1, h_6], rfl⟩ rfl
    · refine s_iconst (v := 1) dX7_isBit_9 rfl ?_
      refine s_goto (tgt := 14) dX7_isBit_10 (by decide) ?_
      exact s_zret dX7_isBit_14 rfl (by first | exact Or.inl rfl | exact Or.inr rfl) ⟨by simp [h_1, h_6], rfl⟩ rfl
set_option maxHeartbeats 4000000 in
set_option maxRecDepth 100000 in
theorem c_X7_isWeight {Z : zS} {d : Nat} {w : zW} {a : Int32} : zF Z M_X7_isWeight (d) [.int a] w [.int (if a < -3 then 0 else if 3 < a then 0 else 1)] w := by
  show zG Z M_X7_isWeight (d) _ _ 0 [(0, .int a)] [] w
  refine s_iload_n dX7_isWeight_0 rfl ?_
  refine s_bipush (v := (-3)) dX7_isWeight_1 rfl ?_
  refine s_icmp_lt (tgt := 15) dX7_isWeight_3 (by decide) (fun h_3 => ?_) (fun h_3 => ?_)
  · refine s_iconst (v := 0) dX7_isWeight_15 rfl ?_
    exact s_zret dX7_isWeight_16 rfl (by first | exact Or.inl rfl | exact Or.inr rfl) ⟨by simp [h_3], rfl⟩ rfl
  · refine s_iload_n dX7_isWeight_6 rfl ?_
    refine s_iconst (v := 3) dX7_isWeight_7 rfl ?_
    refine s_icmp_gt (tgt := 15) dX7_isWeight_8 (by decide) (fun h_8 => ?_) (fun h_8 => ?_)
    · refine s_iconst (v := 0) dX7_isWeight_15 rfl ?_
      exact s_zret dX7_isWeight_16 rfl (by first | exact Or.inl rfl | exact Or.inr rfl) ⟨by simp [h_3, h_8], rfl⟩ rfl
    · refine s_iconst (v := 1) dX7_isWeight_11 rfl ?_
      refine s_goto (tgt := 16) dX7_isWeight_12 (by decide) ?_
      exact s_zret dX7_isWeight_16 rfl (by first | exact Or.inl rfl | exact Or.inr rfl) ⟨by simp [h_3, h_8], rfl⟩ rfl
set_option maxHeartbeats 4000000 in
set_option maxRecDepth 100000 in
theorem c_X7_isTimes {Z : zS} {d : Nat} {w : zW} {a : Int32} : zF Z M_X7_isTimes (d) [.int a] w [.int (if a < 1 then 0 else if 3 < a then 0 else 1)] w := by
  show zG Z M_X7_isTimes (d) _ _ 0 [(0, .int a)] [] w
  refine s_iload_n dX7_isTimes_0 rfl ?_
  refine s_iconst (v := 1) dX7_isTimes_1 rfl ?_
  refine s_icmp_lt (tgt := 14) dX7_isTimes_2 (by decide) (fun h_2 => ?_) (fun h_2 => ?_)
  · refine s_iconst (v := 0) dX7_isTimes_14 rfl ?_
    exact s_zret dX7_isTimes_15 rfl (by first | exact Or.inl rfl | exact Or.inr rfl) ⟨by simp [h_2], rfl⟩ rfl
  · refine s_iload_n dX7_isTimes_5 rfl ?_
    refine s_iconst (v := 3) dX7_isTimes_6 rfl ?_
    refine s_icmp_gt (tgt := 14) dX7_isTimes_7 (by decide) (fun h_7 => ?_) (fun h_7 => ?_)
    · refine s_iconst (v := 0) dX7_isTimes_14 rfl ?_
      exact s_zret dX7_isTimes_15 rfl (by first | exact Or.inl rfl | exact Or.inr rfl) ⟨by simp [h_2, h_7], rfl⟩ rfl
    · refine s_iconst (v := 1) dX7_isTimes_10 rfl ?_
      refine s_goto (tgt := 15) dX7_isTimes_11 (by decide) ?_
      exact s_zret dX7_isTimes_15 rfl (by first | exact Or.inl rfl | exact Or.inr rfl) ⟨by simp [h_2, h_7], rfl⟩ rfl
set_option maxHeartbeats 4000000 in
set_option maxRecDepth 100000 in
theorem c_X7_isPlace {Z : zS} {d : Nat} {w : zW} {a : Int32} : zF Z M_X7_isPlace (d) [.int a] w [.int (if a < 0 then 0 else if 3 < a then 0 else 1)] w := by
  show zG Z M_X7_isPlace (d) _ _ 0 [(0, .int a)] [] w
  refine s_iload_n dX7_isPlace_0 rfl ?_
  refine s_if_lt (tgt := 13) dX7_isPlace_1 (by decide) (fun h_1 => ?_) (fun h_1 => ?_)
  · refine s_iconst (v := 0) dX7_isPlace_13 rfl ?_
    exact s_zret dX7_isPlace_14 rfl (by first | exact Or.inl rfl | exact Or.inr rfl) ⟨by simp [h_1], rfl⟩ rfl
  · refine s_iload_n dX7_isPlace_4 rfl ?_
    refine s_iconst (v := 3) dX7_isPlace_5 rfl ?_
    refine s_icmp_gt (tgt := 13) dX7_isPlace_6 (by decide) (fun h_6 => ?_) (fun h_6 => ?_)
    · refine s_iconst (v := 0) dX7_isPlace_13 rfl ?_
      exact s_zret dX7_isPlace_14 rfl (by first | exact Or.inl rfl | exact Or.inr rfl) ⟨by simp [h_1, h_6], rfl⟩ rfl
    · refine s_iconst (v := 1) dX7_isPlace_9 rfl ?_
      refine s_goto (tgt := 14) dX7_isPlace_10 (by decide) ?_
      exact s_zret dX7_isPlace_14 rfl (by first | exact Or.inl rfl | exact Or.inr rfl) ⟨by simp [h_1, h_6], rfl⟩ rfl
set_option maxHeartbeats 4000000 in
set_option maxRecDepth 100000 in
theorem c_X7_bitOf {Z : zS} {d : Nat} {w : zW} {a b : Int32} : zF Z M_X7_bitOf (d) [.int a, .int b] w [.int (a >>> (b &&& 31) &&& 1)] w := by
  show zG Z M_X7_bitOf (d) _ _ 0 [(0, .int a), (1, .int b)] [] w
  refine s_iload_n dX7_bitOf_0 rfl ?_
  refine s_iload_n dX7_bitOf_1 rfl ?_
  refine s_ishr dX7_bitOf_2 ?_
  refine s_iconst (v := 1) dX7_bitOf_3 rfl ?_
  refine s_iand dX7_bitOf_4 ?_
  exact s_iret dX7_bitOf_5 rfl ⟨rfl, rfl⟩ rfl
end
section
/-! ===== the cube: bodies as numbers below 256 ===== -/
def zb (b i : Nat) : Nat := b / 2 ^ i % 2
theorem zs_l : ∀ n, n < 32 → ((nI n &&& 31).toBitVec.smod 32).toNat = n := by decide +kernel
theorem zbit {b i : Nat} (hb : b < 2 ^ 31) (hi : i < 32) : nI b >>> (nI i &&& 31) &&& 1 = nI (zb b i) := by
  rw [pk_shrN hb _ i (zs_l i hi)]
  have h : b / 2 ^ i < 2 ^ 32 := Nat.lt_of_le_of_lt (Nat.div_le_self _ _) (by omega)
  rw [pk_andN h 1 (by decide)]
  rfl
theorem zb_lt (b i : Nat) : zb b i < 2 := Nat.mod_lt _ (by decide)
theorem zsh8 : ∀ k, k < 16 → (1 : Int32) <<< (nI k &&& 31) = nI (2 ^ k) := by decide +kernel
def pORD : List Nat := [0, 1, 2, 0, 2, 1, 1, 0, 2, 1, 2, 0, 2, 0, 1, 2, 1, 0]
def pCO (m c : Nat) : Nat := (zb c (pORD.getD (m / 8 * 3) 0) + 2 * zb c (pORD.getD (m / 8 * 3 + 1) 0) + 4 * zb c (pORD.getD (m / 8 * 3 + 2) 0)) ^^^ (m % 8)
theorem pCO_lt : ∀ m, m < 48 → ∀ c, c < 8 → pCO m c < 8 := by decide +kernel
def pIMGL (m b : Nat) : Nat → Nat → Nat → Nat
  | 0, _, a => a
  | n + 1, i, a => pIMGL m b n (i + 1) (if zb b i = 1 then a ||| 2 ^ pCO m i else a)
def pIMG (m b : Nat) : Nat := pIMGL m b 8 0 0
theorem zp8 : ∀ k, k < 8 → 2 ^ k < 256 := by decide
theorem zor8 {a b : Nat} (ha : a < 256) (hb : b < 256) : a ||| b < 256 := Nat.or_lt_two_pow (n := 8) ha hb
theorem pIMGL_lt {m b : Nat} (hm : m < 48) : ∀ (n i a : Nat), i + n = 8 → a < 256 → pIMGL m b n i a < 256
  | 0, _, _, _, h => h
  | n + 1, i, a, hi, h => by
    unfold pIMGL
    refine pIMGL_lt hm n (i + 1) _ (by omega) ?_
    by_cases c : zb b i = 1
    · rw [if_pos c]
      exact zor8 h (zp8 _ (pCO_lt m hm i (by omega)))
    · rw [if_neg c]
      exact h
theorem pIMG_lt {m : Nat} (hm : m < 48) (b : Nat) : pIMG m b < 256 := pIMGL_lt hm 8 0 0 rfl (by decide)
theorem zn1 {a : Nat} (ha : a < 2 ^ 31) : nI a = 1 ↔ a = 1 := nI_eq (b := 1) ha (by decide)
theorem c_X7_bitOfN {Z : zS} {d : Nat} {w : zW} {b i : Nat} (hb : b < 2 ^ 31) (hi : i < 32) : zF Z M_X7_bitOf d [.int (nI b), .int (nI i)] w [.int (nI (zb b i))] w := by
  rw [← zbit hb hi]
  exact c_X7_bitOf
theorem q_ord : ∀ m, m < 48 → ¬ (nI m >>> ((3 : Int32) &&& 31) * 3 < 0) ∧ (nI m >>> ((3 : Int32) &&& 31) * 3 + 2 < 18) ∧ vp_in (nI m >>> ((3 : Int32) &&& 31) * 3) 18 ∧ vp_in (nI m >>> ((3 : Int32) &&& 31) * 3 + 1) 18 ∧ vp_in (nI m >>> ((3 : Int32) &&& 31) * 3 + 2) 18 := by
  unfold vp_in
  decide +kernel
set_option maxHeartbeats 4000000 in
set_option maxRecDepth 100000 in
theorem c_X1_cornerBy {Z : zS} {d : Nat} {w : zW} {m c : Nat} (hm : m < 48) (hc : c < 8) : zF Z M_X1_cornerBy (d) [.int (nI m), .int (nI c)] w [.int (nI (pCO m c))] w := by
  show zG Z M_X1_cornerBy (d) _ _ 0 [(0, .int (nI m)), (1, .int (nI c))] [] w
  refine s_iload_n dX1_cornerBy_0 rfl ?_
  refine s_iconst (v := 3) dX1_cornerBy_1 rfl ?_
  refine s_ishr dX1_cornerBy_2 ?_
  refine s_iconst (v := 3) dX1_cornerBy_3 rfl ?_
  refine s_imul dX1_cornerBy_4 ?_
  refine s_istore_n dX1_cornerBy_5 (Nat.le_of_ble_eq_true rfl) rfl ?_
  refine s_iload_n dX1_cornerBy_6 rfl ?_
  refine s_if_lt (tgt := 20) dX1_cornerBy_7 (by decide) (fun h => absurd h (q_ord m hm).1) (fun hz => ?_)
  clear hz
  refine s_iload_n dX1_cornerBy_10 rfl ?_
  refine s_iconst (v := 2) dX1_cornerBy_11 rfl ?_
  refine s_iadd dX1_cornerBy_12 ?_
  refine s_ord dX1_cornerBy_13 (zin 238 (by decide +kernel) (by decide +kernel)) ?_
  refine s_rlen 0 18 dX1_cornerBy_16 rfl (by decide) rfl ?_
  refine s_icmp_lt (tgt := 22) dX1_cornerBy_17 (by decide) (fun hz => ?_) (fun h => absurd (q_ord m hm).2.1 h)
  clear hz
  refine s_iload_n dX1_cornerBy_22 rfl ?_
  refine s_ord dX1_cornerBy_23 (zin 238 (by decide +kernel) (by decide +kernel)) ?_
  refine s_iload_n dX1_cornerBy_26 rfl ?_
  refine s_rald (v := zORD _) 0 dX1_cornerBy_27 rfl (by decide) (q_ord m hm).2.2.1 rfl ?_
  refine s_ishr dX1_cornerBy_28 ?_
  refine s_iconst (v := 1) dX1_cornerBy_29 rfl ?_
  refine s_iand dX1_cornerBy_30 ?_
  refine s_istore_n dX1_cornerBy_31 (Nat.le_of_ble_eq_true rfl) rfl ?_
  refine s_iload_n dX1_cornerBy_32 rfl ?_
  refine s_ord dX1_cornerBy_33 (zin 238 (by decide +kernel) (by decide +kernel)) ?_
  refine s_iload_n dX1_cornerBy_36 rfl ?_
  refine s_iconst (v := 1) dX1_cornerBy_37 rfl ?_
  refine s_iadd dX1_cornerBy_38 ?_
  refine s_rald (v := zORD _) 0 dX1_cornerBy_39 rfl (by decide) (q_ord m hm).2.2.2.1 rfl ?_
  refine s_ishr dX1_cornerBy_40 ?_
  refine s_iconst (v := 1) dX1_cornerBy_41 rfl ?_
  refine s_iand dX1_cornerBy_42 ?_
  refine s_istore dX1_cornerBy_43 (Nat.le_of_ble_eq_true rfl) rfl ?_
  refine s_iload_n dX1_cornerBy_45 rfl ?_
  refine s_ord dX1_cornerBy_46 (zin 238 (by decide +kernel) (by decide +kernel)) ?_
  refine s_iload_n dX1_cornerBy_49 rfl ?_
  refine s_iconst (v := 2) dX1_cornerBy_50 rfl ?_
  refine s_iadd dX1_cornerBy_51 ?_
  refine s_rald (v := zORD _) 0 dX1_cornerBy_52 rfl (by decide) (q_ord m hm).2.2.2.2 rfl ?_
  refine s_ishr dX1_cornerBy_53 ?_
  refine s_iconst (v := 1) dX1_cornerBy_54 rfl ?_
  refine s_iand dX1_cornerBy_55 ?_
  refine s_istore dX1_cornerBy_56 (Nat.le_of_ble_eq_true rfl) rfl ?_
  refine s_iload_n dX1_cornerBy_58 rfl ?_
  refine s_iload dX1_cornerBy_59 rfl ?_
  refine s_iconst (v := 1) dX1_cornerBy_61 rfl ?_
  refine s_ishl dX1_cornerBy_62 ?_
  refine s_ior dX1_cornerBy_63 ?_
  refine s_iload dX1_cornerBy_64 rfl ?_
  refine s_iconst (v := 2) dX1_cornerBy_66 rfl ?_
  refine s_ishl dX1_cornerBy_67 ?_
  refine s_ior dX1_cornerBy_68 ?_
  refine s_iload_n dX1_cornerBy_69 rfl ?_
  refine s_bipush (v := 7) dX1_cornerBy_70 rfl ?_
  refine s_iand dX1_cornerBy_72 ?_
  refine s_ixor dX1_cornerBy_73 ?_
  exact s_iret dX1_cornerBy_74 rfl ⟨by revert hc; revert c; revert hm; revert m; decide +kernel, rfl⟩ rfl
set_option maxHeartbeats 4000000 in
set_option maxRecDepth 100000 in
theorem l_X1_imageBy {Z : zS} {d : Nat} {w : zW} {m b : Nat} (hm : m < 48) (hb : b < 256) : ∀ (n : Nat) (i a : Nat), i + n = 8 → a < 256 → zG Z M_X1_imageBy (d + 1) (fun r1 w1 => r1 = [.int (nI (pIMGL m b n i a))] ∧ w1 = w) w.length 4 [(0, .int (nI m)), (1, .int (nI b)), (2, .int (nI a)), (3, .int (nI i))] [] w := by
  intro n
  induction n with
  | zero =>
    intro i a hi ha
    have hi : i = 8 := by omega
    subst hi
    refine s_iload_n dX1_imageBy_4 rfl ?_
    refine s_bipush (v := 8) dX1_imageBy_5 rfl ?_
    refine s_icmp_ge (tgt := 35) dX1_imageBy_7 (by decide) (fun hz => ?_) (fun h => absurd (by decide) h)
    clear hz
    refine s_iload_n dX1_imageBy_35 rfl ?_
    exact s_iret dX1_imageBy_36 rfl ⟨rfl, rfl⟩ rfl
  | succ n ih =>
    intro i a hi ha
    refine s_iload_n dX1_imageBy_4 rfl ?_
    refine s_bipush (v := 8) dX1_imageBy_5 rfl ?_
    refine s_icmp_ge (tgt := 35) dX1_imageBy_7 (by decide) (fun h => absurd h (nI_ge (show i < 8 by omega) (by decide))) (fun hz => ?_)
    clear hz
    refine s_iload_n dX1_imageBy_10 rfl ?_
    refine s_iload_n dX1_imageBy_11 rfl ?_
    refine s_cs1 dX1_imageBy_12 g_X1_15 (c_X7_bitOfN (by omega) (by omega)) rfl rfl (Nat.le_of_ble_eq_true rfl) (Nat.le_of_ble_eq_true rfl) rfl ?_
    refine s_iconst (v := 1) dX1_imageBy_15 rfl ?_
    refine s_icmp_ne (tgt := 29) dX1_imageBy_16 (by decide) (fun h_16 => ?_) (fun h_16 => ?_)
    · refine s_iinc (nI (i + 1)) dX1_imageBy_29 rfl (nI_1 _) (Nat.le_of_ble_eq_true rfl) rfl ?_
      refine s_goto (tgt := 4) dX1_imageBy_32 (by decide) ?_
      first
        | (have hz : ¬ zb b i = 1 := fun e => h_16 ((zn1 (by have := zb_lt b i; omega)).mpr e)
           rw [show pIMGL m b (n + 1) i a = pIMGL m b n (i + 1) a from by rw [pIMGL, if_neg hz]]
           exact ih (i + 1) a (by omega) ha)
        | (have hz : zb b i = 1 := (zn1 (by have := zb_lt b i; omega)).mp h_16
           rw [show pIMGL m b (n + 1) i a = pIMGL m b n (i + 1) (a ||| 2 ^ pCO m i) from by rw [pIMGL, if_pos hz], zsh8 _ (Nat.lt_trans (pCO_lt m hm i (by omega)) (by decide)), fa_or]
           exact ih (i + 1) _ (by omega) (zor8 ha (zp8 _ (pCO_lt m hm i (by omega)))))
    · refine s_iload_n dX1_imageBy_19 rfl ?_
      refine s_iconst (v := 1) dX1_imageBy_20 rfl ?_
      refine s_iload_n dX1_imageBy_21 rfl ?_
      refine s_iload_n dX1_imageBy_22 rfl ?_
      refine s_cs1 dX1_imageBy_23 g_X1_19 (c_X1_cornerBy hm (by omega)) rfl rfl (Nat.le_of_ble_eq_true rfl) (Nat.le_of_ble_eq_true rfl) rfl ?_
      refine s_ishl dX1_imageBy_26 ?_
      refine s_ior dX1_imageBy_27 ?_
      refine s_istore_n dX1_imageBy_28 (Nat.le_of_ble_eq_true rfl) rfl ?_
      refine s_iinc (nI (i + 1)) dX1_imageBy_29 rfl (nI_1 _) (Nat.le_of_ble_eq_true rfl) rfl ?_
      refine s_goto (tgt := 4) dX1_imageBy_32 (by decide) ?_
      first
        | (have hz : ¬ zb b i = 1 := fun e => h_16 ((zn1 (by have := zb_lt b i; omega)).mpr e)
           rw [show pIMGL m b (n + 1) i a = pIMGL m b n (i + 1) a from by rw [pIMGL, if_neg hz]]
           exact ih (i + 1) a (by omega) ha)
        | (have hz : zb b i = 1 := (zn1 (by have := zb_lt b i; omega)).mp h_16
           rw [show pIMGL m b (n + 1) i a = pIMGL m b n (i + 1) (a ||| 2 ^ pCO m i) from by rw [pIMGL, if_pos hz], zsh8 _ (Nat.lt_trans (pCO_lt m hm i (by omega)) (by decide)), fa_or]
           exact ih (i + 1) _ (by omega) (zor8 ha (zp8 _ (pCO_lt m hm i (by omega)))))
set_option maxHeartbeats 4000000 in
set_option maxRecDepth 100000 in
theorem c_X1_imageBy {Z : zS} {d : Nat} {w : zW} {m b : Nat} (hm : m < 48) (hb : b < 256) : zF Z M_X1_imageBy (d + 1) [.int (nI m), .int (nI b)] w [.int (nI (pIMG m b))] w := by
  show zG Z M_X1_imageBy (d + 1) _ _ 0 [(0, .int (nI m)), (1, .int (nI b))] [] w
  refine s_iconst (v := 0) dX1_imageBy_0 rfl ?_
  refine s_istore_n dX1_imageBy_1 (Nat.le_of_ble_eq_true rfl) rfl ?_
  refine s_iconst (v := 0) dX1_imageBy_2 rfl ?_
  refine s_istore_n dX1_imageBy_3 (Nat.le_of_ble_eq_true rfl) rfl ?_
  exact l_X1_imageBy hm hb 8 0 0 rfl (by decide)
end
section
/-! ===== the cube: forms, classes, moves counted ===== -/
def zus (x y : Int32) : Int32 := (x.toUInt32 >>> (y.toUInt32 &&& Int32.toUInt32 31)).toInt32
def zBC1 (x : Int32) : Int32 := x - (zus x 1 &&& 1431655765)
def zBC2 (x : Int32) : Int32 := (x &&& 858993459) + (zus x 2 &&& 858993459)
def zBC3 (x : Int32) : Int32 := (x + zus x 4) &&& 252645135
def zBC4 (x : Int32) : Int32 := x + zus x 8
def zBC5 (x : Int32) : Int32 := x + zus x 16
def zBC (x : Int32) : Int32 := zBC5 (zBC4 (zBC3 (zBC2 (zBC1 x)))) &&& 63
def pPOP (b : Nat) : Nat := zb b 0 + zb b 1 + zb b 2 + zb b 3 + zb b 4 + zb b 5 + zb b 6 + zb b 7
theorem q_pop : ∀ b, b < 256 → zBC (nI b) = nI (pPOP b) := by decide +kernel
theorem pPOP_le (b : Nat) : pPOP b ≤ 8 := by
  unfold pPOP
  have h0 := zb_lt b 0
  have h1 := zb_lt b 1
  have h2 := zb_lt b 2
  have h3 := zb_lt b 3
  have h4 := zb_lt b 4
  have h5 := zb_lt b 5
  have h6 := zb_lt b 6
  have h7 := zb_lt b 7
  omega
theorem zmin {x y : Nat} (hx : x < 2 ^ 31) (hy : y < 2 ^ 31) : (if nI y < nI x then nI y else nI x) = nI (if y < x then y else x) := by
  by_cases h : y < x
  · rw [if_pos h, if_pos ((nI_ltI hy hx).mpr h)]
  · rw [if_neg h, if_neg (fun z => h ((nI_ltI hy hx).mp z))]
def pFORL (b : Nat) : Nat → Nat → Nat → Nat
  | 0, _, a => a
  | n + 1, i, a => pFORL b n (i + 1) (if pIMG i b < a then pIMG i b else a)
def pFOR (b : Nat) : Nat := pFORL b 48 0 b
theorem pFORL_le (b : Nat) : ∀ (n i a : Nat), pFORL b n i a ≤ a
  | 0, _, _ => Nat.le_refl _
  | n + 1, i, a => by
    unfold pFORL
    refine Nat.le_trans (pFORL_le b n (i + 1) _) ?_
    by_cases h : pIMG i b < a
    · rw [if_pos h]; exact Nat.le_of_lt h
    · rw [if_neg h]; exact Nat.le_refl _
theorem zite {c : Prop} [Decidable c] {x a n : Nat} (hx : x < n) (ha : a < n) : (if c then x else a) < n := by
  by_cases h : c
  · rw [if_pos h]; exact hx
  · rw [if_neg h]; exact ha
theorem pFOR_lt {b : Nat} (hb : b < 256) : pFOR b < 256 := Nat.lt_of_le_of_lt (pFORL_le b 48 0 b) hb
set_option maxHeartbeats 4000000 in
set_option maxRecDepth 100000 in
theorem c_J6_bitCount_0f7a4 {Z : zS} {d : Nat} {w : zW} {x : Int32} : zF Z M_J6_bitCount_0f7a4 (d) [.int x] w [.int (zBC x)] w := by
  show zG Z M_J6_bitCount_0f7a4 (d) _ _ 0 [(0, .int x)] [] w
  refine s_iload_n dJ6_bitCount_0f7a4_0 rfl ?_
  refine s_iload_n dJ6_bitCount_0f7a4_1 rfl ?_
  refine s_iconst (v := 1) dJ6_bitCount_0f7a4_2 rfl ?_
  refine s_iushr dJ6_bitCount_0f7a4_3 rfl ?_
  refine s_ldcw (v := (1431655765)) dJ6_bitCount_0f7a4_4 (zin 319 (by decide +kernel) (by decide +kernel)) ?_
  refine s_iand dJ6_bitCount_0f7a4_7 ?_
  refine s_isub dJ6_bitCount_0f7a4_8 ?_
  refine s_istore_n dJ6_bitCount_0f7a4_9 (Nat.le_of_ble_eq_true rfl) rfl ?_
  refine s_iload_n dJ6_bitCount_0f7a4_10 rfl ?_
  refine s_ldcw (v := (858993459)) dJ6_bitCount_0f7a4_11 (zin 320 (by decide +kernel) (by decide +kernel)) ?_
  refine s_iand dJ6_bitCount_0f7a4_14 ?_
  refine s_iload_n dJ6_bitCount_0f7a4_15 rfl ?_
  refine s_iconst (v := 2) dJ6_bitCount_0f7a4_16 rfl ?_
  refine s_iushr dJ6_bitCount_0f7a4_17 rfl ?_
  refine s_ldcw (v := (858993459)) dJ6_bitCount_0f7a4_18 (zin 320 (by decide +kernel) (by decide +kernel)) ?_
  refine s_iand dJ6_bitCount_0f7a4_21 ?_
  refine s_iadd dJ6_bitCount_0f7a4_22 ?_
  refine s_istore_n dJ6_bitCount_0f7a4_23 (Nat.le_of_ble_eq_true rfl) rfl ?_
  refine s_iload_n dJ6_bitCount_0f7a4_24 rfl ?_
  refine s_iload_n dJ6_bitCount_0f7a4_25 rfl ?_
  refine s_iconst (v := 4) dJ6_bitCount_0f7a4_26 rfl ?_
  refine s_iushr dJ6_bitCount_0f7a4_27 rfl ?_
  refine s_iadd dJ6_bitCount_0f7a4_28 ?_
  refine s_ldcw (v := (252645135)) dJ6_bitCount_0f7a4_29 (zin 321 (by decide +kernel) (by decide +kernel)) ?_
  refine s_iand dJ6_bitCount_0f7a4_32 ?_
  refine s_istore_n dJ6_bitCount_0f7a4_33 (Nat.le_of_ble_eq_true rfl) rfl ?_
  refine s_iload_n dJ6_bitCount_0f7a4_34 rfl ?_
  refine s_iload_n dJ6_bitCount_0f7a4_35 rfl ?_
  refine s_bipush (v := 8) dJ6_bitCount_0f7a4_36 rfl ?_
  refine s_iushr dJ6_bitCount_0f7a4_38 rfl ?_
  refine s_iadd dJ6_bitCount_0f7a4_39 ?_
  refine s_istore_n dJ6_bitCount_0f7a4_40 (Nat.le_of_ble_eq_true rfl) rfl ?_
  refine s_iload_n dJ6_bitCount_0f7a4_41 rfl ?_
  refine s_iload_n dJ6_bitCount_0f7a4_42 rfl ?_
  refine s_bipush (v := 16) dJ6_bitCount_0f7a4_43 rfl ?_
  refine s_iushr dJ6_bitCount_0f7a4_45 rfl ?_
  refine s_iadd dJ6_bitCount_0f7a4_46 ?_
  refine s_istore_n dJ6_bitCount_0f7a4_47 (Nat.le_of_ble_eq_true rfl) rfl ?_
  refine s_iload_n dJ6_bitCount_0f7a4_48 rfl ?_
  refine s_bipush (v := 63) dJ6_bitCount_0f7a4_49 rfl ?_
  refine s_iand dJ6_bitCount_0f7a4_51 ?_
  exact s_iret dJ6_bitCount_0f7a4_52 rfl ⟨rfl, rfl⟩ rfl
theorem c_bcN {Z : zS} {d : Nat} {w : zW} {b : Nat} (hb : b < 256) : zF Z M_J6_bitCount_0f7a4 d [.int (nI b)] w [.int (nI (pPOP b))] w := by
  rw [← q_pop b hb]
  exact c_J6_bitCount_0f7a4
set_option maxHeartbeats 4000000 in
set_option maxRecDepth 100000 in
theorem l_X1_formOf {Z : zS} {d : Nat} {w : zW} {b : Nat} (hb : b < 256) : ∀ (n : Nat) (i a : Nat), i + n = 48 → a < 256 → zG Z M_X1_formOf (d + 2) (fun r1 w1 => r1 = [.int (nI (pFORL b n i a))] ∧ w1 = w) w.length 4 [(0, .int (nI b)), (1, .int (nI a)), (2, .int (nI i))] [] w := by
  intro n
  induction n with
  | zero =>
    intro i a hi ha
    have hi : i = 48 := by omega
    subst hi
    refine s_iload_n dX1_formOf_4 rfl ?_
    refine s_bipush (v := 48) dX1_formOf_5 rfl ?_
    refine s_icmp_ge (tgt := 26) dX1_formOf_7 (by decide) (fun hz => ?_) (fun h => absurd (by decide) h)
    clear hz
    refine s_iload_n dX1_formOf_26 rfl ?_
    exact s_iret dX1_formOf_27 rfl ⟨rfl, rfl⟩ rfl
  | succ n ih =>
    intro i a hi ha
    have hm : i < 48 := by omega
    have hp := pIMG_lt hm b
    refine s_iload_n dX1_formOf_4 rfl ?_
    refine s_bipush (v := 48) dX1_formOf_5 rfl ?_
    refine s_icmp_ge (tgt := 26) dX1_formOf_7 (by decide) (fun h => absurd h (nI_ge hm (by decide))) (fun hz => ?_)
    clear hz
    refine s_iload_n dX1_formOf_10 rfl ?_
    refine s_iload_n dX1_formOf_11 rfl ?_
    refine s_iload_n dX1_formOf_12 rfl ?_
    refine s_cs1 dX1_formOf_13 g_X1_22 (c_X1_imageBy hm hb) rfl rfl (Nat.le_of_ble_eq_true rfl) (Nat.le_of_ble_eq_true rfl) rfl ?_
    refine s_min dX1_formOf_16 (zin 252 (by decide +kernel) (by decide +kernel)) (zin 253 (by decide +kernel) (by decide +kernel)) (zin 67 (by decide +kernel) (by decide +kernel)) (zin 254 (by decide +kernel) (by decide +kernel)) (Nat.le_of_ble_eq_true rfl) ?_
    refine s_istore_n dX1_formOf_19 (Nat.le_of_ble_eq_true rfl) rfl ?_
    refine s_iinc (nI (i + 1)) dX1_formOf_20 rfl (nI_1 _) (Nat.le_of_ble_eq_true rfl) rfl ?_
    refine s_goto (tgt := 4) dX1_formOf_23 (by decide) ?_
    rw [zmin (by omega) (by omega)]
    exact ih (i + 1) _ (by omega) (zite hp ha)
set_option maxHeartbeats 4000000 in
set_option maxRecDepth 100000 in
theorem c_X1_formOf {Z : zS} {d : Nat} {w : zW} {b : Nat} (hb : b < 256) : zF Z M_X1_formOf (d + 2) [.int (nI b)] w [.int (nI (pFOR b))] w := by
  show zG Z M_X1_formOf (d + 2) _ _ 0 [(0, .int (nI b))] [] w
  refine s_iload_n dX1_formOf_0 rfl ?_
  refine s_istore_n dX1_formOf_1 (Nat.le_of_ble_eq_true rfl) rfl ?_
  refine s_iconst (v := 0) dX1_formOf_2 rfl ?_
  refine s_istore_n dX1_formOf_3 (Nat.le_of_ble_eq_true rfl) rfl ?_
  exact l_X1_formOf hb 48 0 b rfl hb
def pCLSL (f : Int32) : Nat → Nat → Int32
  | 0, _ => -1
  | n + 1, i => if zFRM i = f then nI i else pCLSL f n (i + 1)
def pFORMS : List Nat := [0, 1, 3, 6, 7, 15, 22, 23, 24, 25, 27, 30, 31, 60, 61, 63, 105, 107, 111, 126, 127, 255]
def pNUM (b : Nat) : Nat := pFORMS.idxOf (pFOR b)
theorem q_cls : ∀ b, b < 256 → pCLSL (nI (pFOR b)) 22 0 = nI (pNUM b) := by decide +kernel
theorem zrd {i n : Nat} (h : i < n) (hn : n < 2 ^ 31) : vp_in (nI i) n := vp_in_nI h hn
set_option maxHeartbeats 4000000 in
set_option maxRecDepth 100000 in
theorem l_X1_classOf {Z : zS} {d : Nat} {w : zW} {b : Nat} {f : Int32} : ∀ (n : Nat) (i : Nat), i + n = 22 → zG Z M_X1_classOf (d + 3) (fun r1 w1 => r1 = [.int (pCLSL f n i)] ∧ w1 = w) w.length 7 [(0, .int (nI b)), (1, .int f), (2, .int (nI i))] [] w := by
  intro n
  induction n with
  | zero =>
    intro i hi
    have hi : i = 22 := by omega
    subst hi
    refine s_iload_n dX1_classOf_7 rfl ?_
    refine s_frm dX1_classOf_8 (Or.inl (zin 327 (by decide +kernel) (by decide +kernel))) ?_
    refine s_rlen 1 22 dX1_classOf_11 rfl (by decide) rfl ?_
    refine s_icmp_ge (tgt := 32) dX1_classOf_12 (by decide) (fun hz => ?_) (fun h => absurd (by decide) h)
    clear hz
    refine s_iconst (v := (-1)) dX1_classOf_32 rfl ?_
    exact s_iret dX1_classOf_33 rfl ⟨rfl, rfl⟩ rfl
  | succ n ih =>
    intro i hi
    have hm : i < 22 := by omega
    refine s_iload_n dX1_classOf_7 rfl ?_
    refine s_frm dX1_classOf_8 (Or.inl (zin 327 (by decide +kernel) (by decide +kernel))) ?_
    refine s_rlen 1 22 dX1_classOf_11 rfl (by decide) rfl ?_
    refine s_icmp_ge (tgt := 32) dX1_classOf_12 (by decide) (fun h => absurd h (nI_ge hm (by decide))) (fun hz => ?_)
    clear hz
    refine s_frm dX1_classOf_15 (Or.inl (zin 327 (by decide +kernel) (by decide +kernel))) ?_
    refine s_iload_n dX1_classOf_18 rfl ?_
    refine s_rald (v := zFRM _) 1 dX1_classOf_19 rfl (by decide) (zrd (n := 22) hm (by decide)) rfl ?_
    refine s_iload_n dX1_classOf_20 rfl ?_
    refine s_icmp_ne (tgt := 26) dX1_classOf_21 (by decide) (fun h_21 => ?_) (fun h_21 => ?_)
    · refine s_iinc (nI (i + 1)) dX1_classOf_26 rfl (nI_1 _) (Nat.le_of_ble_eq_true rfl) rfl ?_
      refine s_goto (tgt := 7) dX1_classOf_29 (by decide) ?_
      rw [show pCLSL f (n + 1) i = pCLSL f n (i + 1) from by rw [pCLSL, if_neg (fun z => h_21 (by rw [nI_clamp (by omega)]; exact z))]]
      exact ih (i + 1) (by omega)
    · refine s_iload_n dX1_classOf_24 rfl ?_
      exact s_iret dX1_classOf_25 rfl ⟨by rw [pCLSL, if_pos (by rw [nI_clamp (by omega)] at h_21; exact h_21)], rfl⟩ rfl
set_option maxHeartbeats 4000000 in
set_option maxRecDepth 100000 in
theorem c_X1_classOf {Z : zS} {d : Nat} {w : zW} {b : Nat} (hb : b < 256) : zF Z M_X1_classOf (d + 3) [.int (nI b)] w [.int (nI (pNUM b))] w := by
  show zG Z M_X1_classOf (d + 3) _ _ 0 [(0, .int (nI b))] [] w
  rw [← q_cls b hb]
  refine s_iload_n dX1_classOf_0 rfl ?_
  refine s_cs1 dX1_classOf_1 g_X1_30 (c_X1_formOf hb) rfl rfl (Nat.le_of_ble_eq_true rfl) (Nat.le_of_ble_eq_true rfl) rfl ?_
  refine s_istore_n dX1_classOf_4 (Nat.le_of_ble_eq_true rfl) rfl ?_
  refine s_iconst (v := 0) dX1_classOf_5 rfl ?_
  refine s_istore_n dX1_classOf_6 (Nat.le_of_ble_eq_true rfl) rfl ?_
  exact l_X1_classOf 22 0 rfl
def pCWL (k : Int32) : Nat → Nat → Int32 → Int32
  | 0, _, a => a
  | n + 1, i, a => pCWL k n (i + 1) (if zBC (zFRM i) = k then a + 1 else a)
set_option maxHeartbeats 4000000 in
set_option maxRecDepth 100000 in
theorem l_X1_classesWith {Z : zS} {d : Nat} {w : zW} {k : Int32} : ∀ (n : Nat) (i : Nat) (a : Int32), i + n = 22 → zG Z M_X1_classesWith (d + 1) (fun r1 w1 => r1 = [.int (pCWL k n i a)] ∧ w1 = w) w.length 4 [(0, .int k), (1, .int a), (2, .int (nI i))] [] w := by
  intro n
  induction n with
  | zero =>
    intro i a hi
    have hi : i = 22 := by omega
    subst hi
    refine s_iload_n dX1_classesWith_4 rfl ?_
    refine s_frm dX1_classesWith_5 (Or.inl (zin 327 (by decide +kernel) (by decide +kernel))) ?_
    refine s_rlen 1 22 dX1_classesWith_8 rfl (by decide) rfl ?_
    refine s_icmp_ge (tgt := 33) dX1_classesWith_9 (by decide) (fun hz => ?_) (fun h => absurd (by decide) h)
    clear hz
    refine s_iload_n dX1_classesWith_33 rfl ?_
    exact s_iret dX1_classesWith_34 rfl ⟨rfl, rfl⟩ rfl
  | succ n ih =>
    intro i a hi
    have hm : i < 22 := by omega
    refine s_iload_n dX1_classesWith_4 rfl ?_
    refine s_frm dX1_classesWith_5 (Or.inl (zin 327 (by decide +kernel) (by decide +kernel))) ?_
    refine s_rlen 1 22 dX1_classesWith_8 rfl (by decide) rfl ?_
    refine s_icmp_ge (tgt := 33) dX1_classesWith_9 (by decide) (fun h => absurd h (nI_ge hm (by decide))) (fun hz => ?_)
    clear hz
    refine s_frm dX1_classesWith_12 (Or.inl (zin 327 (by decide +kernel) (by decide +kernel))) ?_
    refine s_iload_n dX1_classesWith_15 rfl ?_
    refine s_rald (v := zFRM _) 1 dX1_classesWith_16 rfl (by decide) (zrd (n := 22) hm (by decide)) rfl ?_
    refine s_cs1 dX1_classesWith_17 g_X1_37 (c_J6_bitCount_0f7a4) rfl rfl (Nat.le_of_ble_eq_true rfl) (Nat.le_of_ble_eq_true rfl) rfl ?_
    refine s_iload_n dX1_classesWith_20 rfl ?_
    refine s_icmp_ne (tgt := 27) dX1_classesWith_21 (by decide) (fun h_21 => ?_) (fun h_21 => ?_)
    · refine s_iinc (nI (i + 1)) dX1_classesWith_27 rfl (nI_1 _) (Nat.le_of_ble_eq_true rfl) rfl ?_
      refine s_goto (tgt := 4) dX1_classesWith_30 (by decide) ?_
      first
        | (rw [nI_clamp (by omega)] at h_21
           rw [show pCWL k (n + 1) i a = pCWL k n (i + 1) (a + 1) from by rw [pCWL, if_pos h_21]]
           exact ih (i + 1) _ (by omega))
        | (rw [nI_clamp (by omega)] at h_21
           rw [show pCWL k (n + 1) i a = pCWL k n (i + 1) a from by rw [pCWL, if_neg h_21]]
           exact ih (i + 1) _ (by omega))
    · refine s_iinc (_ + 1) dX1_classesWith_24 rfl rfl (Nat.le_of_ble_eq_true rfl) rfl ?_
      refine s_iinc (nI (i + 1)) dX1_classesWith_27 rfl (nI_1 _) (Nat.le_of_ble_eq_true rfl) rfl ?_
      refine s_goto (tgt := 4) dX1_classesWith_30 (by decide) ?_
      first
        | (rw [nI_clamp (by omega)] at h_21
           rw [show pCWL k (n + 1) i a = pCWL k n (i + 1) (a + 1) from by rw [pCWL, if_pos h_21]]
           exact ih (i + 1) _ (by omega))
        | (rw [nI_clamp (by omega)] at h_21
           rw [show pCWL k (n + 1) i a = pCWL k n (i + 1) a from by rw [pCWL, if_neg h_21]]
           exact ih (i + 1) _ (by omega))
set_option maxHeartbeats 4000000 in
set_option maxRecDepth 100000 in
theorem c_X1_classesWith {Z : zS} {d : Nat} {w : zW} {k : Int32} : zF Z M_X1_classesWith (d + 1) [.int k] w [.int (pCWL k 22 0 0)] w := by
  show zG Z M_X1_classesWith (d + 1) _ _ 0 [(0, .int k)] [] w
  refine s_iconst (v := 0) dX1_classesWith_0 rfl ?_
  refine s_istore_n dX1_classesWith_1 (Nat.le_of_ble_eq_true rfl) rfl ?_
  refine s_iconst (v := 0) dX1_classesWith_2 rfl ?_
  refine s_istore_n dX1_classesWith_3 (Nat.le_of_ble_eq_true rfl) rfl ?_
  exact l_X1_classesWith 22 0 0 rfl
def pSTL (b : Nat) : Nat → Nat → Nat → Nat
  | 0, _, a => a
  | n + 1, i, a => pSTL b n (i + 1) (if pIMG i b = b then a + 1 else a)
def pSTI (b : Nat) : Nat := pSTL b 48 0 0
set_option maxHeartbeats 4000000 in
set_option maxRecDepth 100000 in
theorem l_X1_stillMoves {Z : zS} {d : Nat} {w : zW} {b : Nat} (hb : b < 256) : ∀ (n : Nat) (i a : Nat), i + n = 48 → zG Z M_X1_stillMoves (d + 2) (fun r1 w1 => r1 = [.int (nI (pSTL b n i a))] ∧ w1 = w) w.length 4 [(0, .int (nI b)), (1, .int (nI a)), (2, .int (nI i))] [] w := by
  intro n
  induction n with
  | zero =>
    intro i a hi
    have hi : i = 48 := by omega
    subst hi
    refine s_iload_n dX1_stillMoves_4 rfl ?_
    refine s_bipush (v := 48) dX1_stillMoves_5 rfl ?_
    refine s_icmp_ge (tgt := 28) dX1_stillMoves_7 (by decide) (fun hz => ?_) (fun h => absurd (by decide) h)
    clear hz
    refine s_iload_n dX1_stillMoves_28 rfl ?_
    exact s_iret dX1_stillMoves_29 rfl ⟨rfl, rfl⟩ rfl
  | succ n ih =>
    intro i a hi
    have hm : i < 48 := by omega
    have hp := pIMG_lt hm b
    have hq := nI_eq (a := pIMG i b) (b := b) (by omega) (by omega)
    refine s_iload_n dX1_stillMoves_4 rfl ?_
    refine s_bipush (v := 48) dX1_stillMoves_5 rfl ?_
    refine s_icmp_ge (tgt := 28) dX1_stillMoves_7 (by decide) (fun h => absurd h (nI_ge hm (by decide))) (fun hz => ?_)
    clear hz
    refine s_iload_n dX1_stillMoves_10 rfl ?_
    refine s_iload_n dX1_stillMoves_11 rfl ?_
    refine s_cs1 dX1_stillMoves_12 g_X1_22 (c_X1_imageBy hm hb) rfl rfl (Nat.le_of_ble_eq_true rfl) (Nat.le_of_ble_eq_true rfl) rfl ?_
    refine s_iload_n dX1_stillMoves_15 rfl ?_
    refine s_icmp_ne (tgt := 22) dX1_stillMoves_16 (by decide) (fun h_16 => ?_) (fun h_16 => ?_)
    · refine s_iinc (nI (i + 1)) dX1_stillMoves_22 rfl (nI_1 _) (Nat.le_of_ble_eq_true rfl) rfl ?_
      refine s_goto (tgt := 4) dX1_stillMoves_25 (by decide) ?_
      first
        | (rw [show pSTL b (n + 1) i a = pSTL b n (i + 1) (a + 1) from by rw [pSTL, if_pos (hq.mp h_16)]]
           exact ih (i + 1) (a + 1) (by omega))
        | (rw [show pSTL b (n + 1) i a = pSTL b n (i + 1) a from by rw [pSTL, if_neg (fun z => h_16 (hq.mpr z))]]
           exact ih (i + 1) a (by omega))
    · refine s_iinc (nI (a + 1)) dX1_stillMoves_19 rfl (nI_1 _) (Nat.le_of_ble_eq_true rfl) rfl ?_
      refine s_iinc (nI (i + 1)) dX1_stillMoves_22 rfl (nI_1 _) (Nat.le_of_ble_eq_true rfl) rfl ?_
      refine s_goto (tgt := 4) dX1_stillMoves_25 (by decide) ?_
      first
        | (rw [show pSTL b (n + 1) i a = pSTL b n (i + 1) (a + 1) from by rw [pSTL, if_pos (hq.mp h_16)]]
           exact ih (i + 1) (a + 1) (by omega))
        | (rw [show pSTL b (n + 1) i a = pSTL b n (i + 1) a from by rw [pSTL, if_neg (fun z => h_16 (hq.mpr z))]]
           exact ih (i + 1) a (by omega))
set_option maxHeartbeats 4000000 in
set_option maxRecDepth 100000 in
theorem c_X1_stillMoves {Z : zS} {d : Nat} {w : zW} {b : Nat} (hb : b < 256) : zF Z M_X1_stillMoves (d + 2) [.int (nI b)] w [.int (nI (pSTI b))] w := by
  show zG Z M_X1_stillMoves (d + 2) _ _ 0 [(0, .int (nI b))] [] w
  refine s_iconst (v := 0) dX1_stillMoves_0 rfl ?_
  refine s_istore_n dX1_stillMoves_1 (Nat.le_of_ble_eq_true rfl) rfl ?_
  refine s_iconst (v := 0) dX1_stillMoves_2 rfl ?_
  refine s_istore_n dX1_stillMoves_3 (Nat.le_of_ble_eq_true rfl) rfl ?_
  exact l_X1_stillMoves hb 48 0 0 rfl
theorem q_uli : ∀ b, b < 256 → pSTI b ≠ 0 ∧ ¬ nI (pSTI b) = 0 ∧ 48 / nI (pSTI b) = nI (48 / pSTI b) := by decide +kernel
set_option maxHeartbeats 4000000 in
set_option maxRecDepth 100000 in
theorem c_X1_unlikeImages {Z : zS} {d : Nat} {w : zW} {b : Nat} (hb : b < 256) : zF Z M_X1_unlikeImages (d + 3) [.int (nI b)] w [.int (nI (48 / pSTI b))] w := by
  show zG Z M_X1_unlikeImages (d + 3) _ _ 0 [(0, .int (nI b))] [] w
  refine s_iload_n dX1_unlikeImages_0 rfl ?_
  refine s_cs1 dX1_unlikeImages_1 g_X1_42 (c_X1_stillMoves hb) rfl rfl (Nat.le_of_ble_eq_true rfl) (Nat.le_of_ble_eq_true rfl) rfl ?_
  refine s_istore_n dX1_unlikeImages_4 (Nat.le_of_ble_eq_true rfl) rfl ?_
  refine s_iload_n dX1_unlikeImages_5 rfl ?_
  refine s_if_ne (tgt := 14) dX1_unlikeImages_6 (by decide) (fun hz => ?_) (fun h => absurd h (q_uli b hb).2.1)
  clear hz
  refine s_bipush (v := 48) dX1_unlikeImages_14 rfl ?_
  refine s_iload_n dX1_unlikeImages_16 rfl ?_
  refine s_idiv dX1_unlikeImages_17 (q_uli b hb).2.1 ?_
  exact s_iret dX1_unlikeImages_18 rfl ⟨by rw [(q_uli b hb).2.2], rfl⟩ rfl
def pDSL (b k : Nat) : Nat → Nat → Nat → Nat
  | 0, _, a => a
  | n + 1, i, a => pDSL b k n (i + 1) (if pPOP (pIMG i b ^^^ k) < a then pPOP (pIMG i b ^^^ k) else a)
theorem zxor8 {a b : Nat} (ha : a < 256) (hb : b < 256) : a ^^^ b < 256 := Nat.xor_lt_two_pow (n := 8) ha hb
theorem zand8 {a b : Nat} (ha : a < 256) : a &&& b < 256 := Nat.lt_of_le_of_lt Nat.and_le_left ha
set_option maxHeartbeats 4000000 in
set_option maxRecDepth 100000 in
theorem l_X1_distance {Z : zS} {d : Nat} {w : zW} {b k : Nat} (hb : b < 256) (hk : k < 256) : ∀ (n : Nat) (i a : Nat), i + n = 48 → a < 256 → zG Z M_X1_distance (d + 2) (fun r1 w1 => r1 = [.int (nI (pDSL b k n i a))] ∧ w1 = w) w.length 5 [(0, .int (nI b)), (1, .int (nI k)), (2, .int (nI a)), (3, .int (nI i))] [] w := by
  intro n
  induction n with
  | zero =>
    intro i a hi ha
    have hi : i = 48 := by omega
    subst hi
    refine s_iload_n dX1_distance_5 rfl ?_
    refine s_bipush (v := 48) dX1_distance_6 rfl ?_
    refine s_icmp_ge (tgt := 32) dX1_distance_8 (by decide) (fun hz => ?_) (fun h => absurd (by decide) h)
    clear hz
    refine s_iload_n dX1_distance_32 rfl ?_
    exact s_iret dX1_distance_33 rfl ⟨rfl, rfl⟩ rfl
  | succ n ih =>
    intro i a hi ha
    have hm : i < 48 := by omega
    have hp := pIMG_lt hm b
    have hq := pPOP_le (pIMG i b ^^^ k)
    refine s_iload_n dX1_distance_5 rfl ?_
    refine s_bipush (v := 48) dX1_distance_6 rfl ?_
    refine s_icmp_ge (tgt := 32) dX1_distance_8 (by decide) (fun h => absurd h (nI_ge hm (by decide))) (fun hz => ?_)
    clear hz
    refine s_iload_n dX1_distance_11 rfl ?_
    refine s_iload_n dX1_distance_12 rfl ?_
    refine s_iload_n dX1_distance_13 rfl ?_
    refine s_cs1 dX1_distance_14 g_X1_22 (c_X1_imageBy hm hb) rfl rfl (Nat.le_of_ble_eq_true rfl) (Nat.le_of_ble_eq_true rfl) rfl ?_
    refine s_iload_n dX1_distance_17 rfl ?_
    refine s_ixor dX1_distance_18 ?_
    rw [fb_xorI]
    refine s_cs1 dX1_distance_19 g_X1_37 (c_bcN (zxor8 hp hk)) rfl rfl (Nat.le_of_ble_eq_true rfl) (Nat.le_of_ble_eq_true rfl) rfl ?_
    refine s_min dX1_distance_22 (zin 252 (by decide +kernel) (by decide +kernel)) (zin 253 (by decide +kernel) (by decide +kernel)) (zin 67 (by decide +kernel) (by decide +kernel)) (zin 254 (by decide +kernel) (by decide +kernel)) (Nat.le_of_ble_eq_true rfl) ?_
    refine s_istore_n dX1_distance_25 (Nat.le_of_ble_eq_true rfl) rfl ?_
    refine s_iinc (nI (i + 1)) dX1_distance_26 rfl (nI_1 _) (Nat.le_of_ble_eq_true rfl) rfl ?_
    refine s_goto (tgt := 5) dX1_distance_29 (by decide) ?_
    rw [zmin (by omega) (by omega)]
    exact ih (i + 1) _ (by omega) (zite (by omega) ha)
set_option maxHeartbeats 4000000 in
set_option maxRecDepth 100000 in
theorem c_X1_distance {Z : zS} {d : Nat} {w : zW} {b k : Nat} (hb : b < 256) (hk : k < 256) : zF Z M_X1_distance (d + 2) [.int (nI b), .int (nI k)] w [.int (nI (pDSL b k 48 0 8))] w := by
  show zG Z M_X1_distance (d + 2) _ _ 0 [(0, .int (nI b)), (1, .int (nI k))] [] w
  refine s_bipush (v := 8) dX1_distance_0 rfl ?_
  refine s_istore_n dX1_distance_2 (Nat.le_of_ble_eq_true rfl) rfl ?_
  refine s_iconst (v := 0) dX1_distance_3 rfl ?_
  refine s_istore_n dX1_distance_4 (Nat.le_of_ble_eq_true rfl) rfl ?_
  exact l_X1_distance hb hk 48 0 8 rfl (by decide)
def pCML (b k : Nat) : Nat → Nat → Nat → Nat
  | 0, _, a => a
  | n + 1, i, a => pCML b k n (i + 1) (a + pPOP (pIMG i b &&& k))
set_option maxHeartbeats 4000000 in
set_option maxRecDepth 100000 in
theorem l_X1_commonOverMoves {Z : zS} {d : Nat} {w : zW} {b k : Nat} (hb : b < 256) : ∀ (n : Nat) (i a : Nat), i + n = 48 → zG Z M_X1_commonOverMoves (d + 2) (fun r1 w1 => r1 = [.int (nI (pCML b k n i a))] ∧ w1 = w) w.length 4 [(0, .int (nI b)), (1, .int (nI k)), (2, .int (nI a)), (3, .int (nI i))] [] w := by
  intro n
  induction n with
  | zero =>
    intro i a hi
    have hi : i = 48 := by omega
    subst hi
    refine s_iload_n dX1_commonOverMoves_4 rfl ?_
    refine s_bipush (v := 48) dX1_commonOverMoves_5 rfl ?_
    refine s_icmp_ge (tgt := 29) dX1_commonOverMoves_7 (by decide) (fun hz => ?_) (fun h => absurd (by decide) h)
    clear hz
    refine s_iload_n dX1_commonOverMoves_29 rfl ?_
    exact s_iret dX1_commonOverMoves_30 rfl ⟨rfl, rfl⟩ rfl
  | succ n ih =>
    intro i a hi
    have hm : i < 48 := by omega
    have hp := pIMG_lt hm b
    refine s_iload_n dX1_commonOverMoves_4 rfl ?_
    refine s_bipush (v := 48) dX1_commonOverMoves_5 rfl ?_
    refine s_icmp_ge (tgt := 29) dX1_commonOverMoves_7 (by decide) (fun h => absurd h (nI_ge hm (by decide))) (fun hz => ?_)
    clear hz
    refine s_iload_n dX1_commonOverMoves_10 rfl ?_
    refine s_iload_n dX1_commonOverMoves_11 rfl ?_
    refine s_iload_n dX1_commonOverMoves_12 rfl ?_
    refine s_cs1 dX1_commonOverMoves_13 g_X1_22 (c_X1_imageBy hm hb) rfl rfl (Nat.le_of_ble_eq_true rfl) (Nat.le_of_ble_eq_true rfl) rfl ?_
    refine s_iload_n dX1_commonOverMoves_16 rfl ?_
    refine s_iand dX1_commonOverMoves_17 ?_
    rw [fa_and]
    refine s_cs1 dX1_commonOverMoves_18 g_X1_37 (c_bcN (zand8 hp)) rfl rfl (Nat.le_of_ble_eq_true rfl) (Nat.le_of_ble_eq_true rfl) rfl ?_
    refine s_iadd dX1_commonOverMoves_21 ?_
    refine s_istore_n dX1_commonOverMoves_22 (Nat.le_of_ble_eq_true rfl) rfl ?_
    refine s_iinc (nI (i + 1)) dX1_commonOverMoves_23 rfl (nI_1 _) (Nat.le_of_ble_eq_true rfl) rfl ?_
    refine s_goto (tgt := 4) dX1_commonOverMoves_26 (by decide) ?_
    rw [nI_add]
    exact ih (i + 1) _ (by omega)
set_option maxHeartbeats 4000000 in
set_option maxRecDepth 100000 in
theorem c_X1_commonOverMoves {Z : zS} {d : Nat} {w : zW} {b k : Nat} (hb : b < 256) : zF Z M_X1_commonOverMoves (d + 2) [.int (nI b), .int (nI k)] w [.int (nI (pCML b k 48 0 0))] w := by
  show zG Z M_X1_commonOverMoves (d + 2) _ _ 0 [(0, .int (nI b)), (1, .int (nI k))] [] w
  refine s_iconst (v := 0) dX1_commonOverMoves_0 rfl ?_
  refine s_istore_n dX1_commonOverMoves_1 (Nat.le_of_ble_eq_true rfl) rfl ?_
  refine s_iconst (v := 0) dX1_commonOverMoves_2 rfl ?_
  refine s_istore_n dX1_commonOverMoves_3 (Nat.le_of_ble_eq_true rfl) rfl ?_
  exact l_X1_commonOverMoves hb 48 0 0 rfl
end
section
/-! ===== the cube: dimension, centre, spread; bits of floats ===== -/
def zAW (f t a : Nat) : Int32 := nI (zb t a) - nI (zb f a)
def zMI (f b c a o : Nat) : Int32 := zAW f b a * zAW f c o - zAW f b o * zAW f c a
def zDT (f a b c : Nat) : Int32 := zAW f a 0 * zMI f b c 1 2 - zAW f a 1 * zMI f b c 0 2 + zAW f a 2 * zMI f b c 0 1
set_option maxHeartbeats 4000000 in
set_option maxRecDepth 100000 in
theorem c_X1_away {Z : zS} {d : Nat} {w : zW} {f t a : Nat} (hf : f < 8) (ht : t < 8) (ha : a < 3) : zF Z M_X1_away (d + 1) [.int (nI f), .int (nI t), .int (nI a)] w [.int (zAW f t a)] w := by
  show zG Z M_X1_away (d + 1) _ _ 0 [(0, .int (nI f)), (1, .int (nI t)), (2, .int (nI a))] [] w
  refine s_iload_n dX1_away_0 rfl ?_
  refine s_iload_n dX1_away_1 rfl ?_
  refine s_cs1 dX1_away_2 g_X1_15 (c_X7_bitOfN (by omega) (by omega)) rfl rfl (Nat.le_of_ble_eq_true rfl) (Nat.le_of_ble_eq_true rfl) rfl ?_
  refine s_iload_n dX1_away_5 rfl ?_
  refine s_iload_n dX1_away_6 rfl ?_
  refine s_cs1 dX1_away_7 g_X1_15 (c_X7_bitOfN (by omega) (by omega)) rfl rfl (Nat.le_of_ble_eq_true rfl) (Nat.le_of_ble_eq_true rfl) rfl ?_
  refine s_isub dX1_away_10 ?_
  exact s_iret dX1_away_11 rfl ⟨rfl, rfl⟩ rfl
set_option maxHeartbeats 4000000 in
set_option maxRecDepth 100000 in
theorem c_X1_minor {Z : zS} {d : Nat} {w : zW} {f b c a o : Nat} (hf : f < 8) (hb : b < 8) (hc : c < 8) (ha : a < 3) (ho : o < 3) : zF Z M_X1_minor (d + 2) [.int (nI f), .int (nI b), .int (nI c), .int (nI a), .int (nI o)] w [.int (zMI f b c a o)] w := by
  show zG Z M_X1_minor (d + 2) _ _ 0 [(0, .int (nI f)), (1, .int (nI b)), (2, .int (nI c)), (3, .int (nI a)), (4, .int (nI o))] [] w
  refine s_iload_n dX1_minor_0 rfl ?_
  refine s_iload_n dX1_minor_1 rfl ?_
  refine s_iload_n dX1_minor_2 rfl ?_
  refine s_cs1 dX1_minor_3 g_X1_52 (c_X1_away hf hb ha) rfl rfl (Nat.le_of_ble_eq_true rfl) (Nat.le_of_ble_eq_true rfl) rfl ?_
  refine s_iload_n dX1_minor_6 rfl ?_
  refine s_iload_n dX1_minor_7 rfl ?_
  refine s_iload dX1_minor_8 rfl ?_
  refine s_cs1 dX1_minor_10 g_X1_52 (c_X1_away hf hc ho) rfl rfl (Nat.le_of_ble_eq_true rfl) (Nat.le_of_ble_eq_true rfl) rfl ?_
  refine s_imul dX1_minor_13 ?_
  refine s_iload_n dX1_minor_14 rfl ?_
  refine s_iload_n dX1_minor_15 rfl ?_
  refine s_iload dX1_minor_16 rfl ?_
  refine s_cs1 dX1_minor_18 g_X1_52 (c_X1_away hf hb ho) rfl rfl (Nat.le_of_ble_eq_true rfl) (Nat.le_of_ble_eq_true rfl) rfl ?_
  refine s_iload_n dX1_minor_21 rfl ?_
  refine s_iload_n dX1_minor_22 rfl ?_
  refine s_iload_n dX1_minor_23 rfl ?_
  refine s_cs1 dX1_minor_24 g_X1_52 (c_X1_away hf hc ha) rfl rfl (Nat.le_of_ble_eq_true rfl) (Nat.le_of_ble_eq_true rfl) rfl ?_
  refine s_imul dX1_minor_27 ?_
  refine s_isub dX1_minor_28 ?_
  exact s_iret dX1_minor_29 rfl ⟨rfl, rfl⟩ rfl
set_option maxHeartbeats 4000000 in
set_option maxRecDepth 100000 in
theorem c_X1_determinant {Z : zS} {d : Nat} {w : zW} {f a b c : Nat} (hf : f < 8) (ha : a < 8) (hb : b < 8) (hc : c < 8) : zF Z M_X1_determinant (d + 3) [.int (nI f), .int (nI a), .int (nI b), .int (nI c)] w [.int (zDT f a b c)] w := by
  show zG Z M_X1_determinant (d + 3) _ _ 0 [(0, .int (nI f)), (1, .int (nI a)), (2, .int (nI b)), (3, .int (nI c))] [] w
  refine s_iload_n dX1_determinant_0 rfl ?_
  refine s_iload_n dX1_determinant_1 rfl ?_
  refine s_iconst (v := 0) dX1_determinant_2 rfl ?_
  refine s_cs1 dX1_determinant_3 g_X1_52 (c_X1_away (a := 0) hf ha (by decide)) rfl rfl (Nat.le_of_ble_eq_true rfl) (Nat.le_of_ble_eq_true rfl) rfl ?_
  refine s_iload_n dX1_determinant_6 rfl ?_
  refine s_iload_n dX1_determinant_7 rfl ?_
  refine s_iload_n dX1_determinant_8 rfl ?_
  refine s_iconst (v := 1) dX1_determinant_9 rfl ?_
  refine s_iconst (v := 2) dX1_determinant_10 rfl ?_
  refine s_cs1 dX1_determinant_11 g_X1_56 (c_X1_minor (a := 1) (o := 2) hf hb hc (by decide) (by decide)) rfl rfl (Nat.le_of_ble_eq_true rfl) (Nat.le_of_ble_eq_true rfl) rfl ?_
  refine s_imul dX1_determinant_14 ?_
  refine s_iload_n dX1_determinant_15 rfl ?_
  refine s_iload_n dX1_determinant_16 rfl ?_
  refine s_iconst (v := 1) dX1_determinant_17 rfl ?_
  refine s_cs1 dX1_determinant_18 g_X1_52 (c_X1_away (a := 1) hf ha (by decide)) rfl rfl (Nat.le_of_ble_eq_true rfl) (Nat.le_of_ble_eq_true rfl) rfl ?_
  refine s_iload_n dX1_determinant_21 rfl ?_
  refine s_iload_n dX1_determinant_22 rfl ?_
  refine s_iload_n dX1_determinant_23 rfl ?_
  refine s_iconst (v := 0) dX1_determinant_24 rfl ?_
  refine s_iconst (v := 2) dX1_determinant_25 rfl ?_
  refine s_cs1 dX1_determinant_26 g_X1_56 (c_X1_minor (a := 0) (o := 2) hf hb hc (by decide) (by decide)) rfl rfl (Nat.le_of_ble_eq_true rfl) (Nat.le_of_ble_eq_true rfl) rfl ?_
  refine s_imul dX1_determinant_29 ?_
  refine s_isub dX1_determinant_30 ?_
  refine s_iload_n dX1_determinant_31 rfl ?_
  refine s_iload_n dX1_determinant_32 rfl ?_
  refine s_iconst (v := 2) dX1_determinant_33 rfl ?_
  refine s_cs1 dX1_determinant_34 g_X1_52 (c_X1_away (a := 2) hf ha (by decide)) rfl rfl (Nat.le_of_ble_eq_true rfl) (Nat.le_of_ble_eq_true rfl) rfl ?_
  refine s_iload_n dX1_determinant_37 rfl ?_
  refine s_iload_n dX1_determinant_38 rfl ?_
  refine s_iload_n dX1_determinant_39 rfl ?_
  refine s_iconst (v := 0) dX1_determinant_40 rfl ?_
  refine s_iconst (v := 1) dX1_determinant_41 rfl ?_
  refine s_cs1 dX1_determinant_42 g_X1_56 (c_X1_minor (a := 0) (o := 1) hf hb hc (by decide) (by decide)) rfl rfl (Nat.le_of_ble_eq_true rfl) (Nat.le_of_ble_eq_true rfl) rfl ?_
  refine s_imul dX1_determinant_45 ?_
  refine s_iadd dX1_determinant_46 ?_
  exact s_iret dX1_determinant_47 rfl ⟨rfl, rfl⟩ rfl
def pLCL (b : Nat) : Nat → Nat → Nat
  | 0, i => i
  | n + 1, i => if zb b i = 0 then pLCL b n (i + 1) else i
theorem pLCL_le (b : Nat) : ∀ (n i : Nat), pLCL b n i ≤ i + n
  | 0, i => Nat.le_refl _
  | n + 1, i => by
    unfold pLCL
    have h := pLCL_le b n (i + 1)
    by_cases c : zb b i = 0
    · rw [if_pos c]; omega
    · rw [if_neg c]; omega
theorem zn0 {a : Nat} (ha : a < 2 ^ 31) : nI a = 0 ↔ a = 0 := nI_eq (b := 0) ha (by decide)
theorem zbL (b i : Nat) : zb b i < 2 ^ 31 := Nat.lt_trans (zb_lt b i) (by decide)
set_option maxHeartbeats 4000000 in
set_option maxRecDepth 100000 in
theorem l_X1_leastCorner {Z : zS} {d : Nat} {w : zW} {b : Nat} (hb : b < 256) : ∀ (n : Nat) (i : Nat), i + n = 7 → zG Z M_X1_leastCorner (d + 1) (fun r1 w1 => r1 = [.int (nI (pLCL b n i))] ∧ w1 = w) w.length 2 [(0, .int (nI b)), (1, .int (nI i))] [] w := by
  intro n
  induction n with
  | zero =>
    intro i hi
    have hi : i = 7 := by omega
    subst hi
    refine s_iload_n dX1_leastCorner_2 rfl ?_
    refine s_bipush (v := 7) dX1_leastCorner_3 rfl ?_
    refine s_icmp_ge (tgt := 22) dX1_leastCorner_5 (by decide) (fun hz => ?_) (fun h => absurd (by decide) h)
    clear hz
    refine s_iload_n dX1_leastCorner_22 rfl ?_
    exact s_iret dX1_leastCorner_23 rfl ⟨rfl, rfl⟩ rfl
  | succ n ih =>
    intro i hi
    have hm : i < 7 := by omega
    refine s_iload_n dX1_leastCorner_2 rfl ?_
    refine s_bipush (v := 7) dX1_leastCorner_3 rfl ?_
    refine s_icmp_ge (tgt := 22) dX1_leastCorner_5 (by decide) (fun h => absurd h (nI_ge hm (by decide))) (fun hz => ?_)
    clear hz
    refine s_iload_n dX1_leastCorner_8 rfl ?_
    refine s_iload_n dX1_leastCorner_9 rfl ?_
    refine s_cs1 dX1_leastCorner_10 g_X1_15 (c_X7_bitOfN (by omega) (by omega)) rfl rfl (Nat.le_of_ble_eq_true rfl) (Nat.le_of_ble_eq_true rfl) rfl ?_
    refine s_if_ne (tgt := 22) dX1_leastCorner_13 (by decide) (fun h_13 => ?_) (fun h_13 => ?_)
    · refine s_iload_n dX1_leastCorner_22 rfl ?_
      exact s_iret dX1_leastCorner_23 rfl ⟨by rw [pLCL, if_neg (fun z => h_13 ((zn0 (zbL b i)).mpr z))], rfl⟩ rfl
    · refine s_iinc (nI (i + 1)) dX1_leastCorner_16 rfl (nI_1 _) (Nat.le_of_ble_eq_true rfl) rfl ?_
      refine s_goto (tgt := 2) dX1_leastCorner_19 (by decide) ?_
      rw [show pLCL b (n + 1) i = pLCL b n (i + 1) from by rw [pLCL, if_pos ((zn0 (zbL b i)).mp h_13)]]
      exact ih (i + 1) (by omega)
set_option maxHeartbeats 4000000 in
set_option maxRecDepth 100000 in
theorem c_X1_leastCorner {Z : zS} {d : Nat} {w : zW} {b : Nat} (hb : b < 256) : zF Z M_X1_leastCorner (d + 1) [.int (nI b)] w [.int (nI (pLCL b 7 0))] w := by
  show zG Z M_X1_leastCorner (d + 1) _ _ 0 [(0, .int (nI b))] [] w
  refine s_iconst (v := 0) dX1_leastCorner_0 rfl ?_
  refine s_istore_n dX1_leastCorner_1 (Nat.le_of_ble_eq_true rfl) rfl ?_
  exact l_X1_leastCorner hb 7 0 rfl
def zT3 (a b c : Nat) : Int32 := 1 <<< (nI a &&& 31) ||| 1 <<< (nI b &&& 31) ||| 1 <<< (nI c &&& 31)
def zPP (ot : Int32) (f a b c : Nat) : Bool := decide (ot &&& zT3 a b c = zT3 a b c) && decide (¬ zDT f a b c = 0)
def zdC (ot : Int32) (f a b : Nat) : Nat → Nat → Bool
  | 0, _ => false
  | n + 1, c => zPP ot f a b c || zdC ot f a b n (c + 1)
def zdB (ot : Int32) (f a : Nat) : Nat → Nat → Bool
  | 0, _ => false
  | n + 1, b => zdC ot f a b b 0 || zdB ot f a n (b + 1)
def zdA (ot : Int32) (f : Nat) : Nat → Nat → Bool
  | 0, _ => false
  | n + 1, a => zdB ot f a a 0 || zdA ot f n (a + 1)
theorem zPP_t {ot : Int32} {f a b c : Nat} (h1 : ot &&& zT3 a b c = zT3 a b c) (h2 : ¬ zDT f a b c = 0) : zPP ot f a b c = true := by
  unfold zPP
  rw [decide_eq_true h1, decide_eq_true h2]
  rfl
theorem zPP_f1 {ot : Int32} {f a b c : Nat} (h1 : ¬ ot &&& zT3 a b c = zT3 a b c) : zPP ot f a b c = false := by
  unfold zPP
  rw [decide_eq_false h1]
  rfl
theorem zPP_f2 {ot : Int32} {f a b c : Nat} (h2 : zDT f a b c = 0) : zPP ot f a b c = false := by
  have e : decide (¬ zDT f a b c = 0) = false := decide_eq_false (fun z => z h2)
  unfold zPP
  rw [e, Bool.and_false]
set_option maxHeartbeats 4000000 in
set_option maxRecDepth 100000 in
theorem l_dimC {Z : zS} {d : Nat} {w : zW} {Q : List Value → zW → Prop} {bd cn ot : Int32} {f a b : Nat} (hf : f < 8) (ha : a < 8) (hb : b < 8) : ∀ (n c : Nat), c + n = b → (zdC ot f a b n c = true → Q [.int 3] w) → (zdC ot f a b n c = false → zG Z M_X1_dimension (d + 4) Q w.length 103 [(0, .int bd), (1, .int cn), (2, .int (nI f)), (3, .int ot), (4, .int (nI a)), (5, .int (nI b))] [] w) → zG Z M_X1_dimension (d + 4) Q w.length 50 [(0, .int bd), (1, .int cn), (2, .int (nI f)), (3, .int ot), (4, .int (nI a)), (5, .int (nI b)), (6, .int (nI c))] [] w := by
  intro n
  induction n with
  | zero =>
    intro c hc h3 hk
    have hc : c = b := by omega
    subst hc
    refine s_iload dX1_dimension_50 rfl ?_
    refine s_iload dX1_dimension_52 rfl ?_
    refine s_icmp_ge (tgt := 103) dX1_dimension_54 (by decide) (fun hz => ?_) (fun h => absurd (nI_le (Nat.le_refl _) (by omega)) h)
    clear hz
    refine s_take 6 ?_
    exact hk rfl
  | succ n ih =>
    intro c hc h3 hk
    refine s_iload dX1_dimension_50 rfl ?_
    refine s_iload dX1_dimension_52 rfl ?_
    refine s_icmp_ge (tgt := 103) dX1_dimension_54 (by decide) (fun h => absurd h (nI_ge (show c < b by omega) (by omega))) (fun hz => ?_)
    clear hz
    refine s_iconst (v := 1) dX1_dimension_57 rfl ?_
    refine s_iload dX1_dimension_58 rfl ?_
    refine s_ishl dX1_dimension_60 ?_
    refine s_iconst (v := 1) dX1_dimension_61 rfl ?_
    refine s_iload dX1_dimension_62 rfl ?_
    refine s_ishl dX1_dimension_64 ?_
    refine s_ior dX1_dimension_65 ?_
    refine s_iconst (v := 1) dX1_dimension_66 rfl ?_
    refine s_iload dX1_dimension_67 rfl ?_
    refine s_ishl dX1_dimension_69 ?_
    refine s_ior dX1_dimension_70 ?_
    refine s_istore dX1_dimension_71 (Nat.le_of_ble_eq_true rfl) rfl ?_
    refine s_iload_n dX1_dimension_73 rfl ?_
    refine s_iload dX1_dimension_74 rfl ?_
    refine s_iand dX1_dimension_76 ?_
    refine s_iload dX1_dimension_77 rfl ?_
    refine s_icmp_ne (tgt := 97) dX1_dimension_79 (by decide) (fun h_79 => ?_) (fun h_79 => ?_)
    · refine s_iinc (nI (c + 1)) dX1_dimension_97 rfl (nI_1 _) (Nat.le_of_ble_eq_true rfl) rfl ?_
      refine s_goto (tgt := 50) dX1_dimension_100 (by decide) ?_
      have e : zdC ot f a b (n + 1) c = zdC ot f a b n (c + 1) := by rw [zdC, zPP_f1 h_79, Bool.false_or]
      rw [e] at h3 hk
      refine s_take 7 ?_
      exact ih (c + 1) (by omega) h3 hk
    · refine s_iload_n dX1_dimension_82 rfl ?_
      refine s_iload dX1_dimension_83 rfl ?_
      refine s_iload dX1_dimension_85 rfl ?_
      refine s_iload dX1_dimension_87 rfl ?_
      refine s_cs1 dX1_dimension_89 g_X1_48 (c_X1_determinant hf ha hb (by omega)) rfl rfl (Nat.le_of_ble_eq_true rfl) (Nat.le_of_ble_eq_true rfl) rfl ?_
      refine s_if_eq (tgt := 97) dX1_dimension_92 (by decide) (fun h_92 => ?_) (fun h_92 => ?_)
      · refine s_iinc (nI (c + 1)) dX1_dimension_97 rfl (nI_1 _) (Nat.le_of_ble_eq_true rfl) rfl ?_
        refine s_goto (tgt := 50) dX1_dimension_100 (by decide) ?_
        have e : zdC ot f a b (n + 1) c = zdC ot f a b n (c + 1) := by rw [zdC, zPP_f2 h_92, Bool.false_or]
        rw [e] at h3 hk
        refine s_take 7 ?_
        exact ih (c + 1) (by omega) h3 hk
      · refine s_iconst (v := 3) dX1_dimension_95 rfl ?_
        exact s_iret dX1_dimension_96 rfl (h3 (by rw [zdC, zPP_t h_79 h_92, Bool.true_or])) rfl
set_option maxHeartbeats 4000000 in
set_option maxRecDepth 100000 in
theorem l_dimB {Z : zS} {d : Nat} {w : zW} {Q : List Value → zW → Prop} {bd cn ot : Int32} {f a : Nat} (hf : f < 8) (ha : a < 8) : ∀ (n b : Nat), b + n = a → (zdB ot f a n b = true → Q [.int 3] w) → (zdB ot f a n b = false → zG Z M_X1_dimension (d + 4) Q w.length 109 [(0, .int bd), (1, .int cn), (2, .int (nI f)), (3, .int ot), (4, .int (nI a))] [] w) → zG Z M_X1_dimension (d + 4) Q w.length 40 [(0, .int bd), (1, .int cn), (2, .int (nI f)), (3, .int ot), (4, .int (nI a)), (5, .int (nI b))] [] w := by
  intro n
  induction n with
  | zero =>
    intro b hc h3 hk
    have hc : b = a := by omega
    subst hc
    refine s_iload dX1_dimension_40 rfl ?_
    refine s_iload dX1_dimension_42 rfl ?_
    refine s_icmp_ge (tgt := 109) dX1_dimension_44 (by decide) (fun hz => ?_) (fun h => absurd (nI_le (Nat.le_refl _) (by omega)) h)
    clear hz
    refine s_take 5 ?_
    exact hk rfl
  | succ n ih =>
    intro b hc h3 hk
    refine s_iload dX1_dimension_40 rfl ?_
    refine s_iload dX1_dimension_42 rfl ?_
    refine s_icmp_ge (tgt := 109) dX1_dimension_44 (by decide) (fun h => absurd h (nI_ge (show b < a by omega) (by omega))) (fun hz => ?_)
    clear hz
    refine s_iconst (v := 0) dX1_dimension_47 rfl ?_
    refine s_istore dX1_dimension_48 (Nat.le_of_ble_eq_true rfl) rfl ?_
    refine l_dimC hf ha (show b < 8 by omega) b 0 (by omega) (fun z => h3 (by rw [zdB, z, Bool.true_or])) (fun e => ?_)
    refine s_iinc (nI (b + 1)) dX1_dimension_103 rfl (nI_1 _) (Nat.le_of_ble_eq_true rfl) rfl ?_
    refine s_goto (tgt := 40) dX1_dimension_106 (by decide) ?_
    exact ih (b + 1) (by omega) (fun z => h3 (by rw [zdB, e, Bool.false_or]; exact z)) (fun z => hk (by rw [zdB, e, Bool.false_or]; exact z))
set_option maxHeartbeats 4000000 in
set_option maxRecDepth 100000 in
theorem l_dimA {Z : zS} {d : Nat} {w : zW} {Q : List Value → zW → Prop} {bd cn ot : Int32} {f : Nat} (hf : f < 8)  : ∀ (n a : Nat), a + n = 8 → (zdA ot f n a = true → Q [.int 3] w) → (zdA ot f n a = false → zG Z M_X1_dimension (d + 4) Q w.length 115 [(0, .int bd), (1, .int cn), (2, .int (nI f)), (3, .int ot)] [] w) → zG Z M_X1_dimension (d + 4) Q w.length 30 [(0, .int bd), (1, .int cn), (2, .int (nI f)), (3, .int ot), (4, .int (nI a))] [] w := by
  intro n
  induction n with
  | zero =>
    intro a hc h3 hk
    have hc : a = 8 := by omega
    subst hc
    refine s_iload dX1_dimension_30 rfl ?_
    refine s_bipush (v := 8) dX1_dimension_32 rfl ?_
    refine s_icmp_ge (tgt := 115) dX1_dimension_34 (by decide) (fun hz => ?_) (fun h => absurd (by decide) h)
    clear hz
    refine s_take 4 ?_
    exact hk rfl
  | succ n ih =>
    intro a hc h3 hk
    refine s_iload dX1_dimension_30 rfl ?_
    refine s_bipush (v := 8) dX1_dimension_32 rfl ?_
    refine s_icmp_ge (tgt := 115) dX1_dimension_34 (by decide) (fun h => absurd h (nI_ge (show a < 8 by omega) (by decide))) (fun hz => ?_)
    clear hz
    refine s_iconst (v := 0) dX1_dimension_37 rfl ?_
    refine s_istore dX1_dimension_38 (Nat.le_of_ble_eq_true rfl) rfl ?_
    refine l_dimB hf (show a < 8 by omega) a 0 (by omega) (fun z => h3 (by rw [zdA, z, Bool.true_or])) (fun e => ?_)
    refine s_iinc (nI (a + 1)) dX1_dimension_109 rfl (nI_1 _) (Nat.le_of_ble_eq_true rfl) rfl ?_
    refine s_goto (tgt := 30) dX1_dimension_112 (by decide) ?_
    exact ih (a + 1) (by omega) (fun z => h3 (by rw [zdA, e, Bool.false_or]; exact z)) (fun z => hk (by rw [zdA, e, Bool.false_or]; exact z))
def zOT (b f : Nat) : Int32 := nI b &&& ((1 : Int32) <<< (nI f &&& 31) ^^^ (-1))
def pDIM (b : Nat) : Int32 := if 3 < nI (pPOP b) then (if zdA (zOT b (pLCL b 7 0)) (pLCL b 7 0) 8 0 = true then 3 else 2) else nI (pPOP b) - 1
set_option maxHeartbeats 4000000 in
set_option maxRecDepth 100000 in
theorem c_X1_dimension {Z : zS} {d : Nat} {w : zW} {b : Nat} (hb : b < 256) : zF Z M_X1_dimension (d + 4) [.int (nI b)] w [.int (pDIM b)] w := by
  show zG Z M_X1_dimension (d + 4) _ _ 0 [(0, .int (nI b))] [] w
  refine s_iload_n dX1_dimension_0 rfl ?_
  refine s_cs1 dX1_dimension_1 g_X1_37 (c_bcN hb) rfl rfl (Nat.le_of_ble_eq_true rfl) (Nat.le_of_ble_eq_true rfl) rfl ?_
  refine s_istore_n dX1_dimension_4 (Nat.le_of_ble_eq_true rfl) rfl ?_
  refine s_iload_n dX1_dimension_5 rfl ?_
  refine s_iconst (v := 3) dX1_dimension_6 rfl ?_
  refine s_icmp_gt (tgt := 14) dX1_dimension_7 (by decide) (fun h_7 => ?_) (fun h_7 => ?_)
  · refine s_iload_n dX1_dimension_14 rfl ?_
    refine s_cs1 dX1_dimension_15 g_X1_45 (c_X1_leastCorner hb) rfl rfl (Nat.le_of_ble_eq_true rfl) (Nat.le_of_ble_eq_true rfl) rfl ?_
    refine s_istore_n dX1_dimension_18 (Nat.le_of_ble_eq_true rfl) rfl ?_
    refine s_iload_n dX1_dimension_19 rfl ?_
    refine s_iconst (v := 1) dX1_dimension_20 rfl ?_
    refine s_iload_n dX1_dimension_21 rfl ?_
    refine s_ishl dX1_dimension_22 ?_
    refine s_iconst (v := (-1)) dX1_dimension_23 rfl ?_
    refine s_ixor dX1_dimension_24 ?_
    refine s_iand dX1_dimension_25 ?_
    refine s_istore_n dX1_dimension_26 (Nat.le_of_ble_eq_true rfl) rfl ?_
    refine s_iconst (v := 0) dX1_dimension_27 rfl ?_
    refine s_istore dX1_dimension_28 (Nat.le_of_ble_eq_true rfl) rfl ?_
    refine l_dimA (ot := zOT b (pLCL b 7 0)) (show pLCL b 7 0 < 8 from Nat.lt_succ_of_le (pLCL_le b 7 0)) 8 0 rfl (fun z => ⟨by rw [pDIM, if_pos h_7, z]; rfl, rfl⟩) (fun z => ?_)
    refine s_iconst (v := 2) dX1_dimension_115 rfl ?_
    exact s_iret dX1_dimension_116 rfl ⟨by rw [pDIM, if_pos h_7, z]; rfl, rfl⟩ rfl
  · refine s_iload_n dX1_dimension_10 rfl ?_
    refine s_iconst (v := 1) dX1_dimension_11 rfl ?_
    refine s_isub dX1_dimension_12 ?_
    exact s_iret dX1_dimension_13 rfl ⟨by rw [pDIM, if_neg h_7], rfl⟩ rfl
def pSUML (b ax : Nat) : Nat → Nat → Nat → Nat
  | 0, _, s => s
  | n + 1, i, s => pSUML b ax n (i + 1) (if zb b i = 1 then s + zb i ax else s)
def pSUM (b ax : Nat) : Nat := pSUML b ax 8 0 0
theorem pSUML_le (b ax : Nat) : ∀ (n i s : Nat), pSUML b ax n i s ≤ s + n
  | 0, _, _ => Nat.le_refl _
  | n + 1, i, s => by
    unfold pSUML
    have h := zb_lt i ax
    have h2 := pSUML_le b ax n (i + 1) (if zb b i = 1 then s + zb i ax else s)
    by_cases c : zb b i = 1
    · rw [if_pos c] at h2 ⊢; omega
    · rw [if_neg c] at h2 ⊢; omega
def zFI (s : Nat) : UInt32 := FP.i2f (nI s)
theorem q_f1 : ∀ s, s < 8 → ∀ t, t < 2 → FP.fadd (zFI s) (zFI t) = zFI (s + t) ∧ vf_n32 (FP.fadd (zFI s) (zFI t)) := by
  unfold vf_n32
  decide +kernel
theorem q_fd : ∀ s, s < 9 → ∀ n, n < 9 → n ≠ 0 → vf_n32 (FP.fdiv (zFI s) (zFI n)) := by
  unfold vf_n32
  decide +kernel
def zCQ (s n : Nat) : UInt32 := FP.fdiv (zFI s) (zFI n)
def pCEN (b ax : Nat) : UInt32 := if pPOP b = 0 then FP.fconst0 else zCQ (pSUM b ax) (pPOP b)
set_option maxHeartbeats 4000000 in
set_option maxRecDepth 100000 in
theorem l_X1_centre {Z : zS} {d : Nat} {w : zW} {b ax : Nat} (hb : b < 256) (hax : ax < 3) (hp : pPOP b ≠ 0) : ∀ (n : Nat) (i s : Nat), i + n = 8 → s ≤ i → zG Z M_X1_centre (d + 1) (fun r1 w1 => r1 = [.float (zCQ (pSUML b ax n i s) (pPOP b))] ∧ w1 = w) w.length 16 [(0, .int (nI b)), (1, .int (nI ax)), (2, .int (nI (pPOP b))), (3, .float (zFI s)), (4, .int (nI i))] [] w := by
  intro n
  induction n with
  | zero =>
    intro i s hi hs
    have hi : i = 8 := by omega
    subst hi
    refine s_iload dX1_centre_16 rfl ?_
    refine s_bipush (v := 8) dX1_centre_18 rfl ?_
    refine s_icmp_ge (tgt := 49) dX1_centre_20 (by decide) (fun hz => ?_) (fun h => absurd (by decide) h)
    clear hz
    refine s_fload_n dX1_centre_49 rfl ?_
    refine s_iload_n dX1_centre_50 rfl ?_
    refine s_i2f dX1_centre_51 ?_
    refine s_fdiv dX1_centre_52 (q_fd s (by omega) (pPOP b) (by have := pPOP_le b; omega) hp) ?_
    exact s_fret dX1_centre_53 rfl ⟨rfl, rfl⟩ rfl
  | succ n ih =>
    intro i s hi hs
    have hm : i < 8 := by omega
    refine s_iload dX1_centre_16 rfl ?_
    refine s_bipush (v := 8) dX1_centre_18 rfl ?_
    refine s_icmp_ge (tgt := 49) dX1_centre_20 (by decide) (fun h => absurd h (nI_ge hm (by decide))) (fun hz => ?_)
    clear hz
    refine s_iload_n dX1_centre_23 rfl ?_
    refine s_iload dX1_centre_24 rfl ?_
    refine s_cs1 dX1_centre_26 g_X1_15 (c_X7_bitOfN (by omega) (by omega)) rfl rfl (Nat.le_of_ble_eq_true rfl) (Nat.le_of_ble_eq_true rfl) rfl ?_
    refine s_iconst (v := 1) dX1_centre_29 rfl ?_
    refine s_icmp_ne (tgt := 43) dX1_centre_30 (by decide) (fun h_30 => ?_) (fun h_30 => ?_)
    · refine s_iinc (nI (i + 1)) dX1_centre_43 rfl (nI_1 _) (Nat.le_of_ble_eq_true rfl) rfl ?_
      refine s_goto (tgt := 16) dX1_centre_46 (by decide) ?_
      first
        | (have hz : zb b i = 1 := (zn1 (zbL b i)).mp h_30
           rw [show pSUML b ax (n + 1) i s = pSUML b ax n (i + 1) (s + zb i ax) from by rw [pSUML, if_pos hz]]
           refine (show FP.fadd (zFI s) (FP.i2f (nI (zb i ax))) = zFI (s + zb i ax) from (q_f1 s (by omega) _ (zb_lt i ax)).1) ▸ ?_
           exact ih (i + 1) _ (by omega) (by have := zb_lt i ax; omega))
        | (have hz : ¬ zb b i = 1 := fun z => h_30 ((zn1 (zbL b i)).mpr z)
           rw [show pSUML b ax (n + 1) i s = pSUML b ax n (i + 1) s from by rw [pSUML, if_neg hz]]
           exact ih (i + 1) _ (by omega) (by omega))
    · refine s_fload_n dX1_centre_33 rfl ?_
      refine s_iload dX1_centre_34 rfl ?_
      refine s_iload_n dX1_centre_36 rfl ?_
      refine s_cs1 dX1_centre_37 g_X1_15 (c_X7_bitOfN (by omega) (by omega)) rfl rfl (Nat.le_of_ble_eq_true rfl) (Nat.le_of_ble_eq_true rfl) rfl ?_
      refine s_i2f dX1_centre_40 ?_
      refine s_fadd dX1_centre_41 (q_f1 s (by omega) _ (zb_lt i ax)).2 ?_
      refine s_fstore_n dX1_centre_42 (Nat.le_of_ble_eq_true rfl) rfl ?_
      refine s_iinc (nI (i + 1)) dX1_centre_43 rfl (nI_1 _) (Nat.le_of_ble_eq_true rfl) rfl ?_
      refine s_goto (tgt := 16) dX1_centre_46 (by decide) ?_
      first
        | (have hz : zb b i = 1 := (zn1 (zbL b i)).mp h_30
           rw [show pSUML b ax (n + 1) i s = pSUML b ax n (i + 1) (s + zb i ax) from by rw [pSUML, if_pos hz]]
           refine (show FP.fadd (zFI s) (FP.i2f (nI (zb i ax))) = zFI (s + zb i ax) from (q_f1 s (by omega) _ (zb_lt i ax)).1) ▸ ?_
           exact ih (i + 1) _ (by omega) (by have := zb_lt i ax; omega))
        | (have hz : ¬ zb b i = 1 := fun z => h_30 ((zn1 (zbL b i)).mpr z)
           rw [show pSUML b ax (n + 1) i s = pSUML b ax n (i + 1) s from by rw [pSUML, if_neg hz]]
           exact ih (i + 1) _ (by omega) (by omega))
set_option maxHeartbeats 4000000 in
set_option maxRecDepth 100000 in
theorem c_X1_centre {Z : zS} {d : Nat} {w : zW} {b ax : Nat} (hb : b < 256) (hax : ax < 3) : zF Z M_X1_centre (d + 1) [.int (nI b), .int (nI ax)] w [.float (pCEN b ax)] w := by
  show zG Z M_X1_centre (d + 1) _ _ 0 [(0, .int (nI b)), (1, .int (nI ax))] [] w
  refine s_iload_n dX1_centre_0 rfl ?_
  refine s_cs1 dX1_centre_1 g_X1_37 (c_bcN hb) rfl rfl (Nat.le_of_ble_eq_true rfl) (Nat.le_of_ble_eq_true rfl) rfl ?_
  refine s_istore_n dX1_centre_4 (Nat.le_of_ble_eq_true rfl) rfl ?_
  refine s_iload_n dX1_centre_5 rfl ?_
  refine s_if_ne (tgt := 11) dX1_centre_6 (by decide) (fun h_6 => ?_) (fun h_6 => ?_)
  · refine s_fconst0 dX1_centre_11 ?_
    refine s_fstore_n dX1_centre_12 (Nat.le_of_ble_eq_true rfl) rfl ?_
    refine s_iconst (v := 0) dX1_centre_13 rfl ?_
    refine s_istore dX1_centre_14 (Nat.le_of_ble_eq_true rfl) rfl ?_
    have hp : pPOP b ≠ 0 := fun z => h_6 ((zn0 (by have := pPOP_le b; omega)).mpr z)
    rw [pCEN, if_neg hp]
    exact l_X1_centre hb hax hp 8 0 0 rfl (Nat.le_refl _)
  · refine s_fconst0 dX1_centre_9 ?_
    exact s_fret dX1_centre_10 rfl ⟨by rw [pCEN, if_pos ((zn0 (by have := pPOP_le b; omega)).mp h_6)], rfl⟩ rfl
def zn64 (r : UInt64) : Bool := decide (r &&& 0x7fffffffffffffff ≤ 0x7ff0000000000000)
theorem zn64_t {r : UInt64} (h : zn64 r = true) : vf_n64 r := by
  unfold zn64 at h
  have h2 := of_decide_eq_true h
  exact h2
def zOFF (b i : Nat) : UInt64 := FP.dsub (FP.f2d (pCEN b i)) 4602678819172646912
def pSPL (b : Nat) : Nat → Nat → UInt64 → UInt64
  | 0, _, a => a
  | n + 1, i, a => pSPL b n (i + 1) (FP.dadd a (FP.dmul (zOFF b i) (zOFF b i)))
def pSPO (b : Nat) : Nat → Nat → UInt64 → Bool
  | 0, _, _ => true
  | n + 1, i, a => zn64 (FP.f2d (pCEN b i)) && (zn64 (zOFF b i) && (zn64 (FP.dmul (zOFF b i) (zOFF b i)) && (zn64 (FP.dadd a (FP.dmul (zOFF b i) (zOFF b i))) && pSPO b n (i + 1) (FP.dadd a (FP.dmul (zOFF b i) (zOFF b i))))))
set_option maxHeartbeats 4000000 in
set_option maxRecDepth 100000 in
theorem l_X1_spreadOf {Z : zS} {d : Nat} {w : zW} {b : Nat} (hb : b < 256) : ∀ (n : Nat) (i : Nat) (a : UInt64), i + n = 3 → pSPO b n i a = true → zG Z M_X1_spreadOf (d + 2) (fun r1 w1 => r1 = [.double (pSPL b n i a)] ∧ w1 = w) w.length 4 [(0, .int (nI b)), (1, .double a), (3, .int (nI i))] [] w := by
  intro n
  induction n with
  | zero =>
    intro i a hi ho
    have hi : i = 3 := by omega
    subst hi
    refine s_iload_n dX1_spreadOf_4 rfl ?_
    refine s_iconst (v := 3) dX1_spreadOf_5 rfl ?_
    refine s_icmp_ge (tgt := 35) dX1_spreadOf_6 (by decide) (fun hz => ?_) (fun h => absurd (by decide) h)
    clear hz
    refine s_dload_n dX1_spreadOf_35 rfl ?_
    exact s_dret dX1_spreadOf_36 rfl ⟨rfl, rfl⟩ rfl
  | succ n ih =>
    intro i a hi ho
    have hm : i < 3 := by omega
    rw [pSPO, Bool.and_eq_true, Bool.and_eq_true, Bool.and_eq_true, Bool.and_eq_true] at ho
    obtain ⟨o1, o2, o3, o4, o5⟩ := ho
    refine s_iload_n dX1_spreadOf_4 rfl ?_
    refine s_iconst (v := 3) dX1_spreadOf_5 rfl ?_
    refine s_icmp_ge (tgt := 35) dX1_spreadOf_6 (by decide) (fun h => absurd h (nI_ge hm (by decide))) (fun hz => ?_)
    clear hz
    refine s_iload_n dX1_spreadOf_9 rfl ?_
    refine s_iload_n dX1_spreadOf_10 rfl ?_
    refine s_cs1 dX1_spreadOf_11 g_X1_60 (c_X1_centre hb hm) rfl rfl (Nat.le_of_ble_eq_true rfl) (Nat.le_of_ble_eq_true rfl) rfl ?_
    refine s_f2d dX1_spreadOf_14 (zn64_t o1) ?_
    refine s_ldc2d (v := (4602678819172646912)) dX1_spreadOf_15 (zin 509 (by decide +kernel) (by decide +kernel)) ?_
    refine s_dsub dX1_spreadOf_18 (zn64_t o2) ?_
    refine s_dstore dX1_spreadOf_19 (Nat.le_of_ble_eq_true rfl) rfl ?_
    refine s_dload_n dX1_spreadOf_21 rfl ?_
    refine s_dload dX1_spreadOf_22 rfl ?_
    refine s_dload dX1_spreadOf_24 rfl ?_
    refine s_dmul dX1_spreadOf_26 (zn64_t o3) ?_
    refine s_dadd dX1_spreadOf_27 (zn64_t o4) ?_
    refine s_dstore_n dX1_spreadOf_28 (Nat.le_of_ble_eq_true rfl) rfl ?_
    refine s_iinc (nI (i + 1)) dX1_spreadOf_29 rfl (nI_1 _) (Nat.le_of_ble_eq_true rfl) rfl ?_
    refine s_goto (tgt := 4) dX1_spreadOf_32 (by decide) ?_
    refine s_take 3 ?_
    exact ih (i + 1) _ (by omega) o5
set_option maxHeartbeats 4000000 in
set_option maxRecDepth 100000 in
theorem c_X1_spreadOf {Z : zS} {d : Nat} {w : zW} {b : Nat} (hb : b < 256) (ho : pSPO b 3 0 FP.dconst0 = true) : zF Z M_X1_spreadOf (d + 2) [.int (nI b)] w [.double (pSPL b 3 0 FP.dconst0)] w := by
  show zG Z M_X1_spreadOf (d + 2) _ _ 0 [(0, .int (nI b))] [] w
  refine s_dconst0 dX1_spreadOf_0 ?_
  refine s_dstore_n dX1_spreadOf_1 (Nat.le_of_ble_eq_true rfl) rfl ?_
  refine s_iconst (v := 0) dX1_spreadOf_2 rfl ?_
  refine s_istore_n dX1_spreadOf_3 (Nat.le_of_ble_eq_true rfl) rfl ?_
  exact l_X1_spreadOf hb 3 0 _ rfl ho
end
section
/-! ===== bits of floats ===== -/
def zc1 (x : UInt64) : Int32 := Op.cmpValue (FP.dcmp x FP.dconst1) .g
def zdm2 (x : UInt64) : UInt64 := FP.dmul x 4611686018427387904
def exL : Nat → UInt64 → Int32 → Option Int32
  | 0, _, _ => none
  | n + 1, x, e => if 0 ≤ Op.cmpValue (FP.dcmp x FP.dconst1) .g then some e else if e ≤ -100 then some e else if zn64 (zdm2 x) = true then exL n (zdm2 x) (e + (-1)) else none
def frL : Nat → UInt64 → Int32 → Option UInt64
  | 0, _, _ => none
  | n + 1, x, i => if 0 ≤ i then (if zn64 (FP.dsub x FP.dconst1) = true then some (FP.dsub x FP.dconst1) else none) else if zn64 (zdm2 x) = true then frL n (zdm2 x) (i + 1) else none
set_option maxHeartbeats 4000000 in
set_option maxRecDepth 100000 in
theorem l_X0_exponentOf {Z : zS} {d : Nat} {w : zW} {v : UInt64} {r : Int32} : ∀ (n : Nat) (x : UInt64) (e : Int32), exL n x e = some r → zG Z M_X0_exponentOf d (fun r1 w1 => r1 = [.int r] ∧ w1 = w) w.length 5 [(0, .double v), (2, .double x), (4, .int e)] [] w := by
  intro n
  induction n with
  | zero =>
    intro x e h
    cases h
  | succ n ih =>
    intro x e h
    rw [exL] at h
    refine s_dload_n dX0_exponentOf_5 rfl ?_
    refine s_dconst1 dX0_exponentOf_6 ?_
    refine s_dcmp dX0_exponentOf_7 ?_
    refine s_if_ge (tgt := 30) dX0_exponentOf_8 (by decide) (fun h_8 => ?_) (fun h_8 => ?_)
    · refine s_iload dX0_exponentOf_30 rfl ?_
      exact s_iret dX0_exponentOf_32 rfl ⟨by rw [if_pos h_8] at h; rw [Option.some.inj h], rfl⟩ rfl
    · refine s_iload dX0_exponentOf_11 rfl ?_
      refine s_bipush (v := (-100)) dX0_exponentOf_13 rfl ?_
      refine s_icmp_le (tgt := 30) dX0_exponentOf_15 (by decide) (fun h_15 => ?_) (fun h_15 => ?_)
      · refine s_iload dX0_exponentOf_30 rfl ?_
        exact s_iret dX0_exponentOf_32 rfl ⟨by rw [if_neg h_8, if_pos h_15] at h; rw [Option.some.inj h], rfl⟩ rfl
      · rw [if_neg h_8, if_neg h_15] at h
        have c : zn64 (zdm2 x) = true := Classical.byContradiction (fun z => by rw [if_neg z] at h; cases h)
        rw [if_pos c] at h
        refine s_dload_n dX0_exponentOf_18 rfl ?_
        refine s_ldc2d (v := (4611686018427387904)) dX0_exponentOf_19 (zin 495 (by decide +kernel) (by decide +kernel)) ?_
        refine s_dmul dX0_exponentOf_22 (zn64_t c) ?_
        refine s_dstore_n dX0_exponentOf_23 (Nat.le_of_ble_eq_true rfl) rfl ?_
        refine s_iinc (_ + (-1)) dX0_exponentOf_24 rfl rfl (Nat.le_of_ble_eq_true rfl) rfl ?_
        refine s_goto (tgt := 5) dX0_exponentOf_27 (by decide) ?_
        exact ih _ _ h
set_option maxHeartbeats 4000000 in
set_option maxRecDepth 100000 in
theorem c_X0_exponentOf {Z : zS} {d : Nat} {w : zW} {v : UInt64} {r : Int32} (h : exL 200 v 0 = some r) : zF Z M_X0_exponentOf (d) [.double v] w [.int r] w := by
  show zG Z M_X0_exponentOf (d) _ _ 0 [(0, .double v)] [] w
  refine s_dload_n dX0_exponentOf_0 rfl ?_
  refine s_dstore_n dX0_exponentOf_1 (Nat.le_of_ble_eq_true rfl) rfl ?_
  refine s_iconst (v := 0) dX0_exponentOf_2 rfl ?_
  refine s_istore dX0_exponentOf_3 (Nat.le_of_ble_eq_true rfl) rfl ?_
  exact l_X0_exponentOf 200 v 0 h
set_option maxHeartbeats 4000000 in
set_option maxRecDepth 100000 in
theorem l_X0_fractionOf {Z : zS} {d : Nat} {w : zW} {v : UInt64} {e : Int32} {r : UInt64} : ∀ (n : Nat) (x : UInt64) (i : Int32), frL n x i = some r → zG Z M_X0_fractionOf d (fun r1 w1 => r1 = [.double r] ∧ w1 = w) w.length 5 [(0, .double v), (2, .int e), (3, .double x), (5, .int i)] [] w := by
  intro n
  induction n with
  | zero =>
    intro x i h
    cases h
  | succ n ih =>
    intro x i h
    rw [frL] at h
    refine s_iload dX0_fractionOf_5 rfl ?_
    refine s_if_ge (tgt := 22) dX0_fractionOf_7 (by decide) (fun h_7 => ?_) (fun h_7 => ?_)
    · rw [if_pos h_7] at h
      have c : zn64 (FP.dsub x FP.dconst1) = true := Classical.byContradiction (fun z => by rw [if_neg z] at h; cases h)
      rw [if_pos c] at h
      refine s_dload_n dX0_fractionOf_22 rfl ?_
      refine s_dconst1 dX0_fractionOf_23 ?_
      refine s_dsub dX0_fractionOf_24 (zn64_t c) ?_
      exact s_dret dX0_fractionOf_25 rfl ⟨by rw [Option.some.inj h], rfl⟩ rfl
    · rw [if_neg h_7] at h
      have c : zn64 (zdm2 x) = true := Classical.byContradiction (fun z => by rw [if_neg z] at h; cases h)
      rw [if_pos c] at h
      refine s_dload_n dX0_fractionOf_10 rfl ?_
      refine s_ldc2d (v := (4611686018427387904)) dX0_fractionOf_11 (zin 495 (by decide +kernel) (by decide +kernel)) ?_
      refine s_dmul dX0_fractionOf_14 (zn64_t c) ?_
      refine s_dstore_n dX0_fractionOf_15 (Nat.le_of_ble_eq_true rfl) rfl ?_
      refine s_iinc (_ + 1) dX0_fractionOf_16 rfl rfl (Nat.le_of_ble_eq_true rfl) rfl ?_
      refine s_goto (tgt := 5) dX0_fractionOf_19 (by decide) ?_
      exact ih _ _ h
set_option maxHeartbeats 4000000 in
set_option maxRecDepth 100000 in
theorem c_X0_fractionOf {Z : zS} {d : Nat} {w : zW} {v : UInt64} {e : Int32} {r : UInt64} (h : frL 200 v e = some r) : zF Z M_X0_fractionOf (d) [.double v, .int e] w [.double r] w := by
  show zG Z M_X0_fractionOf (d) _ _ 0 [(0, .double v), (2, .int e)] [] w
  refine s_dload_n dX0_fractionOf_0 rfl ?_
  refine s_dstore_n dX0_fractionOf_1 (Nat.le_of_ble_eq_true rfl) rfl ?_
  refine s_iload_n dX0_fractionOf_2 rfl ?_
  refine s_istore dX0_fractionOf_3 (Nat.le_of_ble_eq_true rfl) rfl ?_
  exact l_X0_fractionOf 200 v e h
def zOFr (e : Int32) (fr : UInt64) : Int32 := (e + 127) <<< ((23 : Int32) &&& 31) + FP.d2i (FP.dmul fr 4710765210229538816)
def zOF (v : UInt32) : Option Int32 :=
  if 0 < Op.cmpValue (FP.fcmp v FP.fconst0) .g then
    (if zn64 (FP.f2d v) = true then
      match exL 200 (FP.f2d v) 0 with
      | none => none
      | some e => match frL 200 (FP.f2d v) e with
        | none => none
        | some fr => if zn64 (FP.dmul fr 4710765210229538816) = true then some (zOFr e fr) else none
    else none)
  else some 0
theorem zOF_pos {v : UInt32} {r : Int32} (h : zOF v = some r) (h3 : 0 < Op.cmpValue (FP.fcmp v FP.fconst0) .g) : ∃ (e : Int32) (fr : UInt64), zn64 (FP.f2d v) = true ∧ exL 200 (FP.f2d v) 0 = some e ∧ frL 200 (FP.f2d v) e = some fr ∧ zn64 (FP.dmul fr 4710765210229538816) = true ∧ r = zOFr e fr := by
  unfold zOF at h
  rw [if_pos h3] at h
  by_cases c1 : zn64 (FP.f2d v) = true
  · rw [if_pos c1] at h
    cases he : exL 200 (FP.f2d v) 0 with
    | none => rw [he] at h; cases h
    | some e =>
      rw [he] at h
      dsimp only at h
      cases hf : frL 200 (FP.f2d v) e with
      | none => rw [hf] at h; cases h
      | some fr =>
        rw [hf] at h
        dsimp only at h
        by_cases c2 : zn64 (FP.dmul fr 4710765210229538816) = true
        · rw [if_pos c2] at h
          exact ⟨e, fr, c1, rfl, hf, c2, (Option.some.inj h).symm⟩
        · rw [if_neg c2] at h; cases h
  · rw [if_neg c1] at h; cases h
theorem zOF_neg {v : UInt32} {r : Int32} (h : zOF v = some r) (h3 : ¬ 0 < Op.cmpValue (FP.fcmp v FP.fconst0) .g) : r = 0 := by
  unfold zOF at h
  rw [if_neg h3] at h
  exact (Option.some.inj h).symm
def zODr (e : Int32) (fr : UInt64) : Int64 := (e + 1023).toInt64 <<< ((52 : Int32).toInt64 &&& 63) + FP.d2l (FP.dmul fr 4841369599423283200)
def zOD (v : UInt64) : Option Int64 :=
  if 0 < Op.cmpValue (FP.dcmp v FP.dconst0) .g then
      match exL 200 v 0 with
      | none => none
      | some e => match frL 200 v e with
        | none => none
        | some fr => if zn64 (FP.dmul fr 4841369599423283200) = true then some (zODr e fr) else none
  else some 0
theorem zOD_pos {v : UInt64} {r : Int64} (h : zOD v = some r) (h3 : 0 < Op.cmpValue (FP.dcmp v FP.dconst0) .g) : ∃ (e : Int32) (fr : UInt64), exL 200 v 0 = some e ∧ frL 200 v e = some fr ∧ zn64 (FP.dmul fr 4841369599423283200) = true ∧ r = zODr e fr := by
  unfold zOD at h
  rw [if_pos h3] at h
  cases he : exL 200 v 0 with
  | none => rw [he] at h; cases h
  | some e =>
    rw [he] at h
    dsimp only at h
    cases hf : frL 200 v e with
    | none => rw [hf] at h; cases h
    | some fr =>
      rw [hf] at h
      dsimp only at h
      by_cases c2 : zn64 (FP.dmul fr 4841369599423283200) = true
      · rw [if_pos c2] at h
        exact ⟨e, fr, rfl, hf, c2, (Option.some.inj h).symm⟩
      · rw [if_neg c2] at h; cases h
theorem zOD_neg {v : UInt64} {r : Int64} (h : zOD v = some r) (h3 : ¬ 0 < Op.cmpValue (FP.dcmp v FP.dconst0) .g) : r = 0 := by
  unfold zOD at h
  rw [if_neg h3] at h
  exact (Option.some.inj h).symm
set_option maxHeartbeats 4000000 in
set_option maxRecDepth 100000 in
theorem c_X0_ofFloat {Z : zS} {d : Nat} {w : zW} {v : UInt32} {r : Int32} (h : zOF v = some r) : zF Z M_X0_ofFloat (d + 1) [.float v] w [.int r] w := by
  show zG Z M_X0_ofFloat (d + 1) _ _ 0 [(0, .float v)] [] w
  refine s_fload_n dX0_ofFloat_0 rfl ?_
  refine s_fconst0 dX0_ofFloat_1 ?_
  refine s_fcmp dX0_ofFloat_2 ?_
  refine s_if_gt (tgt := 8) dX0_ofFloat_3 (by decide) (fun h_3 => ?_) (fun h_3 => ?_)
  · obtain ⟨e, fr, c1, c2, c3, c4, c5⟩ := zOF_pos h h_3
    refine s_fload_n dX0_ofFloat_8 rfl ?_
    refine s_f2d dX0_ofFloat_9 (zn64_t c1) ?_
    refine s_cs1 dX0_ofFloat_10 g_X0_7 (c_X0_exponentOf c2) rfl rfl (Nat.le_of_ble_eq_true rfl) (Nat.le_of_ble_eq_true rfl) rfl ?_
    refine s_istore_n dX0_ofFloat_13 (Nat.le_of_ble_eq_true rfl) rfl ?_
    refine s_iload_n dX0_ofFloat_14 rfl ?_
    refine s_bipush (v := 127) dX0_ofFloat_15 rfl ?_
    refine s_iadd dX0_ofFloat_17 ?_
    refine s_bipush (v := 23) dX0_ofFloat_18 rfl ?_
    refine s_ishl dX0_ofFloat_20 ?_
    refine s_fload_n dX0_ofFloat_21 rfl ?_
    refine s_f2d dX0_ofFloat_22 (zn64_t c1) ?_
    refine s_iload_n dX0_ofFloat_23 rfl ?_
    refine s_cs1 dX0_ofFloat_24 g_X0_13 (c_X0_fractionOf c3) rfl rfl (Nat.le_of_ble_eq_true rfl) (Nat.le_of_ble_eq_true rfl) rfl ?_
    refine s_ldc2d (v := (4710765210229538816)) dX0_ofFloat_27 (zin 499 (by decide +kernel) (by decide +kernel)) ?_
    refine s_dmul dX0_ofFloat_30 (zn64_t c4) ?_
    refine s_d2i dX0_ofFloat_31 ?_
    refine s_iadd dX0_ofFloat_32 ?_
    exact s_iret dX0_ofFloat_33 rfl ⟨by rw [c5]; rfl, rfl⟩ rfl
  · refine s_iconst (v := 0) dX0_ofFloat_6 rfl ?_
    exact s_iret dX0_ofFloat_7 rfl ⟨by rw [zOF_neg h h_3], rfl⟩ rfl
set_option maxHeartbeats 4000000 in
set_option maxRecDepth 100000 in
theorem c_X0_ofDouble {Z : zS} {d : Nat} {w : zW} {v : UInt64} {r : Int64} (h : zOD v = some r) : zF Z M_X0_ofDouble (d + 1) [.double v] w [.long r] w := by
  show zG Z M_X0_ofDouble (d + 1) _ _ 0 [(0, .double v)] [] w
  refine s_dload_n dX0_ofDouble_0 rfl ?_
  refine s_dconst0 dX0_ofDouble_1 ?_
  refine s_dcmp dX0_ofDouble_2 ?_
  refine s_if_gt (tgt := 8) dX0_ofDouble_3 (by decide) (fun h_3 => ?_) (fun h_3 => ?_)
  · obtain ⟨e, fr, c2, c3, c4, c5⟩ := zOD_pos h h_3
    refine s_dload_n dX0_ofDouble_8 rfl ?_
    refine s_cs1 dX0_ofDouble_9 g_X0_7 (c_X0_exponentOf c2) rfl rfl (Nat.le_of_ble_eq_true rfl) (Nat.le_of_ble_eq_true rfl) rfl ?_
    refine s_istore_n dX0_ofDouble_12 (Nat.le_of_ble_eq_true rfl) rfl ?_
    refine s_iload_n dX0_ofDouble_13 rfl ?_
    refine s_sipush (v := 1023) dX0_ofDouble_14 rfl ?_
    refine s_iadd dX0_ofDouble_17 ?_
    refine s_i2l dX0_ofDouble_18 rfl ?_
    refine s_bipush (v := 52) dX0_ofDouble_19 rfl ?_
    refine s_lshl dX0_ofDouble_21 rfl ?_
    refine s_dload_n dX0_ofDouble_22 rfl ?_
    refine s_iload_n dX0_ofDouble_23 rfl ?_
    refine s_cs1 dX0_ofDouble_24 g_X0_13 (c_X0_fractionOf c3) rfl rfl (Nat.le_of_ble_eq_true rfl) (Nat.le_of_ble_eq_true rfl) rfl ?_
    refine s_ldc2d (v := (4841369599423283200)) dX0_ofDouble_27 (zin 513 (by decide +kernel) (by decide +kernel)) ?_
    refine s_dmul dX0_ofDouble_30 (zn64_t c4) ?_
    refine s_d2l dX0_ofDouble_31 ?_
    refine s_ladd dX0_ofDouble_32 ?_
    exact s_lret dX0_ofDouble_33 rfl ⟨by rw [c5]; rfl, rfl⟩ rfl
  · refine s_lconst (v := 0) dX0_ofDouble_6 rfl ?_
    exact s_lret dX0_ofDouble_7 rfl ⟨by rw [zOD_neg h h_3], rfl⟩ rfl
set_option maxHeartbeats 4000000 in
set_option maxRecDepth 100000 in
theorem c_Jxf58ca_isNaN_12338 {Z : zS} {d : Nat} {w : zW} {v : UInt32} : zF Z M_Jxf58ca_isNaN_12338 (d) [.float v] w [.int (if Op.cmpValue (FP.fcmp v v) .l = 0 then 0 else 1)] w := by
  show zG Z M_Jxf58ca_isNaN_12338 (d) _ _ 0 [(0, .float v)] [] w
  refine s_fload_n dJxf58ca_isNaN_12338_0 rfl ?_
  refine s_fload_n dJxf58ca_isNaN_12338_1 rfl ?_
  refine s_fcmp dJxf58ca_isNaN_12338_2 ?_
  refine s_if_eq (tgt := 10) dJxf58ca_isNaN_12338_3 (by decide) (fun h_3 => ?_) (fun h_3 => ?_)
  · refine s_iconst (v := 0) dJxf58ca_isNaN_12338_10 rfl ?_
    exact s_zret dJxf58ca_isNaN_12338_11 rfl (by first | exact Or.inl rfl | exact Or.inr rfl) ⟨by simp [h_3], rfl⟩ rfl
  · refine s_iconst (v := 1) dJxf58ca_isNaN_12338_6 rfl ?_
    refine s_goto (tgt := 11) dJxf58ca_isNaN_12338_7 (by decide) ?_
    exact s_zret dJxf58ca_isNaN_12338_11 rfl (by first | exact Or.inl rfl | exact Or.inr rfl) ⟨by simp [h_3], rfl⟩ rfl
set_option maxHeartbeats 4000000 in
set_option maxRecDepth 100000 in
theorem c_Jxe99ae_isNaN_b9ae7 {Z : zS} {d : Nat} {w : zW} {v : UInt64} : zF Z M_Jxe99ae_isNaN_b9ae7 (d) [.double v] w [.int (if Op.cmpValue (FP.dcmp v v) .l = 0 then 0 else 1)] w := by
  show zG Z M_Jxe99ae_isNaN_b9ae7 (d) _ _ 0 [(0, .double v)] [] w
  refine s_dload_n dJxe99ae_isNaN_b9ae7_0 rfl ?_
  refine s_dload_n dJxe99ae_isNaN_b9ae7_1 rfl ?_
  refine s_dcmp dJxe99ae_isNaN_b9ae7_2 ?_
  refine s_if_eq (tgt := 10) dJxe99ae_isNaN_b9ae7_3 (by decide) (fun h_3 => ?_) (fun h_3 => ?_)
  · refine s_iconst (v := 0) dJxe99ae_isNaN_b9ae7_10 rfl ?_
    exact s_zret dJxe99ae_isNaN_b9ae7_11 rfl (by first | exact Or.inl rfl | exact Or.inr rfl) ⟨by simp [h_3], rfl⟩ rfl
  · refine s_iconst (v := 1) dJxe99ae_isNaN_b9ae7_6 rfl ?_
    refine s_goto (tgt := 11) dJxe99ae_isNaN_b9ae7_7 (by decide) ?_
    exact s_zret dJxe99ae_isNaN_b9ae7_11 rfl (by first | exact Or.inl rfl | exact Or.inr rfl) ⟨by simp [h_3], rfl⟩ rfl
set_option maxHeartbeats 4000000 in
set_option maxRecDepth 100000 in
theorem c_Jxf58ca_floatToIntBits_5c35a {Z : zS} {d : Nat} {w : zW} {v : UInt32} (hv : Op.cmpValue (FP.fcmp v v) .l = 0) : zF Z M_Jxf58ca_floatToIntBits_5c35a (d + 1) [.float v] w [.int v.toInt32] w := by
  show zG Z M_Jxf58ca_floatToIntBits_5c35a (d + 1) _ _ 0 [(0, .float v)] [] w
  refine s_fload_n dJxf58ca_floatToIntBits_5c35a_0 rfl ?_
  refine s_cs1 dJxf58ca_floatToIntBits_5c35a_1 g_Jxf58ca_59 (c_Jxf58ca_isNaN_12338) rfl rfl (Nat.le_of_ble_eq_true rfl) (Nat.le_of_ble_eq_true rfl) rfl ?_
  refine s_if_ne (tgt := 12) dJxf58ca_floatToIntBits_5c35a_4 (by decide) (fun h => absurd (show (if Op.cmpValue (FP.fcmp v v) .l = 0 then (0 : Int32) else 1) = 0 from if_pos hv) h) (fun hz => ?_)
  clear hz
  refine s_fload_n dJxf58ca_floatToIntBits_5c35a_7 rfl ?_
  refine s_f2bits dJxf58ca_floatToIntBits_5c35a_8 (zin 956 (by decide +kernel) (by decide +kernel)) (zin 958 (by decide +kernel) (by decide +kernel)) (zin 957 (by decide +kernel) (by decide +kernel)) (zin 70 (by decide +kernel) (by decide +kernel)) (Nat.le_of_ble_eq_true rfl) ?_
  exact s_iret dJxf58ca_floatToIntBits_5c35a_11 rfl ⟨rfl, rfl⟩ rfl
set_option maxHeartbeats 4000000 in
set_option maxRecDepth 100000 in
theorem c_Jxe99ae_doubleToLongBits_ccdee {Z : zS} {d : Nat} {w : zW} {v : UInt64} (hv : Op.cmpValue (FP.dcmp v v) .l = 0) : zF Z M_Jxe99ae_doubleToLongBits_ccdee (d + 1) [.double v] w [.long v.toInt64] w := by
  show zG Z M_Jxe99ae_doubleToLongBits_ccdee (d + 1) _ _ 0 [(0, .double v)] [] w
  refine s_dload_n dJxe99ae_doubleToLongBits_ccdee_0 rfl ?_
  refine s_cs1 dJxe99ae_doubleToLongBits_ccdee_1 g_Jxe99ae_122 (c_Jxe99ae_isNaN_b9ae7) rfl rfl (Nat.le_of_ble_eq_true rfl) (Nat.le_of_ble_eq_true rfl) rfl ?_
  refine s_if_ne (tgt := 12) dJxe99ae_doubleToLongBits_ccdee_4 (by decide) (fun h => absurd (show (if Op.cmpValue (FP.dcmp v v) .l = 0 then (0 : Int32) else 1) = 0 from if_pos hv) h) (fun hz => ?_)
  clear hz
  refine s_dload_n dJxe99ae_doubleToLongBits_ccdee_7 rfl ?_
  refine s_d2bits dJxe99ae_doubleToLongBits_ccdee_8 (zin 972 (by decide +kernel) (by decide +kernel)) (zin 974 (by decide +kernel) (by decide +kernel)) (zin 973 (by decide +kernel) (by decide +kernel)) (zin 71 (by decide +kernel) (by decide +kernel)) (Nat.le_of_ble_eq_true rfl) ?_
  exact s_lret dJxe99ae_doubleToLongBits_ccdee_11 rfl ⟨rfl, rfl⟩ rfl
end
section
/-! ===== rows, tapes, what is held ===== -/
theorem zg1 {w : zW} {i j : Nat} {x e : va_E} (h : w[j]? = some e) (hn : i ≠ j) : (w.set i x)[j]? = some e := by
  rw [List.getElem?_set_ne hn]
  exact h
theorem zgs {w : zW} {i : Nat} {x : va_E} (hl : i < w.length) : (w.set i x)[i]? = some x := by
  rw [List.getElem?_set_self hl]
theorem zlt {w : zW} {i : Nat} {e : va_E} (h : w[i]? = some e) : i < w.length := (List.getElem?_eq_some_iff.mp h).1
abbrev oRW (a b : Nat) (n : Int32) : va_E := .inr (1, [.ref a, .ref b, .int n])
abbrev oTP (a : Nat) (s n : Int32) : va_E := .inr (3, [.ref a, .int s, .int n])
abbrev oHD (b k : Int32) (x y z : Nat) : va_E := .inr (0, [.int b, .int k, .ref x, .ref y, .ref z])
abbrev oSH (m l : Int32) (a b c d : Nat) : va_E := .inr (2, [.int m, .int l, .ref a, .ref b, .ref c, .ref d])
abbrev oTX (a : Nat) (n : Int32) : va_E := .inr (4, [.ref a, .int n])
abbrev aI (n : Nat) (f : Nat → Int32) : va_E := .inl (0, n, .inl f)
abbrev aL (n : Nat) (f : Nat → Int64) : va_E := .inl (1, n, .inr (.inl f))
abbrev aB (n : Nat) (f : Nat → Int32) : va_E := .inl (2, n, .inl f)
abbrev aZ (n : Nat) (f : Nat → Int32) : va_E := .inl (3, n, .inl f)
set_option maxHeartbeats 4000000 in
set_option maxRecDepth 100000 in
theorem c_X3_empty {Z : zS} {d : Nat} {w : zW} {k a b : Nat} {n : Int32} (hk : w[k]? = some (oRW a b n)) : zF Z M_X3_empty (d) [.ref k] w [.int 0] (w.set k (oRW a b 0)) := by
  show zG Z M_X3_empty (d) _ _ 0 [(0, .ref k)] [] w
  refine s_aload_n dX3_empty_0 rfl ?_
  refine s_iconst (v := 0) dX3_empty_1 rfl ?_
  refine s_put dX3_empty_2 f_X3_18 (by assumption) (fun _ => ⟨rfl, rfl⟩) (Nat.le_of_ble_eq_true rfl) ?_
  refine s_iconst (v := 0) dX3_empty_5 rfl ?_
  exact s_iret dX3_empty_6 rfl ⟨rfl, rfl⟩ (by simp only [List.length_set]; rfl)
set_option maxHeartbeats 4000000 in
set_option maxRecDepth 100000 in
theorem c_append_full {Z : zS} {d : Nat} {w : zW} {k a b s l : Nat} {x y : Int32} (hk : w[k]? = some (oRW a b (nI s))) (hs : s < 2 ^ 31) (hl : l ≤ s) : zF Z M_X3_append (d) [.ref k, .int x, .int y, .int (nI l)] w [.int (-4)] w := by
  show zG Z M_X3_append (d) _ _ 0 [(0, .ref k), (1, .int x), (2, .int y), (3, .int (nI l))] [] w
  refine s_aload_n dX3_append_0 rfl ?_
  refine s_get dX3_append_1 f_X3_18 (by assumption) (by rfl) ?_
  refine s_iload_n dX3_append_4 rfl ?_
  refine s_icmp_ge (tgt := 17) dX3_append_5 (by decide) (fun hz => ?_) (fun h => absurd (nI_le hl hs) h)
  clear hz
  refine s_bipush (v := (-4)) dX3_append_17 rfl ?_
  exact s_iret dX3_append_19 rfl ⟨rfl, rfl⟩ rfl
set_option maxHeartbeats 4000000 in
set_option maxRecDepth 100000 in
theorem c_append_ok {Z : zS} {d : Nat} {w : zW} {k a b s l : Nat} {f g : Nat → Int32} (hk : w[k]? = some (oRW a b (nI s))) (ha : w[a]? = some (aI 8 f)) (hb : w[b]? = some (aI 8 g)) (n1 : a ≠ k) (n2 : b ≠ k) (n3 : a ≠ b) {x y : Int32} (hs : s < l) (hl : l ≤ 8) : zF Z M_X3_append (d) [.ref k, .int x, .int y, .int (nI l)] w [.int (nI (s + 1))] (((w.set a (aI 8 (upd f s x))).set b (aI 8 (upd g s y))).set k (oRW a b (nI (s + 1)))) := by
  show zG Z M_X3_append (d) _ _ 0 [(0, .ref k), (1, .int x), (2, .int y), (3, .int (nI l))] [] w
  have lk := zlt hk
  have la := zlt ha
  have lb := zlt hb
  have n1s := n1.symm
  have n2s := n2.symm
  have n3s := n3.symm
  have hc : (nI s).toNatClampNeg = s := nI_clamp (by omega)
  refine s_aload_n dX3_append_0 rfl ?_
  refine s_get dX3_append_1 f_X3_18 (by repeat (first | assumption | refine zg1 ?_ (by assumption) | (refine zgs ?_; (try simp only [List.length_set]); assumption))) (by rfl) ?_
  refine s_iload_n dX3_append_4 rfl ?_
  refine s_icmp_ge (tgt := 17) dX3_append_5 (by decide) (fun h => absurd h (nI_ge hs (by omega))) (fun hz => ?_)
  clear hz
  refine s_aload_n dX3_append_8 rfl ?_
  refine s_get dX3_append_9 f_X3_18 (by repeat (first | assumption | refine zg1 ?_ (by assumption) | (refine zgs ?_; (try simp only [List.length_set]); assumption))) (by rfl) ?_
  refine s_bipush (v := 8) dX3_append_12 rfl ?_
  refine s_icmp_lt (tgt := 20) dX3_append_14 (by decide) (fun hz => ?_) (fun h => absurd (nI_lt (show s < 8 by omega) (by decide)) h)
  clear hz
  refine s_aload_n dX3_append_20 rfl ?_
  refine s_get dX3_append_21 f_X3_11 (by repeat (first | assumption | refine zg1 ?_ (by assumption) | (refine zgs ?_; (try simp only [List.length_set]); assumption))) (by rfl) ?_
  refine s_aload_n dX3_append_24 rfl ?_
  refine s_get dX3_append_25 f_X3_18 (by repeat (first | assumption | refine zg1 ?_ (by assumption) | (refine zgs ?_; (try simp only [List.length_set]); assumption))) (by rfl) ?_
  refine s_iload_n dX3_append_28 rfl ?_
  refine s_iast dX3_append_29 (by repeat (first | assumption | refine zg1 ?_ (by assumption) | (refine zgs ?_; (try simp only [List.length_set]); assumption))) (zrd (n := 8) (by omega) (by decide)) ?_
  refine s_aload_n dX3_append_30 rfl ?_
  refine s_get dX3_append_31 f_X3_15 (by repeat (first | assumption | refine zg1 ?_ (by assumption) | (refine zgs ?_; (try simp only [List.length_set]); assumption))) (by rfl) ?_
  refine s_aload_n dX3_append_34 rfl ?_
  refine s_get dX3_append_35 f_X3_18 (by repeat (first | assumption | refine zg1 ?_ (by assumption) | (refine zgs ?_; (try simp only [List.length_set]); assumption))) (by rfl) ?_
  refine s_iload_n dX3_append_38 rfl ?_
  refine s_iast dX3_append_39 (by repeat (first | assumption | refine zg1 ?_ (by assumption) | (refine zgs ?_; (try simp only [List.length_set]); assumption))) (zrd (n := 8) (by omega) (by decide)) ?_
  refine s_aload_n dX3_append_40 rfl ?_
  refine s_dup dX3_append_41 rfl ?_
  refine s_get dX3_append_42 f_X3_18 (by repeat (first | assumption | refine zg1 ?_ (by assumption) | (refine zgs ?_; (try simp only [List.length_set]); assumption))) (by rfl) ?_
  refine s_iconst (v := 1) dX3_append_45 rfl ?_
  refine s_iadd dX3_append_46 ?_
  refine s_put dX3_append_47 f_X3_18 (by repeat (first | assumption | refine zg1 ?_ (by assumption) | (refine zgs ?_; (try simp only [List.length_set]); assumption))) (fun _ => ⟨rfl, rfl⟩) (Nat.le_of_ble_eq_true rfl) ?_
  refine s_aload_n dX3_append_50 rfl ?_
  refine s_get dX3_append_51 f_X3_18 (by repeat (first | assumption | refine zg1 ?_ (by assumption) | (refine zgs ?_; (try simp only [List.length_set]); assumption))) (by rfl) ?_
  exact s_iret dX3_append_54 rfl ⟨by rw [nI_1], by rw [hc, nI_1]; rfl⟩ (by simp only [List.length_set]; rfl)
set_option maxHeartbeats 4000000 in
set_option maxRecDepth 100000 in
theorem c_X3_whatAt {Z : zS} {d : Nat} {w : zW} {k a b i : Nat} {n : Int32} {f : Nat → Int32} (hk : w[k]? = some (oRW a b n)) (ha : w[a]? = some (aI 8 f)) (hi : i < 8) : zF Z M_X3_whatAt (d) [.ref k, .int (nI i)] w [.int (f i)] w := by
  show zG Z M_X3_whatAt (d) _ _ 0 [(0, .ref k), (1, .int (nI i))] [] w
  refine s_iload_n dX3_whatAt_0 rfl ?_
  refine s_if_lt (tgt := 19) dX3_whatAt_1 (by decide) (fun h => absurd h (nI_pos (show i < 2 ^ 31 by omega))) (fun hz => ?_)
  clear hz
  refine s_iload_n dX3_whatAt_4 rfl ?_
  refine s_bipush (v := 8) dX3_whatAt_5 rfl ?_
  refine s_icmp_ge (tgt := 19) dX3_whatAt_7 (by decide) (fun h => absurd h (nI_ge hi (by decide))) (fun hz => ?_)
  clear hz
  refine s_aload_n dX3_whatAt_10 rfl ?_
  refine s_get dX3_whatAt_11 f_X3_11 (by assumption) (by rfl) ?_
  refine s_iload_n dX3_whatAt_14 rfl ?_
  refine s_iald dX3_whatAt_15 (by assumption) (zrd (n := 8) hi (by decide)) ?_
  refine s_goto (tgt := 20) dX3_whatAt_16 (by decide) ?_
  exact s_iret dX3_whatAt_20 rfl ⟨by rw [nI_clamp (show i < 2 ^ 31 by omega)], rfl⟩ rfl
set_option maxHeartbeats 4000000 in
set_option maxRecDepth 100000 in
theorem c_X3_numberAt {Z : zS} {d : Nat} {w : zW} {k a b i : Nat} {n : Int32} {f : Nat → Int32} (hk : w[k]? = some (oRW a b n)) (ha : w[b]? = some (aI 8 f)) (hi : i < 8) : zF Z M_X3_numberAt (d) [.ref k, .int (nI i)] w [.int (f i)] w := by
  show zG Z M_X3_numberAt (d) _ _ 0 [(0, .ref k), (1, .int (nI i))] [] w
  refine s_iload_n dX3_numberAt_0 rfl ?_
  refine s_if_lt (tgt := 19) dX3_numberAt_1 (by decide) (fun h => absurd h (nI_pos (show i < 2 ^ 31 by omega))) (fun hz => ?_)
  clear hz
  refine s_iload_n dX3_numberAt_4 rfl ?_
  refine s_bipush (v := 8) dX3_numberAt_5 rfl ?_
  refine s_icmp_ge (tgt := 19) dX3_numberAt_7 (by decide) (fun h => absurd h (nI_ge hi (by decide))) (fun hz => ?_)
  clear hz
  refine s_aload_n dX3_numberAt_10 rfl ?_
  refine s_get dX3_numberAt_11 f_X3_15 (by assumption) (by rfl) ?_
  refine s_iload_n dX3_numberAt_14 rfl ?_
  refine s_iald dX3_numberAt_15 (by assumption) (zrd (n := 8) hi (by decide)) ?_
  refine s_goto (tgt := 20) dX3_numberAt_16 (by decide) ?_
  exact s_iret dX3_numberAt_20 rfl ⟨by rw [nI_clamp (show i < 2 ^ 31 by omega)], rfl⟩ rfl
set_option maxHeartbeats 4000000 in
set_option maxRecDepth 100000 in
theorem c_X3_copyFrom {Z : zS} {d : Nat} {w : zW} {k a b k2 a2 b2 : Nat} {n n2 : Int32} {f g f2 g2 : Nat → Int32} (hk : w[k]? = some (oRW a b n)) (ha : w[a]? = some (aI 8 f)) (hb : w[b]? = some (aI 8 g)) (hk2 : w[k2]? = some (oRW a2 b2 n2)) (ha2 : w[a2]? = some (aI 8 f2)) (hb2 : w[b2]? = some (aI 8 g2)) (n1 : a ≠ k) (n2q : b ≠ k) (n3 : a ≠ b) (n4 : a ≠ k2) (n5 : b ≠ k2) (n6 : a ≠ b2) (n7 : k ≠ k2) : zF Z M_X3_copyFrom (d + 1) [.ref k, .ref k2] w [] (((w.set a (aI 8 (va_cpy f2 f 0 0 8))).set b (aI 8 (va_cpy g2 g 0 0 8))).set k (oRW a b n2)) := by
  show zG Z M_X3_copyFrom (d + 1) _ _ 0 [(0, .ref k), (1, .ref k2)] [] w
  refine s_aload_n dX3_copyFrom_0 rfl ?_
  refine s_get dX3_copyFrom_1 f_X3_11 (by repeat (first | assumption | refine zg1 ?_ (by assumption) | (refine zgs ?_; (try simp only [List.length_set]); assumption))) (by rfl) ?_
  refine s_iconst (v := 0) dX3_copyFrom_4 rfl ?_
  refine s_aload_n dX3_copyFrom_5 rfl ?_
  refine s_get dX3_copyFrom_6 f_X3_11 (by repeat (first | assumption | refine zg1 ?_ (by assumption) | (refine zgs ?_; (try simp only [List.length_set]); assumption))) (by rfl) ?_
  refine s_iconst (v := 0) dX3_copyFrom_9 rfl ?_
  refine s_bipush (v := 8) dX3_copyFrom_10 rfl ?_
  refine s_copyI dX3_copyFrom_12 (zin 615 (by decide +kernel) (by decide +kernel)) (zin 617 (by decide +kernel) (by decide +kernel)) (zin 616 (by decide +kernel) (by decide +kernel)) (zin 72 (by decide +kernel) (by decide +kernel)) (by repeat (first | assumption | refine zg1 ?_ (by assumption) | (refine zgs ?_; (try simp only [List.length_set]); assumption))) (by repeat (first | assumption | refine zg1 ?_ (by assumption) | (refine zgs ?_; (try simp only [List.length_set]); assumption))) (by decide) (by decide) (by decide) (by decide) (by decide) (Nat.le_of_ble_eq_true rfl) ?_
  refine s_aload_n dX3_copyFrom_15 rfl ?_
  refine s_get dX3_copyFrom_16 f_X3_15 (by repeat (first | assumption | refine zg1 ?_ (by assumption) | (refine zgs ?_; (try simp only [List.length_set]); assumption))) (by rfl) ?_
  refine s_iconst (v := 0) dX3_copyFrom_19 rfl ?_
  refine s_aload_n dX3_copyFrom_20 rfl ?_
  refine s_get dX3_copyFrom_21 f_X3_15 (by repeat (first | assumption | refine zg1 ?_ (by assumption) | (refine zgs ?_; (try simp only [List.length_set]); assumption))) (by rfl) ?_
  refine s_iconst (v := 0) dX3_copyFrom_24 rfl ?_
  refine s_bipush (v := 8) dX3_copyFrom_25 rfl ?_
  refine s_copyI dX3_copyFrom_27 (zin 615 (by decide +kernel) (by decide +kernel)) (zin 617 (by decide +kernel) (by decide +kernel)) (zin 616 (by decide +kernel) (by decide +kernel)) (zin 72 (by decide +kernel) (by decide +kernel)) (by repeat (first | assumption | refine zg1 ?_ (by assumption) | (refine zgs ?_; (try simp only [List.length_set]); assumption))) (by repeat (first | assumption | refine zg1 ?_ (by assumption) | (refine zgs ?_; (try simp only [List.length_set]); assumption))) (by decide) (by decide) (by decide) (by decide) (by decide) (Nat.le_of_ble_eq_true rfl) ?_
  refine s_aload_n dX3_copyFrom_30 rfl ?_
  refine s_aload_n dX3_copyFrom_31 rfl ?_
  refine s_get dX3_copyFrom_32 f_X3_18 (by repeat (first | assumption | refine zg1 ?_ (by assumption) | (refine zgs ?_; (try simp only [List.length_set]); assumption))) (by rfl) ?_
  refine s_put dX3_copyFrom_35 f_X3_18 (by repeat (first | assumption | refine zg1 ?_ (by assumption) | (refine zgs ?_; (try simp only [List.length_set]); assumption))) (fun _ => ⟨rfl, rfl⟩) (Nat.le_of_ble_eq_true rfl) ?_
  exact s_vret dX3_copyFrom_38 rfl ⟨rfl, rfl⟩ (by simp only [List.length_set]; rfl)
set_option maxHeartbeats 4000000 in
set_option maxRecDepth 100000 in
theorem c_X5_holdsRow {Z : zS} {d : Nat} {w : zW} {k a : Nat} {s n : Int32} (hk : w[k]? = some (oTP a s n)) : zF Z M_X5_holdsRow (d) [.ref k] w [.int (if s = -1 then 0 else 1)] w := by
  show zG Z M_X5_holdsRow (d) _ _ 0 [(0, .ref k)] [] w
  refine s_aload_n dX5_holdsRow_0 rfl ?_
  refine s_get dX5_holdsRow_1 f_X5_13 (by assumption) (by rfl) ?_
  refine s_iconst (v := (-1)) dX5_holdsRow_4 rfl ?_
  refine s_icmp_eq (tgt := 12) dX5_holdsRow_5 (by decide) (fun h_5 => ?_) (fun h_5 => ?_)
  · refine s_iconst (v := 0) dX5_holdsRow_12 rfl ?_
    exact s_zret dX5_holdsRow_13 rfl (by first | exact Or.inl rfl | exact Or.inr rfl) ⟨by simp [h_5], rfl⟩ rfl
  · refine s_iconst (v := 1) dX5_holdsRow_8 rfl ?_
    refine s_goto (tgt := 13) dX5_holdsRow_9 (by decide) ?_
    exact s_zret dX5_holdsRow_13 rfl (by first | exact Or.inl rfl | exact Or.inr rfl) ⟨by simp [h_5], rfl⟩ rfl
set_option maxHeartbeats 4000000 in
set_option maxRecDepth 100000 in
theorem c_X5_hasPlace {Z : zS} {d : Nat} {w : zW} {k a : Nat} {s n i : Int32} (hk : w[k]? = some (oTP a s n)) : zF Z M_X5_hasPlace (d) [.ref k, .int i] w [.int (if i < 0 then 0 else if n ≤ i then 0 else if 60 ≤ i then 0 else 1)] w := by
  show zG Z M_X5_hasPlace (d) _ _ 0 [(0, .ref k), (1, .int i)] [] w
  refine s_iload_n dX5_hasPlace_0 rfl ?_
  refine s_if_lt (tgt := 22) dX5_hasPlace_1 (by decide) (fun h_1 => ?_) (fun h_1 => ?_)
  · refine s_iconst (v := 0) dX5_hasPlace_22 rfl ?_
    exact s_zret dX5_hasPlace_23 rfl (by first | exact Or.inl rfl | exact Or.inr rfl) ⟨by simp [h_1], rfl⟩ rfl
  · refine s_iload_n dX5_hasPlace_4 rfl ?_
    refine s_aload_n dX5_hasPlace_5 rfl ?_
    refine s_get dX5_hasPlace_6 f_X5_17 (by assumption) (by rfl) ?_
    refine s_icmp_ge (tgt := 22) dX5_hasPlace_9 (by decide) (fun h_9 => ?_) (fun h_9 => ?_)
    · refine s_iconst (v := 0) dX5_hasPlace_22 rfl ?_
      exact s_zret dX5_hasPlace_23 rfl (by first | exact Or.inl rfl | exact Or.inr rfl) ⟨by simp [h_1, h_9], rfl⟩ rfl
    · refine s_iload_n dX5_hasPlace_12 rfl ?_
      refine s_bipush (v := 60) dX5_hasPlace_13 rfl ?_
      refine s_icmp_ge (tgt := 22) dX5_hasPlace_15 (by decide) (fun h_15 => ?_) (fun h_15 => ?_)
      · refine s_iconst (v := 0) dX5_hasPlace_22 rfl ?_
        exact s_zret dX5_hasPlace_23 rfl (by first | exact Or.inl rfl | exact Or.inr rfl) ⟨by simp [h_1, h_9, h_15], rfl⟩ rfl
      · refine s_iconst (v := 1) dX5_hasPlace_18 rfl ?_
        refine s_goto (tgt := 23) dX5_hasPlace_19 (by decide) ?_
        exact s_zret dX5_hasPlace_23 rfl (by first | exact Or.inl rfl | exact Or.inr rfl) ⟨by simp [h_1, h_9, h_15], rfl⟩ rfl
set_option maxHeartbeats 4000000 in
set_option maxRecDepth 100000 in
theorem c_X5_hasRun {Z : zS} {d : Nat} {w : zW} {k a : Nat} {s n i m : Int32} (hk : w[k]? = some (oTP a s n)) : zF Z M_X5_hasRun (d) [.ref k, .int i, .int m] w [.int (if m < 0 then 0 else if i < 0 then 0 else if n < m then 0 else if n - m < i then 0 else 1)] w := by
  show zG Z M_X5_hasRun (d) _ _ 0 [(0, .ref k), (1, .int i), (2, .int m)] [] w
  refine s_iload_n dX5_hasRun_0 rfl ?_
  refine s_if_lt (tgt := 30) dX5_hasRun_1 (by decide) (fun h_1 => ?_) (fun h_1 => ?_)
  · refine s_iconst (v := 0) dX5_hasRun_30 rfl ?_
    exact s_zret dX5_hasRun_31 rfl (by first | exact Or.inl rfl | exact Or.inr rfl) ⟨by simp [h_1], rfl⟩ rfl
  · refine s_iload_n dX5_hasRun_4 rfl ?_
    refine s_if_lt (tgt := 30) dX5_hasRun_5 (by decide) (fun h_5 => ?_) (fun h_5 => ?_)
    · refine s_iconst (v := 0) dX5_hasRun_30 rfl ?_
      exact s_zret dX5_hasRun_31 rfl (by first | exact Or.inl rfl | exact Or.inr rfl) ⟨by simp [h_1, h_5], rfl⟩ rfl
    · refine s_iload_n dX5_hasRun_8 rfl ?_
      refine s_aload_n dX5_hasRun_9 rfl ?_
      refine s_get dX5_hasRun_10 f_X5_17 (by assumption) (by rfl) ?_
      refine s_icmp_gt (tgt := 30) dX5_hasRun_13 (by decide) (fun h_13 => ?_) (fun h_13 => ?_)
      · refine s_iconst (v := 0) dX5_hasRun_30 rfl ?_
        exact s_zret dX5_hasRun_31 rfl (by first | exact Or.inl rfl | exact Or.inr rfl) ⟨by simp [h_1, h_5, h_13], rfl⟩ rfl
      · refine s_iload_n dX5_hasRun_16 rfl ?_
        refine s_aload_n dX5_hasRun_17 rfl ?_
        refine s_get dX5_hasRun_18 f_X5_17 (by assumption) (by rfl) ?_
        refine s_iload_n dX5_hasRun_21 rfl ?_
        refine s_isub dX5_hasRun_22 ?_
        refine s_icmp_gt (tgt := 30) dX5_hasRun_23 (by decide) (fun h_23 => ?_) (fun h_23 => ?_)
        · refine s_iconst (v := 0) dX5_hasRun_30 rfl ?_
          exact s_zret dX5_hasRun_31 rfl (by first | exact Or.inl rfl | exact Or.inr rfl) ⟨by simp [h_1, h_5, h_13, h_23], rfl⟩ rfl
        · refine s_iconst (v := 1) dX5_hasRun_26 rfl ?_
          refine s_goto (tgt := 31) dX5_hasRun_27 (by decide) ?_
          exact s_zret dX5_hasRun_31 rfl (by first | exact Or.inl rfl | exact Or.inr rfl) ⟨by simp [h_1, h_5, h_13, h_23], rfl⟩ rfl
theorem zhp {i z : Nat} (hi : i < z) (hz : z ≤ 60) : (if nI i < 0 then (0 : Int32) else if nI z ≤ nI i then 0 else if 60 ≤ nI i then 0 else 1) = 1 := by
  rw [if_neg (nI_pos (by omega)), if_neg (nI_ge hi (by omega)), if_neg (show ¬ (60 : Int32) ≤ nI i from nI_ge (show i < 60 by omega) (by decide))]
def zcut (s : Nat) (v : Int64) : Int64 := if s = 0 then v.toInt32.toInt8.toInt32.toInt64 else if s = 1 then v.toInt32.toInt16.toInt32.toInt64 else if s = 2 then v.toInt32.toInt64 else if s = 3 then v else if v = 0 then 0 else 1
set_option maxHeartbeats 4000000 in
set_option maxRecDepth 100000 in
theorem c_X5_itemAt {Z : zS} {d : Nat} {w : zW} {k a i z : Nat} {s : Int32} {f : Nat → Int64} (hk : w[k]? = some (oTP a s (nI z))) (ha : w[a]? = some (aL 60 f)) (hi : i < z) (hz : z ≤ 60) : zF Z M_X5_itemAt (d + 1) [.ref k, .int (nI i)] w [.long (f i)] w := by
  show zG Z M_X5_itemAt (d + 1) _ _ 0 [(0, .ref k), (1, .int (nI i))] [] w
  refine s_aload_n dX5_itemAt_0 rfl ?_
  refine s_iload_n dX5_itemAt_1 rfl ?_
  refine s_cv1 dX5_itemAt_2 g_X5_20 (c_X5_hasPlace hk) (by assumption) rfl rfl rfl rfl (Nat.le_of_ble_eq_true rfl) (Nat.le_of_ble_eq_true rfl) rfl ?_
  refine s_if_eq (tgt := 17) dX5_itemAt_5 (by decide) (fun h => absurd h (by rw [zhp hi hz]; decide)) (fun hz => ?_)
  clear hz
  refine s_aload_n dX5_itemAt_8 rfl ?_
  refine s_get dX5_itemAt_9 f_X5_9 (by assumption) (by rfl) ?_
  refine s_iload_n dX5_itemAt_12 rfl ?_
  refine s_lald dX5_itemAt_13 (by assumption) (zrd (n := 60) (by omega) (by decide)) ?_
  refine s_goto (tgt := 18) dX5_itemAt_14 (by decide) ?_
  exact s_lret dX5_itemAt_18 rfl ⟨by rw [nI_clamp (show i < 2 ^ 31 by omega)], rfl⟩ rfl
set_option maxHeartbeats 4000000 in
set_option maxRecDepth 100000 in
theorem c_cut0 {Z : zS} {d : Nat} {w : zW} {k a : Nat} {n : Int32} {v : Int64} (hk : w[k]? = some (oTP a (nI 0) n)) : zF Z M_X5_cut (d) [.ref k, .long v] w [.long (zcut 0 v)] w := by
  show zG Z M_X5_cut (d) _ _ 0 [(0, .ref k), (1, .long v)] [] w
  refine s_aload_n dX5_cut_0 rfl ?_
  refine s_get dX5_cut_1 f_X5_13 (by assumption) (by rfl) ?_
  refine s_tableIn (off := 32) (tgt := 36) dX5_cut_4 (by decide) (by decide) (by rfl) (by decide) ?_
  refine s_lload_n dX5_cut_36 rfl ?_
  refine s_l2i dX5_cut_37 rfl ?_
  refine s_i2b dX5_cut_38 rfl ?_
  refine s_i2l dX5_cut_39 rfl ?_
  exact s_lret dX5_cut_40 rfl ⟨rfl, rfl⟩ rfl
set_option maxHeartbeats 4000000 in
set_option maxRecDepth 100000 in
theorem c_cut1 {Z : zS} {d : Nat} {w : zW} {k a : Nat} {n : Int32} {v : Int64} (hk : w[k]? = some (oTP a (nI 1) n)) : zF Z M_X5_cut (d) [.ref k, .long v] w [.long (zcut 1 v)] w := by
  show zG Z M_X5_cut (d) _ _ 0 [(0, .ref k), (1, .long v)] [] w
  refine s_aload_n dX5_cut_0 rfl ?_
  refine s_get dX5_cut_1 f_X5_13 (by assumption) (by rfl) ?_
  refine s_tableIn (off := 37) (tgt := 41) dX5_cut_4 (by decide) (by decide) (by rfl) (by decide) ?_
  refine s_lload_n dX5_cut_41 rfl ?_
  refine s_l2i dX5_cut_42 rfl ?_
  refine s_i2s dX5_cut_43 rfl ?_
  refine s_i2l dX5_cut_44 rfl ?_
  exact s_lret dX5_cut_45 rfl ⟨rfl, rfl⟩ rfl
set_option maxHeartbeats 4000000 in
set_option maxRecDepth 100000 in
theorem c_cut2 {Z : zS} {d : Nat} {w : zW} {k a : Nat} {n : Int32} {v : Int64} (hk : w[k]? = some (oTP a (nI 2) n)) : zF Z M_X5_cut (d) [.ref k, .long v] w [.long (zcut 2 v)] w := by
  show zG Z M_X5_cut (d) _ _ 0 [(0, .ref k), (1, .long v)] [] w
  refine s_aload_n dX5_cut_0 rfl ?_
  refine s_get dX5_cut_1 f_X5_13 (by assumption) (by rfl) ?_
  refine s_tableIn (off := 42) (tgt := 46) dX5_cut_4 (by decide) (by decide) (by rfl) (by decide) ?_
  refine s_lload_n dX5_cut_46 rfl ?_
  refine s_l2i dX5_cut_47 rfl ?_
  refine s_i2l dX5_cut_48 rfl ?_
  exact s_lret dX5_cut_49 rfl ⟨rfl, rfl⟩ rfl
set_option maxHeartbeats 4000000 in
set_option maxRecDepth 100000 in
theorem c_cut3 {Z : zS} {d : Nat} {w : zW} {k a : Nat} {n : Int32} {v : Int64} (hk : w[k]? = some (oTP a (nI 3) n)) : zF Z M_X5_cut (d) [.ref k, .long v] w [.long (zcut 3 v)] w := by
  show zG Z M_X5_cut (d) _ _ 0 [(0, .ref k), (1, .long v)] [] w
  refine s_aload_n dX5_cut_0 rfl ?_
  refine s_get dX5_cut_1 f_X5_13 (by assumption) (by rfl) ?_
  refine s_tableIn (off := 46) (tgt := 50) dX5_cut_4 (by decide) (by decide) (by rfl) (by decide) ?_
  refine s_lload_n dX5_cut_50 rfl ?_
  exact s_lret dX5_cut_51 rfl ⟨rfl, rfl⟩ rfl
theorem zlcmp0 {v : Int64} : lg_cmp v 0 = 0 ↔ v = 0 := by
  unfold lg_cmp
  by_cases h1 : v > 0
  · rw [if_pos h1]
    refine ⟨fun e => absurd e (by decide), fun e => ?_⟩
    rw [e] at h1
    exact absurd h1 (by decide)
  · rw [if_neg h1]
    by_cases h2 : v = 0
    · rw [if_pos h2]
      exact ⟨fun _ => h2, fun _ => rfl⟩
    · rw [if_neg h2]
      exact ⟨fun e => absurd e (by decide), fun e => absurd e h2⟩
set_option maxHeartbeats 4000000 in
set_option maxRecDepth 100000 in
theorem c_cut4 {Z : zS} {d : Nat} {w : zW} {k a : Nat} {n : Int32} {v : Int64} (hk : w[k]? = some (oTP a (nI 4) n)) : zF Z M_X5_cut (d) [.ref k, .long v] w [.long (zcut 4 v)] w := by
  show zG Z M_X5_cut (d) _ _ 0 [(0, .ref k), (1, .long v)] [] w
  refine s_aload_n dX5_cut_0 rfl ?_
  refine s_get dX5_cut_1 f_X5_13 (by assumption) (by rfl) ?_
  refine s_tableOut (tgt := 52) dX5_cut_4 (Or.inr (by decide)) (by decide) ?_
  refine s_lload_n dX5_cut_52 rfl ?_
  refine s_lconst (v := 0) dX5_cut_53 rfl ?_
  refine s_lcmp dX5_cut_54 ?_
  refine s_if_eq (tgt := 62) dX5_cut_55 (by decide) (fun h_55 => ?_) (fun h_55 => ?_)
  · refine s_lconst (v := 0) dX5_cut_62 rfl ?_
    exact s_lret dX5_cut_63 rfl ⟨by first | (rw [show zcut 4 v = 0 from if_pos (zlcmp0.mp h_55)]) | (rw [show zcut 4 v = 1 from if_neg (fun z => h_55 (zlcmp0.mpr z))]), rfl⟩ rfl
  · refine s_lconst (v := 1) dX5_cut_58 rfl ?_
    refine s_goto (tgt := 63) dX5_cut_59 (by decide) ?_
    exact s_lret dX5_cut_63 rfl ⟨by first | (rw [show zcut 4 v = 0 from if_pos (zlcmp0.mp h_55)]) | (rw [show zcut 4 v = 1 from if_neg (fun z => h_55 (zlcmp0.mpr z))]), rfl⟩ rfl
theorem c_X5_cut {Z : zS} {d : Nat} {w : zW} {k a s : Nat} {n : Int32} {v : Int64} (hk : w[k]? = some (oTP a (nI s) n)) (hs : s < 5) : zF Z M_X5_cut d [.ref k, .long v] w [.long (zcut s v)] w := by
  rcases (show s = 0 ∨ s = 1 ∨ s = 2 ∨ s = 3 ∨ s = 4 by omega) with rfl | rfl | rfl | rfl | rfl
  · exact c_cut0 hk
  · exact c_cut1 hk
  · exact c_cut2 hk
  · exact c_cut3 hk
  · exact c_cut4 hk
set_option maxHeartbeats 4000000 in
set_option maxRecDepth 100000 in
theorem c_X5_put {Z : zS} {d : Nat} {w : zW} {k a i z s : Nat} {v : Int64} {f : Nat → Int64} (hk : w[k]? = some (oTP a (nI s) (nI z))) (ha : w[a]? = some (aL 60 f)) (hs : s < 5) (hi : i < z) (hz : z ≤ 60) : zF Z M_X5_put (d + 1) [.ref k, .int (nI i), .long v] w [] (w.set a (aL 60 (vp_updL f i (zcut s v)))) := by
  show zG Z M_X5_put (d + 1) _ _ 0 [(0, .ref k), (1, .int (nI i)), (2, .long v)] [] w
  refine s_aload_n dX5_put_0 rfl ?_
  refine s_iload_n dX5_put_1 rfl ?_
  refine s_cv1 dX5_put_2 g_X5_20 (c_X5_hasPlace hk) (by assumption) rfl rfl rfl rfl (Nat.le_of_ble_eq_true rfl) (Nat.le_of_ble_eq_true rfl) rfl ?_
  refine s_if_eq (tgt := 19) dX5_put_5 (by decide) (fun h => absurd h (by rw [zhp hi hz]; decide)) (fun hz => ?_)
  clear hz
  refine s_aload_n dX5_put_8 rfl ?_
  refine s_get dX5_put_9 f_X5_9 (by assumption) (by rfl) ?_
  refine s_iload_n dX5_put_12 rfl ?_
  refine s_aload_n dX5_put_13 rfl ?_
  refine s_lload_n dX5_put_14 rfl ?_
  refine s_cv1 dX5_put_15 g_X5_24 (c_X5_cut hk hs) (by assumption) rfl rfl rfl rfl (Nat.le_of_ble_eq_true rfl) (Nat.le_of_ble_eq_true rfl) rfl ?_
  refine s_last dX5_put_18 (by assumption) (zrd (n := 60) (by omega) (by decide)) ?_
  exact s_vret dX5_put_19 rfl ⟨rfl, by rw [nI_clamp (show i < 2 ^ 31 by omega)]⟩ (by simp only [List.length_set]; rfl)
def zfil (f : Nat → Int64) : Nat → Nat → Int64
  | 0 => f
  | i + 1 => vp_updL (zfil f i) i 0
set_option maxHeartbeats 4000000 in
set_option maxRecDepth 100000 in
theorem l_X5_becomeRow {Z : zS} {d : Nat} {w : zW} {k a : Nat} {s n1 p q : Int32} {f : Nat → Int64} (hk : w[k]? = some (oTP a s n1)) (ha : w[a]? = some (aL 60 f)) (n1q : a ≠ k) : ∀ (n : Nat) (i : Nat), i + n = 60 → zG Z M_X5_becomeRow (d) (fun r1 w1 => r1 = [] ∧ w1 = w.set a (aL 60 (zfil f 60))) w.length 12 [(0, .ref k), (1, .int p), (2, .int q), (3, .int (nI i))] [] (w.set a (aL 60 (zfil f i))) := by
  intro n
  induction n with
  | zero =>
    intro i hi
    have hi : i = 60 := by omega
    subst hi
    refine s_iload_n dX5_becomeRow_12 rfl ?_
    refine s_bipush (v := 60) dX5_becomeRow_13 rfl ?_
    refine s_icmp_ge (tgt := 31) dX5_becomeRow_15 (by decide) (fun hz => ?_) (fun h => absurd (by decide) h)
    clear hz
    exact s_vret dX5_becomeRow_31 rfl ⟨rfl, rfl⟩ (by simp only [List.length_set]; rfl)
  | succ n ih =>
    intro i hi
    have hm : i < 60 := by omega
    have la := zlt ha
    refine s_iload_n dX5_becomeRow_12 rfl ?_
    refine s_bipush (v := 60) dX5_becomeRow_13 rfl ?_
    refine s_icmp_ge (tgt := 31) dX5_becomeRow_15 (by decide) (fun h => absurd h (nI_ge hm (by decide))) (fun hz => ?_)
    clear hz
    refine s_aload_n dX5_becomeRow_18 rfl ?_
    refine s_get dX5_becomeRow_19 f_X5_9 (by repeat (first | assumption | refine zg1 ?_ (by assumption) | (refine zgs ?_; (try simp only [List.length_set]); assumption))) (by rfl) ?_
    refine s_iload_n dX5_becomeRow_22 rfl ?_
    refine s_lconst (v := 0) dX5_becomeRow_23 rfl ?_
    refine s_last dX5_becomeRow_24 (by repeat (first | assumption | refine zg1 ?_ (by assumption) | (refine zgs ?_; (try simp only [List.length_set]); assumption))) (zrd (n := 60) hm (by decide)) ?_
    refine s_iinc (nI (i + 1)) dX5_becomeRow_25 rfl (nI_1 _) (Nat.le_of_ble_eq_true rfl) rfl ?_
    refine s_goto (tgt := 12) dX5_becomeRow_28 (by decide) ?_
    rw [List.set_set, nI_clamp (by omega)]
    exact ih (i + 1) (by omega)
set_option maxHeartbeats 4000000 in
set_option maxRecDepth 100000 in
theorem c_X5_becomeRow {Z : zS} {d : Nat} {w : zW} {k a : Nat} {s n p q : Int32} {f : Nat → Int64} (hk : w[k]? = some (oTP a s n)) (ha : w[a]? = some (aL 60 f)) (n1 : a ≠ k) : zF Z M_X5_becomeRow (d) [.ref k, .int p, .int q] w [] ((w.set k (oTP a p q)).set a (aL 60 (zfil f 60))) := by
  show zG Z M_X5_becomeRow (d) _ _ 0 [(0, .ref k), (1, .int p), (2, .int q)] [] w
  have lk := zlt hk
  have la := zlt ha
  have n1s := n1.symm
  have hk2 : (w.set k (oTP a p q))[k]? = some (oTP a p q) := zgs (zlt hk)
  have ha2 : (w.set k (oTP a p q))[a]? = some (aL 60 f) := zg1 ha n1s
  have hx : (w.set k (oTP a p q)).set a (aL 60 f) = w.set k (oTP a p q) := by
    obtain ⟨hl, he⟩ := List.getElem?_eq_some_iff.mp ha2
    rw [← he, List.set_getElem_self]
  refine s_aload_n dX5_becomeRow_0 rfl ?_
  refine s_iload_n dX5_becomeRow_1 rfl ?_
  refine s_put dX5_becomeRow_2 f_X5_13 (by repeat (first | assumption | refine zg1 ?_ (by assumption) | (refine zgs ?_; (try simp only [List.length_set]); assumption))) (fun _ => ⟨rfl, rfl⟩) (Nat.le_of_ble_eq_true rfl) ?_
  refine s_aload_n dX5_becomeRow_5 rfl ?_
  refine s_iload_n dX5_becomeRow_6 rfl ?_
  refine s_put dX5_becomeRow_7 f_X5_17 (by repeat (first | assumption | refine zg1 ?_ (by assumption) | (refine zgs ?_; (try simp only [List.length_set]); assumption))) (fun _ => ⟨rfl, rfl⟩) (Nat.le_of_ble_eq_true rfl) ?_
  refine s_iconst (v := 0) dX5_becomeRow_10 rfl ?_
  refine s_istore_n dX5_becomeRow_11 (Nat.le_of_ble_eq_true rfl) rfl ?_
  rw [List.set_set]
  have K := l_X5_becomeRow (Z := Z) (d := d) (p := p) (q := q) hk2 ha2 n1 60 0 rfl
  rw [show zfil f 0 = f from rfl, hx, List.length_set] at K
  exact K
def pCHG (h b k : Nat) : Nat := if h = 0 then pFOR b else if h = 1 then b ^^^ 255 else if h = 2 then b ||| k else b &&& k
theorem pCHG_lt {h b k : Nat} (hb : b < 256) (hk : k < 256) : pCHG h b k < 256 := by
  unfold pCHG
  by_cases h0 : h = 0
  · rw [if_pos h0]; exact pFOR_lt hb
  · rw [if_neg h0]
    by_cases h1 : h = 1
    · rw [if_pos h1]; exact zxor8 hb (by decide)
    · rw [if_neg h1]
      by_cases h2 : h = 2
      · rw [if_pos h2]; exact zor8 hb hk
      · rw [if_neg h2]; exact zand8 hb
theorem pCHG0 (b k : Nat) : pCHG 0 b k = pFOR b := if_pos rfl
theorem pCHG1 (b k : Nat) : pCHG 1 b k = b ^^^ 255 := by unfold pCHG; rw [if_neg (by decide), if_pos rfl]
theorem pCHG2 (b k : Nat) : pCHG 2 b k = b ||| k := by unfold pCHG; rw [if_neg (by decide), if_neg (by decide), if_pos rfl]
theorem pCHG3 (b k : Nat) : pCHG 3 b k = b &&& k := by unfold pCHG; rw [if_neg (by decide), if_neg (by decide), if_neg (by decide)]
set_option maxHeartbeats 4000000 in
set_option maxRecDepth 100000 in
theorem c_chg0 {Z : zS} {d : Nat} {w : zW} {k b kp x y z : Nat} (hk : w[k]? = some (oHD (nI b) (nI kp) x y z)) (hb : b < 256) : zF Z M_X2_change (d + 3) [.ref k, .int (nI 0)] w [] (w.set k (oHD (nI (pCHG 0 b kp)) (nI kp) x y z)) := by
  show zG Z M_X2_change (d + 3) _ _ 0 [(0, .ref k), (1, .int (nI 0))] [] w
  refine s_iload_n dX2_change_0 rfl ?_
  refine s_tableIn (off := 31) (tgt := 32) dX2_change_1 (by decide) (by decide) (by rfl) (by decide) ?_
  refine s_aload_n dX2_change_32 rfl ?_
  refine s_aload_n dX2_change_33 rfl ?_
  refine s_get dX2_change_34 f_X2_9 (by repeat (first | assumption | refine zg1 ?_ (by assumption) | (refine zgs ?_; (try simp only [List.length_set]); assumption))) (by rfl) ?_
  refine s_cs1 dX2_change_37 g_X2_31 (c_X1_formOf hb) rfl rfl (Nat.le_of_ble_eq_true rfl) (Nat.le_of_ble_eq_true rfl) rfl ?_
  refine s_put dX2_change_40 f_X2_9 (by repeat (first | assumption | refine zg1 ?_ (by assumption) | (refine zgs ?_; (try simp only [List.length_set]); assumption))) (fun _ => ⟨rfl, rfl⟩) (Nat.le_of_ble_eq_true rfl) ?_
  refine s_goto (tgt := 93) dX2_change_43 (by decide) ?_
  exact s_vret dX2_change_93 rfl ⟨rfl, congrArg (fun q => w.set k (oHD q (nI kp) x y z)) (show nI (pFOR b) = nI (pCHG 0 b kp) from by rw [pCHG0])⟩ (by simp only [List.length_set]; rfl)
set_option maxHeartbeats 4000000 in
set_option maxRecDepth 100000 in
theorem c_chg1 {Z : zS} {d : Nat} {w : zW} {k b kp x y z : Nat} (hk : w[k]? = some (oHD (nI b) (nI kp) x y z)) (hb : b < 256) : zF Z M_X2_change (d + 3) [.ref k, .int (nI 1)] w [] (w.set k (oHD (nI (pCHG 1 b kp)) (nI kp) x y z)) := by
  show zG Z M_X2_change (d + 3) _ _ 0 [(0, .ref k), (1, .int (nI 1))] [] w
  refine s_iload_n dX2_change_0 rfl ?_
  refine s_tableIn (off := 45) (tgt := 46) dX2_change_1 (by decide) (by decide) (by rfl) (by decide) ?_
  refine s_aload_n dX2_change_46 rfl ?_
  refine s_dup dX2_change_47 rfl ?_
  refine s_get dX2_change_48 f_X2_9 (by repeat (first | assumption | refine zg1 ?_ (by assumption) | (refine zgs ?_; (try simp only [List.length_set]); assumption))) (by rfl) ?_
  refine s_sipush (v := 255) dX2_change_51 rfl ?_
  refine s_ixor dX2_change_54 ?_
  refine s_put dX2_change_55 f_X2_9 (by repeat (first | assumption | refine zg1 ?_ (by assumption) | (refine zgs ?_; (try simp only [List.length_set]); assumption))) (fun _ => ⟨rfl, rfl⟩) (Nat.le_of_ble_eq_true rfl) ?_
  refine s_goto (tgt := 93) dX2_change_58 (by decide) ?_
  exact s_vret dX2_change_93 rfl ⟨rfl, congrArg (fun q => w.set k (oHD q (nI kp) x y z)) (show nI b ^^^ 255 = nI (pCHG 1 b kp) from by rw [pCHG1]; exact fb_xorI b 255)⟩ (by simp only [List.length_set]; rfl)
set_option maxHeartbeats 4000000 in
set_option maxRecDepth 100000 in
theorem c_chg2 {Z : zS} {d : Nat} {w : zW} {k b kp x y z : Nat} (hk : w[k]? = some (oHD (nI b) (nI kp) x y z)) (hb : b < 256) : zF Z M_X2_change (d + 3) [.ref k, .int (nI 2)] w [] (w.set k (oHD (nI (pCHG 2 b kp)) (nI kp) x y z)) := by
  show zG Z M_X2_change (d + 3) _ _ 0 [(0, .ref k), (1, .int (nI 2))] [] w
  refine s_iload_n dX2_change_0 rfl ?_
  refine s_tableIn (off := 60) (tgt := 61) dX2_change_1 (by decide) (by decide) (by rfl) (by decide) ?_
  refine s_aload_n dX2_change_61 rfl ?_
  refine s_dup dX2_change_62 rfl ?_
  refine s_get dX2_change_63 f_X2_9 (by repeat (first | assumption | refine zg1 ?_ (by assumption) | (refine zgs ?_; (try simp only [List.length_set]); assumption))) (by rfl) ?_
  refine s_aload_n dX2_change_66 rfl ?_
  refine s_get dX2_change_67 f_X2_15 (by repeat (first | assumption | refine zg1 ?_ (by assumption) | (refine zgs ?_; (try simp only [List.length_set]); assumption))) (by rfl) ?_
  refine s_ior dX2_change_70 ?_
  refine s_put dX2_change_71 f_X2_9 (by repeat (first | assumption | refine zg1 ?_ (by assumption) | (refine zgs ?_; (try simp only [List.length_set]); assumption))) (fun _ => ⟨rfl, rfl⟩) (Nat.le_of_ble_eq_true rfl) ?_
  refine s_goto (tgt := 93) dX2_change_74 (by decide) ?_
  exact s_vret dX2_change_93 rfl ⟨rfl, congrArg (fun q => w.set k (oHD q (nI kp) x y z)) (show nI b ||| nI kp = nI (pCHG 2 b kp) from by rw [pCHG2]; exact fa_or b kp)⟩ (by simp only [List.length_set]; rfl)
set_option maxHeartbeats 4000000 in
set_option maxRecDepth 100000 in
theorem c_chg3 {Z : zS} {d : Nat} {w : zW} {k b kp x y z : Nat} (hk : w[k]? = some (oHD (nI b) (nI kp) x y z)) (hb : b < 256) : zF Z M_X2_change (d + 3) [.ref k, .int (nI 3)] w [] (w.set k (oHD (nI (pCHG 3 b kp)) (nI kp) x y z)) := by
  show zG Z M_X2_change (d + 3) _ _ 0 [(0, .ref k), (1, .int (nI 3))] [] w
  refine s_iload_n dX2_change_0 rfl ?_
  refine s_tableIn (off := 76) (tgt := 77) dX2_change_1 (by decide) (by decide) (by rfl) (by decide) ?_
  refine s_aload_n dX2_change_77 rfl ?_
  refine s_dup dX2_change_78 rfl ?_
  refine s_get dX2_change_79 f_X2_9 (by repeat (first | assumption | refine zg1 ?_ (by assumption) | (refine zgs ?_; (try simp only [List.length_set]); assumption))) (by rfl) ?_
  refine s_aload_n dX2_change_82 rfl ?_
  refine s_get dX2_change_83 f_X2_15 (by repeat (first | assumption | refine zg1 ?_ (by assumption) | (refine zgs ?_; (try simp only [List.length_set]); assumption))) (by rfl) ?_
  refine s_iand dX2_change_86 ?_
  refine s_put dX2_change_87 f_X2_9 (by repeat (first | assumption | refine zg1 ?_ (by assumption) | (refine zgs ?_; (try simp only [List.length_set]); assumption))) (fun _ => ⟨rfl, rfl⟩) (Nat.le_of_ble_eq_true rfl) ?_
  refine s_goto (tgt := 93) dX2_change_90 (by decide) ?_
  exact s_vret dX2_change_93 rfl ⟨rfl, congrArg (fun q => w.set k (oHD q (nI kp) x y z)) (show nI b &&& nI kp = nI (pCHG 3 b kp) from by rw [pCHG3]; exact fa_and b kp)⟩ (by simp only [List.length_set]; rfl)
theorem c_X2_change {Z : zS} {d : Nat} {w : zW} {h k b kp x y z : Nat} (hk : w[k]? = some (oHD (nI b) (nI kp) x y z)) (hb : b < 256) (hh : h < 4) : zF Z M_X2_change (d + 3) [.ref k, .int (nI h)] w [] (w.set k (oHD (nI (pCHG h b kp)) (nI kp) x y z)) := by
  rcases (show h = 0 ∨ h = 1 ∨ h = 2 ∨ h = 3 by omega) with rfl | rfl | rfl | rfl
  · exact c_chg0 hk hb
  · exact c_chg1 hk hb
  · exact c_chg2 hk hb
  · exact c_chg3 hk hb
end
section
/-! ===== the world of the class; shapes measured ===== -/
abbrev zRw : Type := (Nat → Int32) × (Nat → Int32) × Int32
abbrev zHd : Type := Int32 × Int32 × zRw × zRw × zRw
abbrev zSh : Type := Int32 × Int32 × (Nat → Int32) × (Nat → Int32) × (Nat → Int32) × (Nat → Int32)
abbrev zTp : Type := (Nat → Int64) × Int32 × Int32
abbrev zTs : Type := zTp × zTp × zTp × zTp × zTp × zTp
abbrev zTx : Type := (Nat → Int32) × Int32
def zTA : Nat → Option Nat := va_up (va_up (va_up (va_up (va_up (va_up (fun _ => none) 0 (some 29)) 1 (some 31)) 2 (some 33)) 3 (some 35)) 4 (some 37)) 5 (some 39)
def wX (hd th : zHd) (hi : Int32) (tx : zTx) (sh : zSh) (tp : zTs) : zW :=
  [.inr (5, [.ref 1, .ref 11, .int hi, .ref 21, .ref 23, .ref 28]),
   oHD hd.1 hd.2.1 2 5 8,
   oRW 3 4 hd.2.2.1.2.2,
   aI 8 hd.2.2.1.1,
   aI 8 hd.2.2.1.2.1,
   oRW 6 7 hd.2.2.2.1.2.2,
   aI 8 hd.2.2.2.1.1,
   aI 8 hd.2.2.2.1.2.1,
   oRW 9 10 hd.2.2.2.2.2.2,
   aI 8 hd.2.2.2.2.1,
   aI 8 hd.2.2.2.2.2.1,
   oHD th.1 th.2.1 12 15 18,
   oRW 13 14 th.2.2.1.2.2,
   aI 8 th.2.2.1.1,
   aI 8 th.2.2.1.2.1,
   oRW 16 17 th.2.2.2.1.2.2,
   aI 8 th.2.2.2.1.1,
   aI 8 th.2.2.2.1.2.1,
   oRW 19 20 th.2.2.2.2.2.2,
   aI 8 th.2.2.2.2.1,
   aI 8 th.2.2.2.2.2.1,
   oTX 22 tx.2,
   aB 100 tx.1,
   oSH sh.1 sh.2.1 24 25 26 27,
   aI 171 sh.2.2.1,
   aI 171 sh.2.2.2.1,
   aI 256 sh.2.2.2.2.1,
   aI 768 sh.2.2.2.2.2,
   .inl (4, 6, .inr (.inr (.inr (.inr zTA)))),
   oTP 30 tp.1.2.1 tp.1.2.2,
   aL 60 tp.1.1,
   oTP 32 tp.2.1.2.1 tp.2.1.2.2,
   aL 60 tp.2.1.1,
   oTP 34 tp.2.2.1.2.1 tp.2.2.1.2.2,
   aL 60 tp.2.2.1.1,
   oTP 36 tp.2.2.2.1.2.1 tp.2.2.2.1.2.2,
   aL 60 tp.2.2.2.1.1,
   oTP 38 tp.2.2.2.2.1.2.1 tp.2.2.2.2.1.2.2,
   aL 60 tp.2.2.2.2.1.1,
   oTP 40 tp.2.2.2.2.2.2.1 tp.2.2.2.2.2.2.2,
   aL 60 tp.2.2.2.2.2.1]
/-- what a corner weighs by the weights numbered n -/
def zWT (n c : Nat) : Int32 := (nI n / 49 - 3) * (nI c &&& 1) + (nI n / 7 - nI n / 7 / 7 * 7 - 3) * (nI c >>> ((1 : Int32) &&& 31) &&& 1) + (nI n - nI n / 7 * 7 - 3) * (nI c >>> ((2 : Int32) &&& 31) &&& 1)
def pWT (n c : Nat) : Int := ((n / 49 : Nat) - 3 : Int) * ((c % 2 : Nat) : Int) + ((n / 7 % 7 : Nat) - 3 : Int) * ((c / 2 % 2 : Nat) : Int) + ((n % 7 : Nat) - 3 : Int) * ((c / 4 % 2 : Nat) : Int)
theorem q_wt : ∀ n, n < 343 → ∀ c, c < 8 → zWT n c = Int32.ofInt (pWT n c) ∧ -9 ≤ pWT n c ∧ pWT n c ≤ 9 := by decide +kernel
abbrev nZ (z : Int) : Int32 := Int32.ofInt z
def zRng (z : Int) : Prop := -2147483648 ≤ z ∧ z ≤ 2147483647
theorem nZ_lt {a b : Int} (ha : zRng a) (hb : zRng b) : nZ a < nZ b ↔ a < b := by
  unfold zRng at ha hb
  rw [fa_lt, fb_ofI ha.1 (by omega), fb_ofI hb.1 (by omega)]
theorem nZ_le {a b : Int} (ha : zRng a) (hb : zRng b) : nZ a ≤ nZ b ↔ a ≤ b := by
  unfold zRng at ha hb
  rw [fa_le, fb_ofI ha.1 (by omega), fb_ofI hb.1 (by omega)]
theorem nZ_eq {a b : Int} (ha : zRng a) (hb : zRng b) : nZ a = nZ b ↔ a = b := by
  unfold zRng at ha hb
  rw [fa_eq, fb_ofI ha.1 (by omega), fb_ofI hb.1 (by omega)]
def mxL (b n : Nat) : Nat → Int
  | 0 => -2147483648
  | i + 1 => if zb b i = 1 ∧ mxL b n i ≤ pWT n i then pWT n i else mxL b n i
def amL (b n : Nat) : Nat → Nat
  | 0 => 0
  | i + 1 => if zb b i = 1 ∧ mxL b n i ≤ pWT n i then (if mxL b n i < pWT n i then 2 ^ i else amL b n i ||| 2 ^ i) else amL b n i
def mnL (b n : Nat) : Nat → Int
  | 0 => 2147483647
  | i + 1 => if zb b i = 1 ∧ pWT n i ≤ mnL b n i then pWT n i else mnL b n i
def bmL (b n : Nat) : Nat → Nat
  | 0 => 0
  | i + 1 => if zb b i = 1 ∧ pWT n i ≤ mnL b n i then (if pWT n i < mnL b n i then 2 ^ i else bmL b n i ||| 2 ^ i) else bmL b n i
theorem mxL_rng {b n : Nat} (hn : n < 343) : ∀ i, i ≤ 8 → zRng (mxL b n i)
  | 0, _ => by unfold zRng mxL; omega
  | i + 1, hi => by
    have ih := mxL_rng (b := b) hn i (by omega)
    have hw := (q_wt n hn i (by omega)).2
    unfold mxL
    by_cases c : zb b i = 1 ∧ mxL b n i ≤ pWT n i
    · rw [if_pos c]; unfold zRng; omega
    · rw [if_neg c]; exact ih
theorem mnL_rng {b n : Nat} (hn : n < 343) : ∀ i, i ≤ 8 → zRng (mnL b n i)
  | 0, _ => by unfold zRng mnL; omega
  | i + 1, hi => by
    have ih := mnL_rng (b := b) hn i (by omega)
    have hw := (q_wt n hn i (by omega)).2
    unfold mnL
    by_cases c : zb b i = 1 ∧ pWT n i ≤ mnL b n i
    · rw [if_pos c]; unfold zRng; omega
    · rw [if_neg c]; exact ih
theorem amL_lt {b n : Nat} : ∀ i, i ≤ 8 → amL b n i < 256
  | 0, _ => Nat.zero_lt_succ _
  | i + 1, hi => by
    have ih := amL_lt (b := b) (n := n) i (by omega)
    have hp := zp8 i (by omega)
    unfold amL
    exact zite (zite hp (zor8 ih hp)) ih
theorem bmL_lt {b n : Nat} : ∀ i, i ≤ 8 → bmL b n i < 256
  | 0, _ => Nat.zero_lt_succ _
  | i + 1, hi => by
    have ih := bmL_lt (b := b) (n := n) i (by omega)
    have hp := zp8 i (by omega)
    unfold bmL
    exact zite (zite hp (zor8 ih hp)) ih
theorem q_bit : ∀ b, b < 256 → ∀ c, c < 8 → (1 : Int32) <<< (nI c &&& 31) &&& nI b = nI (zb b c * 2 ^ c) := by decide +kernel
theorem zbz {b c : Nat} (hc : c < 8) : nI (zb b c * 2 ^ c) = 0 ↔ ¬ zb b c = 1 := by
  have h := zb_lt b c
  have hp := zp8 c hc
  have h0 : 0 < 2 ^ c := Nat.two_pow_pos c
  rcases (show zb b c = 0 ∨ zb b c = 1 by omega) with e | e
  · rw [e, Nat.zero_mul]; simp [nI_0]
  · rw [e, Nat.one_mul]
    refine ⟨fun z => absurd z (nI_ne0 h0 (by omega)), fun z => absurd rfl z⟩
theorem zb2 {b c : Nat} (h : zb b c = 1) : nI (zb b c * 2 ^ c) = nI (2 ^ c) := by rw [h, Nat.one_mul]
theorem q_47 : nZ 2147483647 = 2147483647 := by decide +kernel
theorem q_33 : nZ (-2147483648) = -2147483648 := by decide +kernel
theorem wXlen {hd th : zHd} {hi : Int32} {tx : zTx} {sh : zSh} {tp : zTs} {R : zW} : (wX hd th hi tx sh tp ++ R).length = R.length + 41 := by
  rw [List.length_append, Nat.add_comm]
  rfl
theorem z255 {a : Nat} (h : a < 256) : nI a &&& 255 = nI a := by
  rw [pk_andN (show a < 2 ^ 32 by omega) 8 (by decide), Nat.mod_eq_of_lt h]
set_option maxHeartbeats 4000000 in
set_option maxRecDepth 100000 in
theorem l_mbB {Z : zS} {d : Nat} {hd th : zHd} {hi : Int32} {tx : zTx} {tp : zTs} {R : zW} {b n i : Nat} {lw : Int32} {mo le it kn : Nat → Int32} (hb : b < 256) (hn : n < 171) (hm : i < 8) {Q : List Value → zW → Prop} : zG Z M_X4_measureBy (d) Q (R.length + 41) 153 [(0, .ref 23), (1, .int (nI n)), (2, .int (nZ (mxL b n (i + 1)))), (3, .int (nZ (mnL b n (i + 1)))), (4, .int (nI (amL b n (i + 1)))), (5, .int (nI (bmL b n (i + 1)))), (6, .int (nI i))] [] (wX hd th hi tx (nI b, lw, mo, le, it, kn) tp ++ R) → zG Z M_X4_measureBy (d) Q (R.length + 41) 121 [(0, .ref 23), (1, .int (nI n)), (2, .int (nZ (mxL b n (i + 1)))), (3, .int (nZ (mnL b n i))), (4, .int (nI (amL b n (i + 1)))), (5, .int (nI (bmL b n i))), (6, .int (nI i)), (7, .int (nI (zb b i * 2 ^ i))), (8, .int (nZ (pWT n i)))] [] (wX hd th hi tx (nI b, lw, mo, le, it, kn) tp ++ R) := by
  intro K
  have hw := q_wt n (by omega) i hm
  have hx := mxL_rng (b := b) (show n < 343 by omega) i (by omega)
  have hy := mnL_rng (b := b) (show n < 343 by omega) i (by omega)
  have hr : zRng (pWT n i) := by unfold zRng; omega
  refine s_iload dX4_measureBy_121 rfl ?_
  refine s_if_eq (tgt := 153) dX4_measureBy_123 (by decide) (fun h_123 => ?_) (fun h_123 => ?_)
  · have hz : ¬ zb b i = 1 := (zbz hm).mp h_123
    rw [show mnL b n (i + 1) = mnL b n i from by rw [mnL, if_neg (fun z => hz z.1)], show bmL b n (i + 1) = bmL b n i from by rw [bmL, if_neg (fun z => hz z.1)]] at K
    exact s_take 7 K
  · refine s_iload dX4_measureBy_126 rfl ?_
    refine s_iload_n dX4_measureBy_128 rfl ?_
    refine s_icmp_gt (tgt := 153) dX4_measureBy_129 (by decide) (fun h_129 => ?_) (fun h_129 => ?_)
    · have hz : zb b i = 1 := Classical.byContradiction (fun z => h_123 ((zbz hm).mpr z))
      have hq : ¬ pWT n i ≤ mnL b n i := fun z => absurd ((nZ_lt hy hr).mp h_129) (by omega)
      rw [show mnL b n (i + 1) = mnL b n i from by rw [mnL, if_neg (fun z => hq z.2)], show bmL b n (i + 1) = bmL b n i from by rw [bmL, if_neg (fun z => hq z.2)]] at K
      exact s_take 7 K
    · refine s_iload dX4_measureBy_132 rfl ?_
      refine s_iload_n dX4_measureBy_134 rfl ?_
      refine s_icmp_ge (tgt := 143) dX4_measureBy_135 (by decide) (fun h_135 => ?_) (fun h_135 => ?_)
      · refine s_iload dX4_measureBy_143 rfl ?_
        refine s_iload dX4_measureBy_145 rfl ?_
        refine s_ior dX4_measureBy_147 ?_
        refine s_istore dX4_measureBy_148 (Nat.le_of_ble_eq_true rfl) rfl ?_
        refine s_iload dX4_measureBy_150 rfl ?_
        refine s_istore_n dX4_measureBy_152 (Nat.le_of_ble_eq_true rfl) rfl ?_
        have hz : zb b i = 1 := Classical.byContradiction (fun z => h_123 ((zbz hm).mpr z))
        have hq : pWT n i ≤ mnL b n i := Classical.byContradiction (fun z => h_129 ((nZ_lt hy hr).mpr (by omega)))
        rw [show mnL b n (i + 1) = pWT n i from by rw [mnL, if_pos ⟨hz, hq⟩]] at K
        first
          | (have hs : ¬ pWT n i < mnL b n i := fun z => absurd ((nZ_le hy hr).mp h_135) (by omega)
             rw [show bmL b n (i + 1) = bmL b n i ||| 2 ^ i from by rw [bmL, if_pos ⟨hz, hq⟩, if_neg hs]] at K
             rw [zb2 hz, fa_or]
             exact s_take 7 K)
          | (have hs : pWT n i < mnL b n i := Classical.byContradiction (fun z => h_135 ((nZ_le hy hr).mpr (by omega)))
             rw [show bmL b n (i + 1) = 2 ^ i from by rw [bmL, if_pos ⟨hz, hq⟩, if_pos hs]] at K
             rw [zb2 hz]
             exact s_take 7 K)
      · refine s_iload dX4_measureBy_138 rfl ?_
        refine s_goto (tgt := 148) dX4_measureBy_140 (by decide) ?_
        refine s_istore dX4_measureBy_148 (Nat.le_of_ble_eq_true rfl) rfl ?_
        refine s_iload dX4_measureBy_150 rfl ?_
        refine s_istore_n dX4_measureBy_152 (Nat.le_of_ble_eq_true rfl) rfl ?_
        have hz : zb b i = 1 := Classical.byContradiction (fun z => h_123 ((zbz hm).mpr z))
        have hq : pWT n i ≤ mnL b n i := Classical.byContradiction (fun z => h_129 ((nZ_lt hy hr).mpr (by omega)))
        rw [show mnL b n (i + 1) = pWT n i from by rw [mnL, if_pos ⟨hz, hq⟩]] at K
        first
          | (have hs : ¬ pWT n i < mnL b n i := fun z => absurd ((nZ_le hy hr).mp h_135) (by omega)
             rw [show bmL b n (i + 1) = bmL b n i ||| 2 ^ i from by rw [bmL, if_pos ⟨hz, hq⟩, if_neg hs]] at K
             rw [zb2 hz, fa_or]
             exact s_take 7 K)
          | (have hs : pWT n i < mnL b n i := Classical.byContradiction (fun z => h_135 ((nZ_le hy hr).mpr (by omega)))
             rw [show bmL b n (i + 1) = 2 ^ i from by rw [bmL, if_pos ⟨hz, hq⟩, if_pos hs]] at K
             rw [zb2 hz]
             exact s_take 7 K)
set_option maxHeartbeats 4000000 in
set_option maxRecDepth 100000 in
theorem l_mbA {Z : zS} {d : Nat} {hd th : zHd} {hi : Int32} {tx : zTx} {tp : zTs} {R : zW} {b n i : Nat} {lw : Int32} {mo le it kn : Nat → Int32} (hb : b < 256) (hn : n < 171) (hm : i < 8) {Q : List Value → zW → Prop} : zG Z M_X4_measureBy (d) Q (R.length + 41) 121 [(0, .ref 23), (1, .int (nI n)), (2, .int (nZ (mxL b n (i + 1)))), (3, .int (nZ (mnL b n i))), (4, .int (nI (amL b n (i + 1)))), (5, .int (nI (bmL b n i))), (6, .int (nI i)), (7, .int (nI (zb b i * 2 ^ i))), (8, .int (nZ (pWT n i)))] [] (wX hd th hi tx (nI b, lw, mo, le, it, kn) tp ++ R) → zG Z M_X4_measureBy (d) Q (R.length + 41) 27 [(0, .ref 23), (1, .int (nI n)), (2, .int (nZ (mxL b n i))), (3, .int (nZ (mnL b n i))), (4, .int (nI (amL b n i))), (5, .int (nI (bmL b n i))), (6, .int (nI i))] [] (wX hd th hi tx (nI b, lw, mo, le, it, kn) tp ++ R) := by
  intro K
  have hw := q_wt n (by omega) i hm
  have hx := mxL_rng (b := b) (show n < 343 by omega) i (by omega)
  have hy := mnL_rng (b := b) (show n < 343 by omega) i (by omega)
  have hr : zRng (pWT n i) := by unfold zRng; omega
  have hw1 := hw.1
  unfold zWT at hw1
  refine s_iload dX4_measureBy_27 rfl ?_
  refine s_bipush (v := 8) dX4_measureBy_29 rfl ?_
  refine s_icmp_ge (tgt := 159) dX4_measureBy_31 (by decide) (fun h => absurd h (nI_ge hm (by decide))) (fun hz => ?_)
  clear hz
  refine s_iconst (v := 1) dX4_measureBy_34 rfl ?_
  refine s_iload dX4_measureBy_35 rfl ?_
  refine s_ishl dX4_measureBy_37 ?_
  refine s_aload_n dX4_measureBy_38 rfl ?_
  refine s_get dX4_measureBy_39 f_X4_9 (by rfl) (by rfl) ?_
  refine s_iand dX4_measureBy_42 ?_
  rw [q_bit b hb i hm]
  refine s_istore dX4_measureBy_43 (Nat.le_of_ble_eq_true rfl) rfl ?_
  refine s_iload_n dX4_measureBy_45 rfl ?_
  refine s_bipush (v := 49) dX4_measureBy_46 rfl ?_
  refine s_idiv dX4_measureBy_48 (by decide) ?_
  refine s_iconst (v := 3) dX4_measureBy_49 rfl ?_
  refine s_isub dX4_measureBy_50 ?_
  refine s_iload dX4_measureBy_51 rfl ?_
  refine s_iconst (v := 1) dX4_measureBy_53 rfl ?_
  refine s_iand dX4_measureBy_54 ?_
  refine s_imul dX4_measureBy_55 ?_
  refine s_iload_n dX4_measureBy_56 rfl ?_
  refine s_bipush (v := 7) dX4_measureBy_57 rfl ?_
  refine s_idiv dX4_measureBy_59 (by decide) ?_
  refine s_bipush (v := 7) dX4_measureBy_60 rfl ?_
  refine s_irem dX4_measureBy_62 (by decide) ?_
  refine s_iconst (v := 3) dX4_measureBy_63 rfl ?_
  refine s_isub dX4_measureBy_64 ?_
  refine s_iload dX4_measureBy_65 rfl ?_
  refine s_iconst (v := 1) dX4_measureBy_67 rfl ?_
  refine s_ishr dX4_measureBy_68 ?_
  refine s_iconst (v := 1) dX4_measureBy_69 rfl ?_
  refine s_iand dX4_measureBy_70 ?_
  refine s_imul dX4_measureBy_71 ?_
  refine s_iadd dX4_measureBy_72 ?_
  refine s_iload_n dX4_measureBy_73 rfl ?_
  refine s_bipush (v := 7) dX4_measureBy_74 rfl ?_
  refine s_irem dX4_measureBy_76 (by decide) ?_
  refine s_iconst (v := 3) dX4_measureBy_77 rfl ?_
  refine s_isub dX4_measureBy_78 ?_
  refine s_iload dX4_measureBy_79 rfl ?_
  refine s_iconst (v := 2) dX4_measureBy_81 rfl ?_
  refine s_ishr dX4_measureBy_82 ?_
  refine s_iconst (v := 1) dX4_measureBy_83 rfl ?_
  refine s_iand dX4_measureBy_84 ?_
  refine s_imul dX4_measureBy_85 ?_
  refine s_iadd dX4_measureBy_86 ?_
  rw [hw1]
  refine s_istore dX4_measureBy_87 (Nat.le_of_ble_eq_true rfl) rfl ?_
  refine s_iload dX4_measureBy_89 rfl ?_
  refine s_if_eq (tgt := 121) dX4_measureBy_91 (by decide) (fun h_91 => ?_) (fun h_91 => ?_)
  · have hz : ¬ zb b i = 1 := (zbz hm).mp h_91
    rw [show mxL b n (i + 1) = mxL b n i from by rw [mxL, if_neg (fun z => hz z.1)], show amL b n (i + 1) = amL b n i from by rw [amL, if_neg (fun z => hz z.1)]] at K
    exact K
  · refine s_iload dX4_measureBy_94 rfl ?_
    refine s_iload_n dX4_measureBy_96 rfl ?_
    refine s_icmp_lt (tgt := 121) dX4_measureBy_97 (by decide) (fun h_97 => ?_) (fun h_97 => ?_)
    · have hz : zb b i = 1 := Classical.byContradiction (fun z => h_91 ((zbz hm).mpr z))
      have hq : ¬ mxL b n i ≤ pWT n i := fun z => absurd ((nZ_lt hr hx).mp h_97) (by omega)
      rw [show mxL b n (i + 1) = mxL b n i from by rw [mxL, if_neg (fun z => hq z.2)], show amL b n (i + 1) = amL b n i from by rw [amL, if_neg (fun z => hq z.2)]] at K
      exact K
    · refine s_iload dX4_measureBy_100 rfl ?_
      refine s_iload_n dX4_measureBy_102 rfl ?_
      refine s_icmp_le (tgt := 111) dX4_measureBy_103 (by decide) (fun h_103 => ?_) (fun h_103 => ?_)
      · refine s_iload dX4_measureBy_111 rfl ?_
        refine s_iload dX4_measureBy_113 rfl ?_
        refine s_ior dX4_measureBy_115 ?_
        refine s_istore dX4_measureBy_116 (Nat.le_of_ble_eq_true rfl) rfl ?_
        refine s_iload dX4_measureBy_118 rfl ?_
        refine s_istore_n dX4_measureBy_120 (Nat.le_of_ble_eq_true rfl) rfl ?_
        have hz : zb b i = 1 := Classical.byContradiction (fun z => h_91 ((zbz hm).mpr z))
        have hq : mxL b n i ≤ pWT n i := Classical.byContradiction (fun z => h_97 ((nZ_lt hr hx).mpr (by omega)))
        rw [show mxL b n (i + 1) = pWT n i from by rw [mxL, if_pos ⟨hz, hq⟩]] at K
        first
          | (have hs : ¬ mxL b n i < pWT n i := fun z => absurd ((nZ_le hr hx).mp h_103) (by omega)
             rw [show amL b n (i + 1) = amL b n i ||| 2 ^ i from by rw [amL, if_pos ⟨hz, hq⟩, if_neg hs], ← fa_or, ← zb2 hz] at K
             exact K)
          | (have hs : mxL b n i < pWT n i := Classical.byContradiction (fun z => h_103 ((nZ_le hr hx).mpr (by omega)))
             rw [show amL b n (i + 1) = 2 ^ i from by rw [amL, if_pos ⟨hz, hq⟩, if_pos hs], ← zb2 hz] at K
             exact K)
      · refine s_iload dX4_measureBy_106 rfl ?_
        refine s_goto (tgt := 116) dX4_measureBy_108 (by decide) ?_
        refine s_istore dX4_measureBy_116 (Nat.le_of_ble_eq_true rfl) rfl ?_
        refine s_iload dX4_measureBy_118 rfl ?_
        refine s_istore_n dX4_measureBy_120 (Nat.le_of_ble_eq_true rfl) rfl ?_
        have hz : zb b i = 1 := Classical.byContradiction (fun z => h_91 ((zbz hm).mpr z))
        have hq : mxL b n i ≤ pWT n i := Classical.byContradiction (fun z => h_97 ((nZ_lt hr hx).mpr (by omega)))
        rw [show mxL b n (i + 1) = pWT n i from by rw [mxL, if_pos ⟨hz, hq⟩]] at K
        first
          | (have hs : ¬ mxL b n i < pWT n i := fun z => absurd ((nZ_le hr hx).mp h_103) (by omega)
             rw [show amL b n (i + 1) = amL b n i ||| 2 ^ i from by rw [amL, if_pos ⟨hz, hq⟩, if_neg hs], ← fa_or, ← zb2 hz] at K
             exact K)
          | (have hs : mxL b n i < pWT n i := Classical.byContradiction (fun z => h_103 ((nZ_le hr hx).mpr (by omega)))
             rw [show amL b n (i + 1) = 2 ^ i from by rw [amL, if_pos ⟨hz, hq⟩, if_pos hs], ← zb2 hz] at K
             exact K)
set_option maxHeartbeats 4000000 in
set_option maxRecDepth 100000 in
theorem l_mb {Z : zS} {d : Nat} {hd th : zHd} {hi : Int32} {tx : zTx} {tp : zTs} {R : zW} {b n : Nat} {lw : Int32} {mo le it kn : Nat → Int32} (hb : b < 256) (hn : n < 171) : ∀ (k i : Nat), i + k = 8 → zG Z M_X4_measureBy (d) (fun r1 w1 => r1 = [] ∧ w1 = (wX hd th hi tx (nI b, lw, upd mo n (nZ (mxL b n 8)), upd le n (nZ (mnL b n 8)), upd (upd it (amL b n 8) 1) (bmL b n 8) 1, kn) tp ++ R)) (R.length + 41) 27 [(0, .ref 23), (1, .int (nI n)), (2, .int (nZ (mxL b n i))), (3, .int (nZ (mnL b n i))), (4, .int (nI (amL b n i))), (5, .int (nI (bmL b n i))), (6, .int (nI i))] [] (wX hd th hi tx (nI b, lw, mo, le, it, kn) tp ++ R) := by
  intro k
  induction k with
  | zero =>
    intro i hi
    have hi : i = 8 := by omega
    subst hi
    have hc : (nI n).toNatClampNeg = n := nI_clamp (by omega)
    have ht : amL b n 8 < 256 := amL_lt 8 (Nat.le_refl _)
    have hu : bmL b n 8 < 256 := bmL_lt 8 (Nat.le_refl _)
    refine s_iload dX4_measureBy_27 rfl ?_
    refine s_bipush (v := 8) dX4_measureBy_29 rfl ?_
    refine s_icmp_ge (tgt := 159) dX4_measureBy_31 (by decide) (fun hz => ?_) (fun h => absurd (by decide) h)
    clear hz
    refine s_aload_n dX4_measureBy_159 rfl ?_
    refine s_get dX4_measureBy_160 f_X4_18 (by rfl) (by rfl) ?_
    refine s_iload_n dX4_measureBy_163 rfl ?_
    refine s_iload_n dX4_measureBy_164 rfl ?_
    refine s_iast dX4_measureBy_165 (by rfl) (zrd (n := 171) hn (by decide)) ?_
    refine s_aload_n dX4_measureBy_166 rfl ?_
    refine s_get dX4_measureBy_167 f_X4_22 (by rfl) (by rfl) ?_
    refine s_iload_n dX4_measureBy_170 rfl ?_
    refine s_iload_n dX4_measureBy_171 rfl ?_
    refine s_iast dX4_measureBy_172 (by rfl) (zrd (n := 171) hn (by decide)) ?_
    refine s_aload_n dX4_measureBy_173 rfl ?_
    refine s_get dX4_measureBy_174 f_X4_25 (by rfl) (by rfl) ?_
    refine s_iload dX4_measureBy_177 rfl ?_
    refine s_sipush (v := 255) dX4_measureBy_179 rfl ?_
    refine s_iand dX4_measureBy_182 ?_
    rw [z255 ht]
    refine s_iconst (v := 1) dX4_measureBy_183 rfl ?_
    refine s_iast dX4_measureBy_184 (by rfl) (zrd (n := 256) ht (by decide)) ?_
    refine s_aload_n dX4_measureBy_185 rfl ?_
    refine s_get dX4_measureBy_186 f_X4_25 (by rfl) (by rfl) ?_
    refine s_iload dX4_measureBy_189 rfl ?_
    refine s_sipush (v := 255) dX4_measureBy_191 rfl ?_
    refine s_iand dX4_measureBy_194 ?_
    rw [z255 hu]
    refine s_iconst (v := 1) dX4_measureBy_195 rfl ?_
    refine s_iast dX4_measureBy_196 (by rfl) (zrd (n := 256) hu (by decide)) ?_
    exact s_vret dX4_measureBy_197 rfl ⟨rfl, by rw [hc, nI_clamp (show amL b n 8 < 2 ^ 31 by omega), nI_clamp (show bmL b n 8 < 2 ^ 31 by omega)]; rfl⟩ (by first | exact wXlen | rfl)
  | succ k ih =>
    intro i hi
    refine l_mbA hb hn (by omega) (l_mbB hb hn (by omega) ?_)
    refine s_iinc (nI (i + 1)) dX4_measureBy_153 rfl (nI_1 _) (Nat.le_of_ble_eq_true rfl) rfl ?_
    refine s_goto (tgt := 27) dX4_measureBy_156 (by decide) ?_
    exact ih (i + 1) (by omega)
set_option maxHeartbeats 4000000 in
set_option maxRecDepth 100000 in
theorem c_X4_measureBy {Z : zS} {d : Nat} {hd th : zHd} {hi : Int32} {tx : zTx} {tp : zTs} {R : zW} {b n : Nat} {lw : Int32} {mo le it kn : Nat → Int32} (hb : b < 256) (hn : n < 171) : zF Z M_X4_measureBy (d) [.ref 23, .int (nI n)] (wX hd th hi tx (nI b, lw, mo, le, it, kn) tp ++ R) [] (wX hd th hi tx (nI b, lw, upd mo n (nZ (mxL b n 8)), upd le n (nZ (mnL b n 8)), upd (upd it (amL b n 8) 1) (bmL b n 8) 1, kn) tp ++ R) := by
  unfold zF
  rw [wXlen]
  show zG Z M_X4_measureBy (d) _ (R.length + 41) 0 [(0, .ref 23), (1, .int (nI n))] [] (wX hd th hi tx (nI b, lw, mo, le, it, kn) tp ++ R)
  refine s_iload_n dX4_measureBy_0 rfl ?_
  refine s_if_lt (tgt := 11) dX4_measureBy_1 (by decide) (fun h => absurd h (nI_pos (by omega))) (fun hz => ?_)
  clear hz
  refine s_iload_n dX4_measureBy_4 rfl ?_
  refine s_sipush (v := 171) dX4_measureBy_5 rfl ?_
  refine s_icmp_lt (tgt := 12) dX4_measureBy_8 (by decide) (fun hz => ?_) (fun h => absurd (nI_lt hn (by decide)) h)
  clear hz
  refine s_ldc (v := (-2147483648)) dX4_measureBy_12 (zin 353 (by decide +kernel) (by decide +kernel)) ?_
  refine s_istore_n dX4_measureBy_14 (Nat.le_of_ble_eq_true rfl) rfl ?_
  refine s_ldc (v := (2147483647)) dX4_measureBy_15 (zin 348 (by decide +kernel) (by decide +kernel)) ?_
  refine s_istore_n dX4_measureBy_17 (Nat.le_of_ble_eq_true rfl) rfl ?_
  refine s_iconst (v := 0) dX4_measureBy_18 rfl ?_
  refine s_istore dX4_measureBy_19 (Nat.le_of_ble_eq_true rfl) rfl ?_
  refine s_iconst (v := 0) dX4_measureBy_21 rfl ?_
  refine s_istore dX4_measureBy_22 (Nat.le_of_ble_eq_true rfl) rfl ?_
  refine s_iconst (v := 0) dX4_measureBy_24 rfl ?_
  refine s_istore dX4_measureBy_25 (Nat.le_of_ble_eq_true rfl) rfl ?_
  have K := l_mb (Z := Z) (d := d) (hd := hd) (th := th) (hi := hi) (tx := tx) (tp := tp) (R := R) (lw := lw) (mo := mo) (le := le) (it := it) (kn := kn) hb hn 8 0 rfl
  rw [show mxL b n 0 = -2147483648 from rfl, show mnL b n 0 = 2147483647 from rfl, q_33, q_47] at K
  exact K
end
