section
-- ===== PART A: goes FIRST, ahead of the names: the tables' words, and 'selects' of the private methods out of them =====
/-- a private method of a class that the tables say can be made, by its rows of tables_1 -/
def lw_okq (q : MethodName × Nat) : Prop := (q.1.cls ≠ "java/lang/invoke/MethodHandle" ∧ q.1.cls ≠ "java/lang/invoke/VarHandle") ∧ Cond.instantiable q.1.cls q.2 ∈ tables_1 ∧ Cond.privateMethod q.1 ∈ tables_1 ∧ Cond.instanceMethod q.1 ∈ tables_1
theorem lw_p0 : lw_okq (⟨"PointsOffice$RuleText", "add", "(I)Z"⟩, 5) := ⟨⟨by decide +kernel, by decide +kernel⟩, List.mem_of_getElem? (i := 23) (by decide +kernel), List.mem_of_getElem? (i := 269) (by decide +kernel), List.mem_of_getElem? (i := 270) (by decide +kernel)⟩
theorem lw_p1 : lw_okq (⟨"PointsOffice$RuleText", "readInto", "(LPointsOffice$Rules;)V"⟩, 5) := ⟨⟨by decide +kernel, by decide +kernel⟩, List.mem_of_getElem? (i := 23) (by decide +kernel), List.mem_of_getElem? (i := 273) (by decide +kernel), List.mem_of_getElem? (i := 274) (by decide +kernel)⟩
theorem lw_p2 : lw_okq (⟨"PointsOffice$Rules", "reset", "()V"⟩, 4) := ⟨⟨by decide +kernel, by decide +kernel⟩, List.mem_of_getElem? (i := 49) (by decide +kernel), List.mem_of_getElem? (i := 277) (by decide +kernel), List.mem_of_getElem? (i := 278) (by decide +kernel)⟩
theorem lw_p3 : lw_okq (⟨"PointsOffice$RuleText", "readItem", "(LPointsOffice$Rules;)V"⟩, 5) := ⟨⟨by decide +kernel, by decide +kernel⟩, List.mem_of_getElem? (i := 23) (by decide +kernel), List.mem_of_getElem? (i := 283) (by decide +kernel), List.mem_of_getElem? (i := 284) (by decide +kernel)⟩
theorem lw_p4 : lw_okq (⟨"PointsOffice$RuleText", "peek", "()I"⟩, 5) := ⟨⟨by decide +kernel, by decide +kernel⟩, List.mem_of_getElem? (i := 23) (by decide +kernel), List.mem_of_getElem? (i := 287) (by decide +kernel), List.mem_of_getElem? (i := 288) (by decide +kernel)⟩
theorem lw_p5 : lw_okq (⟨"PointsOffice$RuleText", "readRule", "(LPointsOffice$Rules;II)V"⟩, 5) := ⟨⟨by decide +kernel, by decide +kernel⟩, List.mem_of_getElem? (i := 23) (by decide +kernel), List.mem_of_getElem? (i := 291) (by decide +kernel), List.mem_of_getElem? (i := 292) (by decide +kernel)⟩
theorem lw_p6 : lw_okq (⟨"PointsOffice$RuleText", "readNumber", "(I)I"⟩, 5) := ⟨⟨by decide +kernel, by decide +kernel⟩, List.mem_of_getElem? (i := 23) (by decide +kernel), List.mem_of_getElem? (i := 295) (by decide +kernel), List.mem_of_getElem? (i := 296) (by decide +kernel)⟩
theorem lw_p7 : lw_okq (⟨"PointsOffice$Rules", "allows", "(II)Z"⟩, 4) := ⟨⟨by decide +kernel, by decide +kernel⟩, List.mem_of_getElem? (i := 49) (by decide +kernel), List.mem_of_getElem? (i := 299) (by decide +kernel), List.mem_of_getElem? (i := 300) (by decide +kernel)⟩
theorem lw_p8 : lw_okq (⟨"PointsOffice$Rules", "put", "(II)V"⟩, 4) := ⟨⟨by decide +kernel, by decide +kernel⟩, List.mem_of_getElem? (i := 49) (by decide +kernel), List.mem_of_getElem? (i := 310) (by decide +kernel), List.mem_of_getElem? (i := 311) (by decide +kernel)⟩
theorem lw_p9 : lw_okq (⟨"PointsOffice$RuleText", "readCode", "(LPointsOffice$Rules;)V"⟩, 5) := ⟨⟨by decide +kernel, by decide +kernel⟩, List.mem_of_getElem? (i := 23) (by decide +kernel), List.mem_of_getElem? (i := 314) (by decide +kernel), List.mem_of_getElem? (i := 315) (by decide +kernel)⟩
theorem lw_p10 : lw_okq (⟨"PointsOffice$Rules", "addCode", "(II)V"⟩, 4) := ⟨⟨by decide +kernel, by decide +kernel⟩, List.mem_of_getElem? (i := 49) (by decide +kernel), List.mem_of_getElem? (i := 318) (by decide +kernel), List.mem_of_getElem? (i := 319) (by decide +kernel)⟩
theorem lw_p11 : lw_okq (⟨"PointsOffice$RuleText", "readEnd", "()V"⟩, 5) := ⟨⟨by decide +kernel, by decide +kernel⟩, List.mem_of_getElem? (i := 23) (by decide +kernel), List.mem_of_getElem? (i := 322) (by decide +kernel), List.mem_of_getElem? (i := 323) (by decide +kernel)⟩
theorem lw_p12 : lw_okq (⟨"PointsOffice$RuleText", "clear", "()V"⟩, 5) := ⟨⟨by decide +kernel, by decide +kernel⟩, List.mem_of_getElem? (i := 23) (by decide +kernel), List.mem_of_getElem? (i := 326) (by decide +kernel), List.mem_of_getElem? (i := 327) (by decide +kernel)⟩
theorem lw_p13 : lw_okq (⟨"PointsOffice$Rules", "copy", "(LPointsOffice$Rules;)V"⟩, 4) := ⟨⟨by decide +kernel, by decide +kernel⟩, List.mem_of_getElem? (i := 49) (by decide +kernel), List.mem_of_getElem? (i := 376) (by decide +kernel), List.mem_of_getElem? (i := 377) (by decide +kernel)⟩
theorem lw_p14 : lw_okq (⟨"PointsOffice$Reckoner", "reckonAll", "()V"⟩, 4) := ⟨⟨by decide +kernel, by decide +kernel⟩, List.mem_of_getElem? (i := 169) (by decide +kernel), List.mem_of_getElem? (i := 380) (by decide +kernel), List.mem_of_getElem? (i := 381) (by decide +kernel)⟩
theorem lw_p15 : lw_okq (⟨"PointsOffice$Reckoner", "reckonNext", "()V"⟩, 4) := ⟨⟨by decide +kernel, by decide +kernel⟩, List.mem_of_getElem? (i := 169) (by decide +kernel), List.mem_of_getElem? (i := 384) (by decide +kernel), List.mem_of_getElem? (i := 385) (by decide +kernel)⟩
def lw_privs_1 : List (MethodName × Nat) := [(⟨"PointsOffice$RuleText", "add", "(I)Z"⟩, 5), (⟨"PointsOffice$RuleText", "readInto", "(LPointsOffice$Rules;)V"⟩, 5), (⟨"PointsOffice$Rules", "reset", "()V"⟩, 4), (⟨"PointsOffice$RuleText", "readItem", "(LPointsOffice$Rules;)V"⟩, 5), (⟨"PointsOffice$RuleText", "peek", "()I"⟩, 5), (⟨"PointsOffice$RuleText", "readRule", "(LPointsOffice$Rules;II)V"⟩, 5), (⟨"PointsOffice$RuleText", "readNumber", "(I)I"⟩, 5), (⟨"PointsOffice$Rules", "allows", "(II)Z"⟩, 4), (⟨"PointsOffice$Rules", "put", "(II)V"⟩, 4), (⟨"PointsOffice$RuleText", "readCode", "(LPointsOffice$Rules;)V"⟩, 5), (⟨"PointsOffice$Rules", "addCode", "(II)V"⟩, 4), (⟨"PointsOffice$RuleText", "readEnd", "()V"⟩, 5), (⟨"PointsOffice$RuleText", "clear", "()V"⟩, 5), (⟨"PointsOffice$Rules", "copy", "(LPointsOffice$Rules;)V"⟩, 4), (⟨"PointsOffice$Reckoner", "reckonAll", "()V"⟩, 4), (⟨"PointsOffice$Reckoner", "reckonNext", "()V"⟩, 4)]
theorem lw_r1 : ∀ q ∈ lw_privs_1, lw_okq q := List.forall_mem_cons.mpr ⟨lw_p0, List.forall_mem_cons.mpr ⟨lw_p1, List.forall_mem_cons.mpr ⟨lw_p2, List.forall_mem_cons.mpr ⟨lw_p3, List.forall_mem_cons.mpr ⟨lw_p4, List.forall_mem_cons.mpr ⟨lw_p5, List.forall_mem_cons.mpr ⟨lw_p6, List.forall_mem_cons.mpr ⟨lw_p7, List.forall_mem_cons.mpr ⟨lw_p8, List.forall_mem_cons.mpr ⟨lw_p9, List.forall_mem_cons.mpr ⟨lw_p10, List.forall_mem_cons.mpr ⟨lw_p11, List.forall_mem_cons.mpr ⟨lw_p12, List.forall_mem_cons.mpr ⟨lw_p13, List.forall_mem_cons.mpr ⟨lw_p14, List.forall_mem_cons.mpr ⟨lw_p15, fun _ h => absurd h List.not_mem_nil⟩⟩⟩⟩⟩⟩⟩⟩⟩⟩⟩⟩⟩⟩⟩⟩
theorem lw_p16 : lw_okq (⟨"PointsOffice$Events", "isThere", "(I)Z"⟩, 13) := ⟨⟨by decide +kernel, by decide +kernel⟩, List.mem_of_getElem? (i := 70) (by decide +kernel), List.mem_of_getElem? (i := 388) (by decide +kernel), List.mem_of_getElem? (i := 389) (by decide +kernel)⟩
theorem lw_p17 : lw_okq (⟨"PointsOffice$Events", "clearMarks", "(I)V"⟩, 13) := ⟨⟨by decide +kernel, by decide +kernel⟩, List.mem_of_getElem? (i := 70) (by decide +kernel), List.mem_of_getElem? (i := 392) (by decide +kernel), List.mem_of_getElem? (i := 393) (by decide +kernel)⟩
theorem lw_p18 : lw_okq (⟨"PointsOffice$Reckoner", "reckonLong", "(I)V"⟩, 4) := ⟨⟨by decide +kernel, by decide +kernel⟩, List.mem_of_getElem? (i := 169) (by decide +kernel), List.mem_of_getElem? (i := 397) (by decide +kernel), List.mem_of_getElem? (i := 398) (by decide +kernel)⟩
theorem lw_p19 : lw_okq (⟨"PointsOffice$Bans", "toShorten", "(II)I"⟩, 8) := ⟨⟨by decide +kernel, by decide +kernel⟩, List.mem_of_getElem? (i := 136) (by decide +kernel), List.mem_of_getElem? (i := 401) (by decide +kernel), List.mem_of_getElem? (i := 402) (by decide +kernel)⟩
theorem lw_p20 : lw_okq (⟨"PointsOffice$Bans", "has", "(III)Z"⟩, 8) := ⟨⟨by decide +kernel, by decide +kernel⟩, List.mem_of_getElem? (i := 136) (by decide +kernel), List.mem_of_getElem? (i := 405) (by decide +kernel), List.mem_of_getElem? (i := 406) (by decide +kernel)⟩
theorem lw_p21 : lw_okq (⟨"PointsOffice$Bans", "shorten", "(II)V"⟩, 8) := ⟨⟨by decide +kernel, by decide +kernel⟩, List.mem_of_getElem? (i := 136) (by decide +kernel), List.mem_of_getElem? (i := 409) (by decide +kernel), List.mem_of_getElem? (i := 410) (by decide +kernel)⟩
theorem lw_p22 : lw_okq (⟨"PointsOffice$Reckoner", "reckonConviction", "(I)V"⟩, 4) := ⟨⟨by decide +kernel, by decide +kernel⟩, List.mem_of_getElem? (i := 169) (by decide +kernel), List.mem_of_getElem? (i := 416) (by decide +kernel), List.mem_of_getElem? (i := 417) (by decide +kernel)⟩
theorem lw_p23 : lw_okq (⟨"PointsOffice$Bans", "hold", "(II)Z"⟩, 8) := ⟨⟨by decide +kernel, by decide +kernel⟩, List.mem_of_getElem? (i := 136) (by decide +kernel), List.mem_of_getElem? (i := 420) (by decide +kernel), List.mem_of_getElem? (i := 421) (by decide +kernel)⟩
theorem lw_p24 : lw_okq (⟨"PointsOffice$Rules", "ownBanOf", "(I)I"⟩, 4) := ⟨⟨by decide +kernel, by decide +kernel⟩, List.mem_of_getElem? (i := 49) (by decide +kernel), List.mem_of_getElem? (i := 424) (by decide +kernel), List.mem_of_getElem? (i := 425) (by decide +kernel)⟩
theorem lw_p25 : lw_okq (⟨"PointsOffice$Rules", "hasCode", "(I)Z"⟩, 4) := ⟨⟨by decide +kernel, by decide +kernel⟩, List.mem_of_getElem? (i := 49) (by decide +kernel), List.mem_of_getElem? (i := 428) (by decide +kernel), List.mem_of_getElem? (i := 429) (by decide +kernel)⟩
theorem lw_p26 : lw_okq (⟨"PointsOffice$Bans", "add", "(IIIIII)V"⟩, 8) := ⟨⟨by decide +kernel, by decide +kernel⟩, List.mem_of_getElem? (i := 136) (by decide +kernel), List.mem_of_getElem? (i := 432) (by decide +kernel), List.mem_of_getElem? (i := 433) (by decide +kernel)⟩
theorem lw_p27 : lw_okq (⟨"PointsOffice$Reckoner", "heaviest", "(II)I"⟩, 4) := ⟨⟨by decide +kernel, by decide +kernel⟩, List.mem_of_getElem? (i := 169) (by decide +kernel), List.mem_of_getElem? (i := 436) (by decide +kernel), List.mem_of_getElem? (i := 437) (by decide +kernel)⟩
theorem lw_p28 : lw_okq (⟨"PointsOffice$Rules", "get", "(I)I"⟩, 4) := ⟨⟨by decide +kernel, by decide +kernel⟩, List.mem_of_getElem? (i := 49) (by decide +kernel), List.mem_of_getElem? (i := 440) (by decide +kernel), List.mem_of_getElem? (i := 441) (by decide +kernel)⟩
theorem lw_p29 : lw_okq (⟨"PointsOffice$Events", "weigh", "(IIII)I"⟩, 13) := ⟨⟨by decide +kernel, by decide +kernel⟩, List.mem_of_getElem? (i := 70) (by decide +kernel), List.mem_of_getElem? (i := 444) (by decide +kernel), List.mem_of_getElem? (i := 445) (by decide +kernel)⟩
theorem lw_p30 : lw_okq (⟨"PointsOffice$Reckoner", "giveGreatBan", "(III)V"⟩, 4) := ⟨⟨by decide +kernel, by decide +kernel⟩, List.mem_of_getElem? (i := 169) (by decide +kernel), List.mem_of_getElem? (i := 449) (by decide +kernel), List.mem_of_getElem? (i := 450) (by decide +kernel)⟩
theorem lw_p31 : lw_okq (⟨"PointsOffice$Bans", "greatSince", "(II)I"⟩, 8) := ⟨⟨by decide +kernel, by decide +kernel⟩, List.mem_of_getElem? (i := 136) (by decide +kernel), List.mem_of_getElem? (i := 453) (by decide +kernel), List.mem_of_getElem? (i := 454) (by decide +kernel)⟩
def lw_privs_2 : List (MethodName × Nat) := [(⟨"PointsOffice$Events", "isThere", "(I)Z"⟩, 13), (⟨"PointsOffice$Events", "clearMarks", "(I)V"⟩, 13), (⟨"PointsOffice$Reckoner", "reckonLong", "(I)V"⟩, 4), (⟨"PointsOffice$Bans", "toShorten", "(II)I"⟩, 8), (⟨"PointsOffice$Bans", "has", "(III)Z"⟩, 8), (⟨"PointsOffice$Bans", "shorten", "(II)V"⟩, 8), (⟨"PointsOffice$Reckoner", "reckonConviction", "(I)V"⟩, 4), (⟨"PointsOffice$Bans", "hold", "(II)Z"⟩, 8), (⟨"PointsOffice$Rules", "ownBanOf", "(I)I"⟩, 4), (⟨"PointsOffice$Rules", "hasCode", "(I)Z"⟩, 4), (⟨"PointsOffice$Bans", "add", "(IIIIII)V"⟩, 8), (⟨"PointsOffice$Reckoner", "heaviest", "(II)I"⟩, 4), (⟨"PointsOffice$Rules", "get", "(I)I"⟩, 4), (⟨"PointsOffice$Events", "weigh", "(IIII)I"⟩, 13), (⟨"PointsOffice$Reckoner", "giveGreatBan", "(III)V"⟩, 4), (⟨"PointsOffice$Bans", "greatSince", "(II)I"⟩, 8)]
theorem lw_r2 : ∀ q ∈ lw_privs_2, lw_okq q := List.forall_mem_cons.mpr ⟨lw_p16, List.forall_mem_cons.mpr ⟨lw_p17, List.forall_mem_cons.mpr ⟨lw_p18, List.forall_mem_cons.mpr ⟨lw_p19, List.forall_mem_cons.mpr ⟨lw_p20, List.forall_mem_cons.mpr ⟨lw_p21, List.forall_mem_cons.mpr ⟨lw_p22, List.forall_mem_cons.mpr ⟨lw_p23, List.forall_mem_cons.mpr ⟨lw_p24, List.forall_mem_cons.mpr ⟨lw_p25, List.forall_mem_cons.mpr ⟨lw_p26, List.forall_mem_cons.mpr ⟨lw_p27, List.forall_mem_cons.mpr ⟨lw_p28, List.forall_mem_cons.mpr ⟨lw_p29, List.forall_mem_cons.mpr ⟨lw_p30, List.forall_mem_cons.mpr ⟨lw_p31, fun _ h => absurd h List.not_mem_nil⟩⟩⟩⟩⟩⟩⟩⟩⟩⟩⟩⟩⟩⟩⟩⟩
theorem lw_p32 : lw_okq (⟨"PointsOffice$Bans", "latestDay", "(I)I"⟩, 8) := ⟨⟨by decide +kernel, by decide +kernel⟩, List.mem_of_getElem? (i := 136) (by decide +kernel), List.mem_of_getElem? (i := 457) (by decide +kernel), List.mem_of_getElem? (i := 458) (by decide +kernel)⟩
theorem lw_p33 : lw_okq (⟨"PointsOffice$Events", "spend", "(II)V"⟩, 13) := ⟨⟨by decide +kernel, by decide +kernel⟩, List.mem_of_getElem? (i := 70) (by decide +kernel), List.mem_of_getElem? (i := 461) (by decide +kernel), List.mem_of_getElem? (i := 462) (by decide +kernel)⟩
theorem lw_p34 : lw_okq (⟨"PointsOffice$Changes", "note", "(III)V"⟩, 7) := ⟨⟨by decide +kernel, by decide +kernel⟩, List.mem_of_getElem? (i := 188) (by decide +kernel), List.mem_of_getElem? (i := 472) (by decide +kernel), List.mem_of_getElem? (i := 473) (by decide +kernel)⟩
theorem lw_p35 : lw_okq (⟨"PointsOffice$Changes", "forgetOldest", "()V"⟩, 7) := ⟨⟨by decide +kernel, by decide +kernel⟩, List.mem_of_getElem? (i := 188) (by decide +kernel), List.mem_of_getElem? (i := 476) (by decide +kernel), List.mem_of_getElem? (i := 477) (by decide +kernel)⟩
theorem lw_p36 : lw_okq (⟨"PointsOffice$Rules", "pointsOf", "(I)I"⟩, 4) := ⟨⟨by decide +kernel, by decide +kernel⟩, List.mem_of_getElem? (i := 49) (by decide +kernel), List.mem_of_getElem? (i := 485) (by decide +kernel), List.mem_of_getElem? (i := 486) (by decide +kernel)⟩
theorem lw_p37 : lw_okq (⟨"PointsOffice", "canBeOffence", "(III)Z"⟩, 8) := ⟨⟨by decide +kernel, by decide +kernel⟩, List.mem_of_getElem? (i := 15) (by decide +kernel), List.mem_of_getElem? (i := 498) (by decide +kernel), List.mem_of_getElem? (i := 499) (by decide +kernel)⟩
theorem lw_p38 : lw_okq (⟨"PointsOffice$Events", "addConviction", "(IIIIII)V"⟩, 13) := ⟨⟨by decide +kernel, by decide +kernel⟩, List.mem_of_getElem? (i := 70) (by decide +kernel), List.mem_of_getElem? (i := 505) (by decide +kernel), List.mem_of_getElem? (i := 506) (by decide +kernel)⟩
theorem lw_p39 : lw_okq (⟨"PointsOffice", "noteNewEvent", "()I"⟩, 8) := ⟨⟨by decide +kernel, by decide +kernel⟩, List.mem_of_getElem? (i := 15) (by decide +kernel), List.mem_of_getElem? (i := 509) (by decide +kernel), List.mem_of_getElem? (i := 510) (by decide +kernel)⟩
theorem lw_p40 : lw_okq (⟨"PointsOffice$Events", "hasLightAfter", "(II)Z"⟩, 13) := ⟨⟨by decide +kernel, by decide +kernel⟩, List.mem_of_getElem? (i := 70) (by decide +kernel), List.mem_of_getElem? (i := 518) (by decide +kernel), List.mem_of_getElem? (i := 519) (by decide +kernel)⟩
theorem lw_p41 : lw_okq (⟨"PointsOffice$Events", "addCourse", "(III)V"⟩, 13) := ⟨⟨by decide +kernel, by decide +kernel⟩, List.mem_of_getElem? (i := 70) (by decide +kernel), List.mem_of_getElem? (i := 523) (by decide +kernel), List.mem_of_getElem? (i := 524) (by decide +kernel)⟩
theorem lw_p42 : lw_okq (⟨"PointsOffice$Events", "isConviction", "(I)Z"⟩, 13) := ⟨⟨by decide +kernel, by decide +kernel⟩, List.mem_of_getElem? (i := 70) (by decide +kernel), List.mem_of_getElem? (i := 531) (by decide +kernel), List.mem_of_getElem? (i := 532) (by decide +kernel)⟩
theorem lw_p43 : lw_okq (⟨"PointsOffice", "retell", "(III)I"⟩, 8) := ⟨⟨by decide +kernel, by decide +kernel⟩, List.mem_of_getElem? (i := 15) (by decide +kernel), List.mem_of_getElem? (i := 535) (by decide +kernel), List.mem_of_getElem? (i := 536) (by decide +kernel)⟩
theorem lw_p44 : lw_okq (⟨"PointsOffice", "daysInAll", "(I)I"⟩, 8) := ⟨⟨by decide +kernel, by decide +kernel⟩, List.mem_of_getElem? (i := 15) (by decide +kernel), List.mem_of_getElem? (i := 539) (by decide +kernel), List.mem_of_getElem? (i := 540) (by decide +kernel)⟩
theorem lw_p45 : lw_okq (⟨"PointsOffice$Bans", "daysBetween", "(III)I"⟩, 8) := ⟨⟨by decide +kernel, by decide +kernel⟩, List.mem_of_getElem? (i := 136) (by decide +kernel), List.mem_of_getElem? (i := 544) (by decide +kernel), List.mem_of_getElem? (i := 545) (by decide +kernel)⟩
theorem lw_p46 : lw_okq (⟨"PointsOffice$Bans", "firstFree", "(II)I"⟩, 8) := ⟨⟨by decide +kernel, by decide +kernel⟩, List.mem_of_getElem? (i := 136) (by decide +kernel), List.mem_of_getElem? (i := 548) (by decide +kernel), List.mem_of_getElem? (i := 549) (by decide +kernel)⟩
theorem lw_p47 : lw_okq (⟨"PointsOffice$Bans", "dayBehindBansOn", "(II)I"⟩, 8) := ⟨⟨by decide +kernel, by decide +kernel⟩, List.mem_of_getElem? (i := 136) (by decide +kernel), List.mem_of_getElem? (i := 552) (by decide +kernel), List.mem_of_getElem? (i := 553) (by decide +kernel)⟩
def lw_privs_3 : List (MethodName × Nat) := [(⟨"PointsOffice$Bans", "latestDay", "(I)I"⟩, 8), (⟨"PointsOffice$Events", "spend", "(II)V"⟩, 13), (⟨"PointsOffice$Changes", "note", "(III)V"⟩, 7), (⟨"PointsOffice$Changes", "forgetOldest", "()V"⟩, 7), (⟨"PointsOffice$Rules", "pointsOf", "(I)I"⟩, 4), (⟨"PointsOffice", "canBeOffence", "(III)Z"⟩, 8), (⟨"PointsOffice$Events", "addConviction", "(IIIIII)V"⟩, 13), (⟨"PointsOffice", "noteNewEvent", "()I"⟩, 8), (⟨"PointsOffice$Events", "hasLightAfter", "(II)Z"⟩, 13), (⟨"PointsOffice$Events", "addCourse", "(III)V"⟩, 13), (⟨"PointsOffice$Events", "isConviction", "(I)Z"⟩, 13), (⟨"PointsOffice", "retell", "(III)I"⟩, 8), (⟨"PointsOffice", "daysInAll", "(I)I"⟩, 8), (⟨"PointsOffice$Bans", "daysBetween", "(III)I"⟩, 8), (⟨"PointsOffice$Bans", "firstFree", "(II)I"⟩, 8), (⟨"PointsOffice$Bans", "dayBehindBansOn", "(II)I"⟩, 8)]
theorem lw_r3 : ∀ q ∈ lw_privs_3, lw_okq q := List.forall_mem_cons.mpr ⟨lw_p32, List.forall_mem_cons.mpr ⟨lw_p33, List.forall_mem_cons.mpr ⟨lw_p34, List.forall_mem_cons.mpr ⟨lw_p35, List.forall_mem_cons.mpr ⟨lw_p36, List.forall_mem_cons.mpr ⟨lw_p37, List.forall_mem_cons.mpr ⟨lw_p38, List.forall_mem_cons.mpr ⟨lw_p39, List.forall_mem_cons.mpr ⟨lw_p40, List.forall_mem_cons.mpr ⟨lw_p41, List.forall_mem_cons.mpr ⟨lw_p42, List.forall_mem_cons.mpr ⟨lw_p43, List.forall_mem_cons.mpr ⟨lw_p44, List.forall_mem_cons.mpr ⟨lw_p45, List.forall_mem_cons.mpr ⟨lw_p46, List.forall_mem_cons.mpr ⟨lw_p47, fun _ h => absurd h List.not_mem_nil⟩⟩⟩⟩⟩⟩⟩⟩⟩⟩⟩⟩⟩⟩⟩⟩
theorem lw_p48 : lw_okq (⟨"PointsOffice$Bans", "nextFirstDay", "(III)I"⟩, 8) := ⟨⟨by decide +kernel, by decide +kernel⟩, List.mem_of_getElem? (i := 136) (by decide +kernel), List.mem_of_getElem? (i := 559) (by decide +kernel), List.mem_of_getElem? (i := 560) (by decide +kernel)⟩
theorem lw_p49 : lw_okq (⟨"PointsOffice$Events", "tell", "(III)I"⟩, 13) := ⟨⟨by decide +kernel, by decide +kernel⟩, List.mem_of_getElem? (i := 70) (by decide +kernel), List.mem_of_getElem? (i := 563) (by decide +kernel), List.mem_of_getElem? (i := 564) (by decide +kernel)⟩
theorem lw_p50 : lw_okq (⟨"PointsOffice$Events", "swap", "([III)I"⟩, 13) := ⟨⟨by decide +kernel, by decide +kernel⟩, List.mem_of_getElem? (i := 70) (by decide +kernel), List.mem_of_getElem? (i := 567) (by decide +kernel), List.mem_of_getElem? (i := 568) (by decide +kernel)⟩
theorem lw_p51 : lw_okq (⟨"PointsOffice$Changes", "dropLast", "()Z"⟩, 7) := ⟨⟨by decide +kernel, by decide +kernel⟩, List.mem_of_getElem? (i := 188) (by decide +kernel), List.mem_of_getElem? (i := 588) (by decide +kernel), List.mem_of_getElem? (i := 589) (by decide +kernel)⟩
theorem lw_p52 : lw_okq (⟨"PointsOffice$Events", "dropLast", "()V"⟩, 13) := ⟨⟨by decide +kernel, by decide +kernel⟩, List.mem_of_getElem? (i := 70) (by decide +kernel), List.mem_of_getElem? (i := 592) (by decide +kernel), List.mem_of_getElem? (i := 593) (by decide +kernel)⟩
theorem lw_p53 : lw_okq (⟨"PointsOffice", "liveThrough", "(I)V"⟩, 8) := ⟨⟨by decide +kernel, by decide +kernel⟩, List.mem_of_getElem? (i := 15) (by decide +kernel), List.mem_of_getElem? (i := 603) (by decide +kernel), List.mem_of_getElem? (i := 604) (by decide +kernel)⟩
theorem lw_p54 : lw_okq (⟨"PointsOffice$Events", "tellOf", "(II)I"⟩, 13) := ⟨⟨by decide +kernel, by decide +kernel⟩, List.mem_of_getElem? (i := 70) (by decide +kernel), List.mem_of_getElem? (i := 614) (by decide +kernel), List.mem_of_getElem? (i := 615) (by decide +kernel)⟩
theorem lw_p55 : lw_okq (⟨"PointsOffice$Events", "tellOfConviction", "(II)I"⟩, 13) := ⟨⟨by decide +kernel, by decide +kernel⟩, List.mem_of_getElem? (i := 70) (by decide +kernel), List.mem_of_getElem? (i := 618) (by decide +kernel), List.mem_of_getElem? (i := 619) (by decide +kernel)⟩
theorem lw_p56 : lw_okq (⟨"PointsOffice$Bans", "givenTo", "(I)I"⟩, 8) := ⟨⟨by decide +kernel, by decide +kernel⟩, List.mem_of_getElem? (i := 136) (by decide +kernel), List.mem_of_getElem? (i := 653) (by decide +kernel), List.mem_of_getElem? (i := 654) (by decide +kernel)⟩
theorem lw_p57 : lw_okq (⟨"PointsOffice$Bans", "placeOf", "(II)I"⟩, 8) := ⟨⟨by decide +kernel, by decide +kernel⟩, List.mem_of_getElem? (i := 136) (by decide +kernel), List.mem_of_getElem? (i := 657) (by decide +kernel), List.mem_of_getElem? (i := 658) (by decide +kernel)⟩
theorem lw_p58 : lw_okq (⟨"PointsOffice$Bans", "tellOf", "(II)I"⟩, 8) := ⟨⟨by decide +kernel, by decide +kernel⟩, List.mem_of_getElem? (i := 136) (by decide +kernel), List.mem_of_getElem? (i := 661) (by decide +kernel), List.mem_of_getElem? (i := 662) (by decide +kernel)⟩
theorem lw_p59 : lw_okq (⟨"PointsOffice", "sees", "(II)Z"⟩, 8) := ⟨⟨by decide +kernel, by decide +kernel⟩, List.mem_of_getElem? (i := 15) (by decide +kernel), List.mem_of_getElem? (i := 669) (by decide +kernel), List.mem_of_getElem? (i := 670) (by decide +kernel)⟩
theorem lw_p60 : lw_okq (⟨"PointsOfficeModel", "empty", "()V"⟩, 26) := ⟨⟨by decide +kernel, by decide +kernel⟩, List.mem_of_getElem? (i := 677) (by decide +kernel), List.mem_of_getElem? (i := 683) (by decide +kernel), List.mem_of_getElem? (i := 684) (by decide +kernel)⟩
theorem lw_p61 : lw_okq (⟨"PointsOfficeModel", "codeIs", "(II)V"⟩, 26) := ⟨⟨by decide +kernel, by decide +kernel⟩, List.mem_of_getElem? (i := 677) (by decide +kernel), List.mem_of_getElem? (i := 687) (by decide +kernel), List.mem_of_getElem? (i := 688) (by decide +kernel)⟩
theorem lw_p62 : lw_okq (⟨"PointsOfficeModel", "begin", "()V"⟩, 26) := ⟨⟨by decide +kernel, by decide +kernel⟩, List.mem_of_getElem? (i := 677) (by decide +kernel), List.mem_of_getElem? (i := 691) (by decide +kernel), List.mem_of_getElem? (i := 692) (by decide +kernel)⟩
theorem lw_p63 : lw_okq (⟨"PointsOfficeModel", "readAll", "()I"⟩, 26) := ⟨⟨by decide +kernel, by decide +kernel⟩, List.mem_of_getElem? (i := 677) (by decide +kernel), List.mem_of_getElem? (i := 791) (by decide +kernel), List.mem_of_getElem? (i := 792) (by decide +kernel)⟩
def lw_privs_4 : List (MethodName × Nat) := [(⟨"PointsOffice$Bans", "nextFirstDay", "(III)I"⟩, 8), (⟨"PointsOffice$Events", "tell", "(III)I"⟩, 13), (⟨"PointsOffice$Events", "swap", "([III)I"⟩, 13), (⟨"PointsOffice$Changes", "dropLast", "()Z"⟩, 7), (⟨"PointsOffice$Events", "dropLast", "()V"⟩, 13), (⟨"PointsOffice", "liveThrough", "(I)V"⟩, 8), (⟨"PointsOffice$Events", "tellOf", "(II)I"⟩, 13), (⟨"PointsOffice$Events", "tellOfConviction", "(II)I"⟩, 13), (⟨"PointsOffice$Bans", "givenTo", "(I)I"⟩, 8), (⟨"PointsOffice$Bans", "placeOf", "(II)I"⟩, 8), (⟨"PointsOffice$Bans", "tellOf", "(II)I"⟩, 8), (⟨"PointsOffice", "sees", "(II)Z"⟩, 8), (⟨"PointsOfficeModel", "empty", "()V"⟩, 26), (⟨"PointsOfficeModel", "codeIs", "(II)V"⟩, 26), (⟨"PointsOfficeModel", "begin", "()V"⟩, 26), (⟨"PointsOfficeModel", "readAll", "()I"⟩, 26)]
theorem lw_r4 : ∀ q ∈ lw_privs_4, lw_okq q := List.forall_mem_cons.mpr ⟨lw_p48, List.forall_mem_cons.mpr ⟨lw_p49, List.forall_mem_cons.mpr ⟨lw_p50, List.forall_mem_cons.mpr ⟨lw_p51, List.forall_mem_cons.mpr ⟨lw_p52, List.forall_mem_cons.mpr ⟨lw_p53, List.forall_mem_cons.mpr ⟨lw_p54, List.forall_mem_cons.mpr ⟨lw_p55, List.forall_mem_cons.mpr ⟨lw_p56, List.forall_mem_cons.mpr ⟨lw_p57, List.forall_mem_cons.mpr ⟨lw_p58, List.forall_mem_cons.mpr ⟨lw_p59, List.forall_mem_cons.mpr ⟨lw_p60, List.forall_mem_cons.mpr ⟨lw_p61, List.forall_mem_cons.mpr ⟨lw_p62, List.forall_mem_cons.mpr ⟨lw_p63, fun _ h => absurd h List.not_mem_nil⟩⟩⟩⟩⟩⟩⟩⟩⟩⟩⟩⟩⟩⟩⟩⟩
theorem lw_p64 : lw_okq (⟨"PointsOfficeModel", "letterAt", "(I)I"⟩, 26) := ⟨⟨by decide +kernel, by decide +kernel⟩, List.mem_of_getElem? (i := 677) (by decide +kernel), List.mem_of_getElem? (i := 795) (by decide +kernel), List.mem_of_getElem? (i := 796) (by decide +kernel)⟩
theorem lw_p65 : lw_okq (⟨"PointsOfficeModel", "item", "(I)I"⟩, 26) := ⟨⟨by decide +kernel, by decide +kernel⟩, List.mem_of_getElem? (i := 677) (by decide +kernel), List.mem_of_getElem? (i := 799) (by decide +kernel), List.mem_of_getElem? (i := 800) (by decide +kernel)⟩
theorem lw_p66 : lw_okq (⟨"PointsOfficeModel", "ruleItem", "(III)I"⟩, 26) := ⟨⟨by decide +kernel, by decide +kernel⟩, List.mem_of_getElem? (i := 677) (by decide +kernel), List.mem_of_getElem? (i := 803) (by decide +kernel), List.mem_of_getElem? (i := 804) (by decide +kernel)⟩
theorem lw_p67 : lw_okq (⟨"PointsOfficeModel", "number", "(II)I"⟩, 26) := ⟨⟨by decide +kernel, by decide +kernel⟩, List.mem_of_getElem? (i := 677) (by decide +kernel), List.mem_of_getElem? (i := 807) (by decide +kernel), List.mem_of_getElem? (i := 808) (by decide +kernel)⟩
theorem lw_p68 : lw_okq (⟨"PointsOfficeModel", "staysItem", "()I"⟩, 26) := ⟨⟨by decide +kernel, by decide +kernel⟩, List.mem_of_getElem? (i := 677) (by decide +kernel), List.mem_of_getElem? (i := 813) (by decide +kernel), List.mem_of_getElem? (i := 814) (by decide +kernel)⟩
theorem lw_p69 : lw_okq (⟨"PointsOfficeModel", "codeItem", "()I"⟩, 26) := ⟨⟨by decide +kernel, by decide +kernel⟩, List.mem_of_getElem? (i := 677) (by decide +kernel), List.mem_of_getElem? (i := 817) (by decide +kernel), List.mem_of_getElem? (i := 818) (by decide +kernel)⟩
theorem lw_p70 : lw_okq (⟨"PointsOfficeModel", "ends", "()I"⟩, 26) := ⟨⟨by decide +kernel, by decide +kernel⟩, List.mem_of_getElem? (i := 677) (by decide +kernel), List.mem_of_getElem? (i := 821) (by decide +kernel), List.mem_of_getElem? (i := 822) (by decide +kernel)⟩
theorem lw_p71 : lw_okq (⟨"PointsOfficeModel", "ruleOf", "(I)I"⟩, 26) := ⟨⟨by decide +kernel, by decide +kernel⟩, List.mem_of_getElem? (i := 677) (by decide +kernel), List.mem_of_getElem? (i := 840) (by decide +kernel), List.mem_of_getElem? (i := 841) (by decide +kernel)⟩
theorem lw_p72 : lw_okq (⟨"PointsOfficeModel", "note", "()V"⟩, 26) := ⟨⟨by decide +kernel, by decide +kernel⟩, List.mem_of_getElem? (i := 677) (by decide +kernel), List.mem_of_getElem? (i := 844) (by decide +kernel), List.mem_of_getElem? (i := 845) (by decide +kernel)⟩
theorem lw_p73 : lw_okq (⟨"PointsOfficeModel", "isCode", "(I)Z"⟩, 26) := ⟨⟨by decide +kernel, by decide +kernel⟩, List.mem_of_getElem? (i := 677) (by decide +kernel), List.mem_of_getElem? (i := 852) (by decide +kernel), List.mem_of_getElem? (i := 853) (by decide +kernel)⟩
theorem lw_p74 : lw_okq (⟨"PointsOfficeModel", "comes", "(IIIII)V"⟩, 26) := ⟨⟨by decide +kernel, by decide +kernel⟩, List.mem_of_getElem? (i := 677) (by decide +kernel), List.mem_of_getElem? (i := 869) (by decide +kernel), List.mem_of_getElem? (i := 870) (by decide +kernel)⟩
theorem lw_p75 : lw_okq (⟨"PointsOfficeModel", "know", "()V"⟩, 26) := ⟨⟨by decide +kernel, by decide +kernel⟩, List.mem_of_getElem? (i := 677) (by decide +kernel), List.mem_of_getElem? (i := 877) (by decide +kernel), List.mem_of_getElem? (i := 878) (by decide +kernel)⟩
theorem lw_p76 : lw_okq (⟨"PointsOfficeModel", "reckon", "()V"⟩, 26) := ⟨⟨by decide +kernel, by decide +kernel⟩, List.mem_of_getElem? (i := 677) (by decide +kernel), List.mem_of_getElem? (i := 881) (by decide +kernel), List.mem_of_getElem? (i := 882) (by decide +kernel)⟩
theorem lw_p77 : lw_okq (⟨"PointsOfficeModel", "of", "(II)I"⟩, 26) := ⟨⟨by decide +kernel, by decide +kernel⟩, List.mem_of_getElem? (i := 677) (by decide +kernel), List.mem_of_getElem? (i := 885) (by decide +kernel), List.mem_of_getElem? (i := 886) (by decide +kernel)⟩
theorem lw_p78 : lw_okq (⟨"PointsOfficeModel", "convicts", "(I)V"⟩, 26) := ⟨⟨by decide +kernel, by decide +kernel⟩, List.mem_of_getElem? (i := 677) (by decide +kernel), List.mem_of_getElem? (i := 889) (by decide +kernel), List.mem_of_getElem? (i := 890) (by decide +kernel)⟩
theorem lw_p79 : lw_okq (⟨"PointsOfficeModel", "isBanned", "(II)Z"⟩, 26) := ⟨⟨by decide +kernel, by decide +kernel⟩, List.mem_of_getElem? (i := 677) (by decide +kernel), List.mem_of_getElem? (i := 893) (by decide +kernel), List.mem_of_getElem? (i := 894) (by decide +kernel)⟩
def lw_privs_5 : List (MethodName × Nat) := [(⟨"PointsOfficeModel", "letterAt", "(I)I"⟩, 26), (⟨"PointsOfficeModel", "item", "(I)I"⟩, 26), (⟨"PointsOfficeModel", "ruleItem", "(III)I"⟩, 26), (⟨"PointsOfficeModel", "number", "(II)I"⟩, 26), (⟨"PointsOfficeModel", "staysItem", "()I"⟩, 26), (⟨"PointsOfficeModel", "codeItem", "()I"⟩, 26), (⟨"PointsOfficeModel", "ends", "()I"⟩, 26), (⟨"PointsOfficeModel", "ruleOf", "(I)I"⟩, 26), (⟨"PointsOfficeModel", "note", "()V"⟩, 26), (⟨"PointsOfficeModel", "isCode", "(I)Z"⟩, 26), (⟨"PointsOfficeModel", "comes", "(IIIII)V"⟩, 26), (⟨"PointsOfficeModel", "know", "()V"⟩, 26), (⟨"PointsOfficeModel", "reckon", "()V"⟩, 26), (⟨"PointsOfficeModel", "of", "(II)I"⟩, 26), (⟨"PointsOfficeModel", "convicts", "(I)V"⟩, 26), (⟨"PointsOfficeModel", "isBanned", "(II)Z"⟩, 26)]
theorem lw_r5 : ∀ q ∈ lw_privs_5, lw_okq q := List.forall_mem_cons.mpr ⟨lw_p64, List.forall_mem_cons.mpr ⟨lw_p65, List.forall_mem_cons.mpr ⟨lw_p66, List.forall_mem_cons.mpr ⟨lw_p67, List.forall_mem_cons.mpr ⟨lw_p68, List.forall_mem_cons.mpr ⟨lw_p69, List.forall_mem_cons.mpr ⟨lw_p70, List.forall_mem_cons.mpr ⟨lw_p71, List.forall_mem_cons.mpr ⟨lw_p72, List.forall_mem_cons.mpr ⟨lw_p73, List.forall_mem_cons.mpr ⟨lw_p74, List.forall_mem_cons.mpr ⟨lw_p75, List.forall_mem_cons.mpr ⟨lw_p76, List.forall_mem_cons.mpr ⟨lw_p77, List.forall_mem_cons.mpr ⟨lw_p78, List.forall_mem_cons.mpr ⟨lw_p79, fun _ h => absurd h List.not_mem_nil⟩⟩⟩⟩⟩⟩⟩⟩⟩⟩⟩⟩⟩⟩⟩⟩
theorem lw_p80 : lw_okq (⟨"PointsOfficeModel", "lastOf", "(I)I"⟩, 26) := ⟨⟨by decide +kernel, by decide +kernel⟩, List.mem_of_getElem? (i := 677) (by decide +kernel), List.mem_of_getElem? (i := 897) (by decide +kernel), List.mem_of_getElem? (i := 898) (by decide +kernel)⟩
theorem lw_p81 : lw_okq (⟨"PointsOfficeModel", "gives", "(IIIII)V"⟩, 26) := ⟨⟨by decide +kernel, by decide +kernel⟩, List.mem_of_getElem? (i := 677) (by decide +kernel), List.mem_of_getElem? (i := 901) (by decide +kernel), List.mem_of_getElem? (i := 902) (by decide +kernel)⟩
theorem lw_p82 : lw_okq (⟨"PointsOfficeModel", "mostOf", "(III)I"⟩, 26) := ⟨⟨by decide +kernel, by decide +kernel⟩, List.mem_of_getElem? (i := 677) (by decide +kernel), List.mem_of_getElem? (i := 905) (by decide +kernel), List.mem_of_getElem? (i := 906) (by decide +kernel)⟩
theorem lw_p83 : lw_okq (⟨"PointsOfficeModel", "countOf", "(I)I"⟩, 26) := ⟨⟨by decide +kernel, by decide +kernel⟩, List.mem_of_getElem? (i := 677) (by decide +kernel), List.mem_of_getElem? (i := 910) (by decide +kernel), List.mem_of_getElem? (i := 911) (by decide +kernel)⟩
theorem lw_p84 : lw_okq (⟨"PointsOfficeModel", "greatOnes", "(II)I"⟩, 26) := ⟨⟨by decide +kernel, by decide +kernel⟩, List.mem_of_getElem? (i := 677) (by decide +kernel), List.mem_of_getElem? (i := 914) (by decide +kernel), List.mem_of_getElem? (i := 915) (by decide +kernel)⟩
theorem lw_p85 : lw_okq (⟨"PointsOfficeModel", "beginOf", "(II)I"⟩, 26) := ⟨⟨by decide +kernel, by decide +kernel⟩, List.mem_of_getElem? (i := 677) (by decide +kernel), List.mem_of_getElem? (i := 918) (by decide +kernel), List.mem_of_getElem? (i := 919) (by decide +kernel)⟩
theorem lw_p86 : lw_okq (⟨"PointsOfficeModel", "shortens", "(I)V"⟩, 26) := ⟨⟨by decide +kernel, by decide +kernel⟩, List.mem_of_getElem? (i := 677) (by decide +kernel), List.mem_of_getElem? (i := 922) (by decide +kernel), List.mem_of_getElem? (i := 923) (by decide +kernel)⟩
theorem lw_p87 : lw_okq (⟨"PointsOfficeModel", "toShorten", "(II)I"⟩, 26) := ⟨⟨by decide +kernel, by decide +kernel⟩, List.mem_of_getElem? (i := 677) (by decide +kernel), List.mem_of_getElem? (i := 926) (by decide +kernel), List.mem_of_getElem? (i := 927) (by decide +kernel)⟩
theorem lw_p88 : lw_okq (⟨"PointsOfficeModel", "wasLight", "(I)Z"⟩, 26) := ⟨⟨by decide +kernel, by decide +kernel⟩, List.mem_of_getElem? (i := 677) (by decide +kernel), List.mem_of_getElem? (i := 930) (by decide +kernel), List.mem_of_getElem? (i := 931) (by decide +kernel)⟩
theorem lw_p89 : lw_okq (⟨"PointsOfficeModel", "isConviction", "(I)Z"⟩, 26) := ⟨⟨by decide +kernel, by decide +kernel⟩, List.mem_of_getElem? (i := 677) (by decide +kernel), List.mem_of_getElem? (i := 938) (by decide +kernel), List.mem_of_getElem? (i := 939) (by decide +kernel)⟩
theorem lw_p90 : lw_okq (⟨"PointsOfficeModel", "isEvent", "(I)Z"⟩, 26) := ⟨⟨by decide +kernel, by decide +kernel⟩, List.mem_of_getElem? (i := 677) (by decide +kernel), List.mem_of_getElem? (i := 942) (by decide +kernel), List.mem_of_getElem? (i := 943) (by decide +kernel)⟩
theorem lw_p91 : lw_okq (⟨"PointsOfficeModel", "retell", "(III)I"⟩, 26) := ⟨⟨by decide +kernel, by decide +kernel⟩, List.mem_of_getElem? (i := 677) (by decide +kernel), List.mem_of_getElem? (i := 946) (by decide +kernel), List.mem_of_getElem? (i := 947) (by decide +kernel)⟩
theorem lw_p92 : lw_okq (⟨"PointsOfficeModel", "daysOf", "(I)I"⟩, 26) := ⟨⟨by decide +kernel, by decide +kernel⟩, List.mem_of_getElem? (i := 677) (by decide +kernel), List.mem_of_getElem? (i := 950) (by decide +kernel), List.mem_of_getElem? (i := 951) (by decide +kernel)⟩
theorem lw_p93 : lw_okq (⟨"PointsOfficeModel", "endOf", "(I)I"⟩, 26) := ⟨⟨by decide +kernel, by decide +kernel⟩, List.mem_of_getElem? (i := 677) (by decide +kernel), List.mem_of_getElem? (i := 954) (by decide +kernel), List.mem_of_getElem? (i := 955) (by decide +kernel)⟩
theorem lw_p94 : lw_okq (⟨"PointsOfficeModel", "daysFrom", "(III)I"⟩, 26) := ⟨⟨by decide +kernel, by decide +kernel⟩, List.mem_of_getElem? (i := 677) (by decide +kernel), List.mem_of_getElem? (i := 958) (by decide +kernel), List.mem_of_getElem? (i := 959) (by decide +kernel)⟩
theorem lw_p95 : lw_okq (⟨"PointsOfficeModel", "banAt", "(II)I"⟩, 26) := ⟨⟨by decide +kernel, by decide +kernel⟩, List.mem_of_getElem? (i := 677) (by decide +kernel), List.mem_of_getElem? (i := 1023) (by decide +kernel), List.mem_of_getElem? (i := 1024) (by decide +kernel)⟩
def lw_privs_6 : List (MethodName × Nat) := [(⟨"PointsOfficeModel", "lastOf", "(I)I"⟩, 26), (⟨"PointsOfficeModel", "gives", "(IIIII)V"⟩, 26), (⟨"PointsOfficeModel", "mostOf", "(III)I"⟩, 26), (⟨"PointsOfficeModel", "countOf", "(I)I"⟩, 26), (⟨"PointsOfficeModel", "greatOnes", "(II)I"⟩, 26), (⟨"PointsOfficeModel", "beginOf", "(II)I"⟩, 26), (⟨"PointsOfficeModel", "shortens", "(I)V"⟩, 26), (⟨"PointsOfficeModel", "toShorten", "(II)I"⟩, 26), (⟨"PointsOfficeModel", "wasLight", "(I)Z"⟩, 26), (⟨"PointsOfficeModel", "isConviction", "(I)Z"⟩, 26), (⟨"PointsOfficeModel", "isEvent", "(I)Z"⟩, 26), (⟨"PointsOfficeModel", "retell", "(III)I"⟩, 26), (⟨"PointsOfficeModel", "daysOf", "(I)I"⟩, 26), (⟨"PointsOfficeModel", "endOf", "(I)I"⟩, 26), (⟨"PointsOfficeModel", "daysFrom", "(III)I"⟩, 26), (⟨"PointsOfficeModel", "banAt", "(II)I"⟩, 26)]
theorem lw_r6 : ∀ q ∈ lw_privs_6, lw_okq q := List.forall_mem_cons.mpr ⟨lw_p80, List.forall_mem_cons.mpr ⟨lw_p81, List.forall_mem_cons.mpr ⟨lw_p82, List.forall_mem_cons.mpr ⟨lw_p83, List.forall_mem_cons.mpr ⟨lw_p84, List.forall_mem_cons.mpr ⟨lw_p85, List.forall_mem_cons.mpr ⟨lw_p86, List.forall_mem_cons.mpr ⟨lw_p87, List.forall_mem_cons.mpr ⟨lw_p88, List.forall_mem_cons.mpr ⟨lw_p89, List.forall_mem_cons.mpr ⟨lw_p90, List.forall_mem_cons.mpr ⟨lw_p91, List.forall_mem_cons.mpr ⟨lw_p92, List.forall_mem_cons.mpr ⟨lw_p93, List.forall_mem_cons.mpr ⟨lw_p94, List.forall_mem_cons.mpr ⟨lw_p95, fun _ h => absurd h List.not_mem_nil⟩⟩⟩⟩⟩⟩⟩⟩⟩⟩⟩⟩⟩⟩⟩⟩
theorem lw_p96 : lw_okq (⟨"PointsOfficeModel", "isSeen", "(II)Z"⟩, 26) := ⟨⟨by decide +kernel, by decide +kernel⟩, List.mem_of_getElem? (i := 677) (by decide +kernel), List.mem_of_getElem? (i := 1032) (by decide +kernel), List.mem_of_getElem? (i := 1033) (by decide +kernel)⟩
def lw_privs_7 : List (MethodName × Nat) := [(⟨"PointsOfficeModel", "isSeen", "(II)Z"⟩, 26)]
theorem lw_r7 : ∀ q ∈ lw_privs_7, lw_okq q := List.forall_mem_cons.mpr ⟨lw_p96, fun _ h => absurd h List.not_mem_nil⟩
def lw_privs : List (MethodName × Nat) := lw_privs_1 ++ (lw_privs_2 ++ (lw_privs_3 ++ (lw_privs_4 ++ (lw_privs_5 ++ (lw_privs_6 ++ (lw_privs_7))))))
def lw_tbl : List Cond := k2_sels lw_privs ++ tables_1
theorem lw_privs_ok : ∀ q ∈ lw_privs, lw_okq q := by
  show ∀ q ∈ lw_privs_1 ++ (lw_privs_2 ++ (lw_privs_3 ++ (lw_privs_4 ++ (lw_privs_5 ++ (lw_privs_6 ++ (lw_privs_7)))))), lw_okq q
  exact List.forall_mem_append.mpr ⟨lw_r1, List.forall_mem_append.mpr ⟨lw_r2, List.forall_mem_append.mpr ⟨lw_r3, List.forall_mem_append.mpr ⟨lw_r4, List.forall_mem_append.mpr ⟨lw_r5, List.forall_mem_append.mpr ⟨lw_r6, lw_r7⟩⟩⟩⟩⟩⟩
theorem goodIn_r {big : List Cond} (ws : List Cond) (ps : List Nat) (hp : ws = ps.filterMap (fun i => big[i]?)) (h : ws.all goodWord = true) : GoodIn big ws := by
  intro w hw
  have h1 := List.all_eq_true.mp h w hw
  rw [hp] at hw
  obtain ⟨i, -, hi⟩ := List.mem_filterMap.mp hw
  have hm : w ∈ big := by first | exact List.mem_of_getElem? hi | exact List.getElem?_mem hi
  exact ⟨hm, good_of_word h1⟩
theorem goodIn_app {big a b : List Cond} (ha : GoodIn big a) (hb : GoodIn big b) : GoodIn big (a ++ b) := fun w h => (List.mem_append.mp h).elim (ha w) (hb w)
theorem goodIn_ca {big a b : List Cond} {c : Cond} (ha : GoodIn big (c :: a)) (hb : GoodIn big b) : GoodIn big (c :: (a ++ b)) := fun w h => (List.mem_cons.mp h).elim (fun e => ha w (List.mem_cons.mpr (Or.inl e))) (fun h => (List.mem_append.mp h).elim (fun h => ha w (List.mem_cons.mpr (Or.inr h))) (hb w))
theorem goodIn_sub {big ws : List Cond} (hm : ∀ w ∈ ws, w ∈ big) (h : ws.all goodWord = true) : GoodIn big ws := fun w hw => ⟨hm w hw, good_of_word (List.all_eq_true.mp h w hw)⟩
def RX0 : String := "PointsOffice$Bans"
def TX0 : u_T := fun k => match k with
  | 0 => ("PointsOffice$Bans", "driver", "[I", true)
  | 1 => ("PointsOffice$Bans", "first", "[I", true)
  | 2 => ("PointsOffice$Bans", "last", "[I", true)
  | 3 => ("PointsOffice$Bans", "conviction", "[I", true)
  | 4 => ("PointsOffice$Bans", "givenOn", "[I", true)
  | 5 => ("PointsOffice$Bans", "great", "[I", true)
  | 6 => ("PointsOffice$Bans", "shortened", "[I", true)
  | _ => ("PointsOffice$Bans", "size", "I", false)
def tyX0 : Nat → FieldType := fun k => match k with
  | 0 => .array .int
  | 1 => .array .int
  | 2 => .array .int
  | 3 => .array .int
  | 4 => .array .int
  | 5 => .array .int
  | 6 => .array .int
  | _ => .int
theorem nmX0 : ∀ a, a < 8 → ∀ b, b < 8 → a ≠ b → (TX0 a).2.1 ≠ (TX0 b).2.1 := by decide +kernel
theorem tyX0_ok : ∀ k, k < 8 → parseFieldDescriptor (TX0 k).2.2.1 = some (tyX0 k) := by decide +kernel
abbrev cX0_init : ByteArray := prog_2_method_1_code
def yX0_init : MethodName := ⟨RX0, "<init>", "()V"⟩
abbrev cX0_add : ByteArray := prog_2_method_2_code
def yX0_add : MethodName := ⟨RX0, "add", "(IIIIII)V"⟩
abbrev cX0_has : ByteArray := prog_2_method_3_code
def yX0_has : MethodName := ⟨RX0, "has", "(III)Z"⟩
abbrev cX0_hold : ByteArray := prog_2_method_4_code
def yX0_hold : MethodName := ⟨RX0, "hold", "(II)Z"⟩
abbrev cX0_firstFree : ByteArray := prog_2_method_5_code
def yX0_firstFree : MethodName := ⟨RX0, "firstFree", "(II)I"⟩
abbrev cX0_dayBehindBansOn : ByteArray := prog_2_method_6_code
def yX0_dayBehindBansOn : MethodName := ⟨RX0, "dayBehindBansOn", "(II)I"⟩
abbrev cX0_daysBetween : ByteArray := prog_2_method_7_code
def yX0_daysBetween : MethodName := ⟨RX0, "daysBetween", "(III)I"⟩
abbrev cX0_nextFirstDay : ByteArray := prog_2_method_8_code
def yX0_nextFirstDay : MethodName := ⟨RX0, "nextFirstDay", "(III)I"⟩
abbrev cX0_latestDay : ByteArray := prog_2_method_9_code
def yX0_latestDay : MethodName := ⟨RX0, "latestDay", "(I)I"⟩
abbrev cX0_greatSince : ByteArray := prog_2_method_10_code
def yX0_greatSince : MethodName := ⟨RX0, "greatSince", "(II)I"⟩
abbrev cX0_toShorten : ByteArray := prog_2_method_11_code
def yX0_toShorten : MethodName := ⟨RX0, "toShorten", "(II)I"⟩
abbrev cX0_shorten : ByteArray := prog_2_method_12_code
def yX0_shorten : MethodName := ⟨RX0, "shorten", "(II)V"⟩
abbrev cX0_givenTo : ByteArray := prog_2_method_13_code
def yX0_givenTo : MethodName := ⟨RX0, "givenTo", "(I)I"⟩
abbrev cX0_placeOf : ByteArray := prog_2_method_14_code
def yX0_placeOf : MethodName := ⟨RX0, "placeOf", "(II)I"⟩
abbrev cX0_tellOf : ByteArray := prog_2_method_15_code
def yX0_tellOf : MethodName := ⟨RX0, "tellOf", "(II)I"⟩
def RX1 : String := "PointsOffice$Changes"
def TX1 : u_T := fun k => match k with
  | 0 => ("PointsOffice$Changes", "kind", "[I", true)
  | 1 => ("PointsOffice$Changes", "where", "[I", true)
  | 2 => ("PointsOffice$Changes", "was", "[I", true)
  | 3 => ("PointsOffice$Changes", "size", "I", false)
  | 4 => ("PointsOffice$Changes", "droppedKind", "I", false)
  | 5 => ("PointsOffice$Changes", "droppedWhere", "I", false)
  | _ => ("PointsOffice$Changes", "droppedWas", "I", false)
def tyX1 : Nat → FieldType := fun k => match k with
  | 0 => .array .int
  | 1 => .array .int
  | 2 => .array .int
  | 3 => .int
  | 4 => .int
  | 5 => .int
  | _ => .int
theorem nmX1 : ∀ a, a < 7 → ∀ b, b < 7 → a ≠ b → (TX1 a).2.1 ≠ (TX1 b).2.1 := by decide +kernel
theorem tyX1_ok : ∀ k, k < 7 → parseFieldDescriptor (TX1 k).2.2.1 = some (tyX1 k) := by decide +kernel
abbrev cX1_init : ByteArray := prog_3_method_1_code
def yX1_init : MethodName := ⟨RX1, "<init>", "()V"⟩
abbrev cX1_note : ByteArray := prog_3_method_2_code
def yX1_note : MethodName := ⟨RX1, "note", "(III)V"⟩
abbrev cX1_forgetOldest : ByteArray := prog_3_method_3_code
def yX1_forgetOldest : MethodName := ⟨RX1, "forgetOldest", "()V"⟩
abbrev cX1_dropLast : ByteArray := prog_3_method_4_code
def yX1_dropLast : MethodName := ⟨RX1, "dropLast", "()Z"⟩
def RX2 : String := "PointsOffice$Events"
def TX2 : u_T := fun k => match k with
  | 0 => ("PointsOffice$Events", "driver", "[I", true)
  | 1 => ("PointsOffice$Events", "day", "[I", true)
  | 2 => ("PointsOffice$Events", "kind", "[I", true)
  | 3 => ("PointsOffice$Events", "offence", "[I", true)
  | 4 => ("PointsOffice$Events", "code", "[I", true)
  | 5 => ("PointsOffice$Events", "points", "[I", true)
  | 6 => ("PointsOffice$Events", "special", "[I", true)
  | 7 => ("PointsOffice$Events", "struck", "[I", true)
  | 8 => ("PointsOffice$Events", "twice", "[I", true)
  | 9 => ("PointsOffice$Events", "spent", "[I", true)
  | 10 => ("PointsOffice$Events", "idle", "[I", true)
  | 11 => ("PointsOffice$Events", "weight", "[I", true)
  | _ => ("PointsOffice$Events", "size", "I", false)
def tyX2 : Nat → FieldType := fun k => match k with
  | 0 => .array .int
  | 1 => .array .int
  | 2 => .array .int
  | 3 => .array .int
  | 4 => .array .int
  | 5 => .array .int
  | 6 => .array .int
  | 7 => .array .int
  | 8 => .array .int
  | 9 => .array .int
  | 10 => .array .int
  | 11 => .array .int
  | _ => .int
theorem nmX2 : ∀ a, a < 13 → ∀ b, b < 13 → a ≠ b → (TX2 a).2.1 ≠ (TX2 b).2.1 := by decide +kernel
theorem tyX2_ok : ∀ k, k < 13 → parseFieldDescriptor (TX2 k).2.2.1 = some (tyX2 k) := by decide +kernel
abbrev cX2_init : ByteArray := prog_4_method_1_code
def yX2_init : MethodName := ⟨RX2, "<init>", "()V"⟩
abbrev cX2_isThere : ByteArray := prog_4_method_2_code
def yX2_isThere : MethodName := ⟨RX2, "isThere", "(I)Z"⟩
abbrev cX2_isConviction : ByteArray := prog_4_method_3_code
def yX2_isConviction : MethodName := ⟨RX2, "isConviction", "(I)Z"⟩
abbrev cX2_addConviction : ByteArray := prog_4_method_4_code
def yX2_addConviction : MethodName := ⟨RX2, "addConviction", "(IIIIII)V"⟩
abbrev cX2_addCourse : ByteArray := prog_4_method_5_code
def yX2_addCourse : MethodName := ⟨RX2, "addCourse", "(III)V"⟩
abbrev cX2_dropLast : ByteArray := prog_4_method_6_code
def yX2_dropLast : MethodName := ⟨RX2, "dropLast", "()V"⟩
abbrev cX2_hasLightAfter : ByteArray := prog_4_method_7_code
def yX2_hasLightAfter : MethodName := ⟨RX2, "hasLightAfter", "(II)Z"⟩
abbrev cX2_tell : ByteArray := prog_4_method_8_code
def yX2_tell : MethodName := ⟨RX2, "tell", "(III)I"⟩
abbrev cX2_swap : ByteArray := prog_4_method_9_code
def yX2_swap : MethodName := ⟨RX2, "swap", "([III)I"⟩
abbrev cX2_tellOf : ByteArray := prog_4_method_10_code
def yX2_tellOf : MethodName := ⟨RX2, "tellOf", "(II)I"⟩
abbrev cX2_tellOfConviction : ByteArray := prog_4_method_11_code
def yX2_tellOfConviction : MethodName := ⟨RX2, "tellOfConviction", "(II)I"⟩
abbrev cX2_clearMarks : ByteArray := prog_4_method_12_code
def yX2_clearMarks : MethodName := ⟨RX2, "clearMarks", "(I)V"⟩
abbrev cX2_spend : ByteArray := prog_4_method_13_code
def yX2_spend : MethodName := ⟨RX2, "spend", "(II)V"⟩
abbrev cX2_weigh : ByteArray := prog_4_method_14_code
def yX2_weigh : MethodName := ⟨RX2, "weigh", "(IIII)I"⟩
def RX3 : String := "PointsOffice$Reckoner"
def TX3 : u_T := fun k => match k with
  | 0 => ("PointsOffice$Reckoner", "rules", "LPointsOffice$Rules;", true)
  | 1 => ("PointsOffice$Reckoner", "events", "LPointsOffice$Events;", true)
  | 2 => ("PointsOffice$Reckoner", "bans", "LPointsOffice$Bans;", true)
  | _ => ("PointsOffice$Reckoner", "soFar", "I", false)
def tyX3 : Nat → FieldType := fun k => match k with
  | 0 => .object "PointsOffice$Rules"
  | 1 => .object "PointsOffice$Events"
  | 2 => .object "PointsOffice$Bans"
  | _ => .int
theorem nmX3 : ∀ a, a < 4 → ∀ b, b < 4 → a ≠ b → (TX3 a).2.1 ≠ (TX3 b).2.1 := by decide +kernel
theorem tyX3_ok : ∀ k, k < 4 → parseFieldDescriptor (TX3 k).2.2.1 = some (tyX3 k) := by decide +kernel
abbrev cX3_init : ByteArray := prog_5_method_1_code
def yX3_init : MethodName := ⟨RX3, "<init>", "(LPointsOffice$Rules;LPointsOffice$Events;LPointsOffice$Bans;)V"⟩
abbrev cX3_reckonAll : ByteArray := prog_5_method_2_code
def yX3_reckonAll : MethodName := ⟨RX3, "reckonAll", "()V"⟩
abbrev cX3_reckonNext : ByteArray := prog_5_method_3_code
def yX3_reckonNext : MethodName := ⟨RX3, "reckonNext", "()V"⟩
abbrev cX3_reckonLong : ByteArray := prog_5_method_4_code
def yX3_reckonLong : MethodName := ⟨RX3, "reckonLong", "(I)V"⟩
abbrev cX3_reckonConviction : ByteArray := prog_5_method_5_code
def yX3_reckonConviction : MethodName := ⟨RX3, "reckonConviction", "(I)V"⟩
abbrev cX3_giveGreatBan : ByteArray := prog_5_method_6_code
def yX3_giveGreatBan : MethodName := ⟨RX3, "giveGreatBan", "(III)V"⟩
abbrev cX3_heaviest : ByteArray := prog_5_method_7_code
def yX3_heaviest : MethodName := ⟨RX3, "heaviest", "(II)I"⟩
def RX4 : String := "PointsOffice$RuleText"
def TX4 : u_T := fun k => match k with
  | 0 => ("PointsOffice$RuleText", "letters", "[I", true)
  | 1 => ("PointsOffice$RuleText", "length", "I", false)
  | 2 => ("PointsOffice$RuleText", "at", "I", false)
  | 3 => ("PointsOffice$RuleText", "place", "I", false)
  | _ => ("PointsOffice$RuleText", "why", "I", false)
def tyX4 : Nat → FieldType := fun k => match k with
  | 0 => .array .int
  | 1 => .int
  | 2 => .int
  | 3 => .int
  | _ => .int
theorem nmX4 : ∀ a, a < 5 → ∀ b, b < 5 → a ≠ b → (TX4 a).2.1 ≠ (TX4 b).2.1 := by decide +kernel
theorem tyX4_ok : ∀ k, k < 5 → parseFieldDescriptor (TX4 k).2.2.1 = some (tyX4 k) := by decide +kernel
abbrev cX4_init : ByteArray := prog_6_method_1_code
def yX4_init : MethodName := ⟨RX4, "<init>", "()V"⟩
abbrev cX4_add : ByteArray := prog_6_method_2_code
def yX4_add : MethodName := ⟨RX4, "add", "(I)Z"⟩
abbrev cX4_clear : ByteArray := prog_6_method_3_code
def yX4_clear : MethodName := ⟨RX4, "clear", "()V"⟩
abbrev cX4_readInto : ByteArray := prog_6_method_4_code
def yX4_readInto : MethodName := ⟨RX4, "readInto", "(LPointsOffice$Rules;)V"⟩
abbrev cX4_readItem : ByteArray := prog_6_method_5_code
def yX4_readItem : MethodName := ⟨RX4, "readItem", "(LPointsOffice$Rules;)V"⟩
abbrev cX4_peek : ByteArray := prog_6_method_6_code
def yX4_peek : MethodName := ⟨RX4, "peek", "()I"⟩
abbrev cX4_readRule : ByteArray := prog_6_method_7_code
def yX4_readRule : MethodName := ⟨RX4, "readRule", "(LPointsOffice$Rules;II)V"⟩
abbrev cX4_readCode : ByteArray := prog_6_method_8_code
def yX4_readCode : MethodName := ⟨RX4, "readCode", "(LPointsOffice$Rules;)V"⟩
abbrev cX4_readNumber : ByteArray := prog_6_method_9_code
def yX4_readNumber : MethodName := ⟨RX4, "readNumber", "(I)I"⟩
abbrev cX4_readEnd : ByteArray := prog_6_method_10_code
def yX4_readEnd : MethodName := ⟨RX4, "readEnd", "()V"⟩
def RX5 : String := "PointsOffice$Rules"
def TX5 : u_T := fun k => match k with
  | 0 => ("PointsOffice$Rules", "numbers", "[I", true)
  | 1 => ("PointsOffice$Rules", "codePoints", "[I", true)
  | 2 => ("PointsOffice$Rules", "codeBans", "[I", true)
  | _ => ("PointsOffice$Rules", "codes", "I", false)
def tyX5 : Nat → FieldType := fun k => match k with
  | 0 => .array .int
  | 1 => .array .int
  | 2 => .array .int
  | _ => .int
theorem nmX5 : ∀ a, a < 4 → ∀ b, b < 4 → a ≠ b → (TX5 a).2.1 ≠ (TX5 b).2.1 := by decide +kernel
theorem tyX5_ok : ∀ k, k < 4 → parseFieldDescriptor (TX5 k).2.2.1 = some (tyX5 k) := by decide +kernel
abbrev cX5_init : ByteArray := prog_7_method_1_code
def yX5_init : MethodName := ⟨RX5, "<init>", "()V"⟩
abbrev cX5_reset : ByteArray := prog_7_method_2_code
def yX5_reset : MethodName := ⟨RX5, "reset", "()V"⟩
abbrev cX5_copy : ByteArray := prog_7_method_3_code
def yX5_copy : MethodName := ⟨RX5, "copy", "(LPointsOffice$Rules;)V"⟩
abbrev cX5_isRule : ByteArray := prog_7_method_4_code
def yX5_isRule : MethodName := ⟨RX5, "isRule", "(I)Z"⟩
abbrev cX5_allows : ByteArray := prog_7_method_5_code
def yX5_allows : MethodName := ⟨RX5, "allows", "(II)Z"⟩
abbrev cX5_get : ByteArray := prog_7_method_6_code
def yX5_get : MethodName := ⟨RX5, "get", "(I)I"⟩
abbrev cX5_put : ByteArray := prog_7_method_7_code
def yX5_put : MethodName := ⟨RX5, "put", "(II)V"⟩
abbrev cX5_hasCode : ByteArray := prog_7_method_8_code
def yX5_hasCode : MethodName := ⟨RX5, "hasCode", "(I)Z"⟩
abbrev cX5_pointsOf : ByteArray := prog_7_method_9_code
def yX5_pointsOf : MethodName := ⟨RX5, "pointsOf", "(I)I"⟩
abbrev cX5_ownBanOf : ByteArray := prog_7_method_10_code
def yX5_ownBanOf : MethodName := ⟨RX5, "ownBanOf", "(I)I"⟩
abbrev cX5_addCode : ByteArray := prog_7_method_11_code
def yX5_addCode : MethodName := ⟨RX5, "addCode", "(II)V"⟩
def RX6 : String := "PointsOffice"
def TX6 : u_T := fun k => match k with
  | 0 => ("PointsOffice", "text", "LPointsOffice$RuleText;", true)
  | 1 => ("PointsOffice", "rules", "LPointsOffice$Rules;", true)
  | 2 => ("PointsOffice", "draft", "LPointsOffice$Rules;", true)
  | 3 => ("PointsOffice", "events", "LPointsOffice$Events;", true)
  | 4 => ("PointsOffice", "bans", "LPointsOffice$Bans;", true)
  | 5 => ("PointsOffice", "reckoner", "LPointsOffice$Reckoner;", true)
  | 6 => ("PointsOffice", "changes", "LPointsOffice$Changes;", true)
  | _ => ("PointsOffice", "today", "I", false)
def tyX6 : Nat → FieldType := fun k => match k with
  | 0 => .object "PointsOffice$RuleText"
  | 1 => .object "PointsOffice$Rules"
  | 2 => .object "PointsOffice$Rules"
  | 3 => .object "PointsOffice$Events"
  | 4 => .object "PointsOffice$Bans"
  | 5 => .object "PointsOffice$Reckoner"
  | 6 => .object "PointsOffice$Changes"
  | _ => .int
theorem nmX6 : ∀ a, a < 8 → ∀ b, b < 8 → a ≠ b → (TX6 a).2.1 ≠ (TX6 b).2.1 := by decide +kernel
theorem tyX6_ok : ∀ k, k < 8 → parseFieldDescriptor (TX6 k).2.2.1 = some (tyX6 k) := by decide +kernel
abbrev cX6_init : ByteArray := prog_1_method_1_code
def yX6_init : MethodName := ⟨RX6, "<init>", "()V"⟩
abbrev cX6_write : ByteArray := prog_1_method_2_code
def yX6_write : MethodName := ⟨RX6, "write", "(I)I"⟩
abbrev cX6_wipe : ByteArray := prog_1_method_3_code
def yX6_wipe : MethodName := ⟨RX6, "wipe", "()I"⟩
abbrev cX6_fault : ByteArray := prog_1_method_4_code
def yX6_fault : MethodName := ⟨RX6, "fault", "()I"⟩
abbrev cX6_reason : ByteArray := prog_1_method_5_code
def yX6_reason : MethodName := ⟨RX6, "reason", "()I"⟩
abbrev cX6_lay : ByteArray := prog_1_method_6_code
def yX6_lay : MethodName := ⟨RX6, "lay", "()I"⟩
abbrev cX6_rule : ByteArray := prog_1_method_7_code
def yX6_rule : MethodName := ⟨RX6, "rule", "(II)I"⟩
abbrev cX6_code : ByteArray := prog_1_method_8_code
def yX6_code : MethodName := ⟨RX6, "code", "(II)I"⟩
abbrev cX6_pass : ByteArray := prog_1_method_9_code
def yX6_pass : MethodName := ⟨RX6, "pass", "(I)I"⟩
abbrev cX6_convict : ByteArray := prog_1_method_10_code
def yX6_convict : MethodName := ⟨RX6, "convict", "(IIII)I"⟩
abbrev cX6_course : ByteArray := prog_1_method_11_code
def yX6_course : MethodName := ⟨RX6, "course", "(II)I"⟩
abbrev cX6_strike : ByteArray := prog_1_method_12_code
def yX6_strike : MethodName := ⟨RX6, "strike", "(I)I"⟩
abbrev cX6_lower : ByteArray := prog_1_method_13_code
def yX6_lower : MethodName := ⟨RX6, "lower", "(II)I"⟩
abbrev cX6_redate : ByteArray := prog_1_method_14_code
def yX6_redate : MethodName := ⟨RX6, "redate", "(II)I"⟩
abbrev cX6_excuse : ByteArray := prog_1_method_15_code
def yX6_excuse : MethodName := ⟨RX6, "excuse", "(I)I"⟩
abbrev cX6_undo : ByteArray := prog_1_method_16_code
def yX6_undo : MethodName := ⟨RX6, "undo", "()I"⟩
abbrev cX6_year : ByteArray := prog_1_method_17_code
def yX6_year : MethodName := ⟨RX6, "year", "(II)I"⟩
abbrev cX6_event : ByteArray := prog_1_method_18_code
def yX6_event : MethodName := ⟨RX6, "event", "(II)I"⟩
abbrev cX6_sum : ByteArray := prog_1_method_19_code
def yX6_sum : MethodName := ⟨RX6, "sum", "(II)I"⟩
abbrev cX6_need : ByteArray := prog_1_method_20_code
def yX6_need : MethodName := ⟨RX6, "need", "(I)I"⟩
abbrev cX6_would : ByteArray := prog_1_method_21_code
def yX6_would : MethodName := ⟨RX6, "would", "(III)I"⟩
abbrev cX6_banned : ByteArray := prog_1_method_22_code
def yX6_banned : MethodName := ⟨RX6, "banned", "(II)I"⟩
abbrev cX6_days : ByteArray := prog_1_method_23_code
def yX6_days : MethodName := ⟨RX6, "days", "(III)I"⟩
abbrev cX6_free : ByteArray := prog_1_method_24_code
def yX6_free : MethodName := ⟨RX6, "free", "(I)I"⟩
abbrev cX6_ban : ByteArray := prog_1_method_25_code
def yX6_ban : MethodName := ⟨RX6, "ban", "(III)I"⟩
abbrev cX6_seen : ByteArray := prog_1_method_26_code
def yX6_seen : MethodName := ⟨RX6, "seen", "(III)I"⟩
abbrev cX6_count : ByteArray := prog_1_method_27_code
def yX6_count : MethodName := ⟨RX6, "count", "(I)I"⟩
abbrev cX6_isDriver : ByteArray := prog_1_method_28_code
def yX6_isDriver : MethodName := ⟨RX6, "isDriver", "(I)Z"⟩
abbrev cX6_canBeOffence : ByteArray := prog_1_method_29_code
def yX6_canBeOffence : MethodName := ⟨RX6, "canBeOffence", "(III)Z"⟩
abbrev cX6_daysInAll : ByteArray := prog_1_method_30_code
def yX6_daysInAll : MethodName := ⟨RX6, "daysInAll", "(I)I"⟩
abbrev cX6_noteNewEvent : ByteArray := prog_1_method_31_code
def yX6_noteNewEvent : MethodName := ⟨RX6, "noteNewEvent", "()I"⟩
abbrev cX6_retell : ByteArray := prog_1_method_32_code
def yX6_retell : MethodName := ⟨RX6, "retell", "(III)I"⟩
abbrev cX6_liveThrough : ByteArray := prog_1_method_33_code
def yX6_liveThrough : MethodName := ⟨RX6, "liveThrough", "(I)V"⟩
abbrev cX6_sees : ByteArray := prog_1_method_34_code
def yX6_sees : MethodName := ⟨RX6, "sees", "(II)Z"⟩
def RX7 : String := "PointsOfficeModel"
def TX7 : u_T := fun k => match k with
  | 0 => ("PointsOfficeModel", "length", "I", false)
  | 1 => ("PointsOfficeModel", "text", "[I", true)
  | 2 => ("PointsOfficeModel", "now", "[I", true)
  | 3 => ("PointsOfficeModel", "before", "[I", true)
  | 4 => ("PointsOfficeModel", "undoMany", "I", false)
  | 5 => ("PointsOfficeModel", "today", "I", false)
  | 6 => ("PointsOfficeModel", "codes", "I", false)
  | 7 => ("PointsOfficeModel", "codePoints", "[I", true)
  | 8 => ("PointsOfficeModel", "codeBan", "[I", true)
  | 9 => ("PointsOfficeModel", "readRules", "[I", true)
  | 10 => ("PointsOfficeModel", "readCodes", "I", false)
  | 11 => ("PointsOfficeModel", "readPoints", "[I", true)
  | 12 => ("PointsOfficeModel", "readBan", "[I", true)
  | 13 => ("PointsOfficeModel", "why", "I", false)
  | 14 => ("PointsOfficeModel", "spot", "I", false)
  | 15 => ("PointsOfficeModel", "isKnown", "Z", false)
  | 16 => ("PointsOfficeModel", "twice", "[I", true)
  | 17 => ("PointsOfficeModel", "spent", "[I", true)
  | 18 => ("PointsOfficeModel", "idle", "[I", true)
  | 19 => ("PointsOfficeModel", "bans", "I", false)
  | 20 => ("PointsOfficeModel", "banOf", "[I", true)
  | 21 => ("PointsOfficeModel", "first", "[I", true)
  | 22 => ("PointsOfficeModel", "size", "[I", true)
  | 23 => ("PointsOfficeModel", "by", "[I", true)
  | 24 => ("PointsOfficeModel", "great", "[I", true)
  | _ => ("PointsOfficeModel", "cut", "[I", true)
def tyX7 : Nat → FieldType := fun k => match k with
  | 0 => .int
  | 1 => .array .int
  | 2 => .array .int
  | 3 => .array .int
  | 4 => .int
  | 5 => .int
  | 6 => .int
  | 7 => .array .int
  | 8 => .array .int
  | 9 => .array .int
  | 10 => .int
  | 11 => .array .int
  | 12 => .array .int
  | 13 => .int
  | 14 => .int
  | 15 => .boolean
  | 16 => .array .int
  | 17 => .array .int
  | 18 => .array .int
  | 19 => .int
  | 20 => .array .int
  | 21 => .array .int
  | 22 => .array .int
  | 23 => .array .int
  | 24 => .array .int
  | _ => .array .int
theorem nmX7 : ∀ a, a < 26 → ∀ b, b < 26 → a ≠ b → (TX7 a).2.1 ≠ (TX7 b).2.1 := by decide +kernel
theorem tyX7_ok : ∀ k, k < 26 → parseFieldDescriptor (TX7 k).2.2.1 = some (tyX7 k) := by decide +kernel
abbrev cX7_init : ByteArray := prog_9_method_1_code
def yX7_init : MethodName := ⟨RX7, "<init>", "()V"⟩
abbrev cX7_in : ByteArray := prog_9_method_2_code
def yX7_in : MethodName := ⟨RX7, "in", "(JJJ)Z"⟩
abbrev cX7_empty : ByteArray := prog_9_method_3_code
def yX7_empty : MethodName := ⟨RX7, "empty", "()V"⟩
abbrev cX7_codeIs : ByteArray := prog_9_method_4_code
def yX7_codeIs : MethodName := ⟨RX7, "codeIs", "(II)V"⟩
abbrev cX7_write : ByteArray := prog_9_method_5_code
def yX7_write : MethodName := ⟨RX7, "write", "(I)I"⟩
abbrev cX7_wipe : ByteArray := prog_9_method_6_code
def yX7_wipe : MethodName := ⟨RX7, "wipe", "()I"⟩
abbrev cX7_letterAt : ByteArray := prog_9_method_7_code
def yX7_letterAt : MethodName := ⟨RX7, "letterAt", "(I)I"⟩
abbrev cX7_number : ByteArray := prog_9_method_8_code
def yX7_number : MethodName := ⟨RX7, "number", "(II)I"⟩
abbrev cX7_ends : ByteArray := prog_9_method_9_code
def yX7_ends : MethodName := ⟨RX7, "ends", "()I"⟩
abbrev cX7_ruleItem : ByteArray := prog_9_method_10_code
def yX7_ruleItem : MethodName := ⟨RX7, "ruleItem", "(III)I"⟩
abbrev cX7_codeItem : ByteArray := prog_9_method_11_code
def yX7_codeItem : MethodName := ⟨RX7, "codeItem", "()I"⟩
abbrev cX7_staysItem : ByteArray := prog_9_method_12_code
def yX7_staysItem : MethodName := ⟨RX7, "staysItem", "()I"⟩
abbrev cX7_item : ByteArray := prog_9_method_13_code
def yX7_item : MethodName := ⟨RX7, "item", "(I)I"⟩
abbrev cX7_readAll : ByteArray := prog_9_method_14_code
def yX7_readAll : MethodName := ⟨RX7, "readAll", "()I"⟩
abbrev cX7_fault : ByteArray := prog_9_method_15_code
def yX7_fault : MethodName := ⟨RX7, "fault", "()I"⟩
abbrev cX7_reason : ByteArray := prog_9_method_16_code
def yX7_reason : MethodName := ⟨RX7, "reason", "()I"⟩
abbrev cX7_lay : ByteArray := prog_9_method_17_code
def yX7_lay : MethodName := ⟨RX7, "lay", "()I"⟩
abbrev cX7_begin : ByteArray := prog_9_method_18_code
def yX7_begin : MethodName := ⟨RX7, "begin", "()V"⟩
abbrev cX7_isDriver : ByteArray := prog_9_method_19_code
def yX7_isDriver : MethodName := ⟨RX7, "isDriver", "(I)Z"⟩
abbrev cX7_isCode : ByteArray := prog_9_method_20_code
def yX7_isCode : MethodName := ⟨RX7, "isCode", "(I)Z"⟩
abbrev cX7_isEvent : ByteArray := prog_9_method_21_code
def yX7_isEvent : MethodName := ⟨RX7, "isEvent", "(I)Z"⟩
abbrev cX7_of : ByteArray := prog_9_method_22_code
def yX7_of : MethodName := ⟨RX7, "of", "(II)I"⟩
abbrev cX7_ruleOf : ByteArray := prog_9_method_23_code
def yX7_ruleOf : MethodName := ⟨RX7, "ruleOf", "(I)I"⟩
abbrev cX7_note : ByteArray := prog_9_method_24_code
def yX7_note : MethodName := ⟨RX7, "note", "()V"⟩
abbrev cX7_rule : ByteArray := prog_9_method_25_code
def yX7_rule : MethodName := ⟨RX7, "rule", "(II)I"⟩
abbrev cX7_code : ByteArray := prog_9_method_26_code
def yX7_code : MethodName := ⟨RX7, "code", "(II)I"⟩
abbrev cX7_pass : ByteArray := prog_9_method_27_code
def yX7_pass : MethodName := ⟨RX7, "pass", "(I)I"⟩
abbrev cX7_comes : ByteArray := prog_9_method_28_code
def yX7_comes : MethodName := ⟨RX7, "comes", "(IIIII)V"⟩
abbrev cX7_convict : ByteArray := prog_9_method_29_code
def yX7_convict : MethodName := ⟨RX7, "convict", "(IIII)I"⟩
abbrev cX7_wasLight : ByteArray := prog_9_method_30_code
def yX7_wasLight : MethodName := ⟨RX7, "wasLight", "(I)Z"⟩
abbrev cX7_course : ByteArray := prog_9_method_31_code
def yX7_course : MethodName := ⟨RX7, "course", "(II)I"⟩
abbrev cX7_isConviction : ByteArray := prog_9_method_32_code
def yX7_isConviction : MethodName := ⟨RX7, "isConviction", "(I)Z"⟩
abbrev cX7_retell : ByteArray := prog_9_method_33_code
def yX7_retell : MethodName := ⟨RX7, "retell", "(III)I"⟩
abbrev cX7_strike : ByteArray := prog_9_method_34_code
def yX7_strike : MethodName := ⟨RX7, "strike", "(I)I"⟩
abbrev cX7_lower : ByteArray := prog_9_method_35_code
def yX7_lower : MethodName := ⟨RX7, "lower", "(II)I"⟩
abbrev cX7_redate : ByteArray := prog_9_method_36_code
def yX7_redate : MethodName := ⟨RX7, "redate", "(II)I"⟩
abbrev cX7_excuse : ByteArray := prog_9_method_37_code
def yX7_excuse : MethodName := ⟨RX7, "excuse", "(I)I"⟩
abbrev cX7_undo : ByteArray := prog_9_method_38_code
def yX7_undo : MethodName := ⟨RX7, "undo", "()I"⟩
abbrev cX7_year : ByteArray := prog_9_method_39_code
def yX7_year : MethodName := ⟨RX7, "year", "(II)I"⟩
abbrev cX7_lastOf : ByteArray := prog_9_method_40_code
def yX7_lastOf : MethodName := ⟨RX7, "lastOf", "(I)I"⟩
abbrev cX7_isBanned : ByteArray := prog_9_method_41_code
def yX7_isBanned : MethodName := ⟨RX7, "isBanned", "(II)Z"⟩
abbrev cX7_gives : ByteArray := prog_9_method_42_code
def yX7_gives : MethodName := ⟨RX7, "gives", "(IIIII)V"⟩
abbrev cX7_countOf : ByteArray := prog_9_method_43_code
def yX7_countOf : MethodName := ⟨RX7, "countOf", "(I)I"⟩
abbrev cX7_mostOf : ByteArray := prog_9_method_44_code
def yX7_mostOf : MethodName := ⟨RX7, "mostOf", "(III)I"⟩
abbrev cX7_greatOnes : ByteArray := prog_9_method_45_code
def yX7_greatOnes : MethodName := ⟨RX7, "greatOnes", "(II)I"⟩
abbrev cX7_beginOf : ByteArray := prog_9_method_46_code
def yX7_beginOf : MethodName := ⟨RX7, "beginOf", "(II)I"⟩
abbrev cX7_convicts : ByteArray := prog_9_method_47_code
def yX7_convicts : MethodName := ⟨RX7, "convicts", "(I)V"⟩
abbrev cX7_toShorten : ByteArray := prog_9_method_48_code
def yX7_toShorten : MethodName := ⟨RX7, "toShorten", "(II)I"⟩
abbrev cX7_shortens : ByteArray := prog_9_method_49_code
def yX7_shortens : MethodName := ⟨RX7, "shortens", "(I)V"⟩
abbrev cX7_reckon : ByteArray := prog_9_method_50_code
def yX7_reckon : MethodName := ⟨RX7, "reckon", "()V"⟩
abbrev cX7_know : ByteArray := prog_9_method_51_code
def yX7_know : MethodName := ⟨RX7, "know", "()V"⟩
abbrev cX7_daysFrom : ByteArray := prog_9_method_52_code
def yX7_daysFrom : MethodName := ⟨RX7, "daysFrom", "(III)I"⟩
abbrev cX7_endOf : ByteArray := prog_9_method_53_code
def yX7_endOf : MethodName := ⟨RX7, "endOf", "(I)I"⟩
abbrev cX7_daysOf : ByteArray := prog_9_method_54_code
def yX7_daysOf : MethodName := ⟨RX7, "daysOf", "(I)I"⟩
abbrev cX7_event : ByteArray := prog_9_method_55_code
def yX7_event : MethodName := ⟨RX7, "event", "(II)I"⟩
abbrev cX7_sum : ByteArray := prog_9_method_56_code
def yX7_sum : MethodName := ⟨RX7, "sum", "(II)I"⟩
abbrev cX7_need : ByteArray := prog_9_method_57_code
def yX7_need : MethodName := ⟨RX7, "need", "(I)I"⟩
abbrev cX7_would : ByteArray := prog_9_method_58_code
def yX7_would : MethodName := ⟨RX7, "would", "(III)I"⟩
abbrev cX7_banned : ByteArray := prog_9_method_59_code
def yX7_banned : MethodName := ⟨RX7, "banned", "(II)I"⟩
abbrev cX7_days : ByteArray := prog_9_method_60_code
def yX7_days : MethodName := ⟨RX7, "days", "(III)I"⟩
abbrev cX7_free : ByteArray := prog_9_method_61_code
def yX7_free : MethodName := ⟨RX7, "free", "(I)I"⟩
abbrev cX7_banAt : ByteArray := prog_9_method_62_code
def yX7_banAt : MethodName := ⟨RX7, "banAt", "(II)I"⟩
abbrev cX7_ban : ByteArray := prog_9_method_63_code
def yX7_ban : MethodName := ⟨RX7, "ban", "(III)I"⟩
abbrev cX7_isSeen : ByteArray := prog_9_method_64_code
def yX7_isSeen : MethodName := ⟨RX7, "isSeen", "(II)Z"⟩
abbrev cX7_seen : ByteArray := prog_9_method_65_code
def yX7_seen : MethodName := ⟨RX7, "seen", "(III)I"⟩
abbrev cX7_count : ByteArray := prog_9_method_66_code
def yX7_count : MethodName := ⟨RX7, "count", "(I)I"⟩
end
section
/-! THE SMALL MACHINE (mj_): a heap of numbered cells 'Nat → Nat → Int32' (cell, slot), values whose references are cell numbers, one judgement mj_V a program point; each row of the kit is used once, here. -/
abbrev mj_X : Type := Nat → Nat → Int32
abbrev mj_S : Type := (Nat × List (Option Nat)) ⊕ Nat
abbrev mj_M : Type := MethodName × ByteArray × Nat × Option FieldType × Nat × Nat
def mj_up (x : mj_X) (k i : Nat) (v : Int32) : mj_X := fun k' => if k' = k then upd (x k) i v else x k'
def mj_v (ad : Nat → Nat) (v : Value) : Value := match v with
  | .ref a => .ref (ad a)
  | w => w
theorem mj_v_cat (ad : Nat → Nat) (v : Value) : (mj_v ad v).category = v.category := by cases v <;> rfl
def mj_fv (ad : Nat → Nat) (xk : Nat → Int32) (i : Nat) (f : Option Nat) : Value := match f with
  | some c => .ref (ad c)
  | none => .int (xk i)
def mj_e (ad : Nat → Nat) (cA : ClassId) (xk : Nat → Int32) (sh : mj_S) : va_E := match sh with
  | .inl o => .inr (o.1, o.2.mapIdx (mj_fv ad xk))
  | .inr n => .inl (cA, (n, .inl xk))
def mj_w (ad : Nat → Nat) (cA : ClassId) (x : mj_X) (sh : List mj_S) : va_W := sh.mapIdx (fun k s => (ad k, mj_e ad cA (x k) s))
abbrev mj_cl : List vw_C := [(RX0, TX0, 8), (RX1, TX1, 7), (RX2, TX2, 13), (RX3, TX3, 4), (RX4, TX4, 5), (RX5, TX5, 4), (RX6, TX6, 8), (RX7, TX7, 26)]
def mj_nest (w : Cond) : Bool := match w with
  | .fieldLinkNest _ _ _ _ _ _ => true
  | .methodLinkNest _ _ _ _ => true
  | _ => false
def mj_tb : List Cond := lw_tbl.filter goodWord
def mj_T (U : State) : Prop := (∀ w ∈ mj_tb, w.before #[] U = true) ∧ ∀ w ∈ lw_tbl, mj_nest w = true → va_Nw w U
def mj_st0 (j : Nat) : Int32 := [1, 1, 1, 0, 0, 0].getD j 0
def mj_st1 (j : Nat) : Int32 := [999, 99, 99, 999, 999, 999].getD j 0
def mj_st2 (j : Nat) : Int32 := [100, 12, 10, 200, 300, 150].getD j 0
def mj_Z (A : Nat → Prop) (ad : Nat → Nat) (U : State) (H : Heap) : Prop :=
  (va_Z RX5 "LEAST" "[I" (.ref (ad 100)) A U H ∧ va_T .int (ad 100) 6 (fun j => .int (mj_st0 j)) A U H) ∧
  (va_Z RX5 "MOST" "[I" (.ref (ad 101)) A U H ∧ va_T .int (ad 101) 6 (fun j => .int (mj_st1 j)) A U H) ∧
  (va_Z RX5 "UNTOLD" "[I" (.ref (ad 102)) A U H ∧ va_T .int (ad 102) 6 (fun j => .int (mj_st2 j)) A U H)
def mj_G (D : va_G) (A : Nat → Prop) (ad : Nat → Nat) (cA : ClassId) (sh : List mj_S) (U : State) : Prop :=
  mj_T U ∧ va_K D mj_cl [(cA, .int)] U ∧ mj_Z A ad U U.heap ∧ (∀ i j, i < sh.length → j < sh.length → ad i = ad j → i = j) ∧ ∀ i, i < sh.length → A (ad i)
def mj_Pc (D : va_G) (A : Nat → Prop) (ad : Nat → Nat) (cA : ClassId) (sh : List mj_S) (x : mj_X) (args : List Value) : Array Value → State → Prop :=
  va_Pc (args.map (mj_v ad)) (fun U => va_P D mj_cl (mj_w ad cA x sh) U.heap ∧ mj_G D A ad cA sh U)
def mj_Qc (D : va_G) (A : Nat → Prop) (ad : Nat → Nat) (cA : ClassId) (sh : List mj_S) (Q : Option Value → mj_X → Prop) : Array Value → State → Outcome → State → Prop := fun _ st oc t =>
  (∃ (r : Option Value) (x' : mj_X), oc = .returned (r.map (mj_v ad)) ∧ Q r x' ∧ va_P D mj_cl (mj_w ad cA x' sh) t.heap) ∧ va_F A st t
def mj_rm (M : mj_M) : Room := { frames := M.2.2.2.2.1, cells := 0, slots := 0, locals := M.2.2.2.2.2 }
/-- the contract: from the heap x with these arguments the method returns, with Q of its answer and the new heap -/
def mj_C (M : mj_M) (sh : List mj_S) (args : List Value) (x : mj_X) (Q : Option Value → mj_X → Prop) : Prop :=
  ∀ (l : Launch) (D : va_G) (A : Nat → Prop) (ad : Nat → Nat) (cA : ClassId),
    Met l M.1 [.code M.1 M.2.1 M.2.2.1 M.2.2.2.1] (mj_rm M) (mj_Pc D A ad cA sh x args) (mj_Qc D A ad cA sh Q) 0 0 A
def mj_CI (M : mj_M) (sh : List mj_S) (args : List Value) (x : mj_X) (Q : Int32 → mj_X → Prop) : Prop :=
  mj_C M sh args x (fun r x' => ∃ z, r = some (.int z) ∧ Q z x')
def mj_CV (M : mj_M) (sh : List mj_S) (args : List Value) (x : mj_X) (Q : mj_X → Prop) : Prop :=
  mj_C M sh args x (fun r x' => r = none ∧ Q x')
def mj_B (M : mj_M) (p : Program) (s : State) (m : MethodId) (meth : Method) (c : Code) (D : va_G) (A : Nat → Prop) (ad : Nat → Nat) (cA : ClassId) (sh : List mj_S) : Prop :=
  p.tables.exec = Jvm.exec ∧ c.code = M.2.1 ∧ c.maxLocals = M.2.2.1 ∧ meth.sig.returnType = M.2.2.2.1 ∧ meth.locks = false ∧ s.vm.findClass M.1.cls = some m.cls ∧ mj_G D A ad cA sh s
def mj_L (ad : Nat → Nat) (lsA : Array Slot) (nL : Nat) (ls : List (Option Value)) : Prop :=
  lsA.size = nL ∧ lv_wf lsA ∧ ls.length ≤ nL ∧ ∀ (i : Nat) (v : Value), ls[i]? = some (some v) → lsA[i]? = some (.val (mj_v ad v))
/-- the judgement: from this point of the method, with this heap, these locals, this stack, it comes to its end with Q -/
def mj_V (M : mj_M) (sh : List mj_S) (Q : Option Value → mj_X → Prop) (x : mj_X) (pc : Nat) (ls : List (Option Value)) (st : List Value) : Prop :=
  ∀ (p : Program) (l : Launch) (e : Env) (s : State) (m : MethodId) (args : Array Value) (below : List Frame) (meth : Method) (c : Code) (D : va_G) (A : Nat → Prop) (ad : Nat → Nat) (cA : ClassId),
    mj_B M p s m meth c D A ad cA sh → ∀ (H : Heap) (locs : List Loc) (lsA : Array Slot), va_P D mj_cl (mj_w ad cA x sh) H → va_S A s.heap H locs → mj_L ad lsA M.2.2.1 ls →
      W p l e (mj_rm M) s m args below meth c H locs 0 0 (MQ below (mj_Qc D A ad cA sh Q) args s 0 0 A) (F0 m pc lsA (st.map (mj_v ad)))
theorem mj_use {s : State} (h : mj_T s) {w : Cond} (hw : w ∈ lw_tbl) (hg : goodWord w = true) (args : Array Value) : w.before args s = true :=
  word_at (State.WarmedH.refl s) (good_of_word hg) (h.1 w (List.mem_filter.mpr ⟨hw, hg⟩))
theorem mj_T.all {s : State} (h : mj_T s) (args : Array Value) : ∀ w ∈ mj_tb, w.before args s = true := fun w hw => mj_use h (List.mem_filter.mp hw).1 (List.mem_filter.mp hw).2 args
theorem mj_T.warm {s U : State} (hW : s.WarmedH U.vm) (h : mj_T s) : mj_T U := by
  refine ⟨fun w hw => word_at hW (good_of_word (List.mem_filter.mp hw).2) (h.1 w hw), fun w hw hn => ?_⟩
  have hz := h.2 w hw hn
  cases w <;> first | exact va_Nw.warmF hW hz | exact va_Nw.warmM hW hz | cases hn
theorem mj_Z.kept {A : Nat → Prop} {ad : Nat → Nat} {U : State} {H H1 : Heap} (h : mj_Z A ad U H) (hq : ∀ a : Nat, a < H.size → ¬ A a → H1[a]? = H[a]?) : mj_Z A ad U H1 := by
  obtain ⟨⟨a1, a2⟩, ⟨b1, b2⟩, ⟨c1, c2⟩⟩ := h
  exact ⟨⟨a1.kept hq, a2.kept hq⟩, ⟨b1.kept hq, b2.kept hq⟩, ⟨c1.kept hq, c2.kept hq⟩⟩
theorem mj_Z.moved {A : Nat → Prop} {ad : Nat → Nat} {u U : State} {H : Heap} (hvm : u.vm.Alike U.vm) (h : mj_Z A ad u H) : mj_Z A ad U H := by
  obtain ⟨⟨a1, a2⟩, ⟨b1, b2⟩, ⟨c1, c2⟩⟩ := h
  exact ⟨⟨a1.moved hvm, a2.moved hvm⟩, ⟨b1.moved hvm, b2.moved hvm⟩, ⟨c1.moved hvm, c2.moved hvm⟩⟩
theorem mj_G.go {D : va_G} {A : Nat → Prop} {ad : Nat → Nat} {cA : ClassId} {sh : List mj_S} {s U : State} {H : Heap} {locs : List Loc} (h : mj_G D A ad cA sh s) (hS : va_S A s.heap H locs) (hU : U.heap = H) (hW : s.WarmedH U.vm) : mj_G D A ad cA sh U := by
  obtain ⟨h1, h2, h3, h4⟩ := h
  refine ⟨h1.warm hW, va_K.moved hW.alike h2, ?_, h4⟩
  rw [hU]
  exact (h3.moved hW.alike).kept hS.2.1
theorem mj_w_at {ad : Nat → Nat} {cA : ClassId} {x : mj_X} {sh : List mj_S} {k : Nat} {s : mj_S} (h : sh[k]? = some s) : (mj_w ad cA x sh)[k]? = some (ad k, mj_e ad cA (x k) s) := by
  unfold mj_w
  rw [List.getElem?_mapIdx, h]
  rfl
theorem mj_D {D : va_G} {A : Nat → Prop} {ad : Nat → Nat} {cA : ClassId} {sh : List mj_S} {s : State} (h : mj_G D A ad cA sh s) (x : mj_X) : va_D A (mj_w ad cA x sh) := by
  obtain ⟨-, -, -, h1, h2⟩ := h
  have key : ∀ (k : Nat) (q : Nat × va_E), (mj_w ad cA x sh)[k]? = some q → k < sh.length ∧ q.1 = ad k := by
    intro k q hk
    unfold mj_w at hk
    rw [List.getElem?_mapIdx] at hk
    cases hs : sh[k]? with
    | none => rw [hs] at hk; cases hk
    | some s0 =>
      rw [hs] at hk
      cases hk
      exact ⟨(List.getElem?_eq_some_iff.mp hs).1, rfl⟩
  refine ⟨fun i j p q hi hj hpq => ?_, fun k q hk => ?_⟩
  · obtain ⟨a1, a2⟩ := key i p hi
    obtain ⟨b1, b2⟩ := key j q hj
    exact h1 i j a1 b1 (by rw [← a2, ← b2]; exact hpq)
  · obtain ⟨a1, a2⟩ := key k q hk
    rw [a2]
    exact h2 k a1
theorem mj_w_set {ad : Nat → Nat} {cA : ClassId} {x : mj_X} {sh : List mj_S} {k i : Nat} {v : Int32} {e : va_E} {s : mj_S} (hs : sh[k]? = some s) (he : e = mj_e ad cA (upd (x k) i v) s) : (mj_w ad cA x sh).set k (ad k, e) = mj_w ad cA (mj_up x k i v) sh := by
  subst he
  apply List.ext_getElem?
  intro j
  by_cases hj : j = k
  · subst hj
    rw [mj_w_at (x := mj_up x j i v) hs, List.getElem?_set_self (by unfold mj_w; rw [List.length_mapIdx]; exact (List.getElem?_eq_some_iff.mp hs).1)]
    simp [mj_up]
  · rw [List.getElem?_set_ne (Ne.symm hj)]
    unfold mj_w
    rw [List.getElem?_mapIdx, List.getElem?_mapIdx]
    simp [mj_up, hj]
theorem mj_fs_at {ad : Nat → Nat} {xk : Nat → Int32} {fs : List (Option Nat)} {k : Nat} {f : Option Nat} (h : fs[k]? = some f) : (fs.mapIdx (mj_fv ad xk))[k]? = some (mj_fv ad xk k f) := by
  rw [List.getElem?_mapIdx, h]
  rfl
theorem mj_fs_set {ad : Nat → Nat} {xk : Nat → Int32} {fs : List (Option Nat)} {k : Nat} {v : Int32} (h : fs[k]? = some none) : (fs.mapIdx (mj_fv ad xk)).set k (.int v) = fs.mapIdx (mj_fv ad (upd xk k v)) := by
  apply List.ext_getElem?
  intro j
  by_cases hj : j = k
  · subst hj
    rw [mj_fs_at h, List.getElem?_set_self (by rw [List.length_mapIdx]; exact (List.getElem?_eq_some_iff.mp h).1)]
    simp [mj_fv, upd]
  · rw [List.getElem?_set_ne (Ne.symm hj), List.getElem?_mapIdx, List.getElem?_mapIdx]
    cases fs[j]? with
    | none => rfl
    | some o => cases o <;> simp [mj_fv, upd, hj]
/-! locals -/
def mj_pr (ad : Nat → Nat) (ls : List (Option Value)) : List (Nat × Value) := (List.range ls.length).filterMap (fun i => match ls[i]? with
  | some (some v) => some (i, mj_v ad v)
  | _ => none)
theorem mj_pr_in {ad : Nat → Nat} {ls : List (Option Value)} {i : Nat} {v : Value} (h : ls[i]? = some (some v)) : (i, mj_v ad v) ∈ mj_pr ad ls := by
  refine List.mem_filterMap.mpr ⟨i, List.mem_range.mpr (List.getElem?_eq_some_iff.mp h).1, ?_⟩
  rw [h]
theorem mj_L.has {ad : Nat → Nat} {lsA : Array Slot} {nL : Nat} {ls : List (Option Value)} (h : mj_L ad lsA nL ls) : lv_has lsA nL (mj_pr ad ls) := by
  refine ⟨h.1, h.2.1, fun q hq => ?_⟩
  obtain ⟨i, -, hi⟩ := List.mem_filterMap.mp hq
  cases hl : ls[i]? with
  | none => rw [hl] at hi; cases hi
  | some o =>
    cases o with
    | none => rw [hl] at hi; cases hi
    | some v =>
      rw [hl] at hi
      cases hi
      exact h.2.2.2 i v hl
def mj_nl (o : Option Value) : Bool := match o with
  | some v => v.category == 1
  | none => true
theorem mj_L.set1 {ad : Nat → Nat} {lsA lsB : Array Slot} {nL : Nat} {ls : List (Option Value)} {i : Nat} {v : Value} (h : mj_L ad lsA nL ls) (hno : ∀ j, j + 1 = i → mj_nl (ls.getD j none) = true)
    (hB : lv_has lsB nL ((i, mj_v ad v) :: (mj_pr ad ls).filter (fun q => !(q.1 == i) && !(q.1 + 1 == i && q.2.category == 2)))) : mj_L ad lsB nL (ls.set i (some v)) := by
  refine ⟨hB.1, hB.2.1, by rw [List.length_set]; exact h.2.2.1, fun j w hj => ?_⟩
  by_cases hji : j = i
  · subst hji
    have hlt : j < ls.length := by
      have := (List.getElem?_eq_some_iff.mp hj).1
      rwa [List.length_set] at this
    rw [List.getElem?_set_self hlt] at hj
    cases hj
    exact hB.2.2 (j, mj_v ad v) List.mem_cons_self
  · rw [List.getElem?_set_ne (Ne.symm hji)] at hj
    refine hB.2.2 (j, mj_v ad w) (List.mem_cons_of_mem _ (List.mem_filter.mpr ⟨mj_pr_in hj, ?_⟩))
    have h1 : ¬ (j + 1 = i ∧ w.category = 2) := by
      rintro ⟨a, b⟩
      have := hno j a
      rw [List.getD_eq_getElem?_getD, hj] at this
      simp [mj_nl, b] at this
    simp only [mj_v_cat, Bool.and_eq_true, Bool.not_eq_true', beq_eq_false_iff_ne, ne_eq, hji, not_false_eq_true, true_and, Bool.and_eq_false_iff]
    by_cases a : j + 1 = i
    · right
      exact fun b => h1 ⟨a, b⟩
    · left
      exact a
end
section
section MJV
variable {M : mj_M} {sh : List mj_S} {Q : Option Value → mj_X → Prop} {x : mj_X} {pc : Nat} {ls : List (Option Value)} {st : List Value}
theorem mj_iconst {n : Int} {v : Int32} (hd : decode M.2.1 pc = .ok (.iconst n, 1)) (hv : Int32.ofInt n = v) (k : mj_V M sh Q x (pc + 1) ls (.int v :: st)) : mj_V M sh Q x pc ls (st) := by
  intro p l e s m args below meth c D A ad cA B H locs lsA hP hS hL
  exact lv_iconst B.1 B.2.1 hd hv (k p l e s m args below meth c D A ad cA B H locs lsA hP hS hL)
theorem mj_bipush {n : Int} {v : Int32} (hd : decode M.2.1 pc = .ok (.bipush n, 2)) (hv : (Int8.ofInt n).toInt32 = v) (k : mj_V M sh Q x (pc + 2) ls (.int v :: st)) : mj_V M sh Q x pc ls (st) := by
  intro p l e s m args below meth c D A ad cA B H locs lsA hP hS hL
  exact lv_bipush B.1 B.2.1 hd hv (k p l e s m args below meth c D A ad cA B H locs lsA hP hS hL)
theorem mj_sipush {n : Int} {v : Int32} (hd : decode M.2.1 pc = .ok (.sipush n, 3)) (hv : (Int16.ofInt n).toInt32 = v) (k : mj_V M sh Q x (pc + 3) ls (.int v :: st)) : mj_V M sh Q x pc ls (st) := by
  intro p l e s m args below meth c D A ad cA B H locs lsA hP hS hL
  exact lv_sipush B.1 B.2.1 hd hv (k p l e s m args below meth c D A ad cA B H locs lsA hP hS hL)
theorem mj_lconst {n : Fin 2} {v : Int64} (hd : decode M.2.1 pc = .ok (.lconst n, 1)) (hv : Int64.ofNat (n : Nat) = v) (k : mj_V M sh Q x (pc + 1) ls (.long v :: st)) : mj_V M sh Q x pc ls (st) := by
  intro p l e s m args below meth c D A ad cA B H locs lsA hP hS hL
  exact lv_lconst B.1 B.2.1 hd hv (k p l e s m args below meth c D A ad cA B H locs lsA hP hS hL)
theorem mj_ildn {k0 : Fin 4} {v : Int32} (hd : decode M.2.1 pc = .ok (.iload_n k0, 1)) (hl : ls[(k0 : Nat)]? = some (some (.int v))) (k : mj_V M sh Q x (pc + 1) ls (.int v :: st)) : mj_V M sh Q x pc ls (st) := by
  intro p l e s m args below meth c D A ad cA B H locs lsA hP hS hL
  exact lv_iload_n B.1 B.2.1 hd rfl (hL.2.2.2 _ _ hl) (k p l e s m args below meth c D A ad cA B H locs lsA hP hS hL)
theorem mj_ild {i : Nat} {v : Int32} (hd : decode M.2.1 pc = .ok (.iload i, 2)) (hl : ls[i]? = some (some (.int v))) (k : mj_V M sh Q x (pc + 2) ls (.int v :: st)) : mj_V M sh Q x pc ls (st) := by
  intro p l e s m args below meth c D A ad cA B H locs lsA hP hS hL
  exact lv_iload B.1 B.2.1 hd (hL.2.2.2 _ _ hl) (k p l e s m args below meth c D A ad cA B H locs lsA hP hS hL)
theorem mj_lldn {k0 : Fin 4} {v : Int64} (hd : decode M.2.1 pc = .ok (.lload_n k0, 1)) (hl : ls[(k0 : Nat)]? = some (some (.long v))) (k : mj_V M sh Q x (pc + 1) ls (.long v :: st)) : mj_V M sh Q x pc ls (st) := by
  intro p l e s m args below meth c D A ad cA B H locs lsA hP hS hL
  exact lv_lload_n B.1 B.2.1 hd rfl (hL.2.2.2 _ _ hl) (k p l e s m args below meth c D A ad cA B H locs lsA hP hS hL)
theorem mj_lld {i : Nat} {v : Int64} (hd : decode M.2.1 pc = .ok (.lload i, 2)) (hl : ls[i]? = some (some (.long v))) (k : mj_V M sh Q x (pc + 2) ls (.long v :: st)) : mj_V M sh Q x pc ls (st) := by
  intro p l e s m args below meth c D A ad cA B H locs lsA hP hS hL
  exact lv_lload B.1 B.2.1 hd (hL.2.2.2 _ _ hl) (k p l e s m args below meth c D A ad cA B H locs lsA hP hS hL)
theorem mj_aldn {k0 : Fin 4} {v : Nat} (hd : decode M.2.1 pc = .ok (.aload_n k0, 1)) (hl : ls[(k0 : Nat)]? = some (some (.ref v))) (k : mj_V M sh Q x (pc + 1) ls (.ref v :: st)) : mj_V M sh Q x pc ls (st) := by
  intro p l e s m args below meth c D A ad cA B H locs lsA hP hS hL
  exact lv_aload_n B.1 B.2.1 hd rfl (hL.2.2.2 _ _ hl) (k p l e s m args below meth c D A ad cA B H locs lsA hP hS hL)
theorem mj_iadd {a b : Int32} (hd : decode M.2.1 pc = .ok (.iadd, 1)) (k : mj_V M sh Q x (pc + 1) ls (.int (a + b) :: st)) : mj_V M sh Q x pc ls (.int b :: .int a :: st) := by
  intro p l e s m args below meth c D A ad cA B H locs lsA hP hS hL
  exact lv_iadd B.1 B.2.1 hd (k p l e s m args below meth c D A ad cA B H locs lsA hP hS hL)
theorem mj_isub {a b : Int32} (hd : decode M.2.1 pc = .ok (.isub, 1)) (k : mj_V M sh Q x (pc + 1) ls (.int (a - b) :: st)) : mj_V M sh Q x pc ls (.int b :: .int a :: st) := by
  intro p l e s m args below meth c D A ad cA B H locs lsA hP hS hL
  exact lv_isub B.1 B.2.1 hd (k p l e s m args below meth c D A ad cA B H locs lsA hP hS hL)
theorem mj_imul {a b : Int32} (hd : decode M.2.1 pc = .ok (.imul, 1)) (k : mj_V M sh Q x (pc + 1) ls (.int (a * b) :: st)) : mj_V M sh Q x pc ls (.int b :: .int a :: st) := by
  intro p l e s m args below meth c D A ad cA B H locs lsA hP hS hL
  exact lv_imul B.1 B.2.1 hd (k p l e s m args below meth c D A ad cA B H locs lsA hP hS hL)
theorem mj_iand {a b : Int32} (hd : decode M.2.1 pc = .ok (.iand, 1)) (k : mj_V M sh Q x (pc + 1) ls (.int (a &&& b) :: st)) : mj_V M sh Q x pc ls (.int b :: .int a :: st) := by
  intro p l e s m args below meth c D A ad cA B H locs lsA hP hS hL
  exact lv_iand B.1 B.2.1 hd (k p l e s m args below meth c D A ad cA B H locs lsA hP hS hL)
theorem mj_ladd {a b : Int64} (hd : decode M.2.1 pc = .ok (.ladd, 1)) (k : mj_V M sh Q x (pc + 1) ls (.long (a + b) :: st)) : mj_V M sh Q x pc ls (.long b :: .long a :: st) := by
  intro p l e s m args below meth c D A ad cA B H locs lsA hP hS hL
  exact lv_ladd B.1 B.2.1 hd (k p l e s m args below meth c D A ad cA B H locs lsA hP hS hL)
theorem mj_lsub {a b : Int64} (hd : decode M.2.1 pc = .ok (.lsub, 1)) (k : mj_V M sh Q x (pc + 1) ls (.long (a - b) :: st)) : mj_V M sh Q x pc ls (.long b :: .long a :: st) := by
  intro p l e s m args below meth c D A ad cA B H locs lsA hP hS hL
  exact lv_lsub B.1 B.2.1 hd (k p l e s m args below meth c D A ad cA B H locs lsA hP hS hL)
theorem mj_lmul {a b : Int64} (hd : decode M.2.1 pc = .ok (.lmul, 1)) (k : mj_V M sh Q x (pc + 1) ls (.long (a * b) :: st)) : mj_V M sh Q x pc ls (.long b :: .long a :: st) := by
  intro p l e s m args below meth c D A ad cA B H locs lsA hP hS hL
  exact lv_lmul B.1 B.2.1 hd (k p l e s m args below meth c D A ad cA B H locs lsA hP hS hL)
theorem mj_idiv {a b : Int32} (hd : decode M.2.1 pc = .ok (.idiv, 1)) (hne : ¬ b = 0) (k : mj_V M sh Q x (pc + 1) ls (.int (a / b) :: st)) : mj_V M sh Q x pc ls (.int b :: .int a :: st) := by
  intro p l e s m args below meth c D A ad cA B H locs lsA hP hS hL
  exact lv_idiv B.1 B.2.1 hd hne (k p l e s m args below meth c D A ad cA B H locs lsA hP hS hL)
theorem mj_irem {a b : Int32} (hd : decode M.2.1 pc = .ok (.irem, 1)) (hne : ¬ b = 0) (k : mj_V M sh Q x (pc + 1) ls (.int (a - a / b * b) :: st)) : mj_V M sh Q x pc ls (.int b :: .int a :: st) := by
  intro p l e s m args below meth c D A ad cA B H locs lsA hP hS hL
  exact lv_irem B.1 B.2.1 hd hne (k p l e s m args below meth c D A ad cA B H locs lsA hP hS hL)
theorem mj_lrem {a b : Int64} (hd : decode M.2.1 pc = .ok (.lrem, 1)) (hne : ¬ b = 0) (k : mj_V M sh Q x (pc + 1) ls (.long (a - a / b * b) :: st)) : mj_V M sh Q x pc ls (.long b :: .long a :: st) := by
  intro p l e s m args below meth c D A ad cA B H locs lsA hP hS hL
  exact lv_lrem B.1 B.2.1 hd hne (k p l e s m args below meth c D A ad cA B H locs lsA hP hS hL)
theorem mj_ineg {a : Int32} (hd : decode M.2.1 pc = .ok (.ineg, 1)) (k : mj_V M sh Q x (pc + 1) ls (.int (-a) :: st)) : mj_V M sh Q x pc ls (.int a :: st) := by
  intro p l e s m args below meth c D A ad cA B H locs lsA hP hS hL
  exact lv_ineg B.1 B.2.1 hd (k p l e s m args below meth c D A ad cA B H locs lsA hP hS hL)
theorem mj_i2l {a : Int32} (hd : decode M.2.1 pc = .ok (.i2l, 1)) (k : mj_V M sh Q x (pc + 1) ls (.long a.toInt64 :: st)) : mj_V M sh Q x pc ls (.int a :: st) := by
  intro p l e s m args below meth c D A ad cA B H locs lsA hP hS hL
  exact lv_i2l B.1 B.2.1 hd rfl (k p l e s m args below meth c D A ad cA B H locs lsA hP hS hL)
theorem mj_l2i {a : Int64} (hd : decode M.2.1 pc = .ok (.l2i, 1)) (k : mj_V M sh Q x (pc + 1) ls (.int a.toInt32 :: st)) : mj_V M sh Q x pc ls (.long a :: st) := by
  intro p l e s m args below meth c D A ad cA B H locs lsA hP hS hL
  exact lv_l2i B.1 B.2.1 hd rfl (k p l e s m args below meth c D A ad cA B H locs lsA hP hS hL)
theorem mj_lcmp {a b : Int64} (hd : decode M.2.1 pc = .ok (.lcmp, 1)) (k : mj_V M sh Q x (pc + 1) ls (.int (lg_cmp a b) :: st)) : mj_V M sh Q x pc ls (.long b :: .long a :: st) := by
  intro p l e s m args below meth c D A ad cA B H locs lsA hP hS hL
  exact W.lcmp B.1 B.2.1 hd (k p l e s m args below meth c D A ad cA B H locs lsA hP hS hL)
theorem mj_dupi {a : Int32} (hd : decode M.2.1 pc = .ok (.dup, 1)) (k : mj_V M sh Q x (pc + 1) ls (.int a :: .int a :: st)) : mj_V M sh Q x pc ls (.int a :: st) := by
  intro p l e s m args below meth c D A ad cA B H locs lsA hP hS hL
  exact lv_dup B.1 B.2.1 hd rfl (k p l e s m args below meth c D A ad cA B H locs lsA hP hS hL)
theorem mj_dupr {a : Nat} (hd : decode M.2.1 pc = .ok (.dup, 1)) (k : mj_V M sh Q x (pc + 1) ls (.ref a :: .ref a :: st)) : mj_V M sh Q x pc ls (.ref a :: st) := by
  intro p l e s m args below meth c D A ad cA B H locs lsA hP hS hL
  exact lv_dup B.1 B.2.1 hd rfl (k p l e s m args below meth c D A ad cA B H locs lsA hP hS hL)
theorem mj_dup2 {a : Int32} {b : Nat} (hd : decode M.2.1 pc = .ok (.dup2, 1)) (k : mj_V M sh Q x (pc + 1) ls (.int a :: .ref b :: .int a :: .ref b :: st)) : mj_V M sh Q x pc ls (.int a :: .ref b :: st) := by
  intro p l e s m args below meth c D A ad cA B H locs lsA hP hS hL
  exact lv_dup2_11 B.1 B.2.1 hd rfl rfl (k p l e s m args below meth c D A ad cA B H locs lsA hP hS hL)
theorem mj_popi {a : Int32} (hd : decode M.2.1 pc = .ok (.pop, 1)) (k : mj_V M sh Q x (pc + 1) ls (st)) : mj_V M sh Q x pc ls (.int a :: st) := by
  intro p l e s m args below meth c D A ad cA B H locs lsA hP hS hL
  exact lv_pop B.1 B.2.1 hd rfl (k p l e s m args below meth c D A ad cA B H locs lsA hP hS hL)
theorem mj_if_eq {a : Int32} {off : Int} {tgt : Nat} (hd : decode M.2.1 pc = .ok (.ifCond .eq off, 3)) (ht : (pc : Int) + off = (tgt : Int)) (kt : a = 0 → mj_V M sh Q x tgt ls st) (kf : ¬ a = 0 → mj_V M sh Q x (pc + 3) ls st) : mj_V M sh Q x pc ls (.int a :: st) := by
  intro p l e s m args below meth c D A ad cA B H locs lsA hP hS hL
  exact lv_if_eq B.1 B.2.1 hd ht (fun h => kt h p l e s m args below meth c D A ad cA B H locs lsA hP hS hL) (fun h => kf h p l e s m args below meth c D A ad cA B H locs lsA hP hS hL)
theorem mj_ic_eq {a b : Int32} {off : Int} {tgt : Nat} (hd : decode M.2.1 pc = .ok (.if_icmp .eq off, 3)) (ht : (pc : Int) + off = (tgt : Int)) (kt : a = b → mj_V M sh Q x tgt ls st) (kf : ¬ a = b → mj_V M sh Q x (pc + 3) ls st) : mj_V M sh Q x pc ls (.int b :: .int a :: st) := by
  intro p l e s m args below meth c D A ad cA B H locs lsA hP hS hL
  exact lv_icmp_eq B.1 B.2.1 hd ht (fun h => kt h p l e s m args below meth c D A ad cA B H locs lsA hP hS hL) (fun h => kf h p l e s m args below meth c D A ad cA B H locs lsA hP hS hL)
theorem mj_if_ne {a : Int32} {off : Int} {tgt : Nat} (hd : decode M.2.1 pc = .ok (.ifCond .ne off, 3)) (ht : (pc : Int) + off = (tgt : Int)) (kt : ¬ a = 0 → mj_V M sh Q x tgt ls st) (kf : a = 0 → mj_V M sh Q x (pc + 3) ls st) : mj_V M sh Q x pc ls (.int a :: st) := by
  intro p l e s m args below meth c D A ad cA B H locs lsA hP hS hL
  exact lv_if_ne B.1 B.2.1 hd ht (fun h => kt h p l e s m args below meth c D A ad cA B H locs lsA hP hS hL) (fun h => kf h p l e s m args below meth c D A ad cA B H locs lsA hP hS hL)
theorem mj_ic_ne {a b : Int32} {off : Int} {tgt : Nat} (hd : decode M.2.1 pc = .ok (.if_icmp .ne off, 3)) (ht : (pc : Int) + off = (tgt : Int)) (kt : ¬ a = b → mj_V M sh Q x tgt ls st) (kf : a = b → mj_V M sh Q x (pc + 3) ls st) : mj_V M sh Q x pc ls (.int b :: .int a :: st) := by
  intro p l e s m args below meth c D A ad cA B H locs lsA hP hS hL
  exact lv_icmp_ne B.1 B.2.1 hd ht (fun h => kt h p l e s m args below meth c D A ad cA B H locs lsA hP hS hL) (fun h => kf h p l e s m args below meth c D A ad cA B H locs lsA hP hS hL)
theorem mj_if_lt {a : Int32} {off : Int} {tgt : Nat} (hd : decode M.2.1 pc = .ok (.ifCond .lt off, 3)) (ht : (pc : Int) + off = (tgt : Int)) (kt : a < 0 → mj_V M sh Q x tgt ls st) (kf : ¬ a < 0 → mj_V M sh Q x (pc + 3) ls st) : mj_V M sh Q x pc ls (.int a :: st) := by
  intro p l e s m args below meth c D A ad cA B H locs lsA hP hS hL
  exact lv_if_lt B.1 B.2.1 hd ht (fun h => kt h p l e s m args below meth c D A ad cA B H locs lsA hP hS hL) (fun h => kf h p l e s m args below meth c D A ad cA B H locs lsA hP hS hL)
theorem mj_ic_lt {a b : Int32} {off : Int} {tgt : Nat} (hd : decode M.2.1 pc = .ok (.if_icmp .lt off, 3)) (ht : (pc : Int) + off = (tgt : Int)) (kt : a < b → mj_V M sh Q x tgt ls st) (kf : ¬ a < b → mj_V M sh Q x (pc + 3) ls st) : mj_V M sh Q x pc ls (.int b :: .int a :: st) := by
  intro p l e s m args below meth c D A ad cA B H locs lsA hP hS hL
  exact lv_icmp_lt B.1 B.2.1 hd ht (fun h => kt h p l e s m args below meth c D A ad cA B H locs lsA hP hS hL) (fun h => kf h p l e s m args below meth c D A ad cA B H locs lsA hP hS hL)
theorem mj_if_ge {a : Int32} {off : Int} {tgt : Nat} (hd : decode M.2.1 pc = .ok (.ifCond .ge off, 3)) (ht : (pc : Int) + off = (tgt : Int)) (kt : 0 ≤ a → mj_V M sh Q x tgt ls st) (kf : ¬ 0 ≤ a → mj_V M sh Q x (pc + 3) ls st) : mj_V M sh Q x pc ls (.int a :: st) := by
  intro p l e s m args below meth c D A ad cA B H locs lsA hP hS hL
  exact lv_if_ge B.1 B.2.1 hd ht (fun h => kt h p l e s m args below meth c D A ad cA B H locs lsA hP hS hL) (fun h => kf h p l e s m args below meth c D A ad cA B H locs lsA hP hS hL)
theorem mj_ic_ge {a b : Int32} {off : Int} {tgt : Nat} (hd : decode M.2.1 pc = .ok (.if_icmp .ge off, 3)) (ht : (pc : Int) + off = (tgt : Int)) (kt : b ≤ a → mj_V M sh Q x tgt ls st) (kf : ¬ b ≤ a → mj_V M sh Q x (pc + 3) ls st) : mj_V M sh Q x pc ls (.int b :: .int a :: st) := by
  intro p l e s m args below meth c D A ad cA B H locs lsA hP hS hL
  exact lv_icmp_ge B.1 B.2.1 hd ht (fun h => kt h p l e s m args below meth c D A ad cA B H locs lsA hP hS hL) (fun h => kf h p l e s m args below meth c D A ad cA B H locs lsA hP hS hL)
theorem mj_if_gt {a : Int32} {off : Int} {tgt : Nat} (hd : decode M.2.1 pc = .ok (.ifCond .gt off, 3)) (ht : (pc : Int) + off = (tgt : Int)) (kt : 0 < a → mj_V M sh Q x tgt ls st) (kf : ¬ 0 < a → mj_V M sh Q x (pc + 3) ls st) : mj_V M sh Q x pc ls (.int a :: st) := by
  intro p l e s m args below meth c D A ad cA B H locs lsA hP hS hL
  exact lv_if_gt B.1 B.2.1 hd ht (fun h => kt h p l e s m args below meth c D A ad cA B H locs lsA hP hS hL) (fun h => kf h p l e s m args below meth c D A ad cA B H locs lsA hP hS hL)
theorem mj_ic_gt {a b : Int32} {off : Int} {tgt : Nat} (hd : decode M.2.1 pc = .ok (.if_icmp .gt off, 3)) (ht : (pc : Int) + off = (tgt : Int)) (kt : b < a → mj_V M sh Q x tgt ls st) (kf : ¬ b < a → mj_V M sh Q x (pc + 3) ls st) : mj_V M sh Q x pc ls (.int b :: .int a :: st) := by
  intro p l e s m args below meth c D A ad cA B H locs lsA hP hS hL
  exact lv_icmp_gt B.1 B.2.1 hd ht (fun h => kt h p l e s m args below meth c D A ad cA B H locs lsA hP hS hL) (fun h => kf h p l e s m args below meth c D A ad cA B H locs lsA hP hS hL)
theorem mj_if_le {a : Int32} {off : Int} {tgt : Nat} (hd : decode M.2.1 pc = .ok (.ifCond .le off, 3)) (ht : (pc : Int) + off = (tgt : Int)) (kt : a ≤ 0 → mj_V M sh Q x tgt ls st) (kf : ¬ a ≤ 0 → mj_V M sh Q x (pc + 3) ls st) : mj_V M sh Q x pc ls (.int a :: st) := by
  intro p l e s m args below meth c D A ad cA B H locs lsA hP hS hL
  exact lv_if_le B.1 B.2.1 hd ht (fun h => kt h p l e s m args below meth c D A ad cA B H locs lsA hP hS hL) (fun h => kf h p l e s m args below meth c D A ad cA B H locs lsA hP hS hL)
theorem mj_ic_le {a b : Int32} {off : Int} {tgt : Nat} (hd : decode M.2.1 pc = .ok (.if_icmp .le off, 3)) (ht : (pc : Int) + off = (tgt : Int)) (kt : a ≤ b → mj_V M sh Q x tgt ls st) (kf : ¬ a ≤ b → mj_V M sh Q x (pc + 3) ls st) : mj_V M sh Q x pc ls (.int b :: .int a :: st) := by
  intro p l e s m args below meth c D A ad cA B H locs lsA hP hS hL
  exact lv_icmp_le B.1 B.2.1 hd ht (fun h => kt h p l e s m args below meth c D A ad cA B H locs lsA hP hS hL) (fun h => kf h p l e s m args below meth c D A ad cA B H locs lsA hP hS hL)
theorem mj_goto {off : Int} {tgt : Nat} (hd : decode M.2.1 pc = .ok (.goto off, 3)) (ht : (pc : Int) + off = (tgt : Int)) (k : mj_V M sh Q x tgt ls st) : mj_V M sh Q x pc ls st := by
  intro p l e s m args below meth c D A ad cA B H locs lsA hP hS hL
  exact lv_goto B.1 B.2.1 hd ht (k p l e s m args below meth c D A ad cA B H locs lsA hP hS hL)
theorem mj_ist0 {w : Option Value} {r : List (Option Value)} {v : Int32} (hd : decode M.2.1 pc = .ok (.istore 0, 2)) (k : mj_V M sh Q x (pc + 2) (some (.int v) :: r) st) : mj_V M sh Q x pc (w :: r) (.int v :: st) := by
  intro p l e s m args below meth c D A ad cA B H locs lsA hP hS hL
  exact lv_istore B.1 B.2.1 hd hL.has (Nat.lt_of_lt_of_le (by simp only [List.length_cons]; omega) hL.2.2.1) rfl (fun lsB hB => k p l e s m args below meth c D A ad cA B H locs lsB hP hS (hL.set1 (i := 0) (v := .int v) (fun j hj => by cases hj) hB))
theorem mj_istn0 {w : Option Value} {r : List (Option Value)} {v : Int32} (hd : decode M.2.1 pc = .ok (.istore_n 0, 1)) (k : mj_V M sh Q x (pc + 1) (some (.int v) :: r) st) : mj_V M sh Q x pc (w :: r) (.int v :: st) := by
  intro p l e s m args below meth c D A ad cA B H locs lsA hP hS hL
  exact lv_istore_n B.1 B.2.1 hd rfl hL.has (Nat.lt_of_lt_of_le (by simp only [List.length_cons]; omega) hL.2.2.1) rfl (fun lsB hB => k p l e s m args below meth c D A ad cA B H locs lsB hP hS (hL.set1 (i := 0) (v := .int v) (fun j hj => by cases hj) hB))
theorem mj_inc0 {r : List (Option Value)} {v k0 : Int32} {n : Int} (hd : decode M.2.1 pc = .ok (.iinc 0 n, 3)) (hk : Int32.ofInt n = k0) (k : mj_V M sh Q x (pc + 3) (some (.int (v + k0)) :: r) st) : mj_V M sh Q x pc (some (.int v) :: r) st := by
  intro p l e s m args below meth c D A ad cA B H locs lsA hP hS hL
  obtain ⟨kk, hkk⟩ := List.getElem?_of_mem (mj_pr_in (ad := ad) (ls := some (.int v) :: r) (i := 0) (v := .int v) rfl)
  exact lv_iinc B.1 B.2.1 hd hL.has hkk (by rw [hk]) (Nat.lt_of_lt_of_le (by simp only [List.length_cons]; omega) hL.2.2.1) rfl (fun lsB hB => k p l e s m args below meth c D A ad cA B H locs lsB hP hS (hL.set1 (i := 0) (v := .int (v + k0)) (fun j hj => by cases hj) hB))
theorem mj_ist1 {a0 : Option Value} {w : Option Value} {r : List (Option Value)} {v : Int32} (hd : decode M.2.1 pc = .ok (.istore 1, 2)) (hn : mj_nl a0 = true) (k : mj_V M sh Q x (pc + 2) (a0 :: some (.int v) :: r) st) : mj_V M sh Q x pc (a0 :: w :: r) (.int v :: st) := by
  intro p l e s m args below meth c D A ad cA B H locs lsA hP hS hL
  exact lv_istore B.1 B.2.1 hd hL.has (Nat.lt_of_lt_of_le (by simp only [List.length_cons]; omega) hL.2.2.1) rfl (fun lsB hB => k p l e s m args below meth c D A ad cA B H locs lsB hP hS (hL.set1 (i := 1) (v := .int v) (fun j hj => by cases hj; exact hn) hB))
theorem mj_istn1 {a0 : Option Value} {w : Option Value} {r : List (Option Value)} {v : Int32} (hd : decode M.2.1 pc = .ok (.istore_n 1, 1)) (hn : mj_nl a0 = true) (k : mj_V M sh Q x (pc + 1) (a0 :: some (.int v) :: r) st) : mj_V M sh Q x pc (a0 :: w :: r) (.int v :: st) := by
  intro p l e s m args below meth c D A ad cA B H locs lsA hP hS hL
  exact lv_istore_n B.1 B.2.1 hd rfl hL.has (Nat.lt_of_lt_of_le (by simp only [List.length_cons]; omega) hL.2.2.1) rfl (fun lsB hB => k p l e s m args below meth c D A ad cA B H locs lsB hP hS (hL.set1 (i := 1) (v := .int v) (fun j hj => by cases hj; exact hn) hB))
theorem mj_inc1 {a0 : Option Value} {r : List (Option Value)} {v k0 : Int32} {n : Int} (hd : decode M.2.1 pc = .ok (.iinc 1 n, 3)) (hk : Int32.ofInt n = k0) (hn : mj_nl a0 = true) (k : mj_V M sh Q x (pc + 3) (a0 :: some (.int (v + k0)) :: r) st) : mj_V M sh Q x pc (a0 :: some (.int v) :: r) st := by
  intro p l e s m args below meth c D A ad cA B H locs lsA hP hS hL
  obtain ⟨kk, hkk⟩ := List.getElem?_of_mem (mj_pr_in (ad := ad) (ls := a0 :: some (.int v) :: r) (i := 1) (v := .int v) rfl)
  exact lv_iinc B.1 B.2.1 hd hL.has hkk (by rw [hk]) (Nat.lt_of_lt_of_le (by simp only [List.length_cons]; omega) hL.2.2.1) rfl (fun lsB hB => k p l e s m args below meth c D A ad cA B H locs lsB hP hS (hL.set1 (i := 1) (v := .int (v + k0)) (fun j hj => by cases hj; exact hn) hB))
theorem mj_ist2 {a0 a1 : Option Value} {w : Option Value} {r : List (Option Value)} {v : Int32} (hd : decode M.2.1 pc = .ok (.istore 2, 2)) (hn : mj_nl a1 = true) (k : mj_V M sh Q x (pc + 2) (a0 :: a1 :: some (.int v) :: r) st) : mj_V M sh Q x pc (a0 :: a1 :: w :: r) (.int v :: st) := by
  intro p l e s m args below meth c D A ad cA B H locs lsA hP hS hL
  exact lv_istore B.1 B.2.1 hd hL.has (Nat.lt_of_lt_of_le (by simp only [List.length_cons]; omega) hL.2.2.1) rfl (fun lsB hB => k p l e s m args below meth c D A ad cA B H locs lsB hP hS (hL.set1 (i := 2) (v := .int v) (fun j hj => by cases hj; exact hn) hB))
theorem mj_istn2 {a0 a1 : Option Value} {w : Option Value} {r : List (Option Value)} {v : Int32} (hd : decode M.2.1 pc = .ok (.istore_n 2, 1)) (hn : mj_nl a1 = true) (k : mj_V M sh Q x (pc + 1) (a0 :: a1 :: some (.int v) :: r) st) : mj_V M sh Q x pc (a0 :: a1 :: w :: r) (.int v :: st) := by
  intro p l e s m args below meth c D A ad cA B H locs lsA hP hS hL
  exact lv_istore_n B.1 B.2.1 hd rfl hL.has (Nat.lt_of_lt_of_le (by simp only [List.length_cons]; omega) hL.2.2.1) rfl (fun lsB hB => k p l e s m args below meth c D A ad cA B H locs lsB hP hS (hL.set1 (i := 2) (v := .int v) (fun j hj => by cases hj; exact hn) hB))
theorem mj_inc2 {a0 a1 : Option Value} {r : List (Option Value)} {v k0 : Int32} {n : Int} (hd : decode M.2.1 pc = .ok (.iinc 2 n, 3)) (hk : Int32.ofInt n = k0) (hn : mj_nl a1 = true) (k : mj_V M sh Q x (pc + 3) (a0 :: a1 :: some (.int (v + k0)) :: r) st) : mj_V M sh Q x pc (a0 :: a1 :: some (.int v) :: r) st := by
  intro p l e s m args below meth c D A ad cA B H locs lsA hP hS hL
  obtain ⟨kk, hkk⟩ := List.getElem?_of_mem (mj_pr_in (ad := ad) (ls := a0 :: a1 :: some (.int v) :: r) (i := 2) (v := .int v) rfl)
  exact lv_iinc B.1 B.2.1 hd hL.has hkk (by rw [hk]) (Nat.lt_of_lt_of_le (by simp only [List.length_cons]; omega) hL.2.2.1) rfl (fun lsB hB => k p l e s m args below meth c D A ad cA B H locs lsB hP hS (hL.set1 (i := 2) (v := .int (v + k0)) (fun j hj => by cases hj; exact hn) hB))
theorem mj_ist3 {a0 a1 a2 : Option Value} {w : Option Value} {r : List (Option Value)} {v : Int32} (hd : decode M.2.1 pc = .ok (.istore 3, 2)) (hn : mj_nl a2 = true) (k : mj_V M sh Q x (pc + 2) (a0 :: a1 :: a2 :: some (.int v) :: r) st) : mj_V M sh Q x pc (a0 :: a1 :: a2 :: w :: r) (.int v :: st) := by
  intro p l e s m args below meth c D A ad cA B H locs lsA hP hS hL
  exact lv_istore B.1 B.2.1 hd hL.has (Nat.lt_of_lt_of_le (by simp only [List.length_cons]; omega) hL.2.2.1) rfl (fun lsB hB => k p l e s m args below meth c D A ad cA B H locs lsB hP hS (hL.set1 (i := 3) (v := .int v) (fun j hj => by cases hj; exact hn) hB))
theorem mj_istn3 {a0 a1 a2 : Option Value} {w : Option Value} {r : List (Option Value)} {v : Int32} (hd : decode M.2.1 pc = .ok (.istore_n 3, 1)) (hn : mj_nl a2 = true) (k : mj_V M sh Q x (pc + 1) (a0 :: a1 :: a2 :: some (.int v) :: r) st) : mj_V M sh Q x pc (a0 :: a1 :: a2 :: w :: r) (.int v :: st) := by
  intro p l e s m args below meth c D A ad cA B H locs lsA hP hS hL
  exact lv_istore_n B.1 B.2.1 hd rfl hL.has (Nat.lt_of_lt_of_le (by simp only [List.length_cons]; omega) hL.2.2.1) rfl (fun lsB hB => k p l e s m args below meth c D A ad cA B H locs lsB hP hS (hL.set1 (i := 3) (v := .int v) (fun j hj => by cases hj; exact hn) hB))
theorem mj_inc3 {a0 a1 a2 : Option Value} {r : List (Option Value)} {v k0 : Int32} {n : Int} (hd : decode M.2.1 pc = .ok (.iinc 3 n, 3)) (hk : Int32.ofInt n = k0) (hn : mj_nl a2 = true) (k : mj_V M sh Q x (pc + 3) (a0 :: a1 :: a2 :: some (.int (v + k0)) :: r) st) : mj_V M sh Q x pc (a0 :: a1 :: a2 :: some (.int v) :: r) st := by
  intro p l e s m args below meth c D A ad cA B H locs lsA hP hS hL
  obtain ⟨kk, hkk⟩ := List.getElem?_of_mem (mj_pr_in (ad := ad) (ls := a0 :: a1 :: a2 :: some (.int v) :: r) (i := 3) (v := .int v) rfl)
  exact lv_iinc B.1 B.2.1 hd hL.has hkk (by rw [hk]) (Nat.lt_of_lt_of_le (by simp only [List.length_cons]; omega) hL.2.2.1) rfl (fun lsB hB => k p l e s m args below meth c D A ad cA B H locs lsB hP hS (hL.set1 (i := 3) (v := .int (v + k0)) (fun j hj => by cases hj; exact hn) hB))
theorem mj_ist4 {a0 a1 a2 a3 : Option Value} {w : Option Value} {r : List (Option Value)} {v : Int32} (hd : decode M.2.1 pc = .ok (.istore 4, 2)) (hn : mj_nl a3 = true) (k : mj_V M sh Q x (pc + 2) (a0 :: a1 :: a2 :: a3 :: some (.int v) :: r) st) : mj_V M sh Q x pc (a0 :: a1 :: a2 :: a3 :: w :: r) (.int v :: st) := by
  intro p l e s m args below meth c D A ad cA B H locs lsA hP hS hL
  exact lv_istore B.1 B.2.1 hd hL.has (Nat.lt_of_lt_of_le (by simp only [List.length_cons]; omega) hL.2.2.1) rfl (fun lsB hB => k p l e s m args below meth c D A ad cA B H locs lsB hP hS (hL.set1 (i := 4) (v := .int v) (fun j hj => by cases hj; exact hn) hB))
theorem mj_inc4 {a0 a1 a2 a3 : Option Value} {r : List (Option Value)} {v k0 : Int32} {n : Int} (hd : decode M.2.1 pc = .ok (.iinc 4 n, 3)) (hk : Int32.ofInt n = k0) (hn : mj_nl a3 = true) (k : mj_V M sh Q x (pc + 3) (a0 :: a1 :: a2 :: a3 :: some (.int (v + k0)) :: r) st) : mj_V M sh Q x pc (a0 :: a1 :: a2 :: a3 :: some (.int v) :: r) st := by
  intro p l e s m args below meth c D A ad cA B H locs lsA hP hS hL
  obtain ⟨kk, hkk⟩ := List.getElem?_of_mem (mj_pr_in (ad := ad) (ls := a0 :: a1 :: a2 :: a3 :: some (.int v) :: r) (i := 4) (v := .int v) rfl)
  exact lv_iinc B.1 B.2.1 hd hL.has hkk (by rw [hk]) (Nat.lt_of_lt_of_le (by simp only [List.length_cons]; omega) hL.2.2.1) rfl (fun lsB hB => k p l e s m args below meth c D A ad cA B H locs lsB hP hS (hL.set1 (i := 4) (v := .int (v + k0)) (fun j hj => by cases hj; exact hn) hB))
theorem mj_ist5 {a0 a1 a2 a3 a4 : Option Value} {w : Option Value} {r : List (Option Value)} {v : Int32} (hd : decode M.2.1 pc = .ok (.istore 5, 2)) (hn : mj_nl a4 = true) (k : mj_V M sh Q x (pc + 2) (a0 :: a1 :: a2 :: a3 :: a4 :: some (.int v) :: r) st) : mj_V M sh Q x pc (a0 :: a1 :: a2 :: a3 :: a4 :: w :: r) (.int v :: st) := by
  intro p l e s m args below meth c D A ad cA B H locs lsA hP hS hL
  exact lv_istore B.1 B.2.1 hd hL.has (Nat.lt_of_lt_of_le (by simp only [List.length_cons]; omega) hL.2.2.1) rfl (fun lsB hB => k p l e s m args below meth c D A ad cA B H locs lsB hP hS (hL.set1 (i := 5) (v := .int v) (fun j hj => by cases hj; exact hn) hB))
theorem mj_inc5 {a0 a1 a2 a3 a4 : Option Value} {r : List (Option Value)} {v k0 : Int32} {n : Int} (hd : decode M.2.1 pc = .ok (.iinc 5 n, 3)) (hk : Int32.ofInt n = k0) (hn : mj_nl a4 = true) (k : mj_V M sh Q x (pc + 3) (a0 :: a1 :: a2 :: a3 :: a4 :: some (.int (v + k0)) :: r) st) : mj_V M sh Q x pc (a0 :: a1 :: a2 :: a3 :: a4 :: some (.int v) :: r) st := by
  intro p l e s m args below meth c D A ad cA B H locs lsA hP hS hL
  obtain ⟨kk, hkk⟩ := List.getElem?_of_mem (mj_pr_in (ad := ad) (ls := a0 :: a1 :: a2 :: a3 :: a4 :: some (.int v) :: r) (i := 5) (v := .int v) rfl)
  exact lv_iinc B.1 B.2.1 hd hL.has hkk (by rw [hk]) (Nat.lt_of_lt_of_le (by simp only [List.length_cons]; omega) hL.2.2.1) rfl (fun lsB hB => k p l e s m args below meth c D A ad cA B H locs lsB hP hS (hL.set1 (i := 5) (v := .int (v + k0)) (fun j hj => by cases hj; exact hn) hB))
theorem mj_ist6 {a0 a1 a2 a3 a4 a5 : Option Value} {w : Option Value} {r : List (Option Value)} {v : Int32} (hd : decode M.2.1 pc = .ok (.istore 6, 2)) (hn : mj_nl a5 = true) (k : mj_V M sh Q x (pc + 2) (a0 :: a1 :: a2 :: a3 :: a4 :: a5 :: some (.int v) :: r) st) : mj_V M sh Q x pc (a0 :: a1 :: a2 :: a3 :: a4 :: a5 :: w :: r) (.int v :: st) := by
  intro p l e s m args below meth c D A ad cA B H locs lsA hP hS hL
  exact lv_istore B.1 B.2.1 hd hL.has (Nat.lt_of_lt_of_le (by simp only [List.length_cons]; omega) hL.2.2.1) rfl (fun lsB hB => k p l e s m args below meth c D A ad cA B H locs lsB hP hS (hL.set1 (i := 6) (v := .int v) (fun j hj => by cases hj; exact hn) hB))
theorem mj_inc6 {a0 a1 a2 a3 a4 a5 : Option Value} {r : List (Option Value)} {v k0 : Int32} {n : Int} (hd : decode M.2.1 pc = .ok (.iinc 6 n, 3)) (hk : Int32.ofInt n = k0) (hn : mj_nl a5 = true) (k : mj_V M sh Q x (pc + 3) (a0 :: a1 :: a2 :: a3 :: a4 :: a5 :: some (.int (v + k0)) :: r) st) : mj_V M sh Q x pc (a0 :: a1 :: a2 :: a3 :: a4 :: a5 :: some (.int v) :: r) st := by
  intro p l e s m args below meth c D A ad cA B H locs lsA hP hS hL
  obtain ⟨kk, hkk⟩ := List.getElem?_of_mem (mj_pr_in (ad := ad) (ls := a0 :: a1 :: a2 :: a3 :: a4 :: a5 :: some (.int v) :: r) (i := 6) (v := .int v) rfl)
  exact lv_iinc B.1 B.2.1 hd hL.has hkk (by rw [hk]) (Nat.lt_of_lt_of_le (by simp only [List.length_cons]; omega) hL.2.2.1) rfl (fun lsB hB => k p l e s m args below meth c D A ad cA B H locs lsB hP hS (hL.set1 (i := 6) (v := .int (v + k0)) (fun j hj => by cases hj; exact hn) hB))
theorem mj_ist7 {a0 a1 a2 a3 a4 a5 a6 : Option Value} {w : Option Value} {r : List (Option Value)} {v : Int32} (hd : decode M.2.1 pc = .ok (.istore 7, 2)) (hn : mj_nl a6 = true) (k : mj_V M sh Q x (pc + 2) (a0 :: a1 :: a2 :: a3 :: a4 :: a5 :: a6 :: some (.int v) :: r) st) : mj_V M sh Q x pc (a0 :: a1 :: a2 :: a3 :: a4 :: a5 :: a6 :: w :: r) (.int v :: st) := by
  intro p l e s m args below meth c D A ad cA B H locs lsA hP hS hL
  exact lv_istore B.1 B.2.1 hd hL.has (Nat.lt_of_lt_of_le (by simp only [List.length_cons]; omega) hL.2.2.1) rfl (fun lsB hB => k p l e s m args below meth c D A ad cA B H locs lsB hP hS (hL.set1 (i := 7) (v := .int v) (fun j hj => by cases hj; exact hn) hB))
theorem mj_inc7 {a0 a1 a2 a3 a4 a5 a6 : Option Value} {r : List (Option Value)} {v k0 : Int32} {n : Int} (hd : decode M.2.1 pc = .ok (.iinc 7 n, 3)) (hk : Int32.ofInt n = k0) (hn : mj_nl a6 = true) (k : mj_V M sh Q x (pc + 3) (a0 :: a1 :: a2 :: a3 :: a4 :: a5 :: a6 :: some (.int (v + k0)) :: r) st) : mj_V M sh Q x pc (a0 :: a1 :: a2 :: a3 :: a4 :: a5 :: a6 :: some (.int v) :: r) st := by
  intro p l e s m args below meth c D A ad cA B H locs lsA hP hS hL
  obtain ⟨kk, hkk⟩ := List.getElem?_of_mem (mj_pr_in (ad := ad) (ls := a0 :: a1 :: a2 :: a3 :: a4 :: a5 :: a6 :: some (.int v) :: r) (i := 7) (v := .int v) rfl)
  exact lv_iinc B.1 B.2.1 hd hL.has hkk (by rw [hk]) (Nat.lt_of_lt_of_le (by simp only [List.length_cons]; omega) hL.2.2.1) rfl (fun lsB hB => k p l e s m args below meth c D A ad cA B H locs lsB hP hS (hL.set1 (i := 7) (v := .int (v + k0)) (fun j hj => by cases hj; exact hn) hB))
theorem mj_ist8 {a0 a1 a2 a3 a4 a5 a6 a7 : Option Value} {w : Option Value} {r : List (Option Value)} {v : Int32} (hd : decode M.2.1 pc = .ok (.istore 8, 2)) (hn : mj_nl a7 = true) (k : mj_V M sh Q x (pc + 2) (a0 :: a1 :: a2 :: a3 :: a4 :: a5 :: a6 :: a7 :: some (.int v) :: r) st) : mj_V M sh Q x pc (a0 :: a1 :: a2 :: a3 :: a4 :: a5 :: a6 :: a7 :: w :: r) (.int v :: st) := by
  intro p l e s m args below meth c D A ad cA B H locs lsA hP hS hL
  exact lv_istore B.1 B.2.1 hd hL.has (Nat.lt_of_lt_of_le (by simp only [List.length_cons]; omega) hL.2.2.1) rfl (fun lsB hB => k p l e s m args below meth c D A ad cA B H locs lsB hP hS (hL.set1 (i := 8) (v := .int v) (fun j hj => by cases hj; exact hn) hB))
theorem mj_inc8 {a0 a1 a2 a3 a4 a5 a6 a7 : Option Value} {r : List (Option Value)} {v k0 : Int32} {n : Int} (hd : decode M.2.1 pc = .ok (.iinc 8 n, 3)) (hk : Int32.ofInt n = k0) (hn : mj_nl a7 = true) (k : mj_V M sh Q x (pc + 3) (a0 :: a1 :: a2 :: a3 :: a4 :: a5 :: a6 :: a7 :: some (.int (v + k0)) :: r) st) : mj_V M sh Q x pc (a0 :: a1 :: a2 :: a3 :: a4 :: a5 :: a6 :: a7 :: some (.int v) :: r) st := by
  intro p l e s m args below meth c D A ad cA B H locs lsA hP hS hL
  obtain ⟨kk, hkk⟩ := List.getElem?_of_mem (mj_pr_in (ad := ad) (ls := a0 :: a1 :: a2 :: a3 :: a4 :: a5 :: a6 :: a7 :: some (.int v) :: r) (i := 8) (v := .int v) rfl)
  exact lv_iinc B.1 B.2.1 hd hL.has hkk (by rw [hk]) (Nat.lt_of_lt_of_le (by simp only [List.length_cons]; omega) hL.2.2.1) rfl (fun lsB hB => k p l e s m args below meth c D A ad cA B H locs lsB hP hS (hL.set1 (i := 8) (v := .int (v + k0)) (fun j hj => by cases hj; exact hn) hB))
theorem mj_ist9 {a0 a1 a2 a3 a4 a5 a6 a7 a8 : Option Value} {w : Option Value} {r : List (Option Value)} {v : Int32} (hd : decode M.2.1 pc = .ok (.istore 9, 2)) (hn : mj_nl a8 = true) (k : mj_V M sh Q x (pc + 2) (a0 :: a1 :: a2 :: a3 :: a4 :: a5 :: a6 :: a7 :: a8 :: some (.int v) :: r) st) : mj_V M sh Q x pc (a0 :: a1 :: a2 :: a3 :: a4 :: a5 :: a6 :: a7 :: a8 :: w :: r) (.int v :: st) := by
  intro p l e s m args below meth c D A ad cA B H locs lsA hP hS hL
  exact lv_istore B.1 B.2.1 hd hL.has (Nat.lt_of_lt_of_le (by simp only [List.length_cons]; omega) hL.2.2.1) rfl (fun lsB hB => k p l e s m args below meth c D A ad cA B H locs lsB hP hS (hL.set1 (i := 9) (v := .int v) (fun j hj => by cases hj; exact hn) hB))
theorem mj_inc9 {a0 a1 a2 a3 a4 a5 a6 a7 a8 : Option Value} {r : List (Option Value)} {v k0 : Int32} {n : Int} (hd : decode M.2.1 pc = .ok (.iinc 9 n, 3)) (hk : Int32.ofInt n = k0) (hn : mj_nl a8 = true) (k : mj_V M sh Q x (pc + 3) (a0 :: a1 :: a2 :: a3 :: a4 :: a5 :: a6 :: a7 :: a8 :: some (.int (v + k0)) :: r) st) : mj_V M sh Q x pc (a0 :: a1 :: a2 :: a3 :: a4 :: a5 :: a6 :: a7 :: a8 :: some (.int v) :: r) st := by
  intro p l e s m args below meth c D A ad cA B H locs lsA hP hS hL
  obtain ⟨kk, hkk⟩ := List.getElem?_of_mem (mj_pr_in (ad := ad) (ls := a0 :: a1 :: a2 :: a3 :: a4 :: a5 :: a6 :: a7 :: a8 :: some (.int v) :: r) (i := 9) (v := .int v) rfl)
  exact lv_iinc B.1 B.2.1 hd hL.has hkk (by rw [hk]) (Nat.lt_of_lt_of_le (by simp only [List.length_cons]; omega) hL.2.2.1) rfl (fun lsB hB => k p l e s m args below meth c D A ad cA B H locs lsB hP hS (hL.set1 (i := 9) (v := .int (v + k0)) (fun j hj => by cases hj; exact hn) hB))
theorem mj_ist10 {a0 a1 a2 a3 a4 a5 a6 a7 a8 a9 : Option Value} {w : Option Value} {r : List (Option Value)} {v : Int32} (hd : decode M.2.1 pc = .ok (.istore 10, 2)) (hn : mj_nl a9 = true) (k : mj_V M sh Q x (pc + 2) (a0 :: a1 :: a2 :: a3 :: a4 :: a5 :: a6 :: a7 :: a8 :: a9 :: some (.int v) :: r) st) : mj_V M sh Q x pc (a0 :: a1 :: a2 :: a3 :: a4 :: a5 :: a6 :: a7 :: a8 :: a9 :: w :: r) (.int v :: st) := by
  intro p l e s m args below meth c D A ad cA B H locs lsA hP hS hL
  exact lv_istore B.1 B.2.1 hd hL.has (Nat.lt_of_lt_of_le (by simp only [List.length_cons]; omega) hL.2.2.1) rfl (fun lsB hB => k p l e s m args below meth c D A ad cA B H locs lsB hP hS (hL.set1 (i := 10) (v := .int v) (fun j hj => by cases hj; exact hn) hB))
theorem mj_inc10 {a0 a1 a2 a3 a4 a5 a6 a7 a8 a9 : Option Value} {r : List (Option Value)} {v k0 : Int32} {n : Int} (hd : decode M.2.1 pc = .ok (.iinc 10 n, 3)) (hk : Int32.ofInt n = k0) (hn : mj_nl a9 = true) (k : mj_V M sh Q x (pc + 3) (a0 :: a1 :: a2 :: a3 :: a4 :: a5 :: a6 :: a7 :: a8 :: a9 :: some (.int (v + k0)) :: r) st) : mj_V M sh Q x pc (a0 :: a1 :: a2 :: a3 :: a4 :: a5 :: a6 :: a7 :: a8 :: a9 :: some (.int v) :: r) st := by
  intro p l e s m args below meth c D A ad cA B H locs lsA hP hS hL
  obtain ⟨kk, hkk⟩ := List.getElem?_of_mem (mj_pr_in (ad := ad) (ls := a0 :: a1 :: a2 :: a3 :: a4 :: a5 :: a6 :: a7 :: a8 :: a9 :: some (.int v) :: r) (i := 10) (v := .int v) rfl)
  exact lv_iinc B.1 B.2.1 hd hL.has hkk (by rw [hk]) (Nat.lt_of_lt_of_le (by simp only [List.length_cons]; omega) hL.2.2.1) rfl (fun lsB hB => k p l e s m args below meth c D A ad cA B H locs lsB hP hS (hL.set1 (i := 10) (v := .int (v + k0)) (fun j hj => by cases hj; exact hn) hB))
theorem mj_ist11 {a0 a1 a2 a3 a4 a5 a6 a7 a8 a9 a10 : Option Value} {w : Option Value} {r : List (Option Value)} {v : Int32} (hd : decode M.2.1 pc = .ok (.istore 11, 2)) (hn : mj_nl a10 = true) (k : mj_V M sh Q x (pc + 2) (a0 :: a1 :: a2 :: a3 :: a4 :: a5 :: a6 :: a7 :: a8 :: a9 :: a10 :: some (.int v) :: r) st) : mj_V M sh Q x pc (a0 :: a1 :: a2 :: a3 :: a4 :: a5 :: a6 :: a7 :: a8 :: a9 :: a10 :: w :: r) (.int v :: st) := by
  intro p l e s m args below meth c D A ad cA B H locs lsA hP hS hL
  exact lv_istore B.1 B.2.1 hd hL.has (Nat.lt_of_lt_of_le (by simp only [List.length_cons]; omega) hL.2.2.1) rfl (fun lsB hB => k p l e s m args below meth c D A ad cA B H locs lsB hP hS (hL.set1 (i := 11) (v := .int v) (fun j hj => by cases hj; exact hn) hB))
theorem mj_inc11 {a0 a1 a2 a3 a4 a5 a6 a7 a8 a9 a10 : Option Value} {r : List (Option Value)} {v k0 : Int32} {n : Int} (hd : decode M.2.1 pc = .ok (.iinc 11 n, 3)) (hk : Int32.ofInt n = k0) (hn : mj_nl a10 = true) (k : mj_V M sh Q x (pc + 3) (a0 :: a1 :: a2 :: a3 :: a4 :: a5 :: a6 :: a7 :: a8 :: a9 :: a10 :: some (.int (v + k0)) :: r) st) : mj_V M sh Q x pc (a0 :: a1 :: a2 :: a3 :: a4 :: a5 :: a6 :: a7 :: a8 :: a9 :: a10 :: some (.int v) :: r) st := by
  intro p l e s m args below meth c D A ad cA B H locs lsA hP hS hL
  obtain ⟨kk, hkk⟩ := List.getElem?_of_mem (mj_pr_in (ad := ad) (ls := a0 :: a1 :: a2 :: a3 :: a4 :: a5 :: a6 :: a7 :: a8 :: a9 :: a10 :: some (.int v) :: r) (i := 11) (v := .int v) rfl)
  exact lv_iinc B.1 B.2.1 hd hL.has hkk (by rw [hk]) (Nat.lt_of_lt_of_le (by simp only [List.length_cons]; omega) hL.2.2.1) rfl (fun lsB hB => k p l e s m args below meth c D A ad cA B H locs lsB hP hS (hL.set1 (i := 11) (v := .int (v + k0)) (fun j hj => by cases hj; exact hn) hB))
theorem mj_iald {c0 n : Nat} {i : Int32} (hd : decode M.2.1 pc = .ok (.iaload, 1)) (hsh : sh[c0]? = some (.inr n)) (j : Nat) (hj : j < n) (hi : i = nI j) (hn : n < 2 ^ 31) (k : mj_V M sh Q x (pc + 1) ls (.int (x c0 j) :: st)) : mj_V M sh Q x pc ls (.int i :: .ref c0 :: st) := by
  intro p l e s m args below meth c D A ad cA B H locs lsA hP hS hL
  subst hi
  have hk := k p l e s m args below meth c D A ad cA B H locs lsA hP hS hL
  refine va_iald (i := nI j) B.1 B.2.1 B.2.2.2.2.2.2.2.1 hP c0 0 (mj_w_at hsh) rfl (vp_in_nI hj hn) hd ?_
  rw [nI_clamp (by omega)]
  exact hk
theorem mj_iast {c0 n : Nat} {i v : Int32} (hd : decode M.2.1 pc = .ok (.iastore, 1)) (hsh : sh[c0]? = some (.inr n)) (j : Nat) (hj : j < n) (hi : i = nI j) (hn : n < 2 ^ 31) (k : mj_V M sh Q (mj_up x c0 j v) (pc + 1) ls st) : mj_V M sh Q x pc ls (.int v :: .int i :: .ref c0 :: st) := by
  intro p l e s m args below meth c D A ad cA B H locs lsA hP hS hL
  subst hi
  refine va_iast (i := nI j) (x := v) B.1 B.2.1 B.2.2.2.2.2.2.2.1 hP (mj_D B.2.2.2.2.2.2 x) hS c0 0 (mj_w_at hsh) rfl (vp_in_nI hj hn) hd (fun H1 locs1 hP1 _ hS1 => ?_)
  rw [nI_clamp (by omega), mj_w_set (ad := ad) (cA := cA) (x := x) (k := c0) (i := j) (v := v) (e := .inl (cA, n, .inl (upd (x c0) j v))) hsh rfl] at hP1
  exact k p l e s m args below meth c D A ad cA B H1 locs1 lsA hP1 hS1 hL
theorem mj_alen {c0 n : Nat} (hd : decode M.2.1 pc = .ok (.arraylength, 1)) (hsh : sh[c0]? = some (.inr n)) (k : mj_V M sh Q x (pc + 1) ls (.int (nI n) :: st)) : mj_V M sh Q x pc ls (.ref c0 :: st) := by
  intro p l e s m args below meth c D A ad cA B H locs lsA hP hS hL
  exact va_alen B.1 B.2.1 B.2.2.2.2.2.2.2.1 hP c0 0 (mj_w_at hsh) rfl rfl hd (k p l e s m args below meth c D A ad cA B H locs lsA hP hS hL)
def mj_wd (w : Cond) : Prop := w ∈ lw_tbl ∧ goodWord w = true
def mj_wn (w : Cond) : Prop := w ∈ lw_tbl ∧ mj_nest w = true
theorem mj_in {ws : List Cond} (h : GoodIn lw_tbl ws) (hg : ws.all goodWord = true) : ∀ w ∈ ws, w ∈ mj_tb := fun w hw => List.mem_filter.mpr ⟨(h w hw).1, List.all_eq_true.mp hg w hw⟩
/-- what is known of a field: class ci of the table, place k; its link from the class own -/
def mj_fk (own : String) (idx ci k : Nat) (C : String) (T : u_T) (N : Nat) : Prop :=
  mj_cl[ci]? = some (C, T, N) ∧ k < N ∧ (∀ w ∈ u_ws C T N, w ∈ mj_tb) ∧ (T k).1 = C ∧ (mj_wd (.fieldLink own idx C (T k).2.1 (T k).2.2.1) ∨ ∃ h, mj_wn (.fieldLinkNest own idx C (T k).2.1 (T k).2.2.1 h))
theorem mj_get {ci kf idx c0 : Nat} {C : String} {T : u_T} {N : Nat} {fs : List (Option Nat)} {f : Option Nat} {v : Value} (hk : mj_fk M.1.cls idx ci kf C T N) (hd : decode M.2.1 pc = .ok (.getfield idx, 3)) (hsh : sh[c0]? = some (.inl (ci, fs))) (hf : fs[kf]? = some f) (hv : ∀ ad, mj_v ad v = mj_fv ad (x c0) kf f) (k : mj_V M sh Q x (pc + 3) ls (v :: st)) : mj_V M sh Q x pc ls (.ref c0 :: st) := by
  intro p l e s m args below meth c D A ad cA B H locs lsA hP hS hL
  obtain ⟨h1, h2, h3, h4, h5⟩ := hk
  have hk2 := k p l e s m args below meth c D A ad cA B H locs lsA hP hS hL
  rw [List.map_cons, hv ad] at hk2
  rcases h5 with h5 | ⟨h, h5⟩
  · exact va_get B.1 B.2.1 (B.2.2.2.2.2.2.1.all args) h3 B.2.2.2.2.2.1 B.2.2.2.2.2.2.2.1 hP c0 (mj_w_at hsh) h1 kf h2 (mj_use B.2.2.2.2.2.2.1 h5.1 h5.2 args) (fun z hz => by rw [h4] at hz; exact hz) (mj_fs_at hf) hd hk2
  · exact va_getN B.1 B.2.1 (B.2.2.2.2.2.2.1.all args) h3 B.2.2.2.2.2.1 B.2.2.2.2.2.2.2.1 hP c0 (mj_w_at hsh) h1 kf h2 (va_Nw.use rfl (B.2.2.2.2.2.2.1.2 _ h5.1 h5.2)) (fun z hz => by rw [h4] at hz; exact hz) (mj_fs_at hf) hd hk2
theorem mj_geti {ci kf idx c0 : Nat} {C : String} {T : u_T} {N : Nat} {fs : List (Option Nat)} (hk : mj_fk M.1.cls idx ci kf C T N) (hd : decode M.2.1 pc = .ok (.getfield idx, 3)) (hsh : sh[c0]? = some (.inl (ci, fs))) (hf : fs[kf]? = some none) (k : mj_V M sh Q x (pc + 3) ls (.int (x c0 kf) :: st)) : mj_V M sh Q x pc ls (.ref c0 :: st) :=
  mj_get hk hd hsh hf (fun _ => rfl) k
theorem mj_getr {ci kf idx c0 c1 : Nat} {C : String} {T : u_T} {N : Nat} {fs : List (Option Nat)} (hk : mj_fk M.1.cls idx ci kf C T N) (hd : decode M.2.1 pc = .ok (.getfield idx, 3)) (hsh : sh[c0]? = some (.inl (ci, fs))) (hf : fs[kf]? = some (some c1)) (k : mj_V M sh Q x (pc + 3) ls (.ref c1 :: st)) : mj_V M sh Q x pc ls (.ref c0 :: st) :=
  mj_get hk hd hsh hf (fun _ => rfl) k
theorem mj_put {ci kf idx c0 : Nat} {C : String} {T : u_T} {N : Nat} {fs : List (Option Nat)} {v : Int32} {ty : FieldType} {ty0 : Nat → FieldType} (hk : mj_fk M.1.cls idx ci kf C T N) (hty : ∀ k, k < N → parseFieldDescriptor (T k).2.2.1 = some (ty0 k)) (hnm : ∀ a, a < N → ∀ b, b < N → a ≠ b → (T a).2.1 ≠ (T b).2.1) (hfin : (T kf).2.2.2 = false) (hdty : parseFieldDescriptor (T kf).2.2.1 = some ty) (hn : narrow ty (.int v) = .int v) (hfit : fits ty (.int v) = true) (hd : decode M.2.1 pc = .ok (.putfield idx, 3)) (hsh : sh[c0]? = some (.inl (ci, fs))) (hf : fs[kf]? = some none) (k : mj_V M sh Q (mj_up x c0 kf v) (pc + 3) ls st) : mj_V M sh Q x pc ls (.int v :: .ref c0 :: st) := by
  intro p l e s m args below meth c D A ad cA B H locs lsA hP hS hL
  obtain ⟨h1, h2, h3, h4, h5⟩ := hk
  have hlen : kf < (fs.mapIdx (mj_fv ad (x c0))).length := by rw [List.length_mapIdx]; exact (List.getElem?_eq_some_iff.mp hf).1
  have fin : ∀ (H1 : Heap) (locs1 : List Loc), va_P D mj_cl ((mj_w ad cA x sh).set c0 (ad c0, .inr (ci, (fs.mapIdx (mj_fv ad (x c0))).set kf (.int v)))) H1 → va_S A s.heap H1 locs1 → W p l e (mj_rm M) s m args below meth c H1 locs1 0 0 (MQ below (mj_Qc D A ad cA sh Q) args s 0 0 A) (F0 m (pc + 3) lsA (st.map (mj_v ad))) := by
    intro H1 locs1 hP1 hS1
    rw [mj_fs_set hf, mj_w_set (ad := ad) (cA := cA) (x := x) (k := c0) (i := kf) (v := v) (e := .inr (ci, fs.mapIdx (mj_fv ad (upd (x c0) kf v)))) hsh rfl] at hP1
    exact k p l e s m args below meth c D A ad cA B H1 locs1 lsA hP1 hS1 hL
  rcases h5 with h5 | ⟨h, h5⟩
  · exact va_put B.1 B.2.1 (B.2.2.2.2.2.2.1.all args) h3 ty0 hty hnm B.2.2.2.2.2.1 B.2.2.2.2.2.2.2.1 hP (mj_D B.2.2.2.2.2.2 x) hS c0 (mj_w_at hsh) h1 kf h2 (mj_use B.2.2.2.2.2.2.1 h5.1 h5.2 args) (fun z hz => by rw [h4] at hz; exact hz) hfin hdty hn hfit hlen hd (fun H1 locs1 a _ b => fin H1 locs1 a b)
  · exact va_putN B.1 B.2.1 (B.2.2.2.2.2.2.1.all args) h3 ty0 hty hnm B.2.2.2.2.2.1 B.2.2.2.2.2.2.2.1 hP (mj_D B.2.2.2.2.2.2 x) hS c0 (mj_w_at hsh) h1 kf h2 (va_Nw.use rfl (B.2.2.2.2.2.2.1.2 _ h5.1 h5.2)) (fun z hz => by rw [h4] at hz; exact hz) hfin hdty hn hfit hlen hd (fun H1 locs1 a _ b => fin H1 locs1 a b)
theorem mj_ldc {idx : Nat} {v : Int32} (hw : mj_wd (.constant M.1.cls idx v)) (hd : decode M.2.1 pc = .ok (.ldc idx, 2)) (k : mj_V M sh Q x (pc + 2) ls (.int v :: st)) : mj_V M sh Q x pc ls st := by
  intro p l e s m args below meth c D A ad cA B H locs lsA hP hS hL
  exact lv_ldc B.1 B.2.1 B.2.2.2.2.2.1 (mj_use B.2.2.2.2.2.2.1 hw.1 hw.2 args) hd (k p l e s m args below meth c D A ad cA B H locs lsA hP hS hL)
theorem mj_ldc2 {idx : Nat} {v : Int64} (hw : mj_wd (.constantLong M.1.cls idx v)) (hd : decode M.2.1 pc = .ok (.ldc2_w idx, 3)) (k : mj_V M sh Q x (pc + 3) ls (.long v :: st)) : mj_V M sh Q x pc ls st := by
  intro p l e s m args below meth c D A ad cA B H locs lsA hP hS hL
  exact lv_ldc2 B.1 B.2.1 B.2.2.2.2.2.1 (mj_use B.2.2.2.2.2.2.1 hw.1 hw.2 args) hd (k p l e s m args below meth c D A ad cA B H locs lsA hP hS hL)
/-- returns -/
theorem mj_ret {v : Int32} (hr : M.2.2.2.1 = some .int) (hd : decode M.2.1 pc = .ok (.ireturn, 1)) (hq : Q (some (.int v)) x) : mj_V M sh Q x pc ls [.int v] := by
  intro p l e s m args below meth c D A ad cA B H locs lsA hP hS hL
  exact W.iret (v := v) B.1 B.2.1 (B.2.2.2.1.trans hr) (fun t ht hW => ⟨⟨some (.int v), x, rfl, hq, by rw [ht]; exact hP⟩, hS.F ht⟩) hS.2.2 hd B.2.2.2.2.1
theorem mj_retz {v : Int32} (hr : M.2.2.2.1 = some .boolean) (hv : v = 0 ∨ v = 1) (hd : decode M.2.1 pc = .ok (.ireturn, 1)) (hq : Q (some (.int v)) x) : mj_V M sh Q x pc ls [.int v] := by
  intro p l e s m args below meth c D A ad cA B H locs lsA hP hS hL
  exact W.zret (v := v) B.1 B.2.1 (B.2.2.2.1.trans hr) (by rcases hv with rfl | rfl <;> rfl) (fun t ht hW => ⟨⟨some (.int v), x, rfl, hq, by rw [ht]; exact hP⟩, hS.F ht⟩) hS.2.2 hd B.2.2.2.2.1
theorem mj_retv (hr : M.2.2.2.1 = none) (hd : decode M.2.1 pc = .ok (.return_, 1)) (hq : Q none x) : mj_V M sh Q x pc ls [] := by
  intro p l e s m args below meth c D A ad cA B H locs lsA hP hS hL
  exact W.vret B.1 B.2.1 (B.2.2.2.1.trans hr) (fun t ht hW => ⟨⟨none, x, rfl, hq, by rw [ht]; exact hP⟩, hS.F ht⟩) hS.2.2 hd B.2.2.2.2.1
end MJV
end
section
section MJC
variable {M : mj_M} {sh : List mj_S} {Q : Option Value → mj_X → Prop} {x : mj_X} {pc : Nat} {ls : List (Option Value)} {st : List Value}
theorem mj_Pc_blind {D : va_G} {A : Nat → Prop} {ad : Nat → Nat} {cA : ClassId} {av : List Value} : FrameBlind (mj_Pc D A ad cA sh x av) := by
  intro a U g mk h
  obtain ⟨h1, h2, h3⟩ := h
  exact ⟨h1, h2, h3.go (U := U.calling g mk a) (va_S.rf (H0 := U.heap)) rfl (State.WarmedH.refl U)⟩
theorem mj_after {p : Program} {l : Launch} {e : Env} {R : Room} {s : State} {m : MethodId} {args : Array Value} {below : List Frame} {meth : Method} {c : Code} {H : Heap} {locs : List Loc} {Q0 : State → Prop} {D : va_G} {A : Nat → Prop} {ad : Nat → Nat} {cA : ClassId} {QK : Option Value → mj_X → Prop} {a : Array Value} {lsA : Array Slot} {st0 rest : List Value}
    (hr : va_Run p l e R s m args below meth c H locs 0 0 0 0 (F0 m pc lsA st0) rest (mj_Qc D A ad cA sh QK a) A) (hS : va_S A s.heap H locs)
    (kk : ∀ (r : Option Value) (x' : mj_X) (H1 : Heap) (locs1 : List Loc), QK r x' → va_P D mj_cl (mj_w ad cA x' sh) H1 → va_S A s.heap H1 locs1 → W p l e R s m args below meth c H1 locs1 0 0 Q0 (F0 m (pc + 3) lsA ((r.map (mj_v ad)).toList ++ rest))) : W p l e R s m args below meth c H locs 0 0 Q0 (F0 m pc lsA st0) := by
  intro T hT X
  obtain ⟨v, st₀, t, T', L, h0, X', hL, e1, e2, ⟨⟨r, x', hv, hq, hP⟩, hz, hk⟩, st⟩ := hr T hT X
  cases hv
  rw [h0] at hz hk
  obtain ⟨t2, a1, b1⟩ := kk r x' T'.heap (locs ++ L) hq (by rw [e1]; exact hP)
    ⟨Nat.le_trans hS.1 (by rw [e1]; exact hz), fun q h1 h2 => by rw [e1, hk q (Nat.lt_of_lt_of_le h1 hS.1) h2]; exact hS.2.1 q h1 h2, fun q hq => by
      rcases List.mem_append.mp hq with h | h
      · exact hS.2.2 q h
      · exact hL q h⟩ T' rfl X'
  exact ⟨t2, st t2 a1, b1⟩
/-- what a call's words are: its code, its class, its number of arguments -/
def mj_ck (K : mj_M) (n : Nat) : Prop := mj_wd (.code K.1 K.2.1 K.2.2.1 K.2.2.2.1) ∧ mj_wd (.initialized K.1.cls) ∧ (K.1.cls ≠ "java/lang/invoke/MethodHandle" ∧ K.1.cls ≠ "java/lang/invoke/VarHandle") ∧ (parseMethodDescriptor K.1.desc).map (fun d => d.parameters.length) = some n
def mj_ckV (K : mj_M) (n : Nat) : Prop := mj_ck K n ∧ mj_wd (.instanceMethod K.1) ∧ mj_wd (.selects K.1.cls K.1 K.1)
def mj_ckS (K : mj_M) (n : Nat) : Prop := mj_ck K n ∧ mj_wd (.static K.1)
def mj_lk (own : String) (idx : Nat) (y : MethodName) : Prop := mj_wd (.methodLink own idx y) ∨ ∃ h, mj_wn (.methodLinkNest own idx y h)
def mj_rok (M K : mj_M) : Prop := K.2.2.2.2.1 + 1 ≤ M.2.2.2.2.1 ∧ 8 + (K.2.2.1 + 11) + K.2.2.2.2.2 ≤ M.2.2.2.2.2
theorem mj_len {K : mj_M} {n : Nat} (h : (parseMethodDescriptor K.1.desc).map (fun d => d.parameters.length) = some n) : ∀ sig, parseMethodDescriptor K.1.desc = some sig → n = sig.parameters.length := by
  intro sig hs
  rw [hs] at h
  exact (Option.some.inj h).symm
theorem mj_map_app {ad : Nat → Nat} (r : Option Value) (st : List Value) : (r.map (mj_v ad)).toList ++ st.map (mj_v ad) = (r.toList ++ st).map (mj_v ad) := by cases r <;> rfl
theorem mj_cats {ad : Nat → Nat} (st : List Value) : ((st.map (mj_v ad)).map fun v => v.category).sum = (st.map fun v => v.category).sum := by
  rw [List.map_map]
  congr 1
  exact List.map_congr_left (fun v _ => mj_v_cat ad v)
theorem mj_callV {K : mj_M} {idx n c0 ci : Nat} {fs : List (Option Nat)} {T0 : u_T} {N0 : Nat} {As : List Value} {QK : Option Value → mj_X → Prop} (hC : mj_C K sh (.ref c0 :: As) x QK) (hK : mj_ckV K n) (hl : mj_lk M.1.cls idx K.1) (hrm : mj_rok M K) (hn : As.length = n) (hd : decode M.2.1 pc = .ok (.invokevirtual idx, 3)) (hsh : sh[c0]? = some (.inl (ci, fs))) (hcl : mj_cl[ci]? = some (K.1.cls, T0, N0)) (hcat : (st.map fun v => v.category).sum ≤ 8) (k : ∀ r x', QK r x' → mj_V M sh Q x' (pc + 3) ls (r.toList ++ st)) : mj_V M sh Q x pc ls (As.reverse ++ .ref c0 :: st) := by
  intro p l e s m args below meth c D A ad cA B H locs lsA hP hS hL
  obtain ⟨⟨h1, h2, h3, h4⟩, h5, h6⟩ := hK
  have hT := B.2.2.2.2.2.2.1
  have hws : ∀ w ∈ [Cond.code K.1 K.2.1 K.2.2.1 K.2.2.2.1], ∀ (a' : Array Value) (U : State), s.WarmedH U.vm → w.before a' U = true := by
    intro w hw a' U hW
    rw [List.mem_singleton.mp hw]
    exact mj_use (hT.warm hW) h1.1 h1.2 a'
  have hpre : PreV s H K.1.cls (ad c0) (mj_Pc D A ad cA sh x (.ref c0 :: As)) (As.map (mj_v ad)) :=
    ⟨mj_Pc_blind, va_recv B.2.2.2.2.2.2.2.1 hP hcl (mj_w_at hsh), fun U hU hW => ⟨rfl, by rw [hU]; exact hP, B.2.2.2.2.2.2.go hS hU hW⟩⟩
  have hrun : va_Run p l e (mj_rm M) s m args below meth c H locs 0 0 0 0 (F0 m pc lsA ((As.reverse ++ .ref c0 :: st).map (mj_v ad))) (st.map (mj_v ad)) (mj_Qc D A ad cA sh QK (Value.ref (ad c0) :: As.map (mj_v ad)).toArray) A := by
    have hstk : (F0 m pc lsA ((As.reverse ++ .ref c0 :: st).map (mj_v ad))).stack = (As.map (mj_v ad)).reverse ++ Value.ref (ad c0) :: st.map (mj_v ad) := by
      show (As.reverse ++ .ref c0 :: st).map (mj_v ad) = _
      rw [List.map_append, List.map_reverse]
      rfl
    rcases hl with hl | ⟨h, hl⟩
    · exact va_runV (Ts := mj_tb) ⟨B.1, B.2.1, B.2.2.1, B.2.2.2.2.2.1, hT.all args⟩ (hC l D A ad cA) ⟨⟨rfl, rfl, hrm.1, hrm.2, hws, List.mem_cons_self, mj_use hT h1.1 h1.2 args, mj_use hT h2.1 h2.2 args, h3, mj_len h4, mj_use hT hl.1 hl.2 args⟩, mj_use hT h5.1 h5.2 args, mj_use hT h6.1 h6.2 args⟩ hpre rfl (by rw [List.length_map]; exact hn) hL.1 hstk (lv_room (by rw [mj_cats]; exact hcat)) hd ⟨Nat.le_refl 0, Nat.le_refl 0⟩
    · exact va_runVN (Ts := mj_tb) ⟨B.1, B.2.1, B.2.2.1, B.2.2.2.2.2.1, hT.all args⟩ (hC l D A ad cA) ⟨⟨⟨rfl, rfl, hrm.1, hrm.2, hws, List.mem_cons_self⟩, mj_use hT h1.1 h1.2 args, mj_use hT h2.1 h2.2 args, h3, mj_len h4, va_Nw.use rfl (hT.2 _ hl.1 hl.2)⟩, mj_use hT h5.1 h5.2 args, mj_use hT h6.1 h6.2 args⟩ hpre rfl (by rw [List.length_map]; exact hn) hL.1 hstk (lv_room (by rw [mj_cats]; exact hcat)) hd ⟨Nat.le_refl 0, Nat.le_refl 0⟩
  refine mj_after hrun hS (fun r x' H1 locs1 hq hP1 hS1 => ?_)
  rw [mj_map_app]
  exact k r x' hq p l e s m args below meth c D A ad cA B H1 locs1 lsA hP1 hS1 hL
theorem mj_callS {K : mj_M} {idx n : Nat} {As : List Value} {QK : Option Value → mj_X → Prop} (hC : mj_C K sh As x QK) (hK : mj_ckS K n) (hl : mj_lk M.1.cls idx K.1) (hrm : mj_rok M K) (hn : As.length = n) (hd : decode M.2.1 pc = .ok (.invokestatic idx, 3)) (hcat : (st.map fun v => v.category).sum ≤ 8) (k : ∀ r x', QK r x' → mj_V M sh Q x' (pc + 3) ls (r.toList ++ st)) : mj_V M sh Q x pc ls (As.reverse ++ st) := by
  intro p l e s m args below meth c D A ad cA B H locs lsA hP hS hL
  obtain ⟨⟨h1, h2, h3, h4⟩, h5⟩ := hK
  have hT := B.2.2.2.2.2.2.1
  have hws : ∀ w ∈ [Cond.code K.1 K.2.1 K.2.2.1 K.2.2.2.1], ∀ (a' : Array Value) (U : State), s.WarmedH U.vm → w.before a' U = true := by
    intro w hw a' U hW
    rw [List.mem_singleton.mp hw]
    exact mj_use (hT.warm hW) h1.1 h1.2 a'
  have hpre : PreS s H (mj_Pc D A ad cA sh x As) (As.map (mj_v ad)) :=
    ⟨mj_Pc_blind, fun U hU hW => ⟨rfl, by rw [hU]; exact hP, B.2.2.2.2.2.2.go hS hU hW⟩⟩
  have hrun : va_Run p l e (mj_rm M) s m args below meth c H locs 0 0 0 0 (F0 m pc lsA ((As.reverse ++ st).map (mj_v ad))) (st.map (mj_v ad)) (mj_Qc D A ad cA sh QK (As.map (mj_v ad)).toArray) A := by
    have hstk : (F0 m pc lsA ((As.reverse ++ st).map (mj_v ad))).stack = (As.map (mj_v ad)).reverse ++ st.map (mj_v ad) := by
      show (As.reverse ++ st).map (mj_v ad) = _
      rw [List.map_append, List.map_reverse]
    rcases hl with hl | ⟨h, hl⟩
    · exact va_runS (Ts := mj_tb) ⟨B.1, B.2.1, B.2.2.1, B.2.2.2.2.2.1, hT.all args⟩ (hC l D A ad cA) ⟨⟨rfl, rfl, hrm.1, hrm.2, hws, List.mem_cons_self, mj_use hT h1.1 h1.2 args, mj_use hT h2.1 h2.2 args, h3, mj_len h4, mj_use hT hl.1 hl.2 args⟩, mj_use hT h5.1 h5.2 args⟩ hpre rfl (by rw [List.length_map]; exact hn) hL.1 hstk (lv_room (by rw [mj_cats]; exact hcat)) hd ⟨Nat.le_refl 0, Nat.le_refl 0⟩
    · exact va_runSN (Ts := mj_tb) ⟨B.1, B.2.1, B.2.2.1, B.2.2.2.2.2.1, hT.all args⟩ (hC l D A ad cA) ⟨⟨⟨rfl, rfl, hrm.1, hrm.2, hws, List.mem_cons_self⟩, mj_use hT h1.1 h1.2 args, mj_use hT h2.1 h2.2 args, h3, mj_len h4, va_Nw.use rfl (hT.2 _ hl.1 hl.2)⟩, mj_use hT h5.1 h5.2 args, trivial⟩ hpre rfl (by rw [List.length_map]; exact hn) hL.1 hstk (lv_room (by rw [mj_cats]; exact hcat)) hd ⟨Nat.le_refl 0, Nat.le_refl 0⟩
  refine mj_after hrun hS (fun r x' H1 locs1 hq hP1 hS1 => ?_)
  rw [mj_map_app]
  exact k r x' hq p l e s m args below meth c D A ad cA B H1 locs1 lsA hP1 hS1 hL
/-- Math.max, Math.min -/
theorem mj_max {idx : Nat} {a b : Int32} (hl : mj_wd (.methodLink M.1.cls idx Lib.Math.max.name)) (h1 : mj_wd (.static Lib.Math.max.name)) (h2 : mj_wd (.initialized "java/lang/Math")) (h3 : mj_wd (.code Lib.Math.max.name Lib.Math.max.code 2 (some .int))) (hfr : 1 ≤ M.2.2.2.2.1) (hlo : 21 ≤ M.2.2.2.2.2) (hcat : (st.map fun v => v.category).sum ≤ 8) (hd : decode M.2.1 pc = .ok (.invokestatic idx, 3)) (k : mj_V M sh Q x (pc + 3) ls (.int (if a < b then b else a) :: st)) : mj_V M sh Q x pc ls (.int b :: .int a :: st) := by
  intro p l e s m args below meth c D A ad cA B H locs lsA hP hS hL
  have hT := B.2.2.2.2.2.2.1
  exact va_mmax B.1 B.2.1 (B.2.2.1.trans hL.1.symm) B.2.2.2.2.2.1 (mj_use hT hl.1 hl.2 args) (mj_use hT h1.1 h1.2 args) (mj_use hT h2.1 h2.2 args) (mj_use hT h3.1 h3.2 args) hfr (by rw [mj_cats]; show _ ≤ M.2.2.2.2.2; omega) (Nat.le_refl 0) (Nat.le_refl 0) hd (k p l e s m args below meth c D A ad cA B H locs lsA hP hS hL)
theorem mj_min {idx : Nat} {a b : Int32} (hl : mj_wd (.methodLink M.1.cls idx Lib.Math.min.name)) (h1 : mj_wd (.static Lib.Math.min.name)) (h2 : mj_wd (.initialized "java/lang/Math")) (h3 : mj_wd (.code Lib.Math.min.name Lib.Math.min.code 2 (some .int))) (hfr : 1 ≤ M.2.2.2.2.1) (hlo : 21 ≤ M.2.2.2.2.2) (hcat : (st.map fun v => v.category).sum ≤ 8) (hd : decode M.2.1 pc = .ok (.invokestatic idx, 3)) (k : mj_V M sh Q x (pc + 3) ls (.int (if b < a then b else a) :: st)) : mj_V M sh Q x pc ls (.int b :: .int a :: st) := by
  intro p l e s m args below meth c D A ad cA B H locs lsA hP hS hL
  have hT := B.2.2.2.2.2.2.1
  exact va_mmin B.1 B.2.1 (B.2.2.1.trans hL.1.symm) B.2.2.2.2.2.1 (mj_use hT hl.1 hl.2 args) (mj_use hT h1.1 h1.2 args) (mj_use hT h2.1 h2.2 args) (mj_use hT h3.1 h3.2 args) hfr (by rw [mj_cats]; show _ ≤ M.2.2.2.2.2; omega) (Nat.le_refl 0) (Nat.le_refl 0) hd (k p l e s m args below meth c D A ad cA B H locs lsA hP hS hL)
/-- switches -/
theorem mj_tableOut {dflt lo hi : Int} {offs : Array Int} {len : Nat} {a : Int32} {tgt : Nat} (hd : decode M.2.1 pc = .ok (.tableswitch dflt lo hi offs, len)) (h : a.toInt < lo ∨ hi < a.toInt) (ht : (pc : Int) + dflt = (tgt : Int)) (k : mj_V M sh Q x tgt ls st) : mj_V M sh Q x pc ls (.int a :: st) := by
  intro p l e s m args below meth c D A ad cA B H locs lsA hP hS hL
  exact lv_tableOut B.1 B.2.1 hd h ht (k p l e s m args below meth c D A ad cA B H locs lsA hP hS hL)
theorem mj_tableIn {dflt lo hi off : Int} {offs : Array Int} {len : Nat} {a : Int32} {tgt : Nat} (hd : decode M.2.1 pc = .ok (.tableswitch dflt lo hi offs, len)) (h1 : ¬ a.toInt < lo) (h2 : ¬ hi < a.toInt) (ho : offs[(a.toInt - lo).toNat]? = some off) (ht : (pc : Int) + off = (tgt : Int)) (k : mj_V M sh Q x tgt ls st) : mj_V M sh Q x pc ls (.int a :: st) := by
  intro p l e s m args below meth c D A ad cA B H locs lsA hP hS hL
  exact lv_tableIn B.1 B.2.1 hd h1 h2 ho ht (k p l e s m args below meth c D A ad cA B H locs lsA hP hS hL)
theorem mj_lookup {dflt : Int} {ps : Array (Int × Int)} {len : Nat} {a : Int32} {off : Int} {tgt : Nat} (hd : decode M.2.1 pc = .ok (.lookupswitch dflt ps, len)) (hp : (ps.toList.zip (ps.toList.drop 1)).all (fun (a, next) => a.1 < next.1) = true) (ho : Op.lookupswitch.offset ps.toList dflt a.toInt = off) (ht : (pc : Int) + off = (tgt : Int)) (k : mj_V M sh Q x tgt ls st) : mj_V M sh Q x pc ls (.int a :: st) := by
  intro p l e s m args below meth c D A ad cA B H locs lsA hP hS hL
  exact lv_lookup B.1 B.2.1 hd hp ho ht (k p l e s m args below meth c D A ad cA B H locs lsA hP hS hL)
/-- the static rows of Rules -/
theorem mj_sta {idx c0 : Nat} {nm : String} (hw : mj_wd (.fieldLink M.1.cls idx RX5 nm "[I")) (hc : (c0 = 100 ∧ nm = "LEAST") ∨ (c0 = 101 ∧ nm = "MOST") ∨ (c0 = 102 ∧ nm = "UNTOLD")) (hd : decode M.2.1 pc = .ok (.getstatic idx, 3)) (k : mj_V M sh Q x (pc + 3) ls (.ref c0 :: st)) : mj_V M sh Q x pc ls st := by
  intro p l e s m args below meth c D A ad cA B H locs lsA hP hS hL
  have hZ : va_Z RX5 nm "[I" (.ref (ad c0)) A s s.heap := by
    obtain ⟨z0, z1, z2⟩ := B.2.2.2.2.2.2.2.2.1
    rcases hc with ⟨rfl, rfl⟩ | ⟨rfl, rfl⟩ | ⟨rfl, rfl⟩
    · exact z0.1
    · exact z1.1
    · exact z2.1
  exact va_gets B.1 B.2.1 hZ hS B.2.2.2.2.2.1 (mj_use B.2.2.2.2.2.2.1 hw.1 hw.2 args) (fun _ h => h) hd (k p l e s m args below meth c D A ad cA B H locs lsA hP hS hL)
theorem mj_stald {c0 : Nat} {f : Nat → Int32} {i : Int32} (hc : (c0 = 100 ∧ f = mj_st0) ∨ (c0 = 101 ∧ f = mj_st1) ∨ (c0 = 102 ∧ f = mj_st2)) (hd : decode M.2.1 pc = .ok (.iaload, 1)) (j : Nat) (hj : j < 6) (hi : i = nI j) (k : mj_V M sh Q x (pc + 1) ls (.int (f j) :: st)) : mj_V M sh Q x pc ls (.int i :: .ref c0 :: st) := by
  intro p l e s m args below meth c D A ad cA B H locs lsA hP hS hL
  subst hi
  have hZ : va_T .int (ad c0) 6 (fun j => .int (f j)) A s s.heap := by
    obtain ⟨z0, z1, z2⟩ := B.2.2.2.2.2.2.2.2.1
    rcases hc with ⟨rfl, rfl⟩ | ⟨rfl, rfl⟩ | ⟨rfl, rfl⟩
    · exact z0.2
    · exact z1.2
    · exact z2.2
  exact va_ti B.1 B.2.1 hZ hS (vp_in_nI hj (by omega)) (by rw [nI_clamp (by omega)]; rfl) hd (k p l e s m args below meth c D A ad cA B H locs lsA hP hS hL)
/-- a long is put down: places i and i + 1 -/
theorem mj_lst {i : Nat} {v : Int64} (hd : decode M.2.1 pc = .ok (.lstore i, 2)) (hi : i + 1 < ls.length) (hno : ∀ j, j + 1 = i → mj_nl (ls.getD j none) = true) (k : mj_V M sh Q x (pc + 2) ((ls.set i (some (.long v))).set (i + 1) none) st) : mj_V M sh Q x pc ls (.long v :: st) := by
  intro p l e s m args below meth c D A ad cA B H locs lsA hP hS hL
  refine lv_lstore B.1 B.2.1 hd hL.has (Nat.lt_of_lt_of_le hi hL.2.2.1) rfl (fun lsB hB => k p l e s m args below meth c D A ad cA B H locs lsB hP hS ⟨hB.1, hB.2.1, by rw [List.length_set, List.length_set]; exact hL.2.2.1, fun j w hj => ?_⟩)
  by_cases h1 : j = i + 1
  · subst h1
    rw [List.getElem?_set_self (by rw [List.length_set]; exact hi)] at hj
    cases hj
  · rw [List.getElem?_set_ne (Ne.symm h1)] at hj
    by_cases h2 : j = i
    · subst h2
      rw [List.getElem?_set_self (by omega)] at hj
      cases hj
      exact hB.2.2 (j, .long v) List.mem_cons_self
    · rw [List.getElem?_set_ne (Ne.symm h2)] at hj
      refine hB.2.2 (j, mj_v ad w) (List.mem_cons_of_mem _ (List.mem_filter.mpr ⟨mj_pr_in hj, ?_⟩))
      have h3 : ¬ (j + 1 = i ∧ w.category = 2) := by
        rintro ⟨a, b⟩
        have := hno j a
        rw [List.getD_eq_getElem?_getD, hj] at this
        simp [mj_nl, b] at this
      simp only [mj_v_cat, Bool.and_eq_true, Bool.not_eq_true', beq_eq_false_iff_ne, ne_eq, h1, h2, not_false_eq_true, true_and, Bool.and_eq_false_iff]
      by_cases a : j + 1 = i
      · right
        exact fun b => h3 ⟨a, b⟩
      · left
        exact a
/-- a method's entry -/
def mj_en (av : List Value) (n : Nat) : List (Option Value) :=
  let l := av.flatMap fun v => if v.category = 2 then [some v, none] else [some v]
  l ++ List.replicate (n - l.length) none
theorem mj_en_args : ∀ (av : List Value) (ad : Nat → Nat) (i0 j : Nat) (v : Value), (av.flatMap fun v => if v.category = 2 then [some v, none] else [some v])[j]? = some (some v) → (i0 + j, mj_v ad v) ∈ lv_args i0 (av.map (mj_v ad))
  | [], _, _, _, _, h => by simp at h
  | w :: r, ad, i0, j, v, h => by
    rw [List.flatMap_cons] at h
    show _ ∈ (i0, mj_v ad w) :: lv_args (if (mj_v ad w).category = 2 then i0 + 2 else i0 + 1) (r.map (mj_v ad))
    rw [mj_v_cat]
    by_cases hc : w.category = 2
    · rw [if_pos hc] at h ⊢
      match j, h with
      | 0, h => 
        cases h
        exact List.mem_cons_self
      | 1, h => cases h
      | j + 2, h =>
        have h2 := mj_en_args r ad (i0 + 2) j v h
        rw [show i0 + (j + 2) = i0 + 2 + j from by omega]
        exact List.mem_cons_of_mem _ h2
    · rw [if_neg hc] at h ⊢
      match j, h with
      | 0, h =>
        cases h
        exact List.mem_cons_self
      | j + 1, h =>
        have h2 := mj_en_args r ad (i0 + 1) j v h
        rw [show i0 + (j + 1) = i0 + 1 + j from by omega]
        exact List.mem_cons_of_mem _ h2
theorem mj_sl_len (ad : Nat → Nat) : ∀ av : List Value, (lg_sl (av.map (mj_v ad))).length = (av.flatMap fun v => if v.category = 2 then [some v, none] else [some v]).length
  | [] => rfl
  | w :: r => by
    have h := mj_sl_len ad r
    unfold lg_sl at h ⊢
    rw [List.map_cons, List.flatMap_cons, List.flatMap_cons, List.length_append, List.length_append, h, mj_v_cat]
    by_cases hc : w.category = 2
    · rw [if_pos hc, if_pos hc]; rfl
    · rw [if_neg hc, if_neg hc]; rfl
theorem mj_start {av : List Value} (hy : plainName M.1.cls = true) (hen : mj_en av M.2.2.1 = ls) (hlen : ls.length = M.2.2.1) (k : mj_V M sh Q x 0 ls []) : mj_C M sh av x Q := by
  intro l D A ad cA
  refine Met.ofW (cc := M.2.1) (maxL := M.2.2.1) (ret := M.2.2.2.1) hy rfl ?_
  intro p e s m args below meth c s₁ B hml hv
  obtain ⟨rfl, hP, hG⟩ := hv
  have hlA : (lg_sl (av.map (mj_v ad))).length ≤ M.2.2.1 := by
    rw [mj_sl_len, ← hlen, ← hen]
    unfold mj_en
    simp only [List.length_append]
    omega
  have hl := lv_entry (av.map (mj_v ad)) (n := M.2.2.1) hlA
  rw [lg_entry_eq]
  generalize (lg_sl (av.map (mj_v ad)) ++ List.replicate (M.2.2.1 - (lg_sl (av.map (mj_v ad))).length) Slot.unset).toArray = lsA at hl ⊢
  refine k p l e s m _ below meth c D A ad cA ⟨B.exec, B.bytes, hml, B.returns, B.notSynchronized, findClass_of_methodNamed B.named, hG⟩ s.heap [] lsA hP va_S.rf ⟨hl.1, hl.2.1, Nat.le_of_eq hlen, fun i v hi => ?_⟩
  rw [← hen] at hi
  unfold mj_en at hi
  dsimp only at hi
  by_cases hb : i < (av.flatMap fun v => if v.category = 2 then [some v, none] else [some v]).length
  · rw [List.getElem?_append_left hb] at hi
    have h2 := mj_en_args av ad 0 i v hi
    rw [Nat.zero_add] at h2
    exact hl.2.2 (i, mj_v ad v) h2
  · rw [List.getElem?_append_right (by omega), List.getElem?_replicate] at hi
    split at hi <;> cases hi
theorem mj_weak {R0 R1 : Option Value → mj_X → Prop} {av : List Value} (h : mj_C M sh av x R0) (hw : ∀ r x', R0 r x' → R1 r x') : mj_C M sh av x R1 := by
  intro l D A ad cA p e ha hc hk s m args below hf hfit hP hK
  obtain ⟨k, o, h1, h2, h3, ⟨⟨r, x', e1, e2, e3⟩, e4⟩, hL⟩ := h l D A ad cA p e ha hc hk s m args below hf hfit hP hK
  exact ⟨k, o, h1, h2, h3, ⟨⟨r, x', e1, hw r x' e2, e3⟩, e4⟩, hL⟩
end MJC
end
